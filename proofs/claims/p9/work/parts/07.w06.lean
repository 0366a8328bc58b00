theorem cw_FMO_isDay {R : Room} {cells slots : Nat} (h1 : 2 ≤ R.frames) (h2 : 46 ≤ R.locals) (h3 : cells ≤ R.cells) (h4 : slots ≤ R.slots) : Cw R cells slots yMO_isDay bMO_isDay 2 (some .boolean) ({ frames := 1, cells := 0, slots := 0, locals := 25 } : Room) 1 := ⟨wm_430, wm_426, by decide +kernel, ⟨rfl, rfl, h1, h2⟩, h3, h4⟩
set_option maxHeartbeats 4000000 in
set_option maxRecDepth 100000 in
theorem M_FMO_isDay (l : Launch) {ad : Nat → Nat} {cI cL : ClassId} {dC : Nat → ClassId} {dI : Nat → Nat → Nat} (hi : adI ad) (S : hS) (x0 : Int64) : Mt l ad cI cL dC dI yMO_isDay bMO_isDay 2 (some .boolean) ({ frames := 1, cells := 0, slots := 0, locals := 25 } : Room) [.long x0] S (pI (FMO_isDay S x0) S) := by
  refine Mt_of (own := RMO) hi (by decide) rfl (Nat.le_of_ble_eq_true rfl) ?_
  intro p e s m args below meth c ls B hr hlk hw hl
  obtain ⟨hx, hb, -, hown, hts, -, -⟩ := id B
  have hA : ∀ q, AA ad s.heap.size q → AA ad s.heap.size q := fun _ h => h
  have hl : lv_has ls 2 [(0, .long x0)] := hl
  have hF := FMO_isDay_e S x0
  refine lv_lload_n hx hb dMO_isDay_0 rfl (lv_at hl 0 rfl) ?_
  refine lv_lconst (v := 0) hx hb dMO_isDay_1 (by decide) ?_
  refine lv_ldc2 (v := 3599) hx hb hown (hts _ wm_238) dMO_isDay_2 ?_
  refine V_callS (rest := []) B hi hw hA hl.1 (M_FMO_isIn l hi S x0 0 3599) (cw_FMO_isIn (Nat.le_of_ble_eq_true rfl) (Nat.le_of_ble_eq_true rfl) (Nat.zero_le _) (Nat.zero_le _)) wm_239 wm_240 rfl (Nat.le_of_ble_eq_true rfl) dMO_isDay_5 (kI (fun H locs hw => ?_))
  exact V_zret B hr hlk hw (vc_FMO_isDay_bz8_1 S x0) (pI_r hF) dMO_isDay_8
theorem cw_FMO_isLate {R : Room} {cells slots : Nat} (h1 : 1 ≤ R.frames) (h2 : 22 ≤ R.locals) (h3 : cells ≤ R.cells) (h4 : slots ≤ R.slots) : Cw R cells slots yMO_isLate bMO_isLate 3 (some .boolean) ({ frames := 0, cells := 0, slots := 0, locals := 0 } : Room) 1 := ⟨wm_431, wm_426, by decide +kernel, ⟨rfl, rfl, h1, h2⟩, h3, h4⟩
set_option maxHeartbeats 4000000 in
set_option maxRecDepth 100000 in
theorem M_FMO_isLate (l : Launch) {ad : Nat → Nat} {cI cL : ClassId} {dC : Nat → ClassId} {dI : Nat → Nat → Nat} (hi : adI ad) (S : hS) (x1 : Int64) (hp : wfM S) : Mt l ad cI cL dC dI yMO_isLate bMO_isLate 3 (some .boolean) ({ frames := 0, cells := 0, slots := 0, locals := 0 } : Room) [.ref (ad 49), .long x1] S (pI (FMO_isLate S x1) S) := by
  refine Mt_of (own := RMO) hi (by decide) rfl (Nat.le_of_ble_eq_true rfl) ?_
  intro p e s m args below meth c ls B hr hlk hw hl
  obtain ⟨hx, hb, -, hown, hts, -, -⟩ := id B
  have hA : ∀ q, AA ad s.heap.size q → AA ad s.heap.size q := fun _ h => h
  have hl : lv_has ls 3 [(0, .ref (ad 49)), (1, .long x1)] := hl
  have hF := FMO_isLate_e S x1
  refine lv_lload_n hx hb dMO_isLate_0 rfl (lv_at hl 1 rfl) ?_
  refine lv_ldc2 (v := 30) hx hb hown (hts _ wm_241) dMO_isLate_1 ?_
  refine lv_ldiv hx hb dMO_isLate_4 (by decide) ?_
  refine lv_aload_n hx hb dMO_isLate_5 rfl (lv_at hl 0 rfl) ?_
  refine V_get B hw (v := .ref (ad 50)) (by decide) rfl rfl hin_MO 0 (by decide) rfl wm_234 rfl dMO_isLate_6 ?_
  refine lv_iconst (v := 2) hx hb dMO_isLate_9 (by decide) ?_
  refine V_lald (j := 2) (v := S.2 50 2) B hw (by decide) rfl (vc_FMO_isLate_ix10_1 S x1 hp) rfl rfl dMO_isLate_10 ?_
  refine V_lge (tgt := 19) B dMO_isLate_11 dMO_isLate_12 (by decide) (fun c2 => ?_) (fun c2 => ?_)
  · have hF := hF.trans (if_pos c2)
    refine lv_iconst (v := 0) hx hb dMO_isLate_19 (by decide) ?_
    exact V_zret B hr hlk hw (by decide) (pI_r hF) dMO_isLate_20
  · have hF := hF.trans (if_neg c2)
    refine lv_iconst (v := 1) hx hb dMO_isLate_15 (by decide) ?_
    refine lv_goto (tgt := 20) hx hb dMO_isLate_16 (by decide) ?_
    exact V_zret B hr hlk hw (by decide) (pI_r hF) dMO_isLate_20
theorem cw_FMO_account {R : Room} {cells slots : Nat} (h1 : 1 ≤ R.frames) (h2 : 21 ≤ R.locals) (h3 : cells ≤ R.cells) (h4 : slots ≤ R.slots) : Cw R cells slots yMO_account bMO_account 2 (some .int) ({ frames := 0, cells := 0, slots := 0, locals := 0 } : Room) 1 := ⟨wm_432, wm_426, by decide +kernel, ⟨rfl, rfl, h1, h2⟩, h3, h4⟩
set_option maxHeartbeats 4000000 in
set_option maxRecDepth 100000 in
theorem M_FMO_account (l : Launch) {ad : Nat → Nat} {cI cL : ClassId} {dC : Nat → ClassId} {dI : Nat → Nat → Nat} (hi : adI ad) (S : hS) (x1 : Int32) (hp : wfM S) : Mt l ad cI cL dC dI yMO_account bMO_account 2 (some .int) ({ frames := 0, cells := 0, slots := 0, locals := 0 } : Room) [.ref (ad 49), .int x1] S (pI (FMO_account S x1).1 (FMO_account S x1).2) := by
  refine Mt_of (own := RMO) hi (by decide) rfl (Nat.le_of_ble_eq_true rfl) ?_
  intro p e s m args below meth c ls B hr hlk hw hl
  obtain ⟨hx, hb, -, hown, hts, -, -⟩ := id B
  have hA : ∀ q, AA ad s.heap.size q → AA ad s.heap.size q := fun _ h => h
  have hl : lv_has ls 2 [(0, .ref (ad 49)), (1, .int x1)] := hl
  have hF := FMO_account_e S x1
  refine lv_aload_n hx hb dMO_account_0 rfl (lv_at hl 0 rfl) ?_
  refine lv_iconst (v := 0) hx hb dMO_account_1 (by decide) ?_
  refine V_putI (ty := .int) B hw (by decide) rfl rfl hin_MO tyMO_ok nmMO 4 (by decide) rfl wm_242 rfl (by decide +kernel) rfl rfl dMO_account_2 (fun H locs hw => ?_)
  refine lv_aload_n hx hb dMO_account_5 rfl (lv_at hl 0 rfl) ?_
  refine V_get B hw (v := .ref (ad 50)) (by decide) rfl rfl hin_MO 0 (by decide) rfl wm_234 rfl dMO_account_6 ?_
  refine lv_iconst (v := 0) hx hb dMO_account_9 (by decide) ?_
  refine V_lald (j := 0) (v := S.2 50 0) B hw (by decide) rfl (vc_FMO_account_ix10_1 S x1 hp) rfl (by first | rfl | simp [sI_1, sI_2, sL_1, sL_2]) dMO_account_10 ?_
  refine lv_ldc2 (v := 8) hx hb hown (hts _ wm_243) dMO_account_11 ?_
  refine V_leq (tgt := 27) B dMO_account_14 dMO_account_15 (by decide) (fun c2 => ?_) (fun c2 => ?_)
  · have hF := hF.trans (if_pos c2)
    refine lv_iconst (v := (-1)) hx hb dMO_account_27 (by decide) ?_
    exact V_iret B hr hlk hw (pI_of hF) dMO_account_28
  · have hF := hF.trans (if_neg c2)
    refine lv_iload_n hx hb dMO_account_18 rfl (lv_at hl 1 rfl) ?_
    refine lv_if_lt (tgt := 27) hx hb dMO_account_19 (by decide) (fun c3 => ?_) (fun c3 => ?_)
    · have hF := hF.trans (if_pos c3)
      refine lv_iconst (v := (-1)) hx hb dMO_account_27 (by decide) ?_
      exact V_iret B hr hlk hw (pI_of hF) dMO_account_28
    · have hF := hF.trans (if_neg c3)
      refine lv_iload_n hx hb dMO_account_22 rfl (lv_at hl 1 rfl) ?_
      refine lv_iconst (v := 2) hx hb dMO_account_23 (by decide) ?_
      refine lv_icmp_le (tgt := 29) hx hb dMO_account_24 (by decide) (fun c4 => ?_) (fun c4 => ?_)
      · have hF := hF.trans (if_pos c4)
        refine lv_aload_n hx hb dMO_account_29 rfl (lv_at hl 0 rfl) ?_
        refine V_get B hw (v := .ref (ad 50)) (by decide) rfl rfl hin_MO 0 (by decide) rfl wm_234 rfl dMO_account_30 ?_
        refine lv_bipush (v := 10) hx hb dMO_account_33 (by decide) ?_
        refine lv_aload_n hx hb dMO_account_35 rfl (lv_at hl 0 rfl) ?_
        refine V_get B hw (v := .ref (ad 50)) (by decide) rfl rfl hin_MO 0 (by decide) rfl wm_234 rfl dMO_account_36 ?_
        refine lv_iconst (v := 0) hx hb dMO_account_39 (by decide) ?_
        refine V_lald (j := 0) (v := S.2 50 0) B hw (by decide) rfl (vc_FMO_account_ix40_5 S x1 hp c2 c3 c4) rfl (by first | rfl | simp [sI_1, sI_2, sL_1, sL_2]) dMO_account_40 ?_
        refine lv_l2i hx hb dMO_account_41 rfl ?_
        refine lv_iadd hx hb dMO_account_42 ?_
        refine lv_iload_n hx hb dMO_account_43 rfl (lv_at hl 1 rfl) ?_
        refine lv_i2l hx hb dMO_account_44 rfl ?_
        refine V_last (j := (10 + ((S.2 50 0).toInt32)).toNatClampNeg) B hw (by decide) rfl (vc_FMO_account_ix45_6 S x1 hp c2 c3 c4) rfl dMO_account_45 (fun H locs hw => ?_)
        refine lv_aload_n hx hb dMO_account_46 rfl (lv_at hl 0 rfl) ?_
        refine V_get B hw (v := .ref (ad 50)) (by decide) rfl rfl hin_MO 0 (by decide) rfl wm_234 rfl dMO_account_47 ?_
        refine lv_iconst (v := 0) hx hb dMO_account_50 (by decide) ?_
        refine lv_dup2_11 hx hb dMO_account_51 rfl rfl ?_
        refine V_lald (j := 0) (v := (sL (sI S 49 4 0) 50 ((10 + ((S.2 50 0).toInt32)).toNatClampNeg) x1.toInt64).2 50 0) B hw (by decide) rfl (vc_FMO_account_ix52_7 S x1 hp c2 c3 c4) rfl rfl dMO_account_52 ?_
        refine lv_lconst (v := 1) hx hb dMO_account_53 (by decide) ?_
        refine lv_ladd hx hb dMO_account_54 ?_
        refine V_last (j := 0) B hw (by decide) rfl (vc_FMO_account_ix55_8 S x1 hp c2 c3 c4) rfl dMO_account_55 (fun H locs hw => ?_)
        refine lv_aload_n hx hb dMO_account_56 rfl (lv_at hl 0 rfl) ?_
        refine V_get B hw (v := .ref (ad 50)) (by decide) rfl rfl hin_MO 0 (by decide) rfl wm_234 rfl dMO_account_57 ?_
        refine lv_iconst (v := 0) hx hb dMO_account_60 (by decide) ?_
        refine V_lald (j := 0) (v := ((sL (sI S 49 4 0) 50 ((10 + ((S.2 50 0).toInt32)).toNatClampNeg) x1.toInt64).2 50 0) + 1) B hw (by decide) rfl (vc_FMO_account_ix61_9 S x1 hp c2 c3 c4) rfl (by first | rfl | simp [sI_1, sI_2, sL_1, sL_2]) dMO_account_61 ?_
        refine lv_l2i hx hb dMO_account_62 rfl ?_
        refine lv_iconst (v := 1) hx hb dMO_account_63 (by decide) ?_
        refine lv_isub hx hb dMO_account_64 ?_
        exact V_iret B hr hlk hw (pI_of hF) dMO_account_65
      · have hF := hF.trans (if_neg c4)
        refine lv_iconst (v := (-1)) hx hb dMO_account_27 (by decide) ?_
        exact V_iret B hr hlk hw (pI_of hF) dMO_account_28
theorem cw_FMO_addEntry {R : Room} {cells slots : Nat} (h1 : 1 ≤ R.frames) (h2 : 24 ≤ R.locals) (h3 : cells ≤ R.cells) (h4 : slots ≤ R.slots) : Cw R cells slots yMO_addEntry bMO_addEntry 5 (some .int) ({ frames := 0, cells := 0, slots := 0, locals := 0 } : Room) 2 := ⟨wm_433, wm_426, by decide +kernel, ⟨rfl, rfl, h1, h2⟩, h3, h4⟩
set_option maxHeartbeats 4000000 in
set_option maxRecDepth 100000 in
theorem M_FMO_addEntry (l : Launch) {ad : Nat → Nat} {cI cL : ClassId} {dC : Nat → ClassId} {dI : Nat → Nat → Nat} (hi : adI ad) (S : hS) (x1 : Int64) (x3 : Int32) (hp : wfM S ∧ (S.2 50 1).toInt < 40) : Mt l ad cI cL dC dI yMO_addEntry bMO_addEntry 5 (some .int) ({ frames := 0, cells := 0, slots := 0, locals := 0 } : Room) [.ref (ad 49), .long x1, .int x3] S (pI (FMO_addEntry S x1 x3).1 (FMO_addEntry S x1 x3).2) := by
  refine Mt_of (own := RMO) hi (by decide) rfl (Nat.le_of_ble_eq_true rfl) ?_
  intro p e s m args below meth c ls B hr hlk hw hl
  obtain ⟨hx, hb, -, hown, hts, -, -⟩ := id B
  have hA : ∀ q, AA ad s.heap.size q → AA ad s.heap.size q := fun _ h => h
  have hl : lv_has ls 5 [(0, .ref (ad 49)), (1, .long x1), (3, .int x3)] := hl
  have hF := FMO_addEntry_e S x1 x3
  refine lv_aload_n hx hb dMO_addEntry_0 rfl (lv_at hl 0 rfl) ?_
  refine V_get B hw (v := .ref (ad 50)) (by decide) rfl rfl hin_MO 0 (by decide) rfl wm_234 rfl dMO_addEntry_1 ?_
  refine lv_iconst (v := 1) hx hb dMO_addEntry_4 (by decide) ?_
  refine V_lald (j := 1) (v := S.2 50 1) B hw (by decide) rfl (vc_FMO_addEntry_ix5_1 S x1 x3 hp) rfl rfl dMO_addEntry_5 ?_
  refine lv_l2i hx hb dMO_addEntry_6 rfl ?_
  refine lv_istore (lv' := [(4, .int ((S.2 50 1).toInt32)), (0, .ref (ad 49)), (1, .long x1), (3, .int x3)]) hx hb dMO_addEntry_7 hl (by decide) rfl (fun ls hl => ?_)
  refine lv_aload_n hx hb dMO_addEntry_9 rfl (lv_at hl 1 rfl) ?_
  refine V_get B hw (v := .ref (ad 50)) (by decide) rfl rfl hin_MO 0 (by decide) rfl wm_234 rfl dMO_addEntry_10 ?_
  refine lv_bipush (v := 100) hx hb dMO_addEntry_13 (by decide) ?_
  refine lv_iload hx hb dMO_addEntry_15 (lv_at hl 0 rfl) ?_
  refine lv_iadd hx hb dMO_addEntry_17 ?_
  refine lv_lload_n hx hb dMO_addEntry_18 rfl (lv_at hl 2 rfl) ?_
  refine V_last (j := (100 + ((S.2 50 1).toInt32)).toNatClampNeg) B hw (by decide) rfl (vc_FMO_addEntry_ix19_2 S x1 x3 hp) rfl dMO_addEntry_19 (fun H locs hw => ?_)
  refine lv_aload_n hx hb dMO_addEntry_20 rfl (lv_at hl 1 rfl) ?_
  refine V_get B hw (v := .ref (ad 50)) (by decide) rfl rfl hin_MO 0 (by decide) rfl wm_234 rfl dMO_addEntry_21 ?_
  refine lv_sipush (v := 180) hx hb dMO_addEntry_24 (by decide) ?_
  refine lv_iload hx hb dMO_addEntry_27 (lv_at hl 0 rfl) ?_
  refine lv_iadd hx hb dMO_addEntry_29 ?_
  refine lv_iload_n hx hb dMO_addEntry_30 rfl (lv_at hl 3 rfl) ?_
  refine lv_i2l hx hb dMO_addEntry_31 rfl ?_
  refine V_last (j := (180 + ((S.2 50 1).toInt32)).toNatClampNeg) B hw (by decide) rfl (vc_FMO_addEntry_ix32_3 S x1 x3 hp) rfl dMO_addEntry_32 (fun H locs hw => ?_)
  refine lv_aload_n hx hb dMO_addEntry_33 rfl (lv_at hl 1 rfl) ?_
  refine V_get B hw (v := .ref (ad 50)) (by decide) rfl rfl hin_MO 0 (by decide) rfl wm_234 rfl dMO_addEntry_34 ?_
  refine lv_iconst (v := 1) hx hb dMO_addEntry_37 (by decide) ?_
  refine lv_dup2_11 hx hb dMO_addEntry_38 rfl rfl ?_
  refine V_lald (j := 1) (v := (sL (sL S 50 ((100 + ((S.2 50 1).toInt32)).toNatClampNeg) x1) 50 ((180 + ((S.2 50 1).toInt32)).toNatClampNeg) x3.toInt64).2 50 1) B hw (by decide) rfl (vc_FMO_addEntry_ix39_4 S x1 x3 hp) rfl rfl dMO_addEntry_39 ?_
  refine lv_lconst (v := 1) hx hb dMO_addEntry_40 (by decide) ?_
  refine lv_ladd hx hb dMO_addEntry_41 ?_
  refine V_last (j := 1) B hw (by decide) rfl (vc_FMO_addEntry_ix42_5 S x1 x3 hp) rfl dMO_addEntry_42 (fun H locs hw => ?_)
  refine lv_iload hx hb dMO_addEntry_43 (lv_at hl 0 rfl) ?_
  exact V_iret B hr hlk hw (pI_of hF) dMO_addEntry_45
theorem cw_FMO_entry {R : Room} {cells slots : Nat} (h1 : 3 ≤ R.frames) (h2 : 68 ≤ R.locals) (h3 : cells ≤ R.cells) (h4 : slots ≤ R.slots) : Cw R cells slots yMO_entry bMO_entry 3 (some .int) ({ frames := 2, cells := 0, slots := 0, locals := 46 } : Room) 1 := ⟨wm_434, wm_426, by decide +kernel, ⟨rfl, rfl, h1, h2⟩, h3, h4⟩
set_option maxHeartbeats 4000000 in
set_option maxRecDepth 100000 in
theorem M_FMO_entry (l : Launch) {ad : Nat → Nat} {cI cL : ClassId} {dC : Nat → ClassId} {dI : Nat → Nat → Nat} (hi : adI ad) (S : hS) (x1 : Int64) (hp : wfM S) : Mt l ad cI cL dC dI yMO_entry bMO_entry 3 (some .int) ({ frames := 2, cells := 0, slots := 0, locals := 46 } : Room) [.ref (ad 49), .long x1] S (pI (FMO_entry S x1).1 (FMO_entry S x1).2) := by
  refine Mt_of (own := RMO) hi (by decide) rfl (Nat.le_of_ble_eq_true rfl) ?_
  intro p e s m args below meth c ls B hr hlk hw hl
  obtain ⟨hx, hb, -, hown, hts, -, -⟩ := id B
  have hA : ∀ q, AA ad s.heap.size q → AA ad s.heap.size q := fun _ h => h
  have hl : lv_has ls 3 [(0, .ref (ad 49)), (1, .long x1)] := hl
  have hF := FMO_entry_e S x1
  refine lv_aload_n hx hb dMO_entry_0 rfl (lv_at hl 0 rfl) ?_
  refine lv_iconst (v := 0) hx hb dMO_entry_1 (by decide) ?_
  refine V_putI (ty := .int) B hw (by decide) rfl rfl hin_MO tyMO_ok nmMO 4 (by decide) rfl wm_242 rfl (by decide +kernel) rfl rfl dMO_entry_2 (fun H locs hw => ?_)
  refine lv_aload_n hx hb dMO_entry_5 rfl (lv_at hl 0 rfl) ?_
  refine V_get B hw (v := .ref (ad 50)) (by decide) rfl rfl hin_MO 0 (by decide) rfl wm_234 rfl dMO_entry_6 ?_
  refine lv_iconst (v := 1) hx hb dMO_entry_9 (by decide) ?_
  refine V_lald (j := 1) (v := S.2 50 1) B hw (by decide) rfl (vc_FMO_entry_ix10_1 S x1 hp) rfl (by first | rfl | simp [sI_1, sI_2, sL_1, sL_2]) dMO_entry_10 ?_
  refine lv_ldc2 (v := 40) hx hb hown (hts _ wm_244) dMO_entry_11 ?_
  refine V_leq (tgt := 33) B dMO_entry_14 dMO_entry_15 (by decide) (fun c2 => ?_) (fun c2 => ?_)
  · have hF := hF.trans (if_pos c2)
    refine lv_iconst (v := (-1)) hx hb dMO_entry_33 (by decide) ?_
    refine lv_goto (tgt := 43) hx hb dMO_entry_34 (by decide) ?_
    exact V_iret B hr hlk hw (pI_of hF) dMO_entry_43
  · have hF := hF.trans (if_neg c2)
    refine lv_lload_n hx hb dMO_entry_18 rfl (lv_at hl 1 rfl) ?_
    refine V_callS (rest := []) B hi hw hA hl.1 (M_FMO_isDay l hi (sI S 49 4 0) x1) (cw_FMO_isDay (Nat.le_of_ble_eq_true rfl) (Nat.le_of_ble_eq_true rfl) (Nat.zero_le _) (Nat.zero_le _)) wm_245 wm_246 rfl (Nat.le_of_ble_eq_true rfl) dMO_entry_19 (kI (fun H locs hw => ?_))
    refine lv_if_eq (tgt := 33) hx hb dMO_entry_22 (by decide) (fun c3 => ?_) (fun c3 => ?_)
    · have hF := hF.trans (if_pos c3)
      refine lv_iconst (v := (-1)) hx hb dMO_entry_33 (by decide) ?_
      refine lv_goto (tgt := 43) hx hb dMO_entry_34 (by decide) ?_
      exact V_iret B hr hlk hw (pI_of hF) dMO_entry_43
    · have hF := hF.trans (if_neg c3)
      refine lv_aload_n hx hb dMO_entry_25 rfl (lv_at hl 0 rfl) ?_
      refine lv_lload_n hx hb dMO_entry_26 rfl (lv_at hl 1 rfl) ?_
      refine V_callV (rest := []) B hi hw hA hl.1 (M_FMO_isLate l hi (sI S 49 4 0) x1 (vc_FMO_entry_pre27_4 S x1 hp c2 c3)) (cw_FMO_isLate (Nat.le_of_ble_eq_true rfl) (Nat.le_of_ble_eq_true rfl) (Nat.zero_le _) (Nat.zero_le _)) (by decide) rfl rfl wm_247 wm_248 wm_249 rfl (Nat.le_of_ble_eq_true rfl) dMO_entry_27 (kI (fun H locs hw => ?_))
      refine lv_if_eq (tgt := 37) hx hb dMO_entry_30 (by decide) (fun c5 => ?_) (fun c5 => ?_)
      · have hF := hF.trans (if_pos c5)
        refine lv_aload_n hx hb dMO_entry_37 rfl (lv_at hl 0 rfl) ?_
        refine lv_lload_n hx hb dMO_entry_38 rfl (lv_at hl 1 rfl) ?_
        refine lv_iconst (v := 0) hx hb dMO_entry_39 (by decide) ?_
        rcases hq7 : FMO_addEntry (sI S 49 4 0) x1 0 with ⟨v7, S7⟩
        rw [hq7] at hF; try dsimp only at hF
        refine V_callV (post := pI v7 S7) (rest := []) B hi hw hA hl.1 (by have h := M_FMO_addEntry (cI := cI) (cL := cL) (dC := dC) (dI := dI) l hi (sI S 49 4 0) x1 0 (vc_FMO_entry_pre40_6 S x1 hp c2 c3 c5); rw [hq7] at h; exact h) (cw_FMO_addEntry (Nat.le_of_ble_eq_true rfl) (Nat.le_of_ble_eq_true rfl) (Nat.zero_le _) (Nat.zero_le _)) (by decide) rfl rfl wm_250 wm_251 wm_252 rfl (Nat.le_of_ble_eq_true rfl) dMO_entry_40 (kI (fun H locs hw => ?_))
        exact V_iret B hr hlk hw (pI_of hF) dMO_entry_43
      · have hF := hF.trans (if_neg c5)
        refine lv_iconst (v := (-1)) hx hb dMO_entry_33 (by decide) ?_
        refine lv_goto (tgt := 43) hx hb dMO_entry_34 (by decide) ?_
        exact V_iret B hr hlk hw (pI_of hF) dMO_entry_43
theorem cw_FMO_addRow {R : Room} {cells slots : Nat} (h1 : 1 ≤ R.frames) (h2 : 25 ≤ R.locals) (h3 : cells ≤ R.cells) (h4 : slots ≤ R.slots) : Cw R cells slots yMO_addRow bMO_addRow 6 none ({ frames := 0, cells := 0, slots := 0, locals := 0 } : Room) 3 := ⟨wm_435, wm_426, by decide +kernel, ⟨rfl, rfl, h1, h2⟩, h3, h4⟩
set_option maxHeartbeats 4000000 in
set_option maxRecDepth 100000 in
theorem M_FMO_addRow (l : Launch) {ad : Nat → Nat} {cI cL : ClassId} {dC : Nat → ClassId} {dI : Nat → Nat → Nat} (hi : adI ad) (S : hS) (x1 : Int32) (x2 : Int32) (x3 : Int64) (hp : wfM S ∧ rg x1 40 ∧ (S.2 50 (260 + x1).toNatClampNeg).toInt < 6) : Mt l ad cI cL dC dI yMO_addRow bMO_addRow 6 none ({ frames := 0, cells := 0, slots := 0, locals := 0 } : Room) [.ref (ad 49), .int x1, .int x2, .long x3] S (pV (FMO_addRow S x1 x2 x3)) := by
  refine Mt_of (own := RMO) hi (by decide) rfl (Nat.le_of_ble_eq_true rfl) ?_
  intro p e s m args below meth c ls B hr hlk hw hl
  obtain ⟨hx, hb, -, hown, hts, -, -⟩ := id B
  have hA : ∀ q, AA ad s.heap.size q → AA ad s.heap.size q := fun _ h => h
  have hl : lv_has ls 6 [(0, .ref (ad 49)), (1, .int x1), (2, .int x2), (3, .long x3)] := hl
  have hF := FMO_addRow_e S x1 x2 x3
  refine lv_bipush (v := 6) hx hb dMO_addRow_0 (by decide) ?_
  refine lv_iload_n hx hb dMO_addRow_2 rfl (lv_at hl 1 rfl) ?_
  refine lv_imul hx hb dMO_addRow_3 ?_
  refine lv_aload_n hx hb dMO_addRow_4 rfl (lv_at hl 0 rfl) ?_
  refine V_get B hw (v := .ref (ad 50)) (by decide) rfl rfl hin_MO 0 (by decide) rfl wm_234 rfl dMO_addRow_5 ?_
  refine lv_sipush (v := 260) hx hb dMO_addRow_8 (by decide) ?_
  refine lv_iload_n hx hb dMO_addRow_11 rfl (lv_at hl 1 rfl) ?_
  refine lv_iadd hx hb dMO_addRow_12 ?_
  refine V_lald (j := (260 + x1).toNatClampNeg) (v := S.2 50 ((260 + x1).toNatClampNeg)) B hw (by decide) rfl (vc_FMO_addRow_ix13_1 S x1 x2 x3 hp) rfl rfl dMO_addRow_13 ?_
  refine lv_l2i hx hb dMO_addRow_14 rfl ?_
  refine lv_iadd hx hb dMO_addRow_15 ?_
  refine lv_istore (lv' := [(5, .int ((6 * x1) + ((S.2 50 ((260 + x1).toNatClampNeg)).toInt32))), (0, .ref (ad 49)), (1, .int x1), (2, .int x2), (3, .long x3)]) hx hb dMO_addRow_16 hl (by decide) rfl (fun ls hl => ?_)
  refine lv_aload_n hx hb dMO_addRow_18 rfl (lv_at hl 1 rfl) ?_
  refine V_get B hw (v := .ref (ad 50)) (by decide) rfl rfl hin_MO 0 (by decide) rfl wm_234 rfl dMO_addRow_19 ?_
  refine lv_sipush (v := 300) hx hb dMO_addRow_22 (by decide) ?_
  refine lv_iload hx hb dMO_addRow_25 (lv_at hl 0 rfl) ?_
  refine lv_iadd hx hb dMO_addRow_27 ?_
  refine lv_iload_n hx hb dMO_addRow_28 rfl (lv_at hl 3 rfl) ?_
  refine lv_i2l hx hb dMO_addRow_29 rfl ?_
  refine V_last (j := (300 + ((6 * x1) + ((S.2 50 ((260 + x1).toNatClampNeg)).toInt32))).toNatClampNeg) B hw (by decide) rfl (vc_FMO_addRow_ix30_2 S x1 x2 x3 hp) rfl dMO_addRow_30 (fun H locs hw => ?_)
  refine lv_aload_n hx hb dMO_addRow_31 rfl (lv_at hl 1 rfl) ?_
  refine V_get B hw (v := .ref (ad 50)) (by decide) rfl rfl hin_MO 0 (by decide) rfl wm_234 rfl dMO_addRow_32 ?_
  refine lv_sipush (v := 540) hx hb dMO_addRow_35 (by decide) ?_
  refine lv_iload hx hb dMO_addRow_38 (lv_at hl 0 rfl) ?_
  refine lv_iadd hx hb dMO_addRow_40 ?_
  refine lv_lload_n hx hb dMO_addRow_41 rfl (lv_at hl 4 rfl) ?_
  refine V_last (j := (540 + ((6 * x1) + ((S.2 50 ((260 + x1).toNatClampNeg)).toInt32))).toNatClampNeg) B hw (by decide) rfl (vc_FMO_addRow_ix42_3 S x1 x2 x3 hp) rfl dMO_addRow_42 (fun H locs hw => ?_)
  refine lv_aload_n hx hb dMO_addRow_43 rfl (lv_at hl 1 rfl) ?_
  refine V_get B hw (v := .ref (ad 50)) (by decide) rfl rfl hin_MO 0 (by decide) rfl wm_234 rfl dMO_addRow_44 ?_
  refine lv_sipush (v := 260) hx hb dMO_addRow_47 (by decide) ?_
  refine lv_iload_n hx hb dMO_addRow_50 rfl (lv_at hl 2 rfl) ?_
  refine lv_iadd hx hb dMO_addRow_51 ?_
  refine lv_dup2_11 hx hb dMO_addRow_52 rfl rfl ?_
  refine V_lald (j := (260 + x1).toNatClampNeg) (v := (sL (sL S 50 ((300 + ((6 * x1) + ((S.2 50 ((260 + x1).toNatClampNeg)).toInt32))).toNatClampNeg) x2.toInt64) 50 ((540 + ((6 * x1) + ((S.2 50 ((260 + x1).toNatClampNeg)).toInt32))).toNatClampNeg) x3).2 50 ((260 + x1).toNatClampNeg)) B hw (by decide) rfl (vc_FMO_addRow_ix53_4 S x1 x2 x3 hp) rfl rfl dMO_addRow_53 ?_
  refine lv_lconst (v := 1) hx hb dMO_addRow_54 (by decide) ?_
  refine lv_ladd hx hb dMO_addRow_55 ?_
  refine V_last (j := (260 + x1).toNatClampNeg) B hw (by decide) rfl (vc_FMO_addRow_ix56_5 S x1 x2 x3 hp) rfl dMO_addRow_56 (fun H locs hw => ?_)
  exact V_vret B hr hlk hw (pV_of hF) dMO_addRow_57
theorem cw_FMO_row {R : Room} {cells slots : Nat} (h1 : 2 ≤ R.frames) (h2 : 49 ≤ R.locals) (h3 : cells ≤ R.cells) (h4 : slots ≤ R.slots) : Cw R cells slots yMO_row bMO_row 5 (some .boolean) ({ frames := 1, cells := 0, slots := 0, locals := 25 } : Room) 3 := ⟨wm_436, wm_426, by decide +kernel, ⟨rfl, rfl, h1, h2⟩, h3, h4⟩
set_option maxHeartbeats 4000000 in
set_option maxRecDepth 100000 in
theorem M_FMO_row (l : Launch) {ad : Nat → Nat} {cI cL : ClassId} {dC : Nat → ClassId} {dI : Nat → Nat → Nat} (hi : adI ad) (S : hS) (x1 : Int32) (x2 : Int32) (x3 : Int64) (hp : wfM S) : Mt l ad cI cL dC dI yMO_row bMO_row 5 (some .boolean) ({ frames := 1, cells := 0, slots := 0, locals := 25 } : Room) [.ref (ad 49), .int x1, .int x2, .long x3] S (pI (FMO_row S x1 x2 x3).1 (FMO_row S x1 x2 x3).2) := by
  refine Mt_of (own := RMO) hi (by decide) rfl (Nat.le_of_ble_eq_true rfl) ?_
  intro p e s m args below meth c ls B hr hlk hw hl
  obtain ⟨hx, hb, -, hown, hts, -, -⟩ := id B
  have hA : ∀ q, AA ad s.heap.size q → AA ad s.heap.size q := fun _ h => h
  have hl : lv_has ls 5 [(0, .ref (ad 49)), (1, .int x1), (2, .int x2), (3, .long x3)] := hl
  have hF := FMO_row_e S x1 x2 x3
  refine lv_aload_n hx hb dMO_row_0 rfl (lv_at hl 0 rfl) ?_
  refine lv_iconst (v := 0) hx hb dMO_row_1 (by decide) ?_
  refine V_putI (ty := .int) B hw (by decide) rfl rfl hin_MO tyMO_ok nmMO 4 (by decide) rfl wm_242 rfl (by decide +kernel) rfl rfl dMO_row_2 (fun H locs hw => ?_)
  refine lv_aload_n hx hb dMO_row_5 rfl (lv_at hl 0 rfl) ?_
  refine lv_iload_n hx hb dMO_row_6 rfl (lv_at hl 1 rfl) ?_
  refine V_callV (rest := []) B hi hw hA hl.1 (M_FMO_isEntry l hi (sI S 49 4 0) x1 (vc_FMO_row_pre7_1 S x1 x2 x3 hp)) (cw_FMO_isEntry (Nat.le_of_ble_eq_true rfl) (Nat.le_of_ble_eq_true rfl) (Nat.zero_le _) (Nat.zero_le _)) (by decide) rfl rfl wm_253 wm_254 wm_255 rfl (Nat.le_of_ble_eq_true rfl) dMO_row_7 (kI (fun H locs hw => ?_))
  refine lv_if_eq (tgt := 72) hx hb dMO_row_10 (by decide) (fun c2 => ?_) (fun c2 => ?_)
  · have hF := hF.trans (if_pos c2)
    refine lv_iconst (v := 0) hx hb dMO_row_72 (by decide) ?_
    exact V_zret B hr hlk hw (by decide) (pI_of hF) dMO_row_73
  · have hF := hF.trans (if_neg c2)
    refine lv_aload_n hx hb dMO_row_13 rfl (lv_at hl 0 rfl) ?_
    refine lv_iload_n hx hb dMO_row_14 rfl (lv_at hl 2 rfl) ?_
    refine V_callV (rest := []) B hi hw hA hl.1 (M_FMO_isAccount l hi (sI S 49 4 0) x2 (vc_FMO_row_pre15_3 S x1 x2 x3 hp c2)) (cw_FMO_isAccount (Nat.le_of_ble_eq_true rfl) (Nat.le_of_ble_eq_true rfl) (Nat.zero_le _) (Nat.zero_le _)) (by decide) rfl rfl wm_235 wm_236 wm_237 rfl (Nat.le_of_ble_eq_true rfl) dMO_row_15 (kI (fun H locs hw => ?_))
    refine lv_if_eq (tgt := 72) hx hb dMO_row_18 (by decide) (fun c4 => ?_) (fun c4 => ?_)
    · have hF := hF.trans (if_pos c4)
      refine lv_iconst (v := 0) hx hb dMO_row_72 (by decide) ?_
      exact V_zret B hr hlk hw (by decide) (pI_of hF) dMO_row_73
    · have hF := hF.trans (if_neg c4)
      refine lv_aload_n hx hb dMO_row_21 rfl (lv_at hl 0 rfl) ?_
      refine V_get B hw (v := .ref (ad 50)) (by decide) rfl rfl hin_MO 0 (by decide) rfl wm_234 rfl dMO_row_22 ?_
      refine lv_sipush (v := 140) hx hb dMO_row_25 (by decide) ?_
      refine lv_iload_n hx hb dMO_row_28 rfl (lv_at hl 1 rfl) ?_
      refine lv_iadd hx hb dMO_row_29 ?_
      refine V_lald (j := (140 + x1).toNatClampNeg) (v := S.2 50 ((140 + x1).toNatClampNeg)) B hw (by decide) rfl (vc_FMO_row_ix30_5 S x1 x2 x3 hp c2 c4) rfl (by first | rfl | simp [sI_1, sI_2, sL_1, sL_2]) dMO_row_30 ?_
      refine lv_lconst (v := 0) hx hb dMO_row_31 (by decide) ?_
      refine V_lgt (tgt := 72) B dMO_row_32 dMO_row_33 (by decide) (fun c6 => ?_) (fun c6 => ?_)
      · have hF := hF.trans (if_pos c6)
        refine lv_iconst (v := 0) hx hb dMO_row_72 (by decide) ?_
        exact V_zret B hr hlk hw (by decide) (pI_of hF) dMO_row_73
      · have hF := hF.trans (if_neg c6)
        refine lv_aload_n hx hb dMO_row_36 rfl (lv_at hl 0 rfl) ?_
        refine V_get B hw (v := .ref (ad 50)) (by decide) rfl rfl hin_MO 0 (by decide) rfl wm_234 rfl dMO_row_37 ?_
        refine lv_sipush (v := 260) hx hb dMO_row_40 (by decide) ?_
        refine lv_iload_n hx hb dMO_row_43 rfl (lv_at hl 1 rfl) ?_
        refine lv_iadd hx hb dMO_row_44 ?_
        refine V_lald (j := (260 + x1).toNatClampNeg) (v := S.2 50 ((260 + x1).toNatClampNeg)) B hw (by decide) rfl (vc_FMO_row_ix45_7 S x1 x2 x3 hp c2 c4 c6) rfl (by first | rfl | simp [sI_1, sI_2, sL_1, sL_2]) dMO_row_45 ?_
        refine lv_ldc2 (v := 6) hx hb hown (hts _ wm_256) dMO_row_46 ?_
        refine V_leq (tgt := 72) B dMO_row_49 dMO_row_50 (by decide) (fun c8 => ?_) (fun c8 => ?_)
        · have hF := hF.trans (if_pos c8)
          refine lv_iconst (v := 0) hx hb dMO_row_72 (by decide) ?_
          exact V_zret B hr hlk hw (by decide) (pI_of hF) dMO_row_73
        · have hF := hF.trans (if_neg c8)
          refine lv_lload_n hx hb dMO_row_53 rfl (lv_at hl 3 rfl) ?_
          refine lv_lconst (v := 0) hx hb dMO_row_54 (by decide) ?_
          refine V_leq (tgt := 72) B dMO_row_55 dMO_row_56 (by decide) (fun c9 => ?_) (fun c9 => ?_)
          · have hF := hF.trans (if_pos c9)
            refine lv_iconst (v := 0) hx hb dMO_row_72 (by decide) ?_
            exact V_zret B hr hlk hw (by decide) (pI_of hF) dMO_row_73
          · have hF := hF.trans (if_neg c9)
            refine lv_lload_n hx hb dMO_row_59 rfl (lv_at hl 3 rfl) ?_
            refine lv_ldc2 (v := (-100000000)) hx hb hown (hts _ wm_257) dMO_row_60 ?_
            refine lv_ldc2 (v := 100000000) hx hb hown (hts _ wm_258) dMO_row_63 ?_
            refine V_callS (rest := []) B hi hw hA hl.1 (M_FMO_isIn l hi (sI S 49 4 0) x3 (-100000000) 100000000) (cw_FMO_isIn (Nat.le_of_ble_eq_true rfl) (Nat.le_of_ble_eq_true rfl) (Nat.zero_le _) (Nat.zero_le _)) wm_239 wm_240 rfl (Nat.le_of_ble_eq_true rfl) dMO_row_66 (kI (fun H locs hw => ?_))
            refine lv_if_ne (tgt := 74) hx hb dMO_row_69 (by decide) (fun c10 => ?_) (fun c10 => ?_)
            · have hF := hF.trans (if_neg c10)
              refine lv_aload_n hx hb dMO_row_74 rfl (lv_at hl 0 rfl) ?_
              refine lv_iload_n hx hb dMO_row_75 rfl (lv_at hl 1 rfl) ?_
              refine lv_iload_n hx hb dMO_row_76 rfl (lv_at hl 2 rfl) ?_
              refine lv_lload_n hx hb dMO_row_77 rfl (lv_at hl 3 rfl) ?_
              refine V_callV (rest := []) B hi hw hA hl.1 (M_FMO_addRow l hi (sI S 49 4 0) x1 x2 x3 (vc_FMO_row_pre78_11 S x1 x2 x3 hp c2 c4 c6 c8 c9 c10)) (cw_FMO_addRow (Nat.le_of_ble_eq_true rfl) (Nat.le_of_ble_eq_true rfl) (Nat.zero_le _) (Nat.zero_le _)) (by decide) rfl rfl wm_259 wm_260 wm_261 rfl (Nat.le_of_ble_eq_true rfl) dMO_row_78 (kV (fun H locs hw => ?_))
              refine lv_iconst (v := 1) hx hb dMO_row_81 (by decide) ?_
              exact V_zret B hr hlk hw (by decide) (pI_of hF) dMO_row_82
            · have hF := hF.trans (if_pos c10)
              refine lv_iconst (v := 0) hx hb dMO_row_72 (by decide) ?_
              exact V_zret B hr hlk hw (by decide) (pI_of hF) dMO_row_73
theorem cw_FMO_isItem {R : Room} {cells slots : Nat} (h1 : 1 ≤ R.frames) (h2 : 23 ≤ R.locals) (h3 : cells ≤ R.cells) (h4 : slots ≤ R.slots) : Cw R cells slots yMO_isItem bMO_isItem 4 (some .boolean) ({ frames := 0, cells := 0, slots := 0, locals := 0 } : Room) 2 := ⟨wm_437, wm_426, by decide +kernel, ⟨rfl, rfl, h1, h2⟩, h3, h4⟩
set_option maxHeartbeats 4000000 in
set_option maxRecDepth 100000 in
theorem M_FMO_isItem (l : Launch) {ad : Nat → Nat} {cI cL : ClassId} {dC : Nat → ClassId} {dI : Nat → Nat → Nat} (hi : adI ad) (S : hS) (x1 : Int32) (x2 : Int32) (hp : wfM S ∧ rg x1 40 ∧ rg x2 6) : Mt l ad cI cL dC dI yMO_isItem bMO_isItem 4 (some .boolean) ({ frames := 0, cells := 0, slots := 0, locals := 0 } : Room) [.ref (ad 49), .int x1, .int x2] S (pI (FMO_isItem S x1 x2) S) := by
  refine Mt_of (own := RMO) hi (by decide) rfl (Nat.le_of_ble_eq_true rfl) ?_
  intro p e s m args below meth c ls B hr hlk hw hl
  obtain ⟨hx, hb, -, hown, hts, -, -⟩ := id B
  have hA : ∀ q, AA ad s.heap.size q → AA ad s.heap.size q := fun _ h => h
  have hl : lv_has ls 4 [(0, .ref (ad 49)), (1, .int x1), (2, .int x2)] := hl
  have hF := FMO_isItem_e S x1 x2
  refine lv_bipush (v := 6) hx hb dMO_isItem_0 (by decide) ?_
  refine lv_iload_n hx hb dMO_isItem_2 rfl (lv_at hl 1 rfl) ?_
  refine lv_imul hx hb dMO_isItem_3 ?_
  refine lv_iload_n hx hb dMO_isItem_4 rfl (lv_at hl 2 rfl) ?_
  refine lv_iadd hx hb dMO_isItem_5 ?_
  refine lv_istore_n (lv' := [(3, .int ((6 * x1) + x2)), (0, .ref (ad 49)), (1, .int x1), (2, .int x2)]) hx hb dMO_isItem_6 rfl hl (by decide) rfl (fun ls hl => ?_)
  refine lv_iload_n hx hb dMO_isItem_7 rfl (lv_at hl 3 rfl) ?_
  refine lv_i2l hx hb dMO_isItem_8 rfl ?_
  refine lv_aload_n hx hb dMO_isItem_9 rfl (lv_at hl 1 rfl) ?_
  refine V_get B hw (v := .ref (ad 50)) (by decide) rfl rfl hin_MO 0 (by decide) rfl wm_234 rfl dMO_isItem_10 ?_
  refine lv_sipush (v := 260) hx hb dMO_isItem_13 (by decide) ?_
  refine lv_iload_n hx hb dMO_isItem_16 rfl (lv_at hl 2 rfl) ?_
  refine lv_iadd hx hb dMO_isItem_17 ?_
  refine V_lald (j := (260 + x1).toNatClampNeg) (v := S.2 50 ((260 + x1).toNatClampNeg)) B hw (by decide) rfl (vc_FMO_isItem_ix18_1 S x1 x2 hp) rfl rfl dMO_isItem_18 ?_
  refine V_lge (tgt := 96) B dMO_isItem_19 dMO_isItem_20 (by decide) (fun c2 => ?_) (fun c2 => ?_)
  · have hF := hF.trans (if_pos c2)
    refine lv_iconst (v := 0) hx hb dMO_isItem_96 (by decide) ?_
    exact V_zret B hr hlk hw (by decide) (pI_r hF) dMO_isItem_97
  · have hF := hF.trans (if_neg c2)
    refine lv_aload_n hx hb dMO_isItem_23 rfl (lv_at hl 1 rfl) ?_
    refine V_get B hw (v := .ref (ad 50)) (by decide) rfl rfl hin_MO 0 (by decide) rfl wm_234 rfl dMO_isItem_24 ?_
    refine lv_sipush (v := 140) hx hb dMO_isItem_27 (by decide) ?_
    refine lv_iload_n hx hb dMO_isItem_30 rfl (lv_at hl 2 rfl) ?_
    refine lv_iadd hx hb dMO_isItem_31 ?_
    refine V_lald (j := (140 + x1).toNatClampNeg) (v := S.2 50 ((140 + x1).toNatClampNeg)) B hw (by decide) rfl (vc_FMO_isItem_ix32_3 S x1 x2 hp c2) rfl rfl dMO_isItem_32 ?_
    refine lv_lconst (v := 0) hx hb dMO_isItem_33 (by decide) ?_
    refine V_lle (tgt := 96) B dMO_isItem_34 dMO_isItem_35 (by decide) (fun c4 => ?_) (fun c4 => ?_)
    · have hF := hF.trans (if_pos c4)
      refine lv_iconst (v := 0) hx hb dMO_isItem_96 (by decide) ?_
      exact V_zret B hr hlk hw (by decide) (pI_r hF) dMO_isItem_97
    · have hF := hF.trans (if_neg c4)
      refine lv_aload_n hx hb dMO_isItem_38 rfl (lv_at hl 1 rfl) ?_
      refine V_get B hw (v := .ref (ad 50)) (by decide) rfl rfl hin_MO 0 (by decide) rfl wm_234 rfl dMO_isItem_39 ?_
      refine lv_sipush (v := 180) hx hb dMO_isItem_42 (by decide) ?_
      refine lv_iload_n hx hb dMO_isItem_45 rfl (lv_at hl 2 rfl) ?_
      refine lv_iadd hx hb dMO_isItem_46 ?_
      refine V_lald (j := (180 + x1).toNatClampNeg) (v := S.2 50 ((180 + x1).toNatClampNeg)) B hw (by decide) rfl (vc_FMO_isItem_ix47_5 S x1 x2 hp c2 c4) rfl rfl dMO_isItem_47 ?_
      refine lv_lconst (v := 0) hx hb dMO_isItem_48 (by decide) ?_
      refine V_lne (tgt := 96) B dMO_isItem_49 dMO_isItem_50 (by decide) (fun c6 => ?_) (fun c6 => ?_)
      · have hF := hF.trans (if_neg c6)
        refine lv_iconst (v := 0) hx hb dMO_isItem_96 (by decide) ?_
        exact V_zret B hr hlk hw (by decide) (pI_r hF) dMO_isItem_97
      · have hF := hF.trans (if_pos c6)
        refine lv_aload_n hx hb dMO_isItem_53 rfl (lv_at hl 1 rfl) ?_
        refine V_get B hw (v := .ref (ad 50)) (by decide) rfl rfl hin_MO 0 (by decide) rfl wm_234 rfl dMO_isItem_54 ?_
        refine lv_sipush (v := 540) hx hb dMO_isItem_57 (by decide) ?_
        refine lv_iload_n hx hb dMO_isItem_60 rfl (lv_at hl 0 rfl) ?_
        refine lv_iadd hx hb dMO_isItem_61 ?_
        refine V_lald (j := (540 + ((6 * x1) + x2)).toNatClampNeg) (v := S.2 50 ((540 + ((6 * x1) + x2)).toNatClampNeg)) B hw (by decide) rfl (vc_FMO_isItem_ix62_7 S x1 x2 hp c2 c4 c6) rfl rfl dMO_isItem_62 ?_
        refine lv_lconst (v := 0) hx hb dMO_isItem_63 (by decide) ?_
        refine V_lle (tgt := 96) B dMO_isItem_64 dMO_isItem_65 (by decide) (fun c8 => ?_) (fun c8 => ?_)
        · have hF := hF.trans (if_pos c8)
          refine lv_iconst (v := 0) hx hb dMO_isItem_96 (by decide) ?_
          exact V_zret B hr hlk hw (by decide) (pI_r hF) dMO_isItem_97
        · have hF := hF.trans (if_neg c8)
          refine lv_aload_n hx hb dMO_isItem_68 rfl (lv_at hl 1 rfl) ?_
          refine V_get B hw (v := .ref (ad 50)) (by decide) rfl rfl hin_MO 0 (by decide) rfl wm_234 rfl dMO_isItem_69 ?_
          refine lv_bipush (v := 10) hx hb dMO_isItem_72 (by decide) ?_
          refine lv_aload_n hx hb dMO_isItem_74 rfl (lv_at hl 1 rfl) ?_
          refine V_get B hw (v := .ref (ad 50)) (by decide) rfl rfl hin_MO 0 (by decide) rfl wm_234 rfl dMO_isItem_75 ?_
          refine lv_sipush (v := 300) hx hb dMO_isItem_78 (by decide) ?_
          refine lv_iload_n hx hb dMO_isItem_81 rfl (lv_at hl 0 rfl) ?_
          refine lv_iadd hx hb dMO_isItem_82 ?_
          refine V_lald (j := (300 + ((6 * x1) + x2)).toNatClampNeg) (v := S.2 50 ((300 + ((6 * x1) + x2)).toNatClampNeg)) B hw (by decide) rfl (vc_FMO_isItem_ix83_9 S x1 x2 hp c2 c4 c6 c8) rfl rfl dMO_isItem_83 ?_
          refine lv_l2i hx hb dMO_isItem_84 rfl ?_
          refine lv_iadd hx hb dMO_isItem_85 ?_
          refine V_lald (j := (10 + ((S.2 50 ((300 + ((6 * x1) + x2)).toNatClampNeg)).toInt32)).toNatClampNeg) (v := S.2 50 ((10 + ((S.2 50 ((300 + ((6 * x1) + x2)).toNatClampNeg)).toInt32)).toNatClampNeg)) B hw (by decide) rfl (vc_FMO_isItem_ix86_10 S x1 x2 hp c2 c4 c6 c8) rfl rfl dMO_isItem_86 ?_
          refine lv_lconst (v := 1) hx hb dMO_isItem_87 (by decide) ?_
          refine V_lne (tgt := 96) B dMO_isItem_88 dMO_isItem_89 (by decide) (fun c11 => ?_) (fun c11 => ?_)
          · have hF := hF.trans (if_neg c11)
            refine lv_iconst (v := 0) hx hb dMO_isItem_96 (by decide) ?_
            exact V_zret B hr hlk hw (by decide) (pI_r hF) dMO_isItem_97
          · have hF := hF.trans (if_pos c11)
            refine lv_iconst (v := 1) hx hb dMO_isItem_92 (by decide) ?_
            refine lv_goto (tgt := 97) hx hb dMO_isItem_93 (by decide) ?_
            exact V_zret B hr hlk hw (by decide) (pI_r hF) dMO_isItem_97
set_option maxHeartbeats 4000000 in
set_option maxRecDepth 100000 in
theorem LPMO_close_51 (l : Launch) {ad : Nat → Nat} {cI cL : ClassId} {dC : Nat → ClassId} {dI : Nat → Nat → Nat} (hi : adI ad) {p : Program} {e : Env} {s : State} {m : MethodId} {args : Array Value} {below : List Frame} {meth : Method} {c : Code} {A : Nat → Prop} {post : Option Value → hS → Prop} (B : Bs p s m args c RMO bMO_close 6 cI cL dC dI) (hr : meth.sig.returnType = (some .int)) (hlk : meth.locks = false) (hA : ∀ q, AA ad s.heap.size q → A q) : ∀ (n : Nat) (S : hS) (x1 : Int32) (x2 : Int64) (x4 : Int32) (H : Heap) (locs : List Loc) (ls : Array Slot), wfM S ∧ bt x4 6 ∧ rg x1 40 → ((6 - x4.toInt).toNat) < n → Wd ad cI cL dC dI A s.heap S H locs → lv_has ls 6 [(0, .ref (ad 49)), (1, .int x1), (2, .long x2), (4, .int x4)] → (∀ (H : Heap) (locs : List Loc) (ls : Array Slot) (y2 : Int64) (y4 : Int32), LMO_close_51 n S x1 x2 x4 = (y2, y4) → Wd ad cI cL dC dI A s.heap S H locs → lv_has ls 6 [(0, .ref (ad 49)), (1, .int x1), (2, .long y2), (4, .int y4)] → W p l e ({ frames := 1, cells := 0, slots := 0, locals := 23 } : Room) s m args below meth c H locs 0 0 (MQ below (QcW ad cI cL dC dI post A) args s 0 0 A) (F0 m 93 ls [])) → W p l e ({ frames := 1, cells := 0, slots := 0, locals := 23 } : Room) s m args below meth c H locs 0 0 (MQ below (QcW ad cI cL dC dI post A) args s 0 0 A) (F0 m 51 ls []) := by
  intro n
  obtain ⟨hx, hb, -, hown, hts, -, -⟩ := id B
  induction n with
  | zero => exact fun S x1 x2 x4 H locs ls _ hmu => absurd hmu (Nat.not_lt_zero _)
  | succ n ih =>
    intro S x1 x2 x4 H locs ls hJ hmu hw hl hexit
    have hF := LMO_close_51_s n S x1 x2 x4
    refine lv_iload hx hb dMO_close_51 (lv_at hl 3 rfl) ?_
    refine lv_i2l hx hb dMO_close_53 rfl ?_
    refine lv_aload_n hx hb dMO_close_54 rfl (lv_at hl 0 rfl) ?_
    refine V_get B hw (v := .ref (ad 50)) (by decide) rfl rfl hin_MO 0 (by decide) rfl wm_234 rfl dMO_close_55 ?_
    refine lv_sipush (v := 260) hx hb dMO_close_58 (by decide) ?_
    refine lv_iload_n hx hb dMO_close_61 rfl (lv_at hl 1 rfl) ?_
    refine lv_iadd hx hb dMO_close_62 ?_
    refine V_lald (j := (260 + x1).toNatClampNeg) (v := S.2 50 ((260 + x1).toNatClampNeg)) B hw (by decide) rfl (vc_FMO_close_ix63_8 S x1 x2 x4 hJ) rfl rfl dMO_close_63 ?_
    refine V_lge (tgt := 93) B dMO_close_64 dMO_close_65 (by decide) (fun c9 => ?_) (fun c9 => ?_)
    · have hF := hF.trans (if_pos c9)
      exact hexit _ _ _ x2 x4 hF hw (lv_sub hl [0, 1, 2, 3] rfl)
    · have hF := hF.trans (if_neg c9)
      refine lv_lload_n hx hb dMO_close_68 rfl (lv_at hl 2 rfl) ?_
      refine lv_aload_n hx hb dMO_close_69 rfl (lv_at hl 0 rfl) ?_
      refine V_get B hw (v := .ref (ad 50)) (by decide) rfl rfl hin_MO 0 (by decide) rfl wm_234 rfl dMO_close_70 ?_
      refine lv_sipush (v := 540) hx hb dMO_close_73 (by decide) ?_
      refine lv_bipush (v := 6) hx hb dMO_close_76 (by decide) ?_
      refine lv_iload_n hx hb dMO_close_78 rfl (lv_at hl 1 rfl) ?_
      refine lv_imul hx hb dMO_close_79 ?_
      refine lv_iadd hx hb dMO_close_80 ?_
      refine lv_iload hx hb dMO_close_81 (lv_at hl 3 rfl) ?_
      refine lv_iadd hx hb dMO_close_83 ?_
      refine V_lald (j := ((540 + (6 * x1)) + x4).toNatClampNeg) (v := S.2 50 (((540 + (6 * x1)) + x4).toNatClampNeg)) B hw (by decide) rfl (vc_FMO_close_ix84_10 S x1 x2 x4 hJ c9) rfl rfl dMO_close_84 ?_
      refine lv_ladd hx hb dMO_close_85 ?_
      refine lv_lstore_n (lv' := [(2, .long (x2 + (S.2 50 (((540 + (6 * x1)) + x4).toNatClampNeg)))), (0, .ref (ad 49)), (1, .int x1), (4, .int x4)]) hx hb dMO_close_86 rfl hl (by decide) rfl (fun ls hl => ?_)
      refine lv_iinc (v := x4 + 1) (lv' := [(4, .int (x4 + 1)), (2, .long (x2 + (S.2 50 (((540 + (6 * x1)) + x4).toNatClampNeg)))), (0, .ref (ad 49)), (1, .int x1)]) hx hb dMO_close_87 hl (k := 3) rfl rfl (by decide) rfl (fun ls hl => ?_)
      refine lv_goto (tgt := 51) hx hb dMO_close_90 (by decide) ?_
      exact ih S x1 (x2 + (S.2 50 (((540 + (6 * x1)) + x4).toNatClampNeg))) (x4 + 1) _ _ _ (vc_FMO_close_inv51_11 S x1 x2 x4 hJ c9) (Nat.lt_of_lt_of_le (vc_FMO_close_mu51_12 S x1 x2 x4 hJ c9) (Nat.le_of_lt_succ hmu)) hw (lv_sub hl [2, 3, 1, 0] rfl) (fun H locs ls y2 y4 h hw hl => hexit H locs ls y2 y4 (hF.trans h) hw hl)
set_option maxHeartbeats 4000000 in
set_option maxRecDepth 100000 in
theorem LPMO_close_120 (l : Launch) {ad : Nat → Nat} {cI cL : ClassId} {dC : Nat → ClassId} {dI : Nat → Nat → Nat} (hi : adI ad) {p : Program} {e : Env} {s : State} {m : MethodId} {args : Array Value} {below : List Frame} {meth : Method} {c : Code} {A : Nat → Prop} {post : Option Value → hS → Prop} (B : Bs p s m args c RMO bMO_close 6 cI cL dC dI) (hr : meth.sig.returnType = (some .int)) (hlk : meth.locks = false) (hA : ∀ q, AA ad s.heap.size q → A q) : ∀ (n : Nat) (S : hS) (x1 : Int32) (x2 : Int64) (x4 : Int32) (H : Heap) (locs : List Loc) (ls : Array Slot), wfM S ∧ bt x4 6 ∧ rg x1 40 → ((6 - x4.toInt).toNat) < n → Wd ad cI cL dC dI A s.heap S H locs → lv_has ls 6 [(0, .ref (ad 49)), (1, .int x1), (2, .long x2), (4, .int x4)] → (∀ (H : Heap) (locs : List Loc) (ls : Array Slot) (y4 : Int32) (S' : hS), LMO_close_120 n S x1 x2 x4 = (y4, S') → Wd ad cI cL dC dI A s.heap S' H locs → lv_has ls 6 [(0, .ref (ad 49)), (1, .int x1), (2, .long x2), (4, .int y4)] → W p l e ({ frames := 1, cells := 0, slots := 0, locals := 23 } : Room) s m args below meth c H locs 0 0 (MQ below (QcW ad cI cL dC dI post A) args s 0 0 A) (F0 m 188 ls [])) → W p l e ({ frames := 1, cells := 0, slots := 0, locals := 23 } : Room) s m args below meth c H locs 0 0 (MQ below (QcW ad cI cL dC dI post A) args s 0 0 A) (F0 m 120 ls []) := by
  intro n
  obtain ⟨hx, hb, -, hown, hts, -, -⟩ := id B
  induction n with
  | zero => exact fun S x1 x2 x4 H locs ls _ hmu => absurd hmu (Nat.not_lt_zero _)
  | succ n ih =>
    intro S x1 x2 x4 H locs ls hJ hmu hw hl hexit
    have hF := LMO_close_120_s n S x1 x2 x4
    refine lv_iload hx hb dMO_close_120 (lv_at hl 3 rfl) ?_
    refine lv_i2l hx hb dMO_close_122 rfl ?_
    refine lv_aload_n hx hb dMO_close_123 rfl (lv_at hl 0 rfl) ?_
    refine V_get B hw (v := .ref (ad 50)) (by decide) rfl rfl hin_MO 0 (by decide) rfl wm_234 rfl dMO_close_124 ?_
    refine lv_sipush (v := 260) hx hb dMO_close_127 (by decide) ?_
    refine lv_iload_n hx hb dMO_close_130 rfl (lv_at hl 1 rfl) ?_
    refine lv_iadd hx hb dMO_close_131 ?_
    refine V_lald (j := (260 + x1).toNatClampNeg) (v := S.2 50 ((260 + x1).toNatClampNeg)) B hw (by decide) rfl (vc_FMO_close_ix132_18 S x1 x2 x4 hJ) rfl rfl dMO_close_132 ?_
    refine V_lge (tgt := 188) B dMO_close_133 dMO_close_134 (by decide) (fun c19 => ?_) (fun c19 => ?_)
    · have hF := hF.trans (if_pos c19)
      exact hexit _ _ _ x4 S hF hw (lv_sub hl [0, 1, 2, 3] rfl)
    · have hF := hF.trans (if_neg c19)
      refine lv_bipush (v := 6) hx hb dMO_close_137 (by decide) ?_
      refine lv_iload_n hx hb dMO_close_139 rfl (lv_at hl 1 rfl) ?_
      refine lv_imul hx hb dMO_close_140 ?_
      refine lv_iload hx hb dMO_close_141 (lv_at hl 3 rfl) ?_
      refine lv_iadd hx hb dMO_close_143 ?_
      refine lv_istore (lv' := [(5, .int ((6 * x1) + x4)), (0, .ref (ad 49)), (1, .int x1), (2, .long x2), (4, .int x4)]) hx hb dMO_close_144 hl (by decide) rfl (fun ls hl => ?_)
      refine lv_aload_n hx hb dMO_close_146 rfl (lv_at hl 1 rfl) ?_
      refine V_get B hw (v := .ref (ad 50)) (by decide) rfl rfl hin_MO 0 (by decide) rfl wm_234 rfl dMO_close_147 ?_
      refine lv_sipush (v := 780) hx hb dMO_close_150 (by decide) ?_
      refine lv_iload hx hb dMO_close_153 (lv_at hl 0 rfl) ?_
      refine lv_iadd hx hb dMO_close_155 ?_
      refine lv_aload_n hx hb dMO_close_156 rfl (lv_at hl 1 rfl) ?_
      refine lv_iload_n hx hb dMO_close_157 rfl (lv_at hl 2 rfl) ?_
      refine lv_iload hx hb dMO_close_158 (lv_at hl 4 rfl) ?_
      refine V_callV (rest := [.int (780 + ((6 * x1) + x4)), .ref (ad 50)]) B hi hw hA hl.1 (M_FMO_isItem l hi S x1 x4 (vc_FMO_close_pre160_20 S x1 x2 x4 hJ c19)) (cw_FMO_isItem (Nat.le_of_ble_eq_true rfl) (Nat.le_of_ble_eq_true rfl) (Nat.zero_le _) (Nat.zero_le _)) (by decide) rfl rfl wm_262 wm_263 wm_264 rfl (Nat.le_of_ble_eq_true rfl) dMO_close_160 (kI (fun H locs hw => ?_))
      refine lv_if_eq (tgt := 180) hx hb dMO_close_163 (by decide) (fun c21 => ?_) (fun c21 => ?_)
      · have hF := hF.trans (if_pos c21)
        refine lv_lconst (v := 0) hx hb dMO_close_180 (by decide) ?_
        refine V_last (j := (780 + ((6 * x1) + x4)).toNatClampNeg) B hw (by decide) rfl (vc_FMO_close_ix181_22 S x1 x2 x4 hJ c19 c21) rfl dMO_close_181 (fun H locs hw => ?_)
        refine lv_iinc (v := x4 + 1) (lv' := [(4, .int (x4 + 1)), (5, .int ((6 * x1) + x4)), (0, .ref (ad 49)), (1, .int x1), (2, .long x2)]) hx hb dMO_close_182 hl (k := 4) rfl rfl (by decide) rfl (fun ls hl => ?_)
        refine lv_goto (tgt := 120) hx hb dMO_close_185 (by decide) ?_
        exact ih (sL S 50 ((780 + ((6 * x1) + x4)).toNatClampNeg) 0) x1 x2 (x4 + 1) _ _ _ (vc_FMO_close_inv120_23 S x1 x2 x4 hJ c19 c21) (Nat.lt_of_lt_of_le (vc_FMO_close_mu120_24 S x1 x2 x4 hJ c19 c21) (Nat.le_of_lt_succ hmu)) hw (lv_sub hl [2, 3, 4, 0] rfl) (fun H locs ls y4 S' h hw hl => hexit H locs ls y4 S' (hF.trans h) hw hl)
      · have hF := hF.trans (if_neg c21)
        refine lv_aload_n hx hb dMO_close_166 rfl (lv_at hl 1 rfl) ?_
        refine V_get B hw (v := .ref (ad 50)) (by decide) rfl rfl hin_MO 0 (by decide) rfl wm_234 rfl dMO_close_167 ?_
        refine lv_sipush (v := 540) hx hb dMO_close_170 (by decide) ?_
        refine lv_iload hx hb dMO_close_173 (lv_at hl 0 rfl) ?_
        refine lv_iadd hx hb dMO_close_175 ?_
        refine V_lald (j := (540 + ((6 * x1) + x4)).toNatClampNeg) (v := S.2 50 ((540 + ((6 * x1) + x4)).toNatClampNeg)) B hw (by decide) rfl (vc_FMO_close_ix176_25 S x1 x2 x4 hJ c19 c21) rfl rfl dMO_close_176 ?_
        refine lv_goto (tgt := 181) hx hb dMO_close_177 (by decide) ?_
        refine V_last (j := (780 + ((6 * x1) + x4)).toNatClampNeg) B hw (by decide) rfl (vc_FMO_close_ix181_26 S x1 x2 x4 hJ c19 c21) rfl dMO_close_181 (fun H locs hw => ?_)
        refine lv_iinc (v := x4 + 1) (lv' := [(4, .int (x4 + 1)), (5, .int ((6 * x1) + x4)), (0, .ref (ad 49)), (1, .int x1), (2, .long x2)]) hx hb dMO_close_182 hl (k := 4) rfl rfl (by decide) rfl (fun ls hl => ?_)
        refine lv_goto (tgt := 120) hx hb dMO_close_185 (by decide) ?_
        exact ih (sL S 50 ((780 + ((6 * x1) + x4)).toNatClampNeg) (S.2 50 ((540 + ((6 * x1) + x4)).toNatClampNeg))) x1 x2 (x4 + 1) _ _ _ (vc_FMO_close_inv120_27 S x1 x2 x4 hJ c19 c21) (Nat.lt_of_lt_of_le (vc_FMO_close_mu120_28 S x1 x2 x4 hJ c19 c21) (Nat.le_of_lt_succ hmu)) hw (lv_sub hl [2, 3, 4, 0] rfl) (fun H locs ls y4 S' h hw hl => hexit H locs ls y4 S' (hF.trans h) hw hl)
theorem cw_FMO_close {R : Room} {cells slots : Nat} (h1 : 2 ≤ R.frames) (h2 : 48 ≤ R.locals) (h3 : cells ≤ R.cells) (h4 : slots ≤ R.slots) : Cw R cells slots yMO_close bMO_close 6 (some .int) ({ frames := 1, cells := 0, slots := 0, locals := 23 } : Room) 1 := ⟨wm_438, wm_426, by decide +kernel, ⟨rfl, rfl, h1, h2⟩, h3, h4⟩
set_option maxHeartbeats 4000000 in
set_option maxRecDepth 100000 in
theorem M_FMO_close (l : Launch) {ad : Nat → Nat} {cI cL : ClassId} {dC : Nat → ClassId} {dI : Nat → Nat → Nat} (hi : adI ad) (S : hS) (x1 : Int32) (hp : wfM S) : Mt l ad cI cL dC dI yMO_close bMO_close 6 (some .int) ({ frames := 1, cells := 0, slots := 0, locals := 23 } : Room) [.ref (ad 49), .int x1] S (pI (FMO_close S x1).1 (FMO_close S x1).2) := by
  refine Mt_of (own := RMO) hi (by decide) rfl (Nat.le_of_ble_eq_true rfl) ?_
  intro p e s m args below meth c ls B hr hlk hw hl
  obtain ⟨hx, hb, -, hown, hts, -, -⟩ := id B
  have hA : ∀ q, AA ad s.heap.size q → AA ad s.heap.size q := fun _ h => h
  have hl : lv_has ls 6 [(0, .ref (ad 49)), (1, .int x1)] := hl
  have hF := FMO_close_e S x1
  refine lv_aload_n hx hb dMO_close_0 rfl (lv_at hl 0 rfl) ?_
  refine lv_iconst (v := 0) hx hb dMO_close_1 (by decide) ?_
  refine V_putI (ty := .int) B hw (by decide) rfl rfl hin_MO tyMO_ok nmMO 4 (by decide) rfl wm_242 rfl (by decide +kernel) rfl rfl dMO_close_2 (fun H locs hw => ?_)
  refine lv_aload_n hx hb dMO_close_5 rfl (lv_at hl 0 rfl) ?_
  refine lv_iload_n hx hb dMO_close_6 rfl (lv_at hl 1 rfl) ?_
  refine V_callV (rest := []) B hi hw hA hl.1 (M_FMO_isEntry l hi (sI S 49 4 0) x1 (vc_FMO_close_pre7_1 S x1 hp)) (cw_FMO_isEntry (Nat.le_of_ble_eq_true rfl) (Nat.le_of_ble_eq_true rfl) (Nat.zero_le _) (Nat.zero_le _)) (by decide) rfl rfl wm_253 wm_254 wm_255 rfl (Nat.le_of_ble_eq_true rfl) dMO_close_7 (kI (fun H locs hw => ?_))
  refine lv_if_eq (tgt := 44) hx hb dMO_close_10 (by decide) (fun c2 => ?_) (fun c2 => ?_)
  · have hF := hF.trans (if_pos c2)
    refine lv_iconst (v := (-1)) hx hb dMO_close_44 (by decide) ?_
    exact V_iret B hr hlk hw (pI_of hF) dMO_close_45
  · have hF := hF.trans (if_neg c2)
    refine lv_aload_n hx hb dMO_close_13 rfl (lv_at hl 0 rfl) ?_
    refine V_get B hw (v := .ref (ad 50)) (by decide) rfl rfl hin_MO 0 (by decide) rfl wm_234 rfl dMO_close_14 ?_
    refine lv_sipush (v := 140) hx hb dMO_close_17 (by decide) ?_
    refine lv_iload_n hx hb dMO_close_20 rfl (lv_at hl 1 rfl) ?_
    refine lv_iadd hx hb dMO_close_21 ?_
    refine V_lald (j := (140 + x1).toNatClampNeg) (v := S.2 50 ((140 + x1).toNatClampNeg)) B hw (by decide) rfl (vc_FMO_close_ix22_3 S x1 hp c2) rfl (by first | rfl | simp [sI_1, sI_2, sL_1, sL_2]) dMO_close_22 ?_
    refine lv_lconst (v := 0) hx hb dMO_close_23 (by decide) ?_
    refine V_lgt (tgt := 44) B dMO_close_24 dMO_close_25 (by decide) (fun c4 => ?_) (fun c4 => ?_)
    · have hF := hF.trans (if_pos c4)
      refine lv_iconst (v := (-1)) hx hb dMO_close_44 (by decide) ?_
      exact V_iret B hr hlk hw (pI_of hF) dMO_close_45
    · have hF := hF.trans (if_neg c4)
      refine lv_aload_n hx hb dMO_close_28 rfl (lv_at hl 0 rfl) ?_
      refine lv_aload_n hx hb dMO_close_29 rfl (lv_at hl 0 rfl) ?_
      refine V_get B hw (v := .ref (ad 50)) (by decide) rfl rfl hin_MO 0 (by decide) rfl wm_234 rfl dMO_close_30 ?_
      refine lv_bipush (v := 100) hx hb dMO_close_33 (by decide) ?_
      refine lv_iload_n hx hb dMO_close_35 rfl (lv_at hl 1 rfl) ?_
      refine lv_iadd hx hb dMO_close_36 ?_
      refine V_lald (j := (100 + x1).toNatClampNeg) (v := S.2 50 ((100 + x1).toNatClampNeg)) B hw (by decide) rfl (vc_FMO_close_ix37_5 S x1 hp c2 c4) rfl (by first | rfl | simp [sI_1, sI_2, sL_1, sL_2]) dMO_close_37 ?_
      refine V_callV (rest := []) B hi hw hA hl.1 (M_FMO_isLate l hi (sI S 49 4 0) (S.2 50 ((100 + x1).toNatClampNeg)) (vc_FMO_close_pre38_6 S x1 hp c2 c4)) (cw_FMO_isLate (Nat.le_of_ble_eq_true rfl) (Nat.le_of_ble_eq_true rfl) (Nat.zero_le _) (Nat.zero_le _)) (by decide) rfl rfl wm_247 wm_248 wm_249 rfl (Nat.le_of_ble_eq_true rfl) dMO_close_38 (kI (fun H locs hw => ?_))
      refine lv_if_eq (tgt := 46) hx hb dMO_close_41 (by decide) (fun c7 => ?_) (fun c7 => ?_)
      · have hF := hF.trans (if_pos c7)
        refine lv_lconst (v := 0) hx hb dMO_close_46 (by decide) ?_
        refine lv_lstore_n (lv' := [(2, .long 0), (0, .ref (ad 49)), (1, .int x1)]) hx hb dMO_close_47 rfl hl (by decide) rfl (fun ls hl => ?_)
        refine lv_iconst (v := 0) hx hb dMO_close_48 (by decide) ?_
        refine lv_istore (lv' := [(4, .int 0), (2, .long 0), (0, .ref (ad 49)), (1, .int x1)]) hx hb dMO_close_49 hl (by decide) rfl (fun ls hl => ?_)
        refine LPMO_close_51 l hi B hr hlk hA 300 (sI S 49 4 0) x1 0 0 _ _ _ (vc_FMO_close_inv051_14 S x1 hp c2 c4 c7) (vc_FMO_close_mu051_15 S x1 hp c2 c4 c7) hw (lv_sub hl [2, 3, 1, 0] rfl) (fun H locs ls y13_2 y13_4 hq13 hw hl => ?_)
        rw [hq13] at hF; try dsimp only at hF
        refine lv_lload_n hx hb dMO_close_93 rfl (lv_at hl 2 rfl) ?_
        refine lv_lconst (v := 0) hx hb dMO_close_94 (by decide) ?_
        refine V_leq (tgt := 106) B dMO_close_95 dMO_close_96 (by decide) (fun c16 => ?_) (fun c16 => ?_)
        · have hF := hF.trans (if_pos c16)
          refine lv_aload_n hx hb dMO_close_106 rfl (lv_at hl 0 rfl) ?_
          refine V_get B hw (v := .ref (ad 50)) (by decide) rfl rfl hin_MO 0 (by decide) rfl wm_234 rfl dMO_close_107 ?_
          refine lv_sipush (v := 140) hx hb dMO_close_110 (by decide) ?_
          refine lv_iload_n hx hb dMO_close_113 rfl (lv_at hl 1 rfl) ?_
          refine lv_iadd hx hb dMO_close_114 ?_
          refine lv_lconst (v := 1) hx hb dMO_close_115 (by decide) ?_
          refine V_last (j := (140 + x1).toNatClampNeg) B hw (by decide) rfl (vc_FMO_close_ix116_17 S x1 hp c2 c4 c7 y13_2 y13_4 hq13 c16) rfl dMO_close_116 (fun H locs hw => ?_)
          refine lv_iconst (v := 0) hx hb dMO_close_117 (by decide) ?_
          refine lv_istore (lv' := [(4, .int 0), (0, .ref (ad 49)), (1, .int x1), (2, .long y13_2)]) hx hb dMO_close_118 hl (by decide) rfl (fun ls hl => ?_)
          refine LPMO_close_120 l hi B hr hlk hA 300 (sL (sI S 49 4 0) 50 ((140 + x1).toNatClampNeg) 1) x1 y13_2 0 _ _ _ (vc_FMO_close_inv0120_30 S x1 hp c2 c4 c7 y13_2 y13_4 hq13 c16) (vc_FMO_close_mu0120_31 S x1 hp c2 c4 c7 y13_2 y13_4 hq13 c16) hw (lv_sub hl [1, 2, 3, 0] rfl) (fun H locs ls y29_4 S29 hq29 hw hl => ?_)
          rw [hq29] at hF; try dsimp only at hF
          refine lv_aload_n hx hb dMO_close_188 rfl (lv_at hl 0 rfl) ?_
          refine V_get B hw (v := .ref (ad 50)) (by decide) rfl rfl hin_MO 0 (by decide) rfl wm_234 rfl dMO_close_189 ?_
          refine lv_sipush (v := 260) hx hb dMO_close_192 (by decide) ?_
          refine lv_iload_n hx hb dMO_close_195 rfl (lv_at hl 1 rfl) ?_
          refine lv_iadd hx hb dMO_close_196 ?_
          refine V_lald (j := (260 + x1).toNatClampNeg) (v := S29.2 50 ((260 + x1).toNatClampNeg)) B hw (by decide) rfl (vc_FMO_close_ix197_32 S x1 hp c2 c4 c7 y13_2 y13_4 hq13 c16 y29_4 S29 hq29) rfl rfl dMO_close_197 ?_
          refine lv_l2i hx hb dMO_close_198 rfl ?_
          exact V_iret B hr hlk hw (pI_of hF) dMO_close_199
        · have hF := hF.trans (if_neg c16)
          refine lv_aload_n hx hb dMO_close_99 rfl (lv_at hl 0 rfl) ?_
          refine lv_iconst (v := 1) hx hb dMO_close_100 (by decide) ?_
          refine V_putI (ty := .int) B hw (by decide) rfl rfl hin_MO tyMO_ok nmMO 4 (by decide) rfl wm_242 rfl (by decide +kernel) rfl rfl dMO_close_101 (fun H locs hw => ?_)
          refine lv_iconst (v := 0) hx hb dMO_close_104 (by decide) ?_
          exact V_iret B hr hlk hw (pI_of hF) dMO_close_105
      · have hF := hF.trans (if_neg c7)
        refine lv_iconst (v := (-1)) hx hb dMO_close_44 (by decide) ?_
        exact V_iret B hr hlk hw (pI_of hF) dMO_close_45
set_option maxHeartbeats 4000000 in
set_option maxRecDepth 100000 in
theorem LPMO_balance_27 (l : Launch) {ad : Nat → Nat} {cI cL : ClassId} {dC : Nat → ClassId} {dI : Nat → Nat → Nat} (hi : adI ad) {p : Program} {e : Env} {s : State} {m : MethodId} {args : Array Value} {below : List Frame} {meth : Method} {c : Code} {A : Nat → Prop} {post : Option Value → hS → Prop} (B : Bs p s m args c RMO bMO_balance 10 cI cL dC dI) (hr : meth.sig.returnType = (some .long)) (hlk : meth.locks = false) (hA : ∀ q, AA ad s.heap.size q → A q) : ∀ (n : Nat) (S : hS) (x1 : Int32) (x2 : Int64) (x4 : Int64) (x6 : Int32) (x7 : Int32) (H : Heap) (locs : List Loc) (ls : Array Slot), wfM S ∧ bt x7 6 ∧ rg x6 40 → ((6 - x7.toInt).toNat) < n → Wd ad cI cL dC dI A s.heap S H locs → lv_has ls 10 [(0, .ref (ad 49)), (1, .int x1), (2, .long x2), (4, .long x4), (6, .int x6), (7, .int x7)] → (∀ (H : Heap) (locs : List Loc) (ls : Array Slot) (y4 : Int64) (y7 : Int32), LMO_balance_27 n S x1 x2 x4 x6 x7 = (y4, y7) → Wd ad cI cL dC dI A s.heap S H locs → lv_has ls 10 [(0, .ref (ad 49)), (1, .int x1), (2, .long x2), (4, .long y4), (6, .int x6), (7, .int y7)] → W p l e ({ frames := 1, cells := 0, slots := 0, locals := 21 } : Room) s m args below meth c H locs 0 0 (MQ below (QcW ad cI cL dC dI post A) args s 0 0 A) (F0 m 149 ls [])) → W p l e ({ frames := 1, cells := 0, slots := 0, locals := 21 } : Room) s m args below meth c H locs 0 0 (MQ below (QcW ad cI cL dC dI post A) args s 0 0 A) (F0 m 27 ls []) := by
  intro n
  obtain ⟨hx, hb, -, hown, hts, -, -⟩ := id B
  induction n with
  | zero => exact fun S x1 x2 x4 x6 x7 H locs ls _ hmu => absurd hmu (Nat.not_lt_zero _)
  | succ n ih =>
    intro S x1 x2 x4 x6 x7 H locs ls hJ hmu hw hl hexit
    have hF := LMO_balance_27_s n S x1 x2 x4 x6 x7
    refine lv_iload hx hb dMO_balance_27 (lv_at hl 5 rfl) ?_
    refine lv_i2l hx hb dMO_balance_29 rfl ?_
    refine lv_aload_n hx hb dMO_balance_30 rfl (lv_at hl 0 rfl) ?_
    refine V_get B hw (v := .ref (ad 50)) (by decide) rfl rfl hin_MO 0 (by decide) rfl wm_234 rfl dMO_balance_31 ?_
    refine lv_sipush (v := 260) hx hb dMO_balance_34 (by decide) ?_
    refine lv_iload hx hb dMO_balance_37 (lv_at hl 4 rfl) ?_
    refine lv_iadd hx hb dMO_balance_39 ?_
    refine V_lald (j := (260 + x6).toNatClampNeg) (v := S.2 50 ((260 + x6).toNatClampNeg)) B hw (by decide) rfl (vc_FMO_balance_ix40_3 S x1 x2 x4 x6 x7 hJ) rfl rfl dMO_balance_40 ?_
    refine V_lge (tgt := 149) B dMO_balance_41 dMO_balance_42 (by decide) (fun c4 => ?_) (fun c4 => ?_)
    · have hF := hF.trans (if_pos c4)
      exact hexit _ _ _ x4 x7 hF hw (lv_sub hl [0, 1, 2, 3, 4, 5] rfl)
    · have hF := hF.trans (if_neg c4)
      refine lv_bipush (v := 6) hx hb dMO_balance_45 (by decide) ?_
      refine lv_iload hx hb dMO_balance_47 (lv_at hl 4 rfl) ?_
      refine lv_imul hx hb dMO_balance_49 ?_
      refine lv_iload hx hb dMO_balance_50 (lv_at hl 5 rfl) ?_
      refine lv_iadd hx hb dMO_balance_52 ?_
      refine lv_istore (lv' := [(8, .int ((6 * x6) + x7)), (0, .ref (ad 49)), (1, .int x1), (2, .long x2), (4, .long x4), (6, .int x6), (7, .int x7)]) hx hb dMO_balance_53 hl (by decide) rfl (fun ls hl => ?_)
      refine lv_aload_n hx hb dMO_balance_55 rfl (lv_at hl 1 rfl) ?_
      refine lv_iload_n hx hb dMO_balance_56 rfl (lv_at hl 2 rfl) ?_
      refine V_callV (rest := []) B hi hw hA hl.1 (M_FMO_isAccount l hi S x1 (vc_FMO_balance_pre57_5 S x1 x2 x4 x6 x7 hJ c4)) (cw_FMO_isAccount (Nat.le_of_ble_eq_true rfl) (Nat.le_of_ble_eq_true rfl) (Nat.zero_le _) (Nat.zero_le _)) (by decide) rfl rfl wm_235 wm_236 wm_237 rfl (Nat.le_of_ble_eq_true rfl) dMO_balance_57 (kI (fun H locs hw => ?_))
      refine lv_if_eq (tgt := 115) hx hb dMO_balance_60 (by decide) (fun c6 => ?_) (fun c6 => ?_)
      · have hF := hF.trans (if_pos c6)
        refine lv_iconst (v := 0) hx hb dMO_balance_115 (by decide) ?_
        refine lv_istore (lv' := [(9, .int 0), (8, .int ((6 * x6) + x7)), (0, .ref (ad 49)), (1, .int x1), (2, .long x2), (4, .long x4), (6, .int x6), (7, .int x7)]) hx hb dMO_balance_116 hl (by decide) rfl (fun ls hl => ?_)
        refine lv_lload hx hb dMO_balance_118 (lv_at hl 5 rfl) ?_
        refine lv_iload hx hb dMO_balance_120 (lv_at hl 0 rfl) ?_
        refine lv_if_eq (tgt := 139) hx hb dMO_balance_122 (by decide) (fun c => ?_) (fun c => absurd (by decide) c)
        refine lv_lconst (v := 0) hx hb dMO_balance_139 (by decide) ?_
        refine lv_ladd hx hb dMO_balance_140 ?_
        refine lv_lstore (lv' := [(4, .long (x4 + 0)), (9, .int 0), (8, .int ((6 * x6) + x7)), (0, .ref (ad 49)), (1, .int x1), (2, .long x2), (6, .int x6), (7, .int x7)]) hx hb dMO_balance_141 hl (by decide) rfl (fun ls hl => ?_)
        refine lv_iinc (v := x7 + 1) (lv' := [(7, .int (x7 + 1)), (4, .long (x4 + 0)), (9, .int 0), (8, .int ((6 * x6) + x7)), (0, .ref (ad 49)), (1, .int x1), (2, .long x2), (6, .int x6)]) hx hb dMO_balance_143 hl (k := 7) rfl rfl (by decide) rfl (fun ls hl => ?_)
        refine lv_goto (tgt := 27) hx hb dMO_balance_146 (by decide) ?_
        exact ih S x1 x2 (x4 + 0) x6 (x7 + 1) _ _ _ (vc_FMO_balance_inv27_7 S x1 x2 x4 x6 x7 hJ c4 c6) (Nat.lt_of_lt_of_le (vc_FMO_balance_mu27_8 S x1 x2 x4 x6 x7 hJ c4 c6) (Nat.le_of_lt_succ hmu)) hw (lv_sub hl [4, 5, 6, 1, 7, 0] rfl) (fun H locs ls y4 y7 h hw hl => hexit H locs ls y4 y7 (hF.trans h) hw hl)
      · have hF := hF.trans (if_neg c6)
        refine lv_aload_n hx hb dMO_balance_63 rfl (lv_at hl 1 rfl) ?_
        refine V_get B hw (v := .ref (ad 50)) (by decide) rfl rfl hin_MO 0 (by decide) rfl wm_234 rfl dMO_balance_64 ?_
        refine lv_sipush (v := 140) hx hb dMO_balance_67 (by decide) ?_
        refine lv_iload hx hb dMO_balance_70 (lv_at hl 5 rfl) ?_
        refine lv_iadd hx hb dMO_balance_72 ?_
        refine V_lald (j := (140 + x6).toNatClampNeg) (v := S.2 50 ((140 + x6).toNatClampNeg)) B hw (by decide) rfl (vc_FMO_balance_ix73_9 S x1 x2 x4 x6 x7 hJ c4 c6) rfl rfl dMO_balance_73 ?_
        refine lv_lconst (v := 0) hx hb dMO_balance_74 (by decide) ?_
        refine V_lle (tgt := 115) B dMO_balance_75 dMO_balance_76 (by decide) (fun c10 => ?_) (fun c10 => ?_)
        · have hF := hF.trans (if_pos c10)
          refine lv_iconst (v := 0) hx hb dMO_balance_115 (by decide) ?_
          refine lv_istore (lv' := [(9, .int 0), (8, .int ((6 * x6) + x7)), (0, .ref (ad 49)), (1, .int x1), (2, .long x2), (4, .long x4), (6, .int x6), (7, .int x7)]) hx hb dMO_balance_116 hl (by decide) rfl (fun ls hl => ?_)
          refine lv_lload hx hb dMO_balance_118 (lv_at hl 5 rfl) ?_
          refine lv_iload hx hb dMO_balance_120 (lv_at hl 0 rfl) ?_
          refine lv_if_eq (tgt := 139) hx hb dMO_balance_122 (by decide) (fun c => ?_) (fun c => absurd (by decide) c)
          refine lv_lconst (v := 0) hx hb dMO_balance_139 (by decide) ?_
          refine lv_ladd hx hb dMO_balance_140 ?_
          refine lv_lstore (lv' := [(4, .long (x4 + 0)), (9, .int 0), (8, .int ((6 * x6) + x7)), (0, .ref (ad 49)), (1, .int x1), (2, .long x2), (6, .int x6), (7, .int x7)]) hx hb dMO_balance_141 hl (by decide) rfl (fun ls hl => ?_)
          refine lv_iinc (v := x7 + 1) (lv' := [(7, .int (x7 + 1)), (4, .long (x4 + 0)), (9, .int 0), (8, .int ((6 * x6) + x7)), (0, .ref (ad 49)), (1, .int x1), (2, .long x2), (6, .int x6)]) hx hb dMO_balance_143 hl (k := 7) rfl rfl (by decide) rfl (fun ls hl => ?_)
          refine lv_goto (tgt := 27) hx hb dMO_balance_146 (by decide) ?_
          exact ih S x1 x2 (x4 + 0) x6 (x7 + 1) _ _ _ (vc_FMO_balance_inv27_11 S x1 x2 x4 x6 x7 hJ c4 c6 c10) (Nat.lt_of_lt_of_le (vc_FMO_balance_mu27_12 S x1 x2 x4 x6 x7 hJ c4 c6 c10) (Nat.le_of_lt_succ hmu)) hw (lv_sub hl [4, 5, 6, 1, 7, 0] rfl) (fun H locs ls y4 y7 h hw hl => hexit H locs ls y4 y7 (hF.trans h) hw hl)
        · have hF := hF.trans (if_neg c10)
          refine lv_aload_n hx hb dMO_balance_79 rfl (lv_at hl 1 rfl) ?_
          refine V_get B hw (v := .ref (ad 50)) (by decide) rfl rfl hin_MO 0 (by decide) rfl wm_234 rfl dMO_balance_80 ?_
          refine lv_bipush (v := 100) hx hb dMO_balance_83 (by decide) ?_
          refine lv_iload hx hb dMO_balance_85 (lv_at hl 5 rfl) ?_
          refine lv_iadd hx hb dMO_balance_87 ?_
          refine V_lald (j := (100 + x6).toNatClampNeg) (v := S.2 50 ((100 + x6).toNatClampNeg)) B hw (by decide) rfl (vc_FMO_balance_ix88_13 S x1 x2 x4 x6 x7 hJ c4 c6 c10) rfl rfl dMO_balance_88 ?_
          refine lv_lload_n hx hb dMO_balance_89 rfl (lv_at hl 3 rfl) ?_
          refine V_lgt (tgt := 115) B dMO_balance_90 dMO_balance_91 (by decide) (fun c14 => ?_) (fun c14 => ?_)
          · have hF := hF.trans (if_pos c14)
            refine lv_iconst (v := 0) hx hb dMO_balance_115 (by decide) ?_
            refine lv_istore (lv' := [(9, .int 0), (8, .int ((6 * x6) + x7)), (0, .ref (ad 49)), (1, .int x1), (2, .long x2), (4, .long x4), (6, .int x6), (7, .int x7)]) hx hb dMO_balance_116 hl (by decide) rfl (fun ls hl => ?_)
            refine lv_lload hx hb dMO_balance_118 (lv_at hl 5 rfl) ?_
            refine lv_iload hx hb dMO_balance_120 (lv_at hl 0 rfl) ?_
            refine lv_if_eq (tgt := 139) hx hb dMO_balance_122 (by decide) (fun c => ?_) (fun c => absurd (by decide) c)
            refine lv_lconst (v := 0) hx hb dMO_balance_139 (by decide) ?_
            refine lv_ladd hx hb dMO_balance_140 ?_
            refine lv_lstore (lv' := [(4, .long (x4 + 0)), (9, .int 0), (8, .int ((6 * x6) + x7)), (0, .ref (ad 49)), (1, .int x1), (2, .long x2), (6, .int x6), (7, .int x7)]) hx hb dMO_balance_141 hl (by decide) rfl (fun ls hl => ?_)
            refine lv_iinc (v := x7 + 1) (lv' := [(7, .int (x7 + 1)), (4, .long (x4 + 0)), (9, .int 0), (8, .int ((6 * x6) + x7)), (0, .ref (ad 49)), (1, .int x1), (2, .long x2), (6, .int x6)]) hx hb dMO_balance_143 hl (k := 7) rfl rfl (by decide) rfl (fun ls hl => ?_)
            refine lv_goto (tgt := 27) hx hb dMO_balance_146 (by decide) ?_
            exact ih S x1 x2 (x4 + 0) x6 (x7 + 1) _ _ _ (vc_FMO_balance_inv27_15 S x1 x2 x4 x6 x7 hJ c4 c6 c10 c14) (Nat.lt_of_lt_of_le (vc_FMO_balance_mu27_16 S x1 x2 x4 x6 x7 hJ c4 c6 c10 c14) (Nat.le_of_lt_succ hmu)) hw (lv_sub hl [4, 5, 6, 1, 7, 0] rfl) (fun H locs ls y4 y7 h hw hl => hexit H locs ls y4 y7 (hF.trans h) hw hl)
          · have hF := hF.trans (if_neg c14)
            refine lv_aload_n hx hb dMO_balance_94 rfl (lv_at hl 1 rfl) ?_
            refine V_get B hw (v := .ref (ad 50)) (by decide) rfl rfl hin_MO 0 (by decide) rfl wm_234 rfl dMO_balance_95 ?_
            refine lv_sipush (v := 300) hx hb dMO_balance_98 (by decide) ?_
            refine lv_iload hx hb dMO_balance_101 (lv_at hl 0 rfl) ?_
            refine lv_iadd hx hb dMO_balance_103 ?_
            refine V_lald (j := (300 + ((6 * x6) + x7)).toNatClampNeg) (v := S.2 50 ((300 + ((6 * x6) + x7)).toNatClampNeg)) B hw (by decide) rfl (vc_FMO_balance_ix104_17 S x1 x2 x4 x6 x7 hJ c4 c6 c10 c14) rfl rfl dMO_balance_104 ?_
            refine lv_iload_n hx hb dMO_balance_105 rfl (lv_at hl 2 rfl) ?_
            refine lv_i2l hx hb dMO_balance_106 rfl ?_
            refine V_lne (tgt := 115) B dMO_balance_107 dMO_balance_108 (by decide) (fun c18 => ?_) (fun c18 => ?_)
            · have hF := hF.trans (if_neg c18)
              refine lv_iconst (v := 0) hx hb dMO_balance_115 (by decide) ?_
              refine lv_istore (lv' := [(9, .int 0), (8, .int ((6 * x6) + x7)), (0, .ref (ad 49)), (1, .int x1), (2, .long x2), (4, .long x4), (6, .int x6), (7, .int x7)]) hx hb dMO_balance_116 hl (by decide) rfl (fun ls hl => ?_)
              refine lv_lload hx hb dMO_balance_118 (lv_at hl 5 rfl) ?_
              refine lv_iload hx hb dMO_balance_120 (lv_at hl 0 rfl) ?_
              refine lv_if_eq (tgt := 139) hx hb dMO_balance_122 (by decide) (fun c => ?_) (fun c => absurd (by decide) c)
              refine lv_lconst (v := 0) hx hb dMO_balance_139 (by decide) ?_
              refine lv_ladd hx hb dMO_balance_140 ?_
              refine lv_lstore (lv' := [(4, .long (x4 + 0)), (9, .int 0), (8, .int ((6 * x6) + x7)), (0, .ref (ad 49)), (1, .int x1), (2, .long x2), (6, .int x6), (7, .int x7)]) hx hb dMO_balance_141 hl (by decide) rfl (fun ls hl => ?_)
              refine lv_iinc (v := x7 + 1) (lv' := [(7, .int (x7 + 1)), (4, .long (x4 + 0)), (9, .int 0), (8, .int ((6 * x6) + x7)), (0, .ref (ad 49)), (1, .int x1), (2, .long x2), (6, .int x6)]) hx hb dMO_balance_143 hl (k := 7) rfl rfl (by decide) rfl (fun ls hl => ?_)
              refine lv_goto (tgt := 27) hx hb dMO_balance_146 (by decide) ?_
              exact ih S x1 x2 (x4 + 0) x6 (x7 + 1) _ _ _ (vc_FMO_balance_inv27_19 S x1 x2 x4 x6 x7 hJ c4 c6 c10 c14 c18) (Nat.lt_of_lt_of_le (vc_FMO_balance_mu27_20 S x1 x2 x4 x6 x7 hJ c4 c6 c10 c14 c18) (Nat.le_of_lt_succ hmu)) hw (lv_sub hl [4, 5, 6, 1, 7, 0] rfl) (fun H locs ls y4 y7 h hw hl => hexit H locs ls y4 y7 (hF.trans h) hw hl)
            · have hF := hF.trans (if_pos c18)
              refine lv_iconst (v := 1) hx hb dMO_balance_111 (by decide) ?_
              refine lv_goto (tgt := 116) hx hb dMO_balance_112 (by decide) ?_
              refine lv_istore (lv' := [(9, .int 1), (8, .int ((6 * x6) + x7)), (0, .ref (ad 49)), (1, .int x1), (2, .long x2), (4, .long x4), (6, .int x6), (7, .int x7)]) hx hb dMO_balance_116 hl (by decide) rfl (fun ls hl => ?_)
              refine lv_lload hx hb dMO_balance_118 (lv_at hl 5 rfl) ?_
              refine lv_iload hx hb dMO_balance_120 (lv_at hl 0 rfl) ?_
              refine lv_if_eq (tgt := 139) hx hb dMO_balance_122 (by decide) (fun c => absurd c (by decide)) (fun c => ?_)
              refine lv_aload_n hx hb dMO_balance_125 rfl (lv_at hl 2 rfl) ?_
              refine V_get B hw (v := .ref (ad 50)) (by decide) rfl rfl hin_MO 0 (by decide) rfl wm_234 rfl dMO_balance_126 ?_
              refine lv_sipush (v := 540) hx hb dMO_balance_129 (by decide) ?_
              refine lv_iload hx hb dMO_balance_132 (lv_at hl 1 rfl) ?_
              refine lv_iadd hx hb dMO_balance_134 ?_
              refine V_lald (j := (540 + ((6 * x6) + x7)).toNatClampNeg) (v := S.2 50 ((540 + ((6 * x6) + x7)).toNatClampNeg)) B hw (by decide) rfl (vc_FMO_balance_ix135_21 S x1 x2 x4 x6 x7 hJ c4 c6 c10 c14 c18) rfl rfl dMO_balance_135 ?_
              refine lv_goto (tgt := 140) hx hb dMO_balance_136 (by decide) ?_
              refine lv_ladd hx hb dMO_balance_140 ?_
              refine lv_lstore (lv' := [(4, .long (x4 + (S.2 50 ((540 + ((6 * x6) + x7)).toNatClampNeg)))), (9, .int 1), (8, .int ((6 * x6) + x7)), (0, .ref (ad 49)), (1, .int x1), (2, .long x2), (6, .int x6), (7, .int x7)]) hx hb dMO_balance_141 hl (by decide) rfl (fun ls hl => ?_)
              refine lv_iinc (v := x7 + 1) (lv' := [(7, .int (x7 + 1)), (4, .long (x4 + (S.2 50 ((540 + ((6 * x6) + x7)).toNatClampNeg)))), (9, .int 1), (8, .int ((6 * x6) + x7)), (0, .ref (ad 49)), (1, .int x1), (2, .long x2), (6, .int x6)]) hx hb dMO_balance_143 hl (k := 7) rfl rfl (by decide) rfl (fun ls hl => ?_)
              refine lv_goto (tgt := 27) hx hb dMO_balance_146 (by decide) ?_
              exact ih S x1 x2 (x4 + (S.2 50 ((540 + ((6 * x6) + x7)).toNatClampNeg))) x6 (x7 + 1) _ _ _ (vc_FMO_balance_inv27_22 S x1 x2 x4 x6 x7 hJ c4 c6 c10 c14 c18) (Nat.lt_of_lt_of_le (vc_FMO_balance_mu27_23 S x1 x2 x4 x6 x7 hJ c4 c6 c10 c14 c18) (Nat.le_of_lt_succ hmu)) hw (lv_sub hl [4, 5, 6, 1, 7, 0] rfl) (fun H locs ls y4 y7 h hw hl => hexit H locs ls y4 y7 (hF.trans h) hw hl)
set_option maxHeartbeats 4000000 in
set_option maxRecDepth 100000 in
theorem LPMO_balance_11 (l : Launch) {ad : Nat → Nat} {cI cL : ClassId} {dC : Nat → ClassId} {dI : Nat → Nat → Nat} (hi : adI ad) {p : Program} {e : Env} {s : State} {m : MethodId} {args : Array Value} {below : List Frame} {meth : Method} {c : Code} {A : Nat → Prop} {post : Option Value → hS → Prop} (B : Bs p s m args c RMO bMO_balance 10 cI cL dC dI) (hr : meth.sig.returnType = (some .long)) (hlk : meth.locks = false) (hA : ∀ q, AA ad s.heap.size q → A q) : ∀ (n : Nat) (S : hS) (x1 : Int32) (x2 : Int64) (x4 : Int64) (x6 : Int32) (H : Heap) (locs : List Loc) (ls : Array Slot), wfM S ∧ bt x6 40 → ((40 - x6.toInt).toNat) < n → Wd ad cI cL dC dI A s.heap S H locs → lv_has ls 10 [(0, .ref (ad 49)), (1, .int x1), (2, .long x2), (4, .long x4), (6, .int x6)] → (∀ (H : Heap) (locs : List Loc) (ls : Array Slot) (y4 : Int64) (y6 : Int32), LMO_balance_11 n S x1 x2 x4 x6 = (y4, y6) → Wd ad cI cL dC dI A s.heap S H locs → lv_has ls 10 [(0, .ref (ad 49)), (1, .int x1), (2, .long x2), (4, .long y4), (6, .int y6)] → W p l e ({ frames := 1, cells := 0, slots := 0, locals := 21 } : Room) s m args below meth c H locs 0 0 (MQ below (QcW ad cI cL dC dI post A) args s 0 0 A) (F0 m 155 ls [])) → W p l e ({ frames := 1, cells := 0, slots := 0, locals := 21 } : Room) s m args below meth c H locs 0 0 (MQ below (QcW ad cI cL dC dI post A) args s 0 0 A) (F0 m 11 ls []) := by
  intro n
  obtain ⟨hx, hb, -, hown, hts, -, -⟩ := id B
  induction n with
  | zero => exact fun S x1 x2 x4 x6 H locs ls _ hmu => absurd hmu (Nat.not_lt_zero _)
  | succ n ih =>
    intro S x1 x2 x4 x6 H locs ls hJ hmu hw hl hexit
    have hF := LMO_balance_11_s n S x1 x2 x4 x6
    refine lv_iload hx hb dMO_balance_11 (lv_at hl 4 rfl) ?_
    refine lv_i2l hx hb dMO_balance_13 rfl ?_
    refine lv_aload_n hx hb dMO_balance_14 rfl (lv_at hl 0 rfl) ?_
    refine V_get B hw (v := .ref (ad 50)) (by decide) rfl rfl hin_MO 0 (by decide) rfl wm_234 rfl dMO_balance_15 ?_
    refine lv_iconst (v := 1) hx hb dMO_balance_18 (by decide) ?_
    refine V_lald (j := 1) (v := S.2 50 1) B hw (by decide) rfl (vc_FMO_balance_ix19_1 S x1 x2 x4 x6 hJ) rfl rfl dMO_balance_19 ?_
    refine V_lge (tgt := 155) B dMO_balance_20 dMO_balance_21 (by decide) (fun c2 => ?_) (fun c2 => ?_)
    · have hF := hF.trans (if_pos c2)
      exact hexit _ _ _ x4 x6 hF hw (lv_sub hl [0, 1, 2, 3, 4] rfl)
    · have hF := hF.trans (if_neg c2)
      refine lv_iconst (v := 0) hx hb dMO_balance_24 (by decide) ?_
      refine lv_istore (lv' := [(7, .int 0), (0, .ref (ad 49)), (1, .int x1), (2, .long x2), (4, .long x4), (6, .int x6)]) hx hb dMO_balance_25 hl (by decide) rfl (fun ls hl => ?_)
      refine LPMO_balance_27 l hi B hr hlk hA 300 S x1 x2 x4 x6 0 _ _ _ (vc_FMO_balance_inv027_25 S x1 x2 x4 x6 hJ c2) (vc_FMO_balance_mu027_26 S x1 x2 x4 x6 hJ c2) hw (lv_sub hl [1, 2, 3, 4, 5, 0] rfl) (fun H locs ls y24_4 y24_7 hq24 hw hl => ?_)
      rw [hq24] at hF; try dsimp only at hF
      refine lv_iinc (v := x6 + 1) (lv' := [(6, .int (x6 + 1)), (0, .ref (ad 49)), (1, .int x1), (2, .long x2), (4, .long y24_4), (7, .int y24_7)]) hx hb dMO_balance_149 hl (k := 4) rfl rfl (by decide) rfl (fun ls hl => ?_)
      refine lv_goto (tgt := 11) hx hb dMO_balance_152 (by decide) ?_
      exact ih S x1 x2 y24_4 (x6 + 1) _ _ _ (vc_FMO_balance_inv11_27 S x1 x2 x4 x6 hJ c2 y24_4 y24_7 hq24) (Nat.lt_of_lt_of_le (vc_FMO_balance_mu11_28 S x1 x2 x4 x6 hJ c2 y24_4 y24_7 hq24) (Nat.le_of_lt_succ hmu)) hw (lv_sub hl [1, 2, 3, 4, 0] rfl) (fun H locs ls y4 y6 h hw hl => hexit H locs ls y4 y6 (hF.trans h) hw hl)
theorem cw_FMO_balance {R : Room} {cells slots : Nat} (h1 : 2 ≤ R.frames) (h2 : 50 ≤ R.locals) (h3 : cells ≤ R.cells) (h4 : slots ≤ R.slots) : Cw R cells slots yMO_balance bMO_balance 10 (some .long) ({ frames := 1, cells := 0, slots := 0, locals := 21 } : Room) 2 := ⟨wm_439, wm_426, by decide +kernel, ⟨rfl, rfl, h1, h2⟩, h3, h4⟩
set_option maxHeartbeats 4000000 in
set_option maxRecDepth 100000 in
theorem M_FMO_balance (l : Launch) {ad : Nat → Nat} {cI cL : ClassId} {dC : Nat → ClassId} {dI : Nat → Nat → Nat} (hi : adI ad) (S : hS) (x1 : Int32) (x2 : Int64) (hp : wfM S) : Mt l ad cI cL dC dI yMO_balance bMO_balance 10 (some .long) ({ frames := 1, cells := 0, slots := 0, locals := 21 } : Room) [.ref (ad 49), .int x1, .long x2] S (pL (FMO_balance S x1 x2).1 (FMO_balance S x1 x2).2) := by
  refine Mt_of (own := RMO) hi (by decide) rfl (Nat.le_of_ble_eq_true rfl) ?_
  intro p e s m args below meth c ls B hr hlk hw hl
  obtain ⟨hx, hb, -, hown, hts, -, -⟩ := id B
  have hA : ∀ q, AA ad s.heap.size q → AA ad s.heap.size q := fun _ h => h
  have hl : lv_has ls 10 [(0, .ref (ad 49)), (1, .int x1), (2, .long x2)] := hl
  have hF := FMO_balance_e S x1 x2
  refine lv_aload_n hx hb dMO_balance_0 rfl (lv_at hl 0 rfl) ?_
  refine lv_iconst (v := 0) hx hb dMO_balance_1 (by decide) ?_
  refine V_putI (ty := .int) B hw (by decide) rfl rfl hin_MO tyMO_ok nmMO 4 (by decide) rfl wm_242 rfl (by decide +kernel) rfl rfl dMO_balance_2 (fun H locs hw => ?_)
  refine lv_lconst (v := 0) hx hb dMO_balance_5 (by decide) ?_
  refine lv_lstore (lv' := [(4, .long 0), (0, .ref (ad 49)), (1, .int x1), (2, .long x2)]) hx hb dMO_balance_6 hl (by decide) rfl (fun ls hl => ?_)
  refine lv_iconst (v := 0) hx hb dMO_balance_8 (by decide) ?_
  refine lv_istore (lv' := [(6, .int 0), (4, .long 0), (0, .ref (ad 49)), (1, .int x1), (2, .long x2)]) hx hb dMO_balance_9 hl (by decide) rfl (fun ls hl => ?_)
  refine LPMO_balance_11 l hi B hr hlk hA 300 (sI S 49 4 0) x1 x2 0 0 _ _ _ (vc_FMO_balance_inv011_30 S x1 x2 hp) (vc_FMO_balance_mu011_31 S x1 x2 hp) hw (lv_sub hl [2, 3, 4, 1, 0] rfl) (fun H locs ls y29_4 y29_6 hq29 hw hl => ?_)
  rw [hq29] at hF; try dsimp only at hF
  refine lv_lload hx hb dMO_balance_155 (lv_at hl 3 rfl) ?_
  exact V_lret B hr hlk hw (pL_of hF) dMO_balance_157
