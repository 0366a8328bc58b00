theorem cw_FAC_mayStep {R : Room} {cells slots : Nat} (h1 : 1 ≤ R.frames) (h2 : 22 ≤ R.locals) (h3 : cells ≤ R.cells) (h4 : slots ≤ R.slots) : Cw R cells slots yAC_mayStep bAC_mayStep 3 (some .boolean) ({ frames := 0, cells := 0, slots := 0, locals := 0 } : Room) 2 := ⟨wm_385, wm_351, by decide +kernel, ⟨rfl, rfl, h1, h2⟩, h3, h4⟩
set_option maxHeartbeats 4000000 in
set_option maxRecDepth 100000 in
theorem M_FAC_mayStep (l : Launch) {ad : Nat → Nat} {cI cL : ClassId} {dC : Nat → ClassId} {dI : Nat → Nat → Nat} (hi : adI ad) (S : hS) (x1 : Int32) (x2 : Int32) (hp : wfC S ∧ rg x1 8) : Mt l ad cI cL dC dI yAC_mayStep bAC_mayStep 3 (some .boolean) ({ frames := 0, cells := 0, slots := 0, locals := 0 } : Room) [.ref (ad 2), .int x1, .int x2] S (pI (FAC_mayStep S x1 x2) S) := by
  refine Mt_of (own := RAC) hi (by decide) rfl (Nat.le_of_ble_eq_true rfl) ?_
  intro p e s m args below meth c ls B hr hlk hw hl
  obtain ⟨hx, hb, -, hown, hts, -, -⟩ := id B
  have hA : ∀ q, AA ad s.heap.size q → AA ad s.heap.size q := fun _ h => h
  have hl : lv_has ls 3 [(0, .ref (ad 2)), (1, .int x1), (2, .int x2)] := hl
  have hF := FAC_mayStep_e S x1 x2
  refine lv_iload_n hx hb dAC_mayStep_0 rfl (lv_at hl 2 rfl) ?_
  refine lv_i2l hx hb dAC_mayStep_1 rfl ?_
  refine lv_aload_n hx hb dAC_mayStep_2 rfl (lv_at hl 0 rfl) ?_
  refine V_get B hw (v := .ref (ad 6)) (by decide) rfl rfl hin_AC 4 (by decide) rfl wm_6 rfl dAC_mayStep_3 ?_
  refine lv_iload_n hx hb dAC_mayStep_6 rfl (lv_at hl 1 rfl) ?_
  refine V_lald (j := x1.toNatClampNeg) (v := S.2 6 x1.toNatClampNeg) B hw (by decide) rfl (vc_FAC_mayStep_ix7_1 S x1 x2 hp) rfl rfl dAC_mayStep_7 ?_
  refine V_llt (tgt := 26) B dAC_mayStep_8 dAC_mayStep_9 (by decide) (fun c2 => ?_) (fun c2 => ?_)
  · have hF := hF.trans (if_pos c2)
    refine lv_aload_n hx hb dAC_mayStep_26 rfl (lv_at hl 0 rfl) ?_
    refine V_get B hw (v := .ref (ad 4)) (by decide) rfl rfl hin_AC 2 (by decide) rfl wm_4 rfl dAC_mayStep_27 ?_
    refine lv_iload_n hx hb dAC_mayStep_30 rfl (lv_at hl 1 rfl) ?_
    refine V_iald (j := x1.toNatClampNeg) (v := S.1 4 x1.toNatClampNeg) B hw (by decide) rfl (vc_FAC_mayStep_ix31_3 S x1 x2 hp c2) rfl rfl dAC_mayStep_31 ?_
    refine lv_if_eq (tgt := 48) hx hb dAC_mayStep_32 (by decide) (fun c4 => ?_) (fun c4 => ?_)
    · have hF := hF.trans (if_pos c4)
      refine lv_iconst (v := 1) hx hb dAC_mayStep_48 (by decide) ?_
      refine lv_goto (tgt := 53) hx hb dAC_mayStep_49 (by decide) ?_
      exact V_zret B hr hlk hw (by decide) (pI_r hF) dAC_mayStep_53
    · have hF := hF.trans (if_neg c4)
      refine lv_iload_n hx hb dAC_mayStep_35 rfl (lv_at hl 2 rfl) ?_
      refine lv_aload_n hx hb dAC_mayStep_36 rfl (lv_at hl 0 rfl) ?_
      refine V_get B hw (v := .ref (ad 5)) (by decide) rfl rfl hin_AC 3 (by decide) rfl wm_5 rfl dAC_mayStep_37 ?_
      refine lv_iload_n hx hb dAC_mayStep_40 rfl (lv_at hl 1 rfl) ?_
      refine V_iald (j := x1.toNatClampNeg) (v := S.1 5 x1.toNatClampNeg) B hw (by decide) rfl (vc_FAC_mayStep_ix41_5 S x1 x2 hp c2 c4) rfl rfl dAC_mayStep_41 ?_
      refine lv_isub hx hb dAC_mayStep_42 ?_
      refine lv_bipush (v := 14) hx hb dAC_mayStep_43 (by decide) ?_
      refine lv_icmp_lt (tgt := 52) hx hb dAC_mayStep_45 (by decide) (fun c6 => ?_) (fun c6 => ?_)
      · have hF := hF.trans (if_pos c6)
        refine lv_iconst (v := 0) hx hb dAC_mayStep_52 (by decide) ?_
        exact V_zret B hr hlk hw (by decide) (pI_r hF) dAC_mayStep_53
      · have hF := hF.trans (if_neg c6)
        refine lv_iconst (v := 1) hx hb dAC_mayStep_48 (by decide) ?_
        refine lv_goto (tgt := 53) hx hb dAC_mayStep_49 (by decide) ?_
        exact V_zret B hr hlk hw (by decide) (pI_r hF) dAC_mayStep_53
  · have hF := hF.trans (if_neg c2)
    refine lv_iload_n hx hb dAC_mayStep_12 rfl (lv_at hl 2 rfl) ?_
    refine lv_i2l hx hb dAC_mayStep_13 rfl ?_
    refine lv_aload_n hx hb dAC_mayStep_14 rfl (lv_at hl 0 rfl) ?_
    refine V_get B hw (v := .ref (ad 7)) (by decide) rfl rfl hin_AC 5 (by decide) rfl wm_7 rfl dAC_mayStep_15 ?_
    refine lv_iload_n hx hb dAC_mayStep_18 rfl (lv_at hl 1 rfl) ?_
    refine V_lald (j := x1.toNatClampNeg) (v := S.2 7 x1.toNatClampNeg) B hw (by decide) rfl (vc_FAC_mayStep_ix19_7 S x1 x2 hp c2) rfl rfl dAC_mayStep_19 ?_
    refine V_lgt (tgt := 26) B dAC_mayStep_20 dAC_mayStep_21 (by decide) (fun c8 => ?_) (fun c8 => ?_)
    · have hF := hF.trans (if_pos c8)
      refine lv_aload_n hx hb dAC_mayStep_26 rfl (lv_at hl 0 rfl) ?_
      refine V_get B hw (v := .ref (ad 4)) (by decide) rfl rfl hin_AC 2 (by decide) rfl wm_4 rfl dAC_mayStep_27 ?_
      refine lv_iload_n hx hb dAC_mayStep_30 rfl (lv_at hl 1 rfl) ?_
      refine V_iald (j := x1.toNatClampNeg) (v := S.1 4 x1.toNatClampNeg) B hw (by decide) rfl (vc_FAC_mayStep_ix31_9 S x1 x2 hp c2 c8) rfl rfl dAC_mayStep_31 ?_
      refine lv_if_eq (tgt := 48) hx hb dAC_mayStep_32 (by decide) (fun c10 => ?_) (fun c10 => ?_)
      · have hF := hF.trans (if_pos c10)
        refine lv_iconst (v := 1) hx hb dAC_mayStep_48 (by decide) ?_
        refine lv_goto (tgt := 53) hx hb dAC_mayStep_49 (by decide) ?_
        exact V_zret B hr hlk hw (by decide) (pI_r hF) dAC_mayStep_53
      · have hF := hF.trans (if_neg c10)
        refine lv_iload_n hx hb dAC_mayStep_35 rfl (lv_at hl 2 rfl) ?_
        refine lv_aload_n hx hb dAC_mayStep_36 rfl (lv_at hl 0 rfl) ?_
        refine V_get B hw (v := .ref (ad 5)) (by decide) rfl rfl hin_AC 3 (by decide) rfl wm_5 rfl dAC_mayStep_37 ?_
        refine lv_iload_n hx hb dAC_mayStep_40 rfl (lv_at hl 1 rfl) ?_
        refine V_iald (j := x1.toNatClampNeg) (v := S.1 5 x1.toNatClampNeg) B hw (by decide) rfl (vc_FAC_mayStep_ix41_11 S x1 x2 hp c2 c8 c10) rfl rfl dAC_mayStep_41 ?_
        refine lv_isub hx hb dAC_mayStep_42 ?_
        refine lv_bipush (v := 14) hx hb dAC_mayStep_43 (by decide) ?_
        refine lv_icmp_lt (tgt := 52) hx hb dAC_mayStep_45 (by decide) (fun c12 => ?_) (fun c12 => ?_)
        · have hF := hF.trans (if_pos c12)
          refine lv_iconst (v := 0) hx hb dAC_mayStep_52 (by decide) ?_
          exact V_zret B hr hlk hw (by decide) (pI_r hF) dAC_mayStep_53
        · have hF := hF.trans (if_neg c12)
          refine lv_iconst (v := 1) hx hb dAC_mayStep_48 (by decide) ?_
          refine lv_goto (tgt := 53) hx hb dAC_mayStep_49 (by decide) ?_
          exact V_zret B hr hlk hw (by decide) (pI_r hF) dAC_mayStep_53
    · have hF := hF.trans (if_neg c8)
      refine lv_iconst (v := 0) hx hb dAC_mayStep_24 (by decide) ?_
      exact V_zret B hr hlk hw (by decide) (pI_r hF) dAC_mayStep_25
theorem cw_FAC_stepUp {R : Room} {cells slots : Nat} (h1 : 2 ≤ R.frames) (h2 : 37 ≤ R.locals) (h3 : cells ≤ R.cells) (h4 : slots ≤ R.slots) : Cw R cells slots yAC_stepUp bAC_stepUp 3 none ({ frames := 1, cells := 0, slots := 0, locals := 15 } : Room) 2 := ⟨wm_386, wm_351, by decide +kernel, ⟨rfl, rfl, h1, h2⟩, h3, h4⟩
set_option maxHeartbeats 4000000 in
set_option maxRecDepth 100000 in
theorem M_FAC_stepUp (l : Launch) {ad : Nat → Nat} {cI cL : ClassId} {dC : Nat → ClassId} {dI : Nat → Nat → Nat} (hi : adI ad) (S : hS) (x1 : Int32) (x2 : Int32) (hp : wfC S ∧ rg x1 8) : Mt l ad cI cL dC dI yAC_stepUp bAC_stepUp 3 none ({ frames := 1, cells := 0, slots := 0, locals := 15 } : Room) [.ref (ad 2), .int x1, .int x2] S (pV (FAC_stepUp S x1 x2)) := by
  refine Mt_of (own := RAC) hi (by decide) rfl (Nat.le_of_ble_eq_true rfl) ?_
  intro p e s m args below meth c ls B hr hlk hw hl
  obtain ⟨hx, hb, -, hown, hts, -, -⟩ := id B
  have hA : ∀ q, AA ad s.heap.size q → AA ad s.heap.size q := fun _ h => h
  have hl : lv_has ls 3 [(0, .ref (ad 2)), (1, .int x1), (2, .int x2)] := hl
  have hF := FAC_stepUp_e S x1 x2
  refine lv_aload_n hx hb dAC_stepUp_0 rfl (lv_at hl 0 rfl) ?_
  refine V_get B hw (v := .ref (ad 4)) (by decide) rfl rfl hin_AC 2 (by decide) rfl wm_4 rfl dAC_stepUp_1 ?_
  refine lv_iload_n hx hb dAC_stepUp_4 rfl (lv_at hl 1 rfl) ?_
  refine lv_iconst (v := 3) hx hb dAC_stepUp_5 (by decide) ?_
  refine lv_aload_n hx hb dAC_stepUp_6 rfl (lv_at hl 0 rfl) ?_
  refine V_get B hw (v := .ref (ad 4)) (by decide) rfl rfl hin_AC 2 (by decide) rfl wm_4 rfl dAC_stepUp_7 ?_
  refine lv_iload_n hx hb dAC_stepUp_10 rfl (lv_at hl 1 rfl) ?_
  refine V_iald (j := x1.toNatClampNeg) (v := S.1 4 x1.toNatClampNeg) B hw (by decide) rfl (vc_FAC_stepUp_ix11_1 S x1 x2 hp) rfl rfl dAC_stepUp_11 ?_
  refine lv_iconst (v := 1) hx hb dAC_stepUp_12 (by decide) ?_
  refine lv_iadd hx hb dAC_stepUp_13 ?_
  refine va_mmin hx hb (B.2.2.1.trans hl.1.symm) hown (hts _ wm_124) (hts _ wm_125) (hts _ wm_85) (hts _ wm_126) (Nat.le_of_ble_eq_true rfl) (Nat.le_of_ble_eq_true rfl) (Nat.zero_le _) (Nat.zero_le _) dAC_stepUp_14 ?_
  refine V_iast (j := x1.toNatClampNeg) B hw (by decide) rfl (vc_FAC_stepUp_ix17_2 S x1 x2 hp) rfl dAC_stepUp_17 (fun H locs hw => ?_)
  refine lv_aload_n hx hb dAC_stepUp_18 rfl (lv_at hl 0 rfl) ?_
  refine V_get B hw (v := .ref (ad 5)) (by decide) rfl rfl hin_AC 3 (by decide) rfl wm_5 rfl dAC_stepUp_19 ?_
  refine lv_iload_n hx hb dAC_stepUp_22 rfl (lv_at hl 1 rfl) ?_
  refine lv_iload_n hx hb dAC_stepUp_23 rfl (lv_at hl 2 rfl) ?_
  refine V_iast (j := x1.toNatClampNeg) B hw (by decide) rfl (vc_FAC_stepUp_ix24_3 S x1 x2 hp) rfl dAC_stepUp_24 (fun H locs hw => ?_)
  exact V_vret B hr hlk hw (pV_of hF) dAC_stepUp_25
theorem cw_FHL_dun {R : Room} {cells slots : Nat} (h1 : 4 ≤ R.frames) (h2 : 83 ≤ R.locals) (h3 : cells ≤ R.cells) (h4 : slots ≤ R.slots) : Cw R cells slots yHL_dun bHL_dun 4 (some .int) ({ frames := 3, cells := 0, slots := 0, locals := 60 } : Room) 2 := ⟨wm_387, wm_353, by decide +kernel, ⟨rfl, rfl, h1, h2⟩, h3, h4⟩
set_option maxHeartbeats 4000000 in
set_option maxRecDepth 100000 in
theorem M_FHL_dun (l : Launch) {ad : Nat → Nat} {cI cL : ClassId} {dC : Nat → ClassId} {dI : Nat → Nat → Nat} (hi : adI ad) (S : hS) (x1 : Int32) (x2 : Int64) (hp : wfC S) : Mt l ad cI cL dC dI yHL_dun bHL_dun 4 (some .int) ({ frames := 3, cells := 0, slots := 0, locals := 60 } : Room) [.ref (ad 0), .int x1, .long x2] S (pI (FHL_dun S x1 x2).1 (FHL_dun S x1 x2).2) := by
  refine Mt_of (own := RHL) hi (by decide) rfl (Nat.le_of_ble_eq_true rfl) ?_
  intro p e s m args below meth c ls B hr hlk hw hl
  obtain ⟨hx, hb, -, hown, hts, -, -⟩ := id B
  have hA : ∀ q, AA ad s.heap.size q → AA ad s.heap.size q := fun _ h => h
  have hl : lv_has ls 4 [(0, .ref (ad 0)), (1, .int x1), (2, .long x2)] := hl
  have hF := FHL_dun_e S x1 x2
  refine lv_aload_n hx hb dHL_dun_0 rfl (lv_at hl 0 rfl) ?_
  refine V_get B hw (v := .ref (ad 1)) (by decide) rfl rfl hin_HL 0 (by decide) rfl wm_0 rfl dHL_dun_1 ?_
  refine V_getN B hw (v := .ref (ad 2)) (by decide) rfl rfl hin_BO 0 (by decide) rfl wn_1 rfl dHL_dun_4 ?_
  refine lv_iload_n hx hb dHL_dun_7 rfl (lv_at hl 1 rfl) ?_
  refine V_callVN (rest := []) B hi hw hA hl.1 (M_FAC_hasHousehold l hi S x1 (vc_FHL_dun_pre8_1 S x1 x2 hp)) (cw_FAC_hasHousehold (Nat.le_of_ble_eq_true rfl) (Nat.le_of_ble_eq_true rfl) (Nat.zero_le _) (Nat.zero_le _)) (by decide) rfl rfl wn_79 wm_61 wm_62 rfl (Nat.le_of_ble_eq_true rfl) dHL_dun_8 (kI (fun H locs hw => ?_))
  refine lv_if_eq (tgt := 21) hx hb dHL_dun_11 (by decide) (fun c2 => ?_) (fun c2 => ?_)
  · have hF := hF.trans (if_pos c2)
    refine lv_iconst (v := (-1)) hx hb dHL_dun_21 (by decide) ?_
    exact V_iret B hr hlk hw (pI_of hF) dHL_dun_22
  · have hF := hF.trans (if_neg c2)
    refine lv_lload_n hx hb dHL_dun_14 rfl (lv_at hl 2 rfl) ?_
    refine V_callS (rest := []) B hi hw hA hl.1 (M_FHL_isDay l hi S x2) (cw_FHL_isDay (Nat.le_of_ble_eq_true rfl) (Nat.le_of_ble_eq_true rfl) (Nat.zero_le _) (Nat.zero_le _)) wm_68 wm_16 rfl (Nat.le_of_ble_eq_true rfl) dHL_dun_15 (kI (fun H locs hw => ?_))
    refine lv_if_ne (tgt := 23) hx hb dHL_dun_18 (by decide) (fun c3 => ?_) (fun c3 => ?_)
    · have hF := hF.trans (if_neg c3)
      refine lv_aload_n hx hb dHL_dun_23 rfl (lv_at hl 0 rfl) ?_
      refine V_get B hw (v := .ref (ad 1)) (by decide) rfl rfl hin_HL 0 (by decide) rfl wm_0 rfl dHL_dun_24 ?_
      refine V_getN B hw (v := .ref (ad 10)) (by decide) rfl rfl hin_BO 1 (by decide) rfl wn_22 rfl dHL_dun_27 ?_
      refine lv_iload_n hx hb dHL_dun_30 rfl (lv_at hl 1 rfl) ?_
      refine lv_lload_n hx hb dHL_dun_31 rfl (lv_at hl 2 rfl) ?_
      refine lv_l2i hx hb dHL_dun_32 rfl ?_
      refine V_callVN (rest := []) B hi hw hA hl.1 (M_FJO_isOverdue l hi S x1 x2.toInt32 (vc_FHL_dun_pre33_4 S x1 x2 hp c2 c3)) (cw_FJO_isOverdue (Nat.le_of_ble_eq_true rfl) (Nat.le_of_ble_eq_true rfl) (Nat.zero_le _) (Nat.zero_le _)) (by decide) rfl rfl wn_117 wm_118 wm_119 rfl (Nat.le_of_ble_eq_true rfl) dHL_dun_33 (kI (fun H locs hw => ?_))
      refine lv_if_ne (tgt := 55) hx hb dHL_dun_36 (by decide) (fun c5 => ?_) (fun c5 => ?_)
      · have hF := hF.trans (if_neg c5)
        refine lv_aload_n hx hb dHL_dun_55 rfl (lv_at hl 0 rfl) ?_
        refine V_get B hw (v := .ref (ad 1)) (by decide) rfl rfl hin_HL 0 (by decide) rfl wm_0 rfl dHL_dun_56 ?_
        refine V_getN B hw (v := .ref (ad 2)) (by decide) rfl rfl hin_BO 0 (by decide) rfl wn_1 rfl dHL_dun_59 ?_
        refine lv_iload_n hx hb dHL_dun_62 rfl (lv_at hl 1 rfl) ?_
        refine lv_lload_n hx hb dHL_dun_63 rfl (lv_at hl 2 rfl) ?_
        refine lv_l2i hx hb dHL_dun_64 rfl ?_
        refine V_callVN (rest := []) B hi hw hA hl.1 (M_FAC_mayStep l hi S x1 x2.toInt32 (vc_FHL_dun_pre65_6 S x1 x2 hp c2 c3 c5)) (cw_FAC_mayStep (Nat.le_of_ble_eq_true rfl) (Nat.le_of_ble_eq_true rfl) (Nat.zero_le _) (Nat.zero_le _)) (by decide) rfl rfl wn_120 wm_121 wm_122 rfl (Nat.le_of_ble_eq_true rfl) dHL_dun_65 (kI (fun H locs hw => ?_))
        refine lv_if_eq (tgt := 84) hx hb dHL_dun_68 (by decide) (fun c7 => ?_) (fun c7 => ?_)
        · have hF := hF.trans (if_pos c7)
          refine lv_aload_n hx hb dHL_dun_84 rfl (lv_at hl 0 rfl) ?_
          refine V_get B hw (v := .ref (ad 1)) (by decide) rfl rfl hin_HL 0 (by decide) rfl wm_0 rfl dHL_dun_85 ?_
          refine V_getN B hw (v := .ref (ad 2)) (by decide) rfl rfl hin_BO 0 (by decide) rfl wn_1 rfl dHL_dun_88 ?_
          refine V_getN B hw (v := .ref (ad 4)) (by decide) rfl rfl hin_AC 2 (by decide) rfl wn_123 rfl dHL_dun_91 ?_
          refine lv_iload_n hx hb dHL_dun_94 rfl (lv_at hl 1 rfl) ?_
          refine V_iald (j := x1.toNatClampNeg) (v := S.1 4 x1.toNatClampNeg) B hw (by decide) rfl (vc_FHL_dun_ix95_8 S x1 x2 hp c2 c3 c5 c7) rfl rfl dHL_dun_95 ?_
          exact V_iret B hr hlk hw (pI_of hF) dHL_dun_96
        · have hF := hF.trans (if_neg c7)
          refine lv_aload_n hx hb dHL_dun_71 rfl (lv_at hl 0 rfl) ?_
          refine V_get B hw (v := .ref (ad 1)) (by decide) rfl rfl hin_HL 0 (by decide) rfl wm_0 rfl dHL_dun_72 ?_
          refine V_getN B hw (v := .ref (ad 2)) (by decide) rfl rfl hin_BO 0 (by decide) rfl wn_1 rfl dHL_dun_75 ?_
          refine lv_iload_n hx hb dHL_dun_78 rfl (lv_at hl 1 rfl) ?_
          refine lv_lload_n hx hb dHL_dun_79 rfl (lv_at hl 2 rfl) ?_
          refine lv_l2i hx hb dHL_dun_80 rfl ?_
          refine V_callVN (rest := []) B hi hw hA hl.1 (M_FAC_stepUp l hi S x1 x2.toInt32 (vc_FHL_dun_pre81_9 S x1 x2 hp c2 c3 c5 c7)) (cw_FAC_stepUp (Nat.le_of_ble_eq_true rfl) (Nat.le_of_ble_eq_true rfl) (Nat.zero_le _) (Nat.zero_le _)) (by decide) rfl rfl wn_127 wm_128 wm_129 rfl (Nat.le_of_ble_eq_true rfl) dHL_dun_81 (kV (fun H locs hw => ?_))
          refine lv_aload_n hx hb dHL_dun_84 rfl (lv_at hl 0 rfl) ?_
          refine V_get B hw (v := .ref (ad 1)) (by decide) rfl rfl hin_HL 0 (by decide) rfl wm_0 rfl dHL_dun_85 ?_
          refine V_getN B hw (v := .ref (ad 2)) (by decide) rfl rfl hin_BO 0 (by decide) rfl wn_1 rfl dHL_dun_88 ?_
          refine V_getN B hw (v := .ref (ad 4)) (by decide) rfl rfl hin_AC 2 (by decide) rfl wn_123 rfl dHL_dun_91 ?_
          refine lv_iload_n hx hb dHL_dun_94 rfl (lv_at hl 1 rfl) ?_
          refine V_iald (j := x1.toNatClampNeg) (v := (FAC_stepUp S x1 x2.toInt32).1 4 x1.toNatClampNeg) B hw (by decide) rfl (vc_FHL_dun_ix95_10 S x1 x2 hp c2 c3 c5 c7) rfl rfl dHL_dun_95 ?_
          exact V_iret B hr hlk hw (pI_of hF) dHL_dun_96
      · have hF := hF.trans (if_pos c5)
        refine lv_aload_n hx hb dHL_dun_39 rfl (lv_at hl 0 rfl) ?_
        refine V_get B hw (v := .ref (ad 1)) (by decide) rfl rfl hin_HL 0 (by decide) rfl wm_0 rfl dHL_dun_40 ?_
        refine V_getN B hw (v := .ref (ad 2)) (by decide) rfl rfl hin_BO 0 (by decide) rfl wn_1 rfl dHL_dun_43 ?_
        refine V_getN B hw (v := .ref (ad 4)) (by decide) rfl rfl hin_AC 2 (by decide) rfl wn_123 rfl dHL_dun_46 ?_
        refine lv_iload_n hx hb dHL_dun_49 rfl (lv_at hl 1 rfl) ?_
        refine lv_iconst (v := 0) hx hb dHL_dun_50 (by decide) ?_
        refine V_iast (j := x1.toNatClampNeg) B hw (by decide) rfl (vc_FHL_dun_ix51_11 S x1 x2 hp c2 c3 c5) rfl dHL_dun_51 (fun H locs hw => ?_)
        refine lv_goto (tgt := 84) hx hb dHL_dun_52 (by decide) ?_
        refine lv_aload_n hx hb dHL_dun_84 rfl (lv_at hl 0 rfl) ?_
        refine V_get B hw (v := .ref (ad 1)) (by decide) rfl rfl hin_HL 0 (by decide) rfl wm_0 rfl dHL_dun_85 ?_
        refine V_getN B hw (v := .ref (ad 2)) (by decide) rfl rfl hin_BO 0 (by decide) rfl wn_1 rfl dHL_dun_88 ?_
        refine V_getN B hw (v := .ref (ad 4)) (by decide) rfl rfl hin_AC 2 (by decide) rfl wn_123 rfl dHL_dun_91 ?_
        refine lv_iload_n hx hb dHL_dun_94 rfl (lv_at hl 1 rfl) ?_
        refine V_iald (j := x1.toNatClampNeg) (v := 0) B hw (by decide) rfl (vc_FHL_dun_ix95_12 S x1 x2 hp c2 c3 c5) rfl (by first | rfl | simp [sI_1, sI_2, sL_1, sL_2]) dHL_dun_95 ?_
        exact V_iret B hr hlk hw (pI_of hF) dHL_dun_96
    · have hF := hF.trans (if_pos c3)
      refine lv_iconst (v := (-1)) hx hb dHL_dun_21 (by decide) ?_
      exact V_iret B hr hlk hw (pI_of hF) dHL_dun_22
theorem cw_FHL_hardship {R : Room} {cells slots : Nat} (h1 : 3 ≤ R.frames) (h2 : 67 ≤ R.locals) (h3 : cells ≤ R.cells) (h4 : slots ≤ R.slots) : Cw R cells slots yHL_hardship bHL_hardship 6 (some .boolean) ({ frames := 2, cells := 0, slots := 0, locals := 42 } : Room) 3 := ⟨wm_388, wm_353, by decide +kernel, ⟨rfl, rfl, h1, h2⟩, h3, h4⟩
set_option maxHeartbeats 4000000 in
set_option maxRecDepth 100000 in
theorem M_FHL_hardship (l : Launch) {ad : Nat → Nat} {cI cL : ClassId} {dC : Nat → ClassId} {dI : Nat → Nat → Nat} (hi : adI ad) (S : hS) (x1 : Int32) (x2 : Int64) (x4 : Int64) (hp : wfC S) : Mt l ad cI cL dC dI yHL_hardship bHL_hardship 6 (some .boolean) ({ frames := 2, cells := 0, slots := 0, locals := 42 } : Room) [.ref (ad 0), .int x1, .long x2, .long x4] S (pI (FHL_hardship S x1 x2 x4).1 (FHL_hardship S x1 x2 x4).2) := by
  refine Mt_of (own := RHL) hi (by decide) rfl (Nat.le_of_ble_eq_true rfl) ?_
  intro p e s m args below meth c ls B hr hlk hw hl
  obtain ⟨hx, hb, -, hown, hts, -, -⟩ := id B
  have hA : ∀ q, AA ad s.heap.size q → AA ad s.heap.size q := fun _ h => h
  have hl : lv_has ls 6 [(0, .ref (ad 0)), (1, .int x1), (2, .long x2), (4, .long x4)] := hl
  have hF := FHL_hardship_e S x1 x2 x4
  refine lv_aload_n hx hb dHL_hardship_0 rfl (lv_at hl 0 rfl) ?_
  refine V_get B hw (v := .ref (ad 1)) (by decide) rfl rfl hin_HL 0 (by decide) rfl wm_0 rfl dHL_hardship_1 ?_
  refine V_getN B hw (v := .ref (ad 2)) (by decide) rfl rfl hin_BO 0 (by decide) rfl wn_1 rfl dHL_hardship_4 ?_
  refine lv_iload_n hx hb dHL_hardship_7 rfl (lv_at hl 1 rfl) ?_
  refine V_callVN (rest := []) B hi hw hA hl.1 (M_FAC_hasHousehold l hi S x1 (vc_FHL_hardship_pre8_1 S x1 x2 x4 hp)) (cw_FAC_hasHousehold (Nat.le_of_ble_eq_true rfl) (Nat.le_of_ble_eq_true rfl) (Nat.zero_le _) (Nat.zero_le _)) (by decide) rfl rfl wn_79 wm_61 wm_62 rfl (Nat.le_of_ble_eq_true rfl) dHL_hardship_8 (kI (fun H locs hw => ?_))
  refine lv_if_eq (tgt := 21) hx hb dHL_hardship_11 (by decide) (fun c2 => ?_) (fun c2 => ?_)
  · have hF := hF.trans (if_pos c2)
    refine lv_iconst (v := 0) hx hb dHL_hardship_21 (by decide) ?_
    exact V_zret B hr hlk hw (by decide) (pI_of hF) dHL_hardship_22
  · have hF := hF.trans (if_neg c2)
    refine lv_lload_n hx hb dHL_hardship_14 rfl (lv_at hl 2 rfl) ?_
    refine lv_lload hx hb dHL_hardship_15 (lv_at hl 3 rfl) ?_
    refine V_lle (tgt := 23) B dHL_hardship_17 dHL_hardship_18 (by decide) (fun c3 => ?_) (fun c3 => ?_)
    · have hF := hF.trans (if_pos c3)
      refine lv_aload_n hx hb dHL_hardship_23 rfl (lv_at hl 0 rfl) ?_
      refine V_get B hw (v := .ref (ad 1)) (by decide) rfl rfl hin_HL 0 (by decide) rfl wm_0 rfl dHL_hardship_24 ?_
      refine V_getN B hw (v := .ref (ad 2)) (by decide) rfl rfl hin_BO 0 (by decide) rfl wn_1 rfl dHL_hardship_27 ?_
      refine V_getN B hw (v := .ref (ad 6)) (by decide) rfl rfl hin_AC 4 (by decide) rfl wn_130 rfl dHL_hardship_30 ?_
      refine lv_iload_n hx hb dHL_hardship_33 rfl (lv_at hl 1 rfl) ?_
      refine lv_lload_n hx hb dHL_hardship_34 rfl (lv_at hl 2 rfl) ?_
      refine V_last (j := x1.toNatClampNeg) B hw (by decide) rfl (vc_FHL_hardship_ix35_4 S x1 x2 x4 hp c2 c3) rfl dHL_hardship_35 (fun H locs hw => ?_)
      refine lv_aload_n hx hb dHL_hardship_36 rfl (lv_at hl 0 rfl) ?_
      refine V_get B hw (v := .ref (ad 1)) (by decide) rfl rfl hin_HL 0 (by decide) rfl wm_0 rfl dHL_hardship_37 ?_
      refine V_getN B hw (v := .ref (ad 2)) (by decide) rfl rfl hin_BO 0 (by decide) rfl wn_1 rfl dHL_hardship_40 ?_
      refine V_getN B hw (v := .ref (ad 7)) (by decide) rfl rfl hin_AC 5 (by decide) rfl wn_131 rfl dHL_hardship_43 ?_
      refine lv_iload_n hx hb dHL_hardship_46 rfl (lv_at hl 1 rfl) ?_
      refine lv_lload hx hb dHL_hardship_47 (lv_at hl 3 rfl) ?_
      refine V_last (j := x1.toNatClampNeg) B hw (by decide) rfl (vc_FHL_hardship_ix49_5 S x1 x2 x4 hp c2 c3) rfl dHL_hardship_49 (fun H locs hw => ?_)
      refine lv_iconst (v := 1) hx hb dHL_hardship_50 (by decide) ?_
      exact V_zret B hr hlk hw (by decide) (pI_of hF) dHL_hardship_51
    · have hF := hF.trans (if_neg c3)
      refine lv_iconst (v := 0) hx hb dHL_hardship_21 (by decide) ?_
      exact V_zret B hr hlk hw (by decide) (pI_of hF) dHL_hardship_22
set_option maxHeartbeats 4000000 in
set_option maxRecDepth 100000 in
theorem LPJO_dueOf_14 (l : Launch) {ad : Nat → Nat} {cI cL : ClassId} {dC : Nat → ClassId} {dI : Nat → Nat → Nat} (hi : adI ad) {p : Program} {e : Env} {s : State} {m : MethodId} {args : Array Value} {below : List Frame} {meth : Method} {c : Code} {A : Nat → Prop} {post : Option Value → hS → Prop} (B : Bs p s m args c RJO bJO_dueOf 7 cI cL dC dI) (hr : meth.sig.returnType = (some .long)) (hlk : meth.locks = false) (hA : ∀ q, AA ad s.heap.size q → A q) : ∀ (n : Nat) (S : hS) (x1 : Int32) (x2 : Int64) (x4 : Int32) (x5 : Int32) (H : Heap) (locs : List Loc) (ls : Array Slot), wfC S ∧ lp x5 x4 → ((x4.toInt - x5.toInt).toNat) < n → Wd ad cI cL dC dI A s.heap S H locs → lv_has ls 7 [(0, .ref (ad 10)), (1, .int x1), (2, .long x2), (4, .int x4), (5, .int x5)] → (∀ (H : Heap) (locs : List Loc) (ls : Array Slot) (y2 : Int64) (y5 : Int32), LJO_dueOf_14 n S x1 x2 x4 x5 = (y2, y5) → Wd ad cI cL dC dI A s.heap S H locs → lv_has ls 7 [(0, .ref (ad 10)), (1, .int x1), (2, .long y2), (4, .int x4), (5, .int y5)] → W p l e ({ frames := 1, cells := 0, slots := 0, locals := 25 } : Room) s m args below meth c H locs 0 0 (MQ below (QcW ad cI cL dC dI post A) args s 0 0 A) (F0 m 52 ls [])) → W p l e ({ frames := 1, cells := 0, slots := 0, locals := 25 } : Room) s m args below meth c H locs 0 0 (MQ below (QcW ad cI cL dC dI post A) args s 0 0 A) (F0 m 14 ls []) := by
  intro n
  obtain ⟨hx, hb, -, hown, hts, -, -⟩ := id B
  induction n with
  | zero => exact fun S x1 x2 x4 x5 H locs ls _ hmu => absurd hmu (Nat.not_lt_zero _)
  | succ n ih =>
    intro S x1 x2 x4 x5 H locs ls hJ hmu hw hl hexit
    have hF := LJO_dueOf_14_s n S x1 x2 x4 x5
    refine lv_iload hx hb dJO_dueOf_14 (lv_at hl 4 rfl) ?_
    refine lv_iload hx hb dJO_dueOf_16 (lv_at hl 3 rfl) ?_
    refine lv_icmp_ge (tgt := 52) hx hb dJO_dueOf_18 (by decide) (fun c1 => ?_) (fun c1 => ?_)
    · have hF := hF.trans (if_pos c1)
      exact hexit _ _ _ x2 x5 hF hw (lv_sub hl [0, 1, 2, 3, 4] rfl)
    · have hF := hF.trans (if_neg c1)
      refine lv_aload_n hx hb dJO_dueOf_21 rfl (lv_at hl 0 rfl) ?_
      refine lv_iload hx hb dJO_dueOf_22 (lv_at hl 4 rfl) ?_
      refine lv_iload_n hx hb dJO_dueOf_24 rfl (lv_at hl 1 rfl) ?_
      refine V_callV (rest := []) B hi hw hA hl.1 (M_FJO_itemAt l hi S x5 x1 (vc_FJO_dueOf_pre25_2 S x1 x2 x4 x5 hJ c1)) (cw_FJO_itemAt (Nat.le_of_ble_eq_true rfl) (Nat.le_of_ble_eq_true rfl) (Nat.zero_le _) (Nat.zero_le _)) (by decide) rfl rfl wm_80 wm_81 wm_82 rfl (Nat.le_of_ble_eq_true rfl) dJO_dueOf_25 (kI (fun H locs hw => ?_))
      refine lv_istore (lv' := [(6, .int (FJO_itemAt S x5 x1)), (0, .ref (ad 10)), (1, .int x1), (2, .long x2), (4, .int x4), (5, .int x5)]) hx hb dJO_dueOf_28 hl (by decide) rfl (fun ls hl => ?_)
      refine lv_iload hx hb dJO_dueOf_30 (lv_at hl 0 rfl) ?_
      refine lv_iconst (v := (-1)) hx hb dJO_dueOf_32 (by decide) ?_
      refine lv_icmp_eq (tgt := 46) hx hb dJO_dueOf_33 (by decide) (fun c3 => ?_) (fun c3 => ?_)
      · have hF := hF.trans (if_pos c3)
        refine lv_iinc (v := x5 + 1) (lv' := [(5, .int (x5 + 1)), (6, .int (FJO_itemAt S x5 x1)), (0, .ref (ad 10)), (1, .int x1), (2, .long x2), (4, .int x4)]) hx hb dJO_dueOf_46 hl (k := 5) rfl rfl (by decide) rfl (fun ls hl => ?_)
        refine lv_goto (tgt := 14) hx hb dJO_dueOf_49 (by decide) ?_
        exact ih S x1 x2 x4 (x5 + 1) _ _ _ (vc_FJO_dueOf_inv14_4 S x1 x2 x4 x5 hJ c1 c3) (Nat.lt_of_lt_of_le (vc_FJO_dueOf_mu14_5 S x1 x2 x4 x5 hJ c1 c3) (Nat.le_of_lt_succ hmu)) hw (lv_sub hl [2, 3, 4, 5, 0] rfl) (fun H locs ls y2 y5 h hw hl => hexit H locs ls y2 y5 (hF.trans h) hw hl)
      · have hF := hF.trans (if_neg c3)
        refine lv_lload_n hx hb dJO_dueOf_36 rfl (lv_at hl 3 rfl) ?_
        refine lv_aload_n hx hb dJO_dueOf_37 rfl (lv_at hl 1 rfl) ?_
        refine V_get B hw (v := .ref (ad 17)) (by decide) rfl rfl hin_JO 7 (by decide) rfl wm_44 rfl dJO_dueOf_38 ?_
        refine lv_iload hx hb dJO_dueOf_41 (lv_at hl 0 rfl) ?_
        refine V_lald (j := (FJO_itemAt S x5 x1).toNatClampNeg) (v := S.2 17 ((FJO_itemAt S x5 x1).toNatClampNeg)) B hw (by decide) rfl (vc_FJO_dueOf_ix43_6 S x1 x2 x4 x5 hJ c1 c3) rfl rfl dJO_dueOf_43 ?_
        refine lv_ladd hx hb dJO_dueOf_44 ?_
        refine lv_lstore_n (lv' := [(2, .long (x2 + (S.2 17 ((FJO_itemAt S x5 x1).toNatClampNeg)))), (6, .int (FJO_itemAt S x5 x1)), (0, .ref (ad 10)), (1, .int x1), (4, .int x4), (5, .int x5)]) hx hb dJO_dueOf_45 rfl hl (by decide) rfl (fun ls hl => ?_)
        refine lv_iinc (v := x5 + 1) (lv' := [(5, .int (x5 + 1)), (2, .long (x2 + (S.2 17 ((FJO_itemAt S x5 x1).toNatClampNeg)))), (6, .int (FJO_itemAt S x5 x1)), (0, .ref (ad 10)), (1, .int x1), (4, .int x4)]) hx hb dJO_dueOf_46 hl (k := 5) rfl rfl (by decide) rfl (fun ls hl => ?_)
        refine lv_goto (tgt := 14) hx hb dJO_dueOf_49 (by decide) ?_
        exact ih S x1 (x2 + (S.2 17 ((FJO_itemAt S x5 x1).toNatClampNeg))) x4 (x5 + 1) _ _ _ (vc_FJO_dueOf_inv14_7 S x1 x2 x4 x5 hJ c1 c3) (Nat.lt_of_lt_of_le (vc_FJO_dueOf_mu14_8 S x1 x2 x4 x5 hJ c1 c3) (Nat.le_of_lt_succ hmu)) hw (lv_sub hl [3, 4, 1, 5, 0] rfl) (fun H locs ls y2 y5 h hw hl => hexit H locs ls y2 y5 (hF.trans h) hw hl)
theorem cw_FJO_dueOf {R : Room} {cells slots : Nat} (h1 : 2 ≤ R.frames) (h2 : 51 ≤ R.locals) (h3 : cells ≤ R.cells) (h4 : slots ≤ R.slots) : Cw R cells slots yJO_dueOf bJO_dueOf 7 (some .long) ({ frames := 1, cells := 0, slots := 0, locals := 25 } : Room) 1 := ⟨wm_389, wm_358, by decide +kernel, ⟨rfl, rfl, h1, h2⟩, h3, h4⟩
set_option maxHeartbeats 4000000 in
set_option maxRecDepth 100000 in
theorem M_FJO_dueOf (l : Launch) {ad : Nat → Nat} {cI cL : ClassId} {dC : Nat → ClassId} {dI : Nat → Nat → Nat} (hi : adI ad) (S : hS) (x1 : Int32) (hp : wfC S) : Mt l ad cI cL dC dI yJO_dueOf bJO_dueOf 7 (some .long) ({ frames := 1, cells := 0, slots := 0, locals := 25 } : Room) [.ref (ad 10), .int x1] S (pL (FJO_dueOf S x1) S) := by
  refine Mt_of (own := RJO) hi (by decide) rfl (Nat.le_of_ble_eq_true rfl) ?_
  intro p e s m args below meth c ls B hr hlk hw hl
  obtain ⟨hx, hb, -, hown, hts, -, -⟩ := id B
  have hA : ∀ q, AA ad s.heap.size q → AA ad s.heap.size q := fun _ h => h
  have hl : lv_has ls 7 [(0, .ref (ad 10)), (1, .int x1)] := hl
  have hF := FJO_dueOf_e S x1
  refine lv_lconst (v := 0) hx hb dJO_dueOf_0 (by decide) ?_
  refine lv_lstore_n (lv' := [(2, .long 0), (0, .ref (ad 10)), (1, .int x1)]) hx hb dJO_dueOf_1 rfl hl (by decide) rfl (fun ls hl => ?_)
  refine lv_aload_n hx hb dJO_dueOf_2 rfl (lv_at hl 1 rfl) ?_
  refine V_get B hw (v := .int (S.1 10 0)) (by decide) rfl rfl hin_JO 0 (by decide) rfl wm_23 rfl dJO_dueOf_3 ?_
  refine lv_bipush (v := 6) hx hb dJO_dueOf_6 (by decide) ?_
  refine lv_imul hx hb dJO_dueOf_8 ?_
  refine lv_istore (lv' := [(4, .int ((S.1 10 0) * 6)), (2, .long 0), (0, .ref (ad 10)), (1, .int x1)]) hx hb dJO_dueOf_9 hl (by decide) rfl (fun ls hl => ?_)
  refine lv_iconst (v := 0) hx hb dJO_dueOf_11 (by decide) ?_
  refine lv_istore (lv' := [(5, .int 0), (4, .int ((S.1 10 0) * 6)), (2, .long 0), (0, .ref (ad 10)), (1, .int x1)]) hx hb dJO_dueOf_12 hl (by decide) rfl (fun ls hl => ?_)
  refine LPJO_dueOf_14 l hi B hr hlk hA 300 S x1 0 ((S.1 10 0) * 6) 0 _ _ _ (vc_FJO_dueOf_inv014_10 S x1 hp) (vc_FJO_dueOf_mu014_11 S x1 hp) hw (lv_sub hl [3, 4, 2, 1, 0] rfl) (fun H locs ls y9_2 y9_5 hq9 hw hl => ?_)
  rw [hq9] at hF; try dsimp only at hF
  refine lv_lload_n hx hb dJO_dueOf_52 rfl (lv_at hl 2 rfl) ?_
  exact V_lret B hr hlk hw (pL_r hF) dJO_dueOf_53
theorem cw_FPL_add {R : Room} {cells slots : Nat} (h1 : 1 ≤ R.frames) (h2 : 24 ≤ R.locals) (h3 : cells ≤ R.cells) (h4 : slots ≤ R.slots) : Cw R cells slots yPL_add bPL_add 5 (some .int) ({ frames := 0, cells := 0, slots := 0, locals := 0 } : Room) 2 := ⟨wm_390, wm_391, by decide +kernel, ⟨rfl, rfl, h1, h2⟩, h3, h4⟩
set_option maxHeartbeats 4000000 in
set_option maxRecDepth 100000 in
theorem M_FPL_add (l : Launch) {ad : Nat → Nat} {cI cL : ClassId} {dC : Nat → ClassId} {dI : Nat → Nat → Nat} (hi : adI ad) (S : hS) (x1 : Int64) (x3 : Int32) (hp : wfC S) : Mt l ad cI cL dC dI yPL_add bPL_add 5 (some .int) ({ frames := 0, cells := 0, slots := 0, locals := 0 } : Room) [.ref (ad 20), .long x1, .int x3] S (pI (FPL_add S x1 x3).1 (FPL_add S x1 x3).2) := by
  refine Mt_of (own := RPL) hi (by decide) rfl (Nat.le_of_ble_eq_true rfl) ?_
  intro p e s m args below meth c ls B hr hlk hw hl
  obtain ⟨hx, hb, -, hown, hts, -, -⟩ := id B
  have hA : ∀ q, AA ad s.heap.size q → AA ad s.heap.size q := fun _ h => h
  have hl : lv_has ls 5 [(0, .ref (ad 20)), (1, .long x1), (3, .int x3)] := hl
  have hF := FPL_add_e S x1 x3
  refine lv_aload_n hx hb dPL_add_0 rfl (lv_at hl 0 rfl) ?_
  refine V_get B hw (v := .int (S.1 20 0)) (by decide) rfl rfl hin_PL 0 (by decide) rfl wm_136 rfl dPL_add_1 ?_
  refine lv_bipush (v := 10) hx hb dPL_add_4 (by decide) ?_
  refine lv_icmp_ge (tgt := 14) hx hb dPL_add_6 (by decide) (fun c1 => ?_) (fun c1 => ?_)
  · have hF := hF.trans (if_pos c1)
    refine lv_iconst (v := (-1)) hx hb dPL_add_14 (by decide) ?_
    exact V_iret B hr hlk hw (pI_of hF) dPL_add_15
  · have hF := hF.trans (if_neg c1)
    refine lv_iload_n hx hb dPL_add_9 rfl (lv_at hl 2 rfl) ?_
    refine lv_iconst (v := 1) hx hb dPL_add_10 (by decide) ?_
    refine lv_icmp_ge (tgt := 16) hx hb dPL_add_11 (by decide) (fun c2 => ?_) (fun c2 => ?_)
    · have hF := hF.trans (if_pos c2)
      refine lv_aload_n hx hb dPL_add_16 rfl (lv_at hl 0 rfl) ?_
      refine V_get B hw (v := .int (S.1 20 0)) (by decide) rfl rfl hin_PL 0 (by decide) rfl wm_136 rfl dPL_add_17 ?_
      refine lv_istore (lv' := [(4, .int (S.1 20 0)), (0, .ref (ad 20)), (1, .long x1), (3, .int x3)]) hx hb dPL_add_20 hl (by decide) rfl (fun ls hl => ?_)
      refine lv_aload_n hx hb dPL_add_22 rfl (lv_at hl 1 rfl) ?_
      refine V_get B hw (v := .ref (ad 21)) (by decide) rfl rfl hin_PL 1 (by decide) rfl wm_137 rfl dPL_add_23 ?_
      refine lv_iload hx hb dPL_add_26 (lv_at hl 0 rfl) ?_
      refine lv_iload_n hx hb dPL_add_28 rfl (lv_at hl 3 rfl) ?_
      refine V_iast (j := (S.1 20 0).toNatClampNeg) B hw (by decide) rfl (vc_FPL_add_ix29_3 S x1 x3 hp c1 c2) rfl dPL_add_29 (fun H locs hw => ?_)
      refine lv_aload_n hx hb dPL_add_30 rfl (lv_at hl 1 rfl) ?_
      refine V_get B hw (v := .ref (ad 22)) (by decide) rfl rfl hin_PL 2 (by decide) rfl wm_138 rfl dPL_add_31 ?_
      refine lv_iload hx hb dPL_add_34 (lv_at hl 0 rfl) ?_
      refine lv_lload_n hx hb dPL_add_36 rfl (lv_at hl 2 rfl) ?_
      refine lv_iload_n hx hb dPL_add_37 rfl (lv_at hl 3 rfl) ?_
      refine lv_i2l hx hb dPL_add_38 rfl ?_
      refine lv_ldiv hx hb dPL_add_39 (vc_FPL_add_nz39_4 S x1 x3 hp c1 c2) ?_
      refine V_last (j := (S.1 20 0).toNatClampNeg) B hw (by decide) rfl (vc_FPL_add_ix40_5 S x1 x3 hp c1 c2) rfl dPL_add_40 (fun H locs hw => ?_)
      refine lv_aload_n hx hb dPL_add_41 rfl (lv_at hl 1 rfl) ?_
      refine V_get B hw (v := .ref (ad 23)) (by decide) rfl rfl hin_PL 3 (by decide) rfl wm_139 rfl dPL_add_42 ?_
      refine lv_iload hx hb dPL_add_45 (lv_at hl 0 rfl) ?_
      refine lv_lload_n hx hb dPL_add_47 rfl (lv_at hl 2 rfl) ?_
      refine lv_iload_n hx hb dPL_add_48 rfl (lv_at hl 3 rfl) ?_
      refine lv_i2l hx hb dPL_add_49 rfl ?_
      refine lv_lrem hx hb dPL_add_50 (vc_FPL_add_nz50_6 S x1 x3 hp c1 c2) ?_
      refine V_last (j := (S.1 20 0).toNatClampNeg) B hw (by decide) rfl (vc_FPL_add_ix51_7 S x1 x3 hp c1 c2) rfl dPL_add_51 (fun H locs hw => ?_)
      refine lv_aload_n hx hb dPL_add_52 rfl (lv_at hl 1 rfl) ?_
      refine lv_dup hx hb dPL_add_53 rfl ?_
      refine V_get B hw (v := .int (S.1 20 0)) (by decide) rfl rfl hin_PL 0 (by decide) rfl wm_136 rfl dPL_add_54 ?_
      refine lv_iconst (v := 1) hx hb dPL_add_57 (by decide) ?_
      refine lv_iadd hx hb dPL_add_58 ?_
      refine V_putI (ty := .int) B hw (by decide) rfl rfl hin_PL tyPL_ok nmPL 0 (by decide) rfl wm_136 rfl (by decide +kernel) rfl rfl dPL_add_59 (fun H locs hw => ?_)
      refine lv_iload hx hb dPL_add_62 (lv_at hl 0 rfl) ?_
      exact V_iret B hr hlk hw (pI_of hF) dPL_add_64
    · have hF := hF.trans (if_neg c2)
      refine lv_iconst (v := (-1)) hx hb dPL_add_14 (by decide) ?_
      exact V_iret B hr hlk hw (pI_of hF) dPL_add_15
theorem cw_FHL_instal {R : Room} {cells slots : Nat} (h1 : 3 ≤ R.frames) (h2 : 75 ≤ R.locals) (h3 : cells ≤ R.cells) (h4 : slots ≤ R.slots) : Cw R cells slots yHL_instal bHL_instal 5 (some .int) ({ frames := 2, cells := 0, slots := 0, locals := 51 } : Room) 2 := ⟨wm_392, wm_353, by decide +kernel, ⟨rfl, rfl, h1, h2⟩, h3, h4⟩
set_option maxHeartbeats 4000000 in
set_option maxRecDepth 100000 in
theorem M_FHL_instal (l : Launch) {ad : Nat → Nat} {cI cL : ClassId} {dC : Nat → ClassId} {dI : Nat → Nat → Nat} (hi : adI ad) (S : hS) (x1 : Int32) (x2 : Int32) (hp : wfC S) : Mt l ad cI cL dC dI yHL_instal bHL_instal 5 (some .int) ({ frames := 2, cells := 0, slots := 0, locals := 51 } : Room) [.ref (ad 0), .int x1, .int x2] S (pI (FHL_instal S x1 x2).1 (FHL_instal S x1 x2).2) := by
  refine Mt_of (own := RHL) hi (by decide) rfl (Nat.le_of_ble_eq_true rfl) ?_
  intro p e s m args below meth c ls B hr hlk hw hl
  obtain ⟨hx, hb, -, hown, hts, -, -⟩ := id B
  have hA : ∀ q, AA ad s.heap.size q → AA ad s.heap.size q := fun _ h => h
  have hl : lv_has ls 5 [(0, .ref (ad 0)), (1, .int x1), (2, .int x2)] := hl
  have hF := FHL_instal_e S x1 x2
  refine lv_aload_n hx hb dHL_instal_0 rfl (lv_at hl 0 rfl) ?_
  refine V_get B hw (v := .ref (ad 1)) (by decide) rfl rfl hin_HL 0 (by decide) rfl wm_0 rfl dHL_instal_1 ?_
  refine V_getN B hw (v := .ref (ad 2)) (by decide) rfl rfl hin_BO 0 (by decide) rfl wn_1 rfl dHL_instal_4 ?_
  refine lv_iload_n hx hb dHL_instal_7 rfl (lv_at hl 1 rfl) ?_
  refine V_callVN (rest := []) B hi hw hA hl.1 (M_FAC_hasHousehold l hi S x1 (vc_FHL_instal_pre8_1 S x1 x2 hp)) (cw_FAC_hasHousehold (Nat.le_of_ble_eq_true rfl) (Nat.le_of_ble_eq_true rfl) (Nat.zero_le _) (Nat.zero_le _)) (by decide) rfl rfl wn_79 wm_61 wm_62 rfl (Nat.le_of_ble_eq_true rfl) dHL_instal_8 (kI (fun H locs hw => ?_))
  refine lv_if_eq (tgt := 25) hx hb dHL_instal_11 (by decide) (fun c2 => ?_) (fun c2 => ?_)
  · have hF := hF.trans (if_pos c2)
    refine lv_iconst (v := (-1)) hx hb dHL_instal_25 (by decide) ?_
    exact V_iret B hr hlk hw (pI_of hF) dHL_instal_26
  · have hF := hF.trans (if_neg c2)
    refine lv_iload_n hx hb dHL_instal_14 rfl (lv_at hl 2 rfl) ?_
    refine lv_iconst (v := 1) hx hb dHL_instal_15 (by decide) ?_
    refine lv_icmp_lt (tgt := 25) hx hb dHL_instal_16 (by decide) (fun c3 => ?_) (fun c3 => ?_)
    · have hF := hF.trans (if_pos c3)
      refine lv_iconst (v := (-1)) hx hb dHL_instal_25 (by decide) ?_
      exact V_iret B hr hlk hw (pI_of hF) dHL_instal_26
    · have hF := hF.trans (if_neg c3)
      refine lv_iload_n hx hb dHL_instal_19 rfl (lv_at hl 2 rfl) ?_
      refine lv_bipush (v := 24) hx hb dHL_instal_20 (by decide) ?_
      refine lv_icmp_le (tgt := 27) hx hb dHL_instal_22 (by decide) (fun c4 => ?_) (fun c4 => ?_)
      · have hF := hF.trans (if_pos c4)
        refine lv_aload_n hx hb dHL_instal_27 rfl (lv_at hl 0 rfl) ?_
        refine V_get B hw (v := .ref (ad 1)) (by decide) rfl rfl hin_HL 0 (by decide) rfl wm_0 rfl dHL_instal_28 ?_
        refine V_getN B hw (v := .ref (ad 10)) (by decide) rfl rfl hin_BO 1 (by decide) rfl wn_22 rfl dHL_instal_31 ?_
        refine lv_iload_n hx hb dHL_instal_34 rfl (lv_at hl 1 rfl) ?_
        refine V_callVN (rest := []) B hi hw hA hl.1 (M_FJO_dueOf l hi S x1 (vc_FHL_instal_pre35_5 S x1 x2 hp c2 c3 c4)) (cw_FJO_dueOf (Nat.le_of_ble_eq_true rfl) (Nat.le_of_ble_eq_true rfl) (Nat.zero_le _) (Nat.zero_le _)) (by decide) rfl rfl wn_132 wm_133 wm_134 rfl (Nat.le_of_ble_eq_true rfl) dHL_instal_35 (kL (fun H locs hw => ?_))
        refine lv_lstore_n (lv' := [(3, .long (FJO_dueOf S x1)), (0, .ref (ad 0)), (1, .int x1), (2, .int x2)]) hx hb dHL_instal_38 rfl hl (by decide) rfl (fun ls hl => ?_)
        refine lv_lload_n hx hb dHL_instal_39 rfl (lv_at hl 0 rfl) ?_
        refine lv_lconst (v := 0) hx hb dHL_instal_40 (by decide) ?_
        refine V_lne (tgt := 49) B dHL_instal_41 dHL_instal_42 (by decide) (fun c6 => ?_) (fun c6 => ?_)
        · have hF := hF.trans (if_neg c6)
          refine lv_aload_n hx hb dHL_instal_49 rfl (lv_at hl 1 rfl) ?_
          refine V_get B hw (v := .ref (ad 1)) (by decide) rfl rfl hin_HL 0 (by decide) rfl wm_0 rfl dHL_instal_50 ?_
          refine V_getN B hw (v := .ref (ad 20)) (by decide) rfl rfl hin_BO 2 (by decide) rfl wn_135 rfl dHL_instal_53 ?_
          refine lv_lload_n hx hb dHL_instal_56 rfl (lv_at hl 0 rfl) ?_
          refine lv_iload_n hx hb dHL_instal_57 rfl (lv_at hl 3 rfl) ?_
          rcases hq8 : FPL_add S (FJO_dueOf S x1) x2 with ⟨v8, S8⟩
          rw [hq8] at hF; try dsimp only at hF
          refine V_callVN (post := pI v8 S8) (rest := []) B hi hw hA hl.1 (by have h := M_FPL_add (cI := cI) (cL := cL) (dC := dC) (dI := dI) l hi S (FJO_dueOf S x1) x2 (vc_FHL_instal_pre58_7 S x1 x2 hp c2 c3 c4 c6); rw [hq8] at h; exact h) (cw_FPL_add (Nat.le_of_ble_eq_true rfl) (Nat.le_of_ble_eq_true rfl) (Nat.zero_le _) (Nat.zero_le _)) (by decide) rfl rfl wn_140 wm_141 wm_142 rfl (Nat.le_of_ble_eq_true rfl) dHL_instal_58 (kI (fun H locs hw => ?_))
          exact V_iret B hr hlk hw (pI_of hF) dHL_instal_61
        · have hF := hF.trans (if_pos c6)
          refine lv_iconst (v := (-1)) hx hb dHL_instal_45 (by decide) ?_
          refine lv_goto (tgt := 61) hx hb dHL_instal_46 (by decide) ?_
          exact V_iret B hr hlk hw (pI_of hF) dHL_instal_61
      · have hF := hF.trans (if_neg c4)
        refine lv_iconst (v := (-1)) hx hb dHL_instal_25 (by decide) ?_
        exact V_iret B hr hlk hw (pI_of hF) dHL_instal_26
theorem cw_FPL_partOf {R : Room} {cells slots : Nat} (h1 : 1 ≤ R.frames) (h2 : 22 ≤ R.locals) (h3 : cells ≤ R.cells) (h4 : slots ≤ R.slots) : Cw R cells slots yPL_partOf bPL_partOf 3 (some .long) ({ frames := 0, cells := 0, slots := 0, locals := 0 } : Room) 2 := ⟨wm_393, wm_391, by decide +kernel, ⟨rfl, rfl, h1, h2⟩, h3, h4⟩
set_option maxHeartbeats 4000000 in
set_option maxRecDepth 100000 in
theorem M_FPL_partOf (l : Launch) {ad : Nat → Nat} {cI cL : ClassId} {dC : Nat → ClassId} {dI : Nat → Nat → Nat} (hi : adI ad) (S : hS) (x1 : Int32) (x2 : Int32) (hp : wfC S) : Mt l ad cI cL dC dI yPL_partOf bPL_partOf 3 (some .long) ({ frames := 0, cells := 0, slots := 0, locals := 0 } : Room) [.ref (ad 20), .int x1, .int x2] S (pL (FPL_partOf S x1 x2) S) := by
  refine Mt_of (own := RPL) hi (by decide) rfl (Nat.le_of_ble_eq_true rfl) ?_
  intro p e s m args below meth c ls B hr hlk hw hl
  obtain ⟨hx, hb, -, hown, hts, -, -⟩ := id B
  have hA : ∀ q, AA ad s.heap.size q → AA ad s.heap.size q := fun _ h => h
  have hl : lv_has ls 3 [(0, .ref (ad 20)), (1, .int x1), (2, .int x2)] := hl
  have hF := FPL_partOf_e S x1 x2
  refine lv_iload_n hx hb dPL_partOf_0 rfl (lv_at hl 1 rfl) ?_
  refine lv_if_lt (tgt := 26) hx hb dPL_partOf_1 (by decide) (fun c1 => ?_) (fun c1 => ?_)
  · have hF := hF.trans (if_pos c1)
    refine lv_ldc2 (v := (-1)) hx hb hown (hts _ wm_143) dPL_partOf_26 ?_
    exact V_lret B hr hlk hw (pL_r hF) dPL_partOf_29
  · have hF := hF.trans (if_neg c1)
    refine lv_iload_n hx hb dPL_partOf_4 rfl (lv_at hl 1 rfl) ?_
    refine lv_aload_n hx hb dPL_partOf_5 rfl (lv_at hl 0 rfl) ?_
    refine V_get B hw (v := .int (S.1 20 0)) (by decide) rfl rfl hin_PL 0 (by decide) rfl wm_136 rfl dPL_partOf_6 ?_
    refine lv_icmp_ge (tgt := 26) hx hb dPL_partOf_9 (by decide) (fun c2 => ?_) (fun c2 => ?_)
    · have hF := hF.trans (if_pos c2)
      refine lv_ldc2 (v := (-1)) hx hb hown (hts _ wm_143) dPL_partOf_26 ?_
      exact V_lret B hr hlk hw (pL_r hF) dPL_partOf_29
    · have hF := hF.trans (if_neg c2)
      refine lv_iload_n hx hb dPL_partOf_12 rfl (lv_at hl 2 rfl) ?_
      refine lv_if_lt (tgt := 26) hx hb dPL_partOf_13 (by decide) (fun c3 => ?_) (fun c3 => ?_)
      · have hF := hF.trans (if_pos c3)
        refine lv_ldc2 (v := (-1)) hx hb hown (hts _ wm_143) dPL_partOf_26 ?_
        exact V_lret B hr hlk hw (pL_r hF) dPL_partOf_29
      · have hF := hF.trans (if_neg c3)
        refine lv_iload_n hx hb dPL_partOf_16 rfl (lv_at hl 2 rfl) ?_
        refine lv_aload_n hx hb dPL_partOf_17 rfl (lv_at hl 0 rfl) ?_
        refine V_get B hw (v := .ref (ad 21)) (by decide) rfl rfl hin_PL 1 (by decide) rfl wm_137 rfl dPL_partOf_18 ?_
        refine lv_iload_n hx hb dPL_partOf_21 rfl (lv_at hl 1 rfl) ?_
        refine V_iald (j := x1.toNatClampNeg) (v := S.1 21 x1.toNatClampNeg) B hw (by decide) rfl (vc_FPL_partOf_ix22_4 S x1 x2 hp c1 c2 c3) rfl rfl dPL_partOf_22 ?_
        refine lv_icmp_lt (tgt := 30) hx hb dPL_partOf_23 (by decide) (fun c5 => ?_) (fun c5 => ?_)
        · have hF := hF.trans (if_pos c5)
          refine lv_iload_n hx hb dPL_partOf_30 rfl (lv_at hl 2 rfl) ?_
          refine lv_i2l hx hb dPL_partOf_31 rfl ?_
          refine lv_aload_n hx hb dPL_partOf_32 rfl (lv_at hl 0 rfl) ?_
          refine V_get B hw (v := .ref (ad 23)) (by decide) rfl rfl hin_PL 3 (by decide) rfl wm_139 rfl dPL_partOf_33 ?_
          refine lv_iload_n hx hb dPL_partOf_36 rfl (lv_at hl 1 rfl) ?_
          refine V_lald (j := x1.toNatClampNeg) (v := S.2 23 x1.toNatClampNeg) B hw (by decide) rfl (vc_FPL_partOf_ix37_6 S x1 x2 hp c1 c2 c3 c5) rfl rfl dPL_partOf_37 ?_
          refine V_lge (tgt := 53) B dPL_partOf_38 dPL_partOf_39 (by decide) (fun c7 => ?_) (fun c7 => ?_)
          · have hF := hF.trans (if_pos c7)
            refine lv_aload_n hx hb dPL_partOf_53 rfl (lv_at hl 0 rfl) ?_
            refine V_get B hw (v := .ref (ad 22)) (by decide) rfl rfl hin_PL 2 (by decide) rfl wm_138 rfl dPL_partOf_54 ?_
            refine lv_iload_n hx hb dPL_partOf_57 rfl (lv_at hl 1 rfl) ?_
            refine V_lald (j := x1.toNatClampNeg) (v := S.2 22 x1.toNatClampNeg) B hw (by decide) rfl (vc_FPL_partOf_ix58_8 S x1 x2 hp c1 c2 c3 c5 c7) rfl rfl dPL_partOf_58 ?_
            exact V_lret B hr hlk hw (pL_r hF) dPL_partOf_59
          · have hF := hF.trans (if_neg c7)
            refine lv_aload_n hx hb dPL_partOf_42 rfl (lv_at hl 0 rfl) ?_
            refine V_get B hw (v := .ref (ad 22)) (by decide) rfl rfl hin_PL 2 (by decide) rfl wm_138 rfl dPL_partOf_43 ?_
            refine lv_iload_n hx hb dPL_partOf_46 rfl (lv_at hl 1 rfl) ?_
            refine V_lald (j := x1.toNatClampNeg) (v := S.2 22 x1.toNatClampNeg) B hw (by decide) rfl (vc_FPL_partOf_ix47_9 S x1 x2 hp c1 c2 c3 c5 c7) rfl rfl dPL_partOf_47 ?_
            refine lv_lconst (v := 1) hx hb dPL_partOf_48 (by decide) ?_
            refine lv_ladd hx hb dPL_partOf_49 ?_
            refine lv_goto (tgt := 59) hx hb dPL_partOf_50 (by decide) ?_
            exact V_lret B hr hlk hw (pL_r hF) dPL_partOf_59
        · have hF := hF.trans (if_neg c5)
          refine lv_ldc2 (v := (-1)) hx hb hown (hts _ wm_143) dPL_partOf_26 ?_
          exact V_lret B hr hlk hw (pL_r hF) dPL_partOf_29
theorem cw_FHL_due {R : Room} {cells slots : Nat} (h1 : 2 ≤ R.frames) (h2 : 44 ≤ R.locals) (h3 : cells ≤ R.cells) (h4 : slots ≤ R.slots) : Cw R cells slots yHL_due bHL_due 3 (some .long) ({ frames := 1, cells := 0, slots := 0, locals := 22 } : Room) 2 := ⟨wm_394, wm_353, by decide +kernel, ⟨rfl, rfl, h1, h2⟩, h3, h4⟩
set_option maxHeartbeats 4000000 in
set_option maxRecDepth 100000 in
theorem M_FHL_due (l : Launch) {ad : Nat → Nat} {cI cL : ClassId} {dC : Nat → ClassId} {dI : Nat → Nat → Nat} (hi : adI ad) (S : hS) (x1 : Int32) (x2 : Int32) (hp : wfC S) : Mt l ad cI cL dC dI yHL_due bHL_due 3 (some .long) ({ frames := 1, cells := 0, slots := 0, locals := 22 } : Room) [.ref (ad 0), .int x1, .int x2] S (pL (FHL_due S x1 x2) S) := by
  refine Mt_of (own := RHL) hi (by decide) rfl (Nat.le_of_ble_eq_true rfl) ?_
  intro p e s m args below meth c ls B hr hlk hw hl
  obtain ⟨hx, hb, -, hown, hts, -, -⟩ := id B
  have hA : ∀ q, AA ad s.heap.size q → AA ad s.heap.size q := fun _ h => h
  have hl : lv_has ls 3 [(0, .ref (ad 0)), (1, .int x1), (2, .int x2)] := hl
  have hF := FHL_due_e S x1 x2
  refine lv_aload_n hx hb dHL_due_0 rfl (lv_at hl 0 rfl) ?_
  refine V_get B hw (v := .ref (ad 1)) (by decide) rfl rfl hin_HL 0 (by decide) rfl wm_0 rfl dHL_due_1 ?_
  refine V_getN B hw (v := .ref (ad 20)) (by decide) rfl rfl hin_BO 2 (by decide) rfl wn_135 rfl dHL_due_4 ?_
  refine lv_iload_n hx hb dHL_due_7 rfl (lv_at hl 1 rfl) ?_
  refine lv_iload_n hx hb dHL_due_8 rfl (lv_at hl 2 rfl) ?_
  refine V_callVN (rest := []) B hi hw hA hl.1 (M_FPL_partOf l hi S x1 x2 (vc_FHL_due_pre9_1 S x1 x2 hp)) (cw_FPL_partOf (Nat.le_of_ble_eq_true rfl) (Nat.le_of_ble_eq_true rfl) (Nat.zero_le _) (Nat.zero_le _)) (by decide) rfl rfl wn_144 wm_145 wm_146 rfl (Nat.le_of_ble_eq_true rfl) dHL_due_9 (kL (fun H locs hw => ?_))
  exact V_lret B hr hlk hw (pL_r hF) dHL_due_12
theorem cw_FAC_hasMoved {R : Room} {cells slots : Nat} (h1 : 1 ≤ R.frames) (h2 : 21 ≤ R.locals) (h3 : cells ≤ R.cells) (h4 : slots ≤ R.slots) : Cw R cells slots yAC_hasMoved bAC_hasMoved 2 (some .boolean) ({ frames := 0, cells := 0, slots := 0, locals := 0 } : Room) 1 := ⟨wm_395, wm_351, by decide +kernel, ⟨rfl, rfl, h1, h2⟩, h3, h4⟩
set_option maxHeartbeats 4000000 in
set_option maxRecDepth 100000 in
theorem M_FAC_hasMoved (l : Launch) {ad : Nat → Nat} {cI cL : ClassId} {dC : Nat → ClassId} {dI : Nat → Nat → Nat} (hi : adI ad) (S : hS) (x1 : Int32) (hp : wfC S ∧ rg x1 8) : Mt l ad cI cL dC dI yAC_hasMoved bAC_hasMoved 2 (some .boolean) ({ frames := 0, cells := 0, slots := 0, locals := 0 } : Room) [.ref (ad 2), .int x1] S (pI (FAC_hasMoved S x1) S) := by
  refine Mt_of (own := RAC) hi (by decide) rfl (Nat.le_of_ble_eq_true rfl) ?_
  intro p e s m args below meth c ls B hr hlk hw hl
  obtain ⟨hx, hb, -, hown, hts, -, -⟩ := id B
  have hA : ∀ q, AA ad s.heap.size q → AA ad s.heap.size q := fun _ h => h
  have hl : lv_has ls 2 [(0, .ref (ad 2)), (1, .int x1)] := hl
  have hF := FAC_hasMoved_e S x1
  refine lv_aload_n hx hb dAC_hasMoved_0 rfl (lv_at hl 0 rfl) ?_
  refine V_get B hw (v := .ref (ad 8)) (by decide) rfl rfl hin_AC 6 (by decide) rfl wm_9 rfl dAC_hasMoved_1 ?_
  refine lv_iload_n hx hb dAC_hasMoved_4 rfl (lv_at hl 1 rfl) ?_
  refine V_iald (j := x1.toNatClampNeg) (v := S.1 8 x1.toNatClampNeg) B hw (by decide) rfl (vc_FAC_hasMoved_ix5_1 S x1 hp) rfl rfl dAC_hasMoved_5 ?_
  refine lv_iconst (v := (-1)) hx hb dAC_hasMoved_6 (by decide) ?_
  refine lv_icmp_ne (tgt := 20) hx hb dAC_hasMoved_7 (by decide) (fun c2 => ?_) (fun c2 => ?_)
  · have hF := hF.trans (if_neg c2)
    refine lv_iconst (v := 1) hx hb dAC_hasMoved_20 (by decide) ?_
    refine lv_goto (tgt := 25) hx hb dAC_hasMoved_21 (by decide) ?_
    exact V_zret B hr hlk hw (by decide) (pI_r hF) dAC_hasMoved_25
  · have hF := hF.trans (if_pos c2)
    refine lv_aload_n hx hb dAC_hasMoved_10 rfl (lv_at hl 0 rfl) ?_
    refine V_get B hw (v := .ref (ad 9)) (by decide) rfl rfl hin_AC 7 (by decide) rfl wm_10 rfl dAC_hasMoved_11 ?_
    refine lv_iload_n hx hb dAC_hasMoved_14 rfl (lv_at hl 1 rfl) ?_
    refine V_iald (j := x1.toNatClampNeg) (v := S.1 9 x1.toNatClampNeg) B hw (by decide) rfl (vc_FAC_hasMoved_ix15_3 S x1 hp c2) rfl rfl dAC_hasMoved_15 ?_
    refine lv_iconst (v := (-1)) hx hb dAC_hasMoved_16 (by decide) ?_
    refine lv_icmp_eq (tgt := 24) hx hb dAC_hasMoved_17 (by decide) (fun c4 => ?_) (fun c4 => ?_)
    · have hF := hF.trans (if_pos c4)
      refine lv_iconst (v := 0) hx hb dAC_hasMoved_24 (by decide) ?_
      exact V_zret B hr hlk hw (by decide) (pI_r hF) dAC_hasMoved_25
    · have hF := hF.trans (if_neg c4)
      refine lv_iconst (v := 1) hx hb dAC_hasMoved_20 (by decide) ?_
      refine lv_goto (tgt := 25) hx hb dAC_hasMoved_21 (by decide) ?_
      exact V_zret B hr hlk hw (by decide) (pI_r hF) dAC_hasMoved_25
theorem cw_FHL_move {R : Room} {cells slots : Nat} (h1 : 3 ≤ R.frames) (h2 : 67 ≤ R.locals) (h3 : cells ≤ R.cells) (h4 : slots ≤ R.slots) : Cw R cells slots yHL_move bHL_move 6 (some .boolean) ({ frames := 2, cells := 0, slots := 0, locals := 42 } : Room) 3 := ⟨wm_396, wm_353, by decide +kernel, ⟨rfl, rfl, h1, h2⟩, h3, h4⟩
set_option maxHeartbeats 4000000 in
set_option maxRecDepth 100000 in
theorem M_FHL_move (l : Launch) {ad : Nat → Nat} {cI cL : ClassId} {dC : Nat → ClassId} {dI : Nat → Nat → Nat} (hi : adI ad) (S : hS) (x1 : Int32) (x2 : Int32) (x3 : Int64) (hp : wfC S) : Mt l ad cI cL dC dI yHL_move bHL_move 6 (some .boolean) ({ frames := 2, cells := 0, slots := 0, locals := 42 } : Room) [.ref (ad 0), .int x1, .int x2, .long x3] S (pI (FHL_move S x1 x2 x3).1 (FHL_move S x1 x2 x3).2) := by
  refine Mt_of (own := RHL) hi (by decide) rfl (Nat.le_of_ble_eq_true rfl) ?_
  intro p e s m args below meth c ls B hr hlk hw hl
  obtain ⟨hx, hb, -, hown, hts, -, -⟩ := id B
  have hA : ∀ q, AA ad s.heap.size q → AA ad s.heap.size q := fun _ h => h
  have hl : lv_has ls 6 [(0, .ref (ad 0)), (1, .int x1), (2, .int x2), (3, .long x3)] := hl
  have hF := FHL_move_e S x1 x2 x3
  refine lv_aload_n hx hb dHL_move_0 rfl (lv_at hl 0 rfl) ?_
  refine V_get B hw (v := .ref (ad 1)) (by decide) rfl rfl hin_HL 0 (by decide) rfl wm_0 rfl dHL_move_1 ?_
  refine V_getN B hw (v := .ref (ad 2)) (by decide) rfl rfl hin_BO 0 (by decide) rfl wn_1 rfl dHL_move_4 ?_
  refine lv_astore (lv' := [(5, .ref (ad 2)), (0, .ref (ad 0)), (1, .int x1), (2, .int x2), (3, .long x3)]) hx hb dHL_move_7 hl (by decide) rfl (fun ls hl => ?_)
  refine lv_aload hx hb dHL_move_9 (lv_at hl 0 rfl) ?_
  refine lv_iload_n hx hb dHL_move_11 rfl (lv_at hl 2 rfl) ?_
  refine V_callVN (rest := []) B hi hw hA hl.1 (M_FAC_hasHousehold l hi S x1 (vc_FHL_move_pre12_1 S x1 x2 x3 hp)) (cw_FAC_hasHousehold (Nat.le_of_ble_eq_true rfl) (Nat.le_of_ble_eq_true rfl) (Nat.zero_le _) (Nat.zero_le _)) (by decide) rfl rfl wn_79 wm_61 wm_62 rfl (Nat.le_of_ble_eq_true rfl) dHL_move_12 (kI (fun H locs hw => ?_))
  refine lv_if_eq (tgt := 27) hx hb dHL_move_15 (by decide) (fun c2 => ?_) (fun c2 => ?_)
  · have hF := hF.trans (if_pos c2)
    refine lv_iconst (v := 0) hx hb dHL_move_27 (by decide) ?_
    exact V_zret B hr hlk hw (by decide) (pI_of hF) dHL_move_28
  · have hF := hF.trans (if_neg c2)
    refine lv_aload hx hb dHL_move_18 (lv_at hl 0 rfl) ?_
    refine lv_iload_n hx hb dHL_move_20 rfl (lv_at hl 3 rfl) ?_
    refine V_callVN (rest := []) B hi hw hA hl.1 (M_FAC_hasHousehold l hi S x2 (vc_FHL_move_pre21_3 S x1 x2 x3 hp c2)) (cw_FAC_hasHousehold (Nat.le_of_ble_eq_true rfl) (Nat.le_of_ble_eq_true rfl) (Nat.zero_le _) (Nat.zero_le _)) (by decide) rfl rfl wn_79 wm_61 wm_62 rfl (Nat.le_of_ble_eq_true rfl) dHL_move_21 (kI (fun H locs hw => ?_))
    refine lv_if_ne (tgt := 29) hx hb dHL_move_24 (by decide) (fun c4 => ?_) (fun c4 => ?_)
    · have hF := hF.trans (if_neg c4)
      refine lv_iload_n hx hb dHL_move_29 rfl (lv_at hl 2 rfl) ?_
      refine lv_iload_n hx hb dHL_move_30 rfl (lv_at hl 3 rfl) ?_
      refine lv_icmp_eq (tgt := 41) hx hb dHL_move_31 (by decide) (fun c5 => ?_) (fun c5 => ?_)
      · have hF := hF.trans (if_pos c5)
        refine lv_iconst (v := 0) hx hb dHL_move_41 (by decide) ?_
        exact V_zret B hr hlk hw (by decide) (pI_of hF) dHL_move_42
      · have hF := hF.trans (if_neg c5)
        refine lv_lload_n hx hb dHL_move_34 rfl (lv_at hl 4 rfl) ?_
        refine V_callS (rest := []) B hi hw hA hl.1 (M_FHL_isDay l hi S x3) (cw_FHL_isDay (Nat.le_of_ble_eq_true rfl) (Nat.le_of_ble_eq_true rfl) (Nat.zero_le _) (Nat.zero_le _)) wm_68 wm_16 rfl (Nat.le_of_ble_eq_true rfl) dHL_move_35 (kI (fun H locs hw => ?_))
        refine lv_if_ne (tgt := 43) hx hb dHL_move_38 (by decide) (fun c6 => ?_) (fun c6 => ?_)
        · have hF := hF.trans (if_neg c6)
          refine lv_aload hx hb dHL_move_43 (lv_at hl 0 rfl) ?_
          refine lv_iload_n hx hb dHL_move_45 rfl (lv_at hl 2 rfl) ?_
          refine V_callVN (rest := []) B hi hw hA hl.1 (M_FAC_hasMoved l hi S x1 (vc_FHL_move_pre46_7 S x1 x2 x3 hp c2 c4 c5 c6)) (cw_FAC_hasMoved (Nat.le_of_ble_eq_true rfl) (Nat.le_of_ble_eq_true rfl) (Nat.zero_le _) (Nat.zero_le _)) (by decide) rfl rfl wn_147 wm_148 wm_149 rfl (Nat.le_of_ble_eq_true rfl) dHL_move_46 (kI (fun H locs hw => ?_))
          refine lv_if_ne (tgt := 61) hx hb dHL_move_49 (by decide) (fun c8 => ?_) (fun c8 => ?_)
          · have hF := hF.trans (if_neg c8)
            refine lv_iconst (v := 0) hx hb dHL_move_61 (by decide) ?_
            exact V_zret B hr hlk hw (by decide) (pI_of hF) dHL_move_62
          · have hF := hF.trans (if_pos c8)
            refine lv_aload hx hb dHL_move_52 (lv_at hl 0 rfl) ?_
            refine lv_iload_n hx hb dHL_move_54 rfl (lv_at hl 3 rfl) ?_
            refine V_callVN (rest := []) B hi hw hA hl.1 (M_FAC_hasMoved l hi S x2 (vc_FHL_move_pre55_9 S x1 x2 x3 hp c2 c4 c5 c6 c8)) (cw_FAC_hasMoved (Nat.le_of_ble_eq_true rfl) (Nat.le_of_ble_eq_true rfl) (Nat.zero_le _) (Nat.zero_le _)) (by decide) rfl rfl wn_147 wm_148 wm_149 rfl (Nat.le_of_ble_eq_true rfl) dHL_move_55 (kI (fun H locs hw => ?_))
            refine lv_if_eq (tgt := 63) hx hb dHL_move_58 (by decide) (fun c10 => ?_) (fun c10 => ?_)
            · have hF := hF.trans (if_pos c10)
              refine lv_aload hx hb dHL_move_63 (lv_at hl 0 rfl) ?_
              refine V_getN B hw (v := .ref (ad 9)) (by decide) rfl rfl hin_AC 7 (by decide) rfl wn_150 rfl dHL_move_65 ?_
              refine lv_iload_n hx hb dHL_move_68 rfl (lv_at hl 2 rfl) ?_
              refine lv_lload_n hx hb dHL_move_69 rfl (lv_at hl 4 rfl) ?_
              refine lv_l2i hx hb dHL_move_70 rfl ?_
              refine V_iast (j := x1.toNatClampNeg) B hw (by decide) rfl (vc_FHL_move_ix71_11 S x1 x2 x3 hp c2 c4 c5 c6 c8 c10) rfl dHL_move_71 (fun H locs hw => ?_)
              refine lv_aload hx hb dHL_move_72 (lv_at hl 0 rfl) ?_
              refine V_getN B hw (v := .ref (ad 8)) (by decide) rfl rfl hin_AC 6 (by decide) rfl wn_151 rfl dHL_move_74 ?_
              refine lv_iload_n hx hb dHL_move_77 rfl (lv_at hl 3 rfl) ?_
              refine lv_lload_n hx hb dHL_move_78 rfl (lv_at hl 4 rfl) ?_
              refine lv_l2i hx hb dHL_move_79 rfl ?_
              refine V_iast (j := x2.toNatClampNeg) B hw (by decide) rfl (vc_FHL_move_ix80_12 S x1 x2 x3 hp c2 c4 c5 c6 c8 c10) rfl dHL_move_80 (fun H locs hw => ?_)
              refine lv_iconst (v := 1) hx hb dHL_move_81 (by decide) ?_
              exact V_zret B hr hlk hw (by decide) (pI_of hF) dHL_move_82
            · have hF := hF.trans (if_neg c10)
              refine lv_iconst (v := 0) hx hb dHL_move_61 (by decide) ?_
              exact V_zret B hr hlk hw (by decide) (pI_of hF) dHL_move_62
        · have hF := hF.trans (if_pos c6)
          refine lv_iconst (v := 0) hx hb dHL_move_41 (by decide) ?_
          exact V_zret B hr hlk hw (by decide) (pI_of hF) dHL_move_42
    · have hF := hF.trans (if_pos c4)
      refine lv_iconst (v := 0) hx hb dHL_move_27 (by decide) ?_
      exact V_zret B hr hlk hw (by decide) (pI_of hF) dHL_move_28
theorem cw_FHL_isMonth {R : Room} {cells slots : Nat} (h1 : 1 ≤ R.frames) (h2 : 20 ≤ R.locals) (h3 : cells ≤ R.cells) (h4 : slots ≤ R.slots) : Cw R cells slots yHL_isMonth bHL_isMonth 1 (some .boolean) ({ frames := 0, cells := 0, slots := 0, locals := 0 } : Room) 1 := ⟨wm_397, wm_353, by decide +kernel, ⟨rfl, rfl, h1, h2⟩, h3, h4⟩
set_option maxHeartbeats 4000000 in
set_option maxRecDepth 100000 in
theorem M_FHL_isMonth (l : Launch) {ad : Nat → Nat} {cI cL : ClassId} {dC : Nat → ClassId} {dI : Nat → Nat → Nat} (hi : adI ad) (S : hS) (x0 : Int32) : Mt l ad cI cL dC dI yHL_isMonth bHL_isMonth 1 (some .boolean) ({ frames := 0, cells := 0, slots := 0, locals := 0 } : Room) [.int x0] S (pI (FHL_isMonth S x0) S) := by
  refine Mt_of (own := RHL) hi (by decide) rfl (Nat.le_of_ble_eq_true rfl) ?_
  intro p e s m args below meth c ls B hr hlk hw hl
  obtain ⟨hx, hb, -, hown, hts, -, -⟩ := id B
  have hA : ∀ q, AA ad s.heap.size q → AA ad s.heap.size q := fun _ h => h
  have hl : lv_has ls 1 [(0, .int x0)] := hl
  have hF := FHL_isMonth_e S x0
  refine lv_iload_n hx hb dHL_isMonth_0 rfl (lv_at hl 0 rfl) ?_
  refine lv_if_lt (tgt := 14) hx hb dHL_isMonth_1 (by decide) (fun c1 => ?_) (fun c1 => ?_)
  · have hF := hF.trans (if_pos c1)
    refine lv_iconst (v := 0) hx hb dHL_isMonth_14 (by decide) ?_
    exact V_zret B hr hlk hw (by decide) (pI_r hF) dHL_isMonth_15
  · have hF := hF.trans (if_neg c1)
    refine lv_iload_n hx hb dHL_isMonth_4 rfl (lv_at hl 0 rfl) ?_
    refine lv_bipush (v := 120) hx hb dHL_isMonth_5 (by decide) ?_
    refine lv_icmp_ge (tgt := 14) hx hb dHL_isMonth_7 (by decide) (fun c2 => ?_) (fun c2 => ?_)
    · have hF := hF.trans (if_pos c2)
      refine lv_iconst (v := 0) hx hb dHL_isMonth_14 (by decide) ?_
      exact V_zret B hr hlk hw (by decide) (pI_r hF) dHL_isMonth_15
    · have hF := hF.trans (if_neg c2)
      refine lv_iconst (v := 1) hx hb dHL_isMonth_10 (by decide) ?_
      refine lv_goto (tgt := 15) hx hb dHL_isMonth_11 (by decide) ?_
      exact V_zret B hr hlk hw (by decide) (pI_r hF) dHL_isMonth_15
theorem cw_FAC_daysThere {R : Room} {cells slots : Nat} (h1 : 2 ≤ R.frames) (h2 : 39 ≤ R.locals) (h3 : cells ≤ R.cells) (h4 : slots ≤ R.slots) : Cw R cells slots yAC_daysThere bAC_daysThere 7 (some .int) ({ frames := 1, cells := 0, slots := 0, locals := 13 } : Room) 2 := ⟨wm_398, wm_351, by decide +kernel, ⟨rfl, rfl, h1, h2⟩, h3, h4⟩
set_option maxHeartbeats 4000000 in
set_option maxRecDepth 100000 in
theorem M_FAC_daysThere (l : Launch) {ad : Nat → Nat} {cI cL : ClassId} {dC : Nat → ClassId} {dI : Nat → Nat → Nat} (hi : adI ad) (S : hS) (x1 : Int32) (x2 : Int32) (hp : wfC S ∧ rg x1 8) : Mt l ad cI cL dC dI yAC_daysThere bAC_daysThere 7 (some .int) ({ frames := 1, cells := 0, slots := 0, locals := 13 } : Room) [.ref (ad 2), .int x1, .int x2] S (pI (FAC_daysThere S x1 x2) S) := by
  refine Mt_of (own := RAC) hi (by decide) rfl (Nat.le_of_ble_eq_true rfl) ?_
  intro p e s m args below meth c ls B hr hlk hw hl
  obtain ⟨hx, hb, -, hown, hts, -, -⟩ := id B
  have hA : ∀ q, AA ad s.heap.size q → AA ad s.heap.size q := fun _ h => h
  have hl : lv_has ls 7 [(0, .ref (ad 2)), (1, .int x1), (2, .int x2)] := hl
  have hF := FAC_daysThere_e S x1 x2
  refine lv_iload_n hx hb dAC_daysThere_0 rfl (lv_at hl 2 rfl) ?_
  refine lv_bipush (v := 30) hx hb dAC_daysThere_1 (by decide) ?_
  refine lv_imul hx hb dAC_daysThere_3 ?_
  refine lv_istore_n (lv' := [(3, .int (x2 * 30)), (0, .ref (ad 2)), (1, .int x1), (2, .int x2)]) hx hb dAC_daysThere_4 rfl hl (by decide) rfl (fun ls hl => ?_)
  refine lv_iload_n hx hb dAC_daysThere_5 rfl (lv_at hl 0 rfl) ?_
  refine lv_bipush (v := 30) hx hb dAC_daysThere_6 (by decide) ?_
  refine lv_iadd hx hb dAC_daysThere_8 ?_
  refine lv_istore (lv' := [(4, .int ((x2 * 30) + 30)), (3, .int (x2 * 30)), (0, .ref (ad 2)), (1, .int x1), (2, .int x2)]) hx hb dAC_daysThere_9 hl (by decide) rfl (fun ls hl => ?_)
  refine lv_aload_n hx hb dAC_daysThere_11 rfl (lv_at hl 2 rfl) ?_
  refine V_get B hw (v := .ref (ad 8)) (by decide) rfl rfl hin_AC 6 (by decide) rfl wm_9 rfl dAC_daysThere_12 ?_
  refine lv_iload_n hx hb dAC_daysThere_15 rfl (lv_at hl 3 rfl) ?_
  refine V_iald (j := x1.toNatClampNeg) (v := S.1 8 x1.toNatClampNeg) B hw (by decide) rfl (vc_FAC_daysThere_ix16_1 S x1 x2 hp) rfl rfl dAC_daysThere_16 ?_
  refine lv_iconst (v := (-1)) hx hb dAC_daysThere_17 (by decide) ?_
  refine lv_icmp_ne (tgt := 25) hx hb dAC_daysThere_18 (by decide) (fun c2 => ?_) (fun c2 => ?_)
  · have hF := hF.trans (if_neg c2)
    refine lv_iload_n hx hb dAC_daysThere_25 rfl (lv_at hl 1 rfl) ?_
    refine lv_aload_n hx hb dAC_daysThere_26 rfl (lv_at hl 2 rfl) ?_
    refine V_get B hw (v := .ref (ad 8)) (by decide) rfl rfl hin_AC 6 (by decide) rfl wm_9 rfl dAC_daysThere_27 ?_
    refine lv_iload_n hx hb dAC_daysThere_30 rfl (lv_at hl 3 rfl) ?_
    refine V_iald (j := x1.toNatClampNeg) (v := S.1 8 x1.toNatClampNeg) B hw (by decide) rfl (vc_FAC_daysThere_ix31_3 S x1 x2 hp c2) rfl rfl dAC_daysThere_31 ?_
    refine va_mmax hx hb (B.2.2.1.trans hl.1.symm) hown (hts _ wm_154) (hts _ wm_112) (hts _ wm_85) (hts _ wm_113) (Nat.le_of_ble_eq_true rfl) (Nat.le_of_ble_eq_true rfl) (Nat.zero_le _) (Nat.zero_le _) dAC_daysThere_32 ?_
    refine lv_istore (lv' := [(5, .int (if (x2 * 30) < (S.1 8 x1.toNatClampNeg) then (S.1 8 x1.toNatClampNeg) else (x2 * 30))), (4, .int ((x2 * 30) + 30)), (3, .int (x2 * 30)), (0, .ref (ad 2)), (1, .int x1), (2, .int x2)]) hx hb dAC_daysThere_35 hl (by decide) rfl (fun ls hl => ?_)
    refine lv_aload_n hx hb dAC_daysThere_37 rfl (lv_at hl 3 rfl) ?_
    refine V_get B hw (v := .ref (ad 9)) (by decide) rfl rfl hin_AC 7 (by decide) rfl wm_10 rfl dAC_daysThere_38 ?_
    refine lv_iload_n hx hb dAC_daysThere_41 rfl (lv_at hl 4 rfl) ?_
    refine V_iald (j := x1.toNatClampNeg) (v := S.1 9 x1.toNatClampNeg) B hw (by decide) rfl (vc_FAC_daysThere_ix42_4 S x1 x2 hp c2) rfl rfl dAC_daysThere_42 ?_
    refine lv_iconst (v := (-1)) hx hb dAC_daysThere_43 (by decide) ?_
    refine lv_icmp_ne (tgt := 52) hx hb dAC_daysThere_44 (by decide) (fun c5 => ?_) (fun c5 => ?_)
    · have hF := hF.trans (if_neg c5)
      refine lv_iload hx hb dAC_daysThere_52 (lv_at hl 1 rfl) ?_
      refine lv_aload_n hx hb dAC_daysThere_54 rfl (lv_at hl 3 rfl) ?_
      refine V_get B hw (v := .ref (ad 9)) (by decide) rfl rfl hin_AC 7 (by decide) rfl wm_10 rfl dAC_daysThere_55 ?_
      refine lv_iload_n hx hb dAC_daysThere_58 rfl (lv_at hl 4 rfl) ?_
      refine V_iald (j := x1.toNatClampNeg) (v := S.1 9 x1.toNatClampNeg) B hw (by decide) rfl (vc_FAC_daysThere_ix59_6 S x1 x2 hp c2 c5) rfl rfl dAC_daysThere_59 ?_
      refine va_mmin hx hb (B.2.2.1.trans hl.1.symm) hown (hts _ wm_124) (hts _ wm_125) (hts _ wm_85) (hts _ wm_126) (Nat.le_of_ble_eq_true rfl) (Nat.le_of_ble_eq_true rfl) (Nat.zero_le _) (Nat.zero_le _) dAC_daysThere_60 ?_
      refine lv_istore (lv' := [(6, .int (if (S.1 9 x1.toNatClampNeg) < ((x2 * 30) + 30) then (S.1 9 x1.toNatClampNeg) else ((x2 * 30) + 30))), (5, .int (if (x2 * 30) < (S.1 8 x1.toNatClampNeg) then (S.1 8 x1.toNatClampNeg) else (x2 * 30))), (4, .int ((x2 * 30) + 30)), (3, .int (x2 * 30)), (0, .ref (ad 2)), (1, .int x1), (2, .int x2)]) hx hb dAC_daysThere_63 hl (by decide) rfl (fun ls hl => ?_)
      refine lv_iconst (v := 0) hx hb dAC_daysThere_65 (by decide) ?_
      refine lv_iload hx hb dAC_daysThere_66 (lv_at hl 0 rfl) ?_
      refine lv_iload hx hb dAC_daysThere_68 (lv_at hl 1 rfl) ?_
      refine lv_isub hx hb dAC_daysThere_70 ?_
      refine va_mmax hx hb (B.2.2.1.trans hl.1.symm) hown (hts _ wm_154) (hts _ wm_112) (hts _ wm_85) (hts _ wm_113) (Nat.le_of_ble_eq_true rfl) (Nat.le_of_ble_eq_true rfl) (Nat.zero_le _) (Nat.zero_le _) dAC_daysThere_71 ?_
      exact V_iret B hr hlk hw (pI_r hF) dAC_daysThere_74
    · have hF := hF.trans (if_pos c5)
      refine lv_iload hx hb dAC_daysThere_47 (lv_at hl 1 rfl) ?_
      refine lv_goto (tgt := 63) hx hb dAC_daysThere_49 (by decide) ?_
      refine lv_istore (lv' := [(6, .int ((x2 * 30) + 30)), (5, .int (if (x2 * 30) < (S.1 8 x1.toNatClampNeg) then (S.1 8 x1.toNatClampNeg) else (x2 * 30))), (4, .int ((x2 * 30) + 30)), (3, .int (x2 * 30)), (0, .ref (ad 2)), (1, .int x1), (2, .int x2)]) hx hb dAC_daysThere_63 hl (by decide) rfl (fun ls hl => ?_)
      refine lv_iconst (v := 0) hx hb dAC_daysThere_65 (by decide) ?_
      refine lv_iload hx hb dAC_daysThere_66 (lv_at hl 0 rfl) ?_
      refine lv_iload hx hb dAC_daysThere_68 (lv_at hl 1 rfl) ?_
      refine lv_isub hx hb dAC_daysThere_70 ?_
      refine va_mmax hx hb (B.2.2.1.trans hl.1.symm) hown (hts _ wm_154) (hts _ wm_112) (hts _ wm_85) (hts _ wm_113) (Nat.le_of_ble_eq_true rfl) (Nat.le_of_ble_eq_true rfl) (Nat.zero_le _) (Nat.zero_le _) dAC_daysThere_71 ?_
      exact V_iret B hr hlk hw (pI_r hF) dAC_daysThere_74
  · have hF := hF.trans (if_pos c2)
    refine lv_iload_n hx hb dAC_daysThere_21 rfl (lv_at hl 1 rfl) ?_
    refine lv_goto (tgt := 35) hx hb dAC_daysThere_22 (by decide) ?_
    refine lv_istore (lv' := [(5, .int (x2 * 30)), (4, .int ((x2 * 30) + 30)), (3, .int (x2 * 30)), (0, .ref (ad 2)), (1, .int x1), (2, .int x2)]) hx hb dAC_daysThere_35 hl (by decide) rfl (fun ls hl => ?_)
    refine lv_aload_n hx hb dAC_daysThere_37 rfl (lv_at hl 3 rfl) ?_
    refine V_get B hw (v := .ref (ad 9)) (by decide) rfl rfl hin_AC 7 (by decide) rfl wm_10 rfl dAC_daysThere_38 ?_
    refine lv_iload_n hx hb dAC_daysThere_41 rfl (lv_at hl 4 rfl) ?_
    refine V_iald (j := x1.toNatClampNeg) (v := S.1 9 x1.toNatClampNeg) B hw (by decide) rfl (vc_FAC_daysThere_ix42_7 S x1 x2 hp c2) rfl rfl dAC_daysThere_42 ?_
    refine lv_iconst (v := (-1)) hx hb dAC_daysThere_43 (by decide) ?_
    refine lv_icmp_ne (tgt := 52) hx hb dAC_daysThere_44 (by decide) (fun c8 => ?_) (fun c8 => ?_)
    · have hF := hF.trans (if_neg c8)
      refine lv_iload hx hb dAC_daysThere_52 (lv_at hl 1 rfl) ?_
      refine lv_aload_n hx hb dAC_daysThere_54 rfl (lv_at hl 3 rfl) ?_
      refine V_get B hw (v := .ref (ad 9)) (by decide) rfl rfl hin_AC 7 (by decide) rfl wm_10 rfl dAC_daysThere_55 ?_
      refine lv_iload_n hx hb dAC_daysThere_58 rfl (lv_at hl 4 rfl) ?_
      refine V_iald (j := x1.toNatClampNeg) (v := S.1 9 x1.toNatClampNeg) B hw (by decide) rfl (vc_FAC_daysThere_ix59_9 S x1 x2 hp c2 c8) rfl rfl dAC_daysThere_59 ?_
      refine va_mmin hx hb (B.2.2.1.trans hl.1.symm) hown (hts _ wm_124) (hts _ wm_125) (hts _ wm_85) (hts _ wm_126) (Nat.le_of_ble_eq_true rfl) (Nat.le_of_ble_eq_true rfl) (Nat.zero_le _) (Nat.zero_le _) dAC_daysThere_60 ?_
      refine lv_istore (lv' := [(6, .int (if (S.1 9 x1.toNatClampNeg) < ((x2 * 30) + 30) then (S.1 9 x1.toNatClampNeg) else ((x2 * 30) + 30))), (5, .int (x2 * 30)), (4, .int ((x2 * 30) + 30)), (3, .int (x2 * 30)), (0, .ref (ad 2)), (1, .int x1), (2, .int x2)]) hx hb dAC_daysThere_63 hl (by decide) rfl (fun ls hl => ?_)
      refine lv_iconst (v := 0) hx hb dAC_daysThere_65 (by decide) ?_
      refine lv_iload hx hb dAC_daysThere_66 (lv_at hl 0 rfl) ?_
      refine lv_iload hx hb dAC_daysThere_68 (lv_at hl 1 rfl) ?_
      refine lv_isub hx hb dAC_daysThere_70 ?_
      refine va_mmax hx hb (B.2.2.1.trans hl.1.symm) hown (hts _ wm_154) (hts _ wm_112) (hts _ wm_85) (hts _ wm_113) (Nat.le_of_ble_eq_true rfl) (Nat.le_of_ble_eq_true rfl) (Nat.zero_le _) (Nat.zero_le _) dAC_daysThere_71 ?_
      exact V_iret B hr hlk hw (pI_r hF) dAC_daysThere_74
    · have hF := hF.trans (if_pos c8)
      refine lv_iload hx hb dAC_daysThere_47 (lv_at hl 1 rfl) ?_
      refine lv_goto (tgt := 63) hx hb dAC_daysThere_49 (by decide) ?_
      refine lv_istore (lv' := [(6, .int ((x2 * 30) + 30)), (5, .int (x2 * 30)), (4, .int ((x2 * 30) + 30)), (3, .int (x2 * 30)), (0, .ref (ad 2)), (1, .int x1), (2, .int x2)]) hx hb dAC_daysThere_63 hl (by decide) rfl (fun ls hl => ?_)
      refine lv_iconst (v := 0) hx hb dAC_daysThere_65 (by decide) ?_
      refine lv_iload hx hb dAC_daysThere_66 (lv_at hl 0 rfl) ?_
      refine lv_iload hx hb dAC_daysThere_68 (lv_at hl 1 rfl) ?_
      refine lv_isub hx hb dAC_daysThere_70 ?_
      refine va_mmax hx hb (B.2.2.1.trans hl.1.symm) hown (hts _ wm_154) (hts _ wm_112) (hts _ wm_85) (hts _ wm_113) (Nat.le_of_ble_eq_true rfl) (Nat.le_of_ble_eq_true rfl) (Nat.zero_le _) (Nat.zero_le _) dAC_daysThere_71 ?_
      exact V_iret B hr hlk hw (pI_r hF) dAC_daysThere_74
set_option maxHeartbeats 4000000 in
set_option maxRecDepth 100000 in
theorem LPHL_commonDivisor_9 (l : Launch) {ad : Nat → Nat} {cI cL : ClassId} {dC : Nat → ClassId} {dI : Nat → Nat → Nat} (hi : adI ad) {p : Program} {e : Env} {s : State} {m : MethodId} {args : Array Value} {below : List Frame} {meth : Method} {c : Code} {A : Nat → Prop} {post : Option Value → hS → Prop} (B : Bs p s m args c RHL bHL_commonDivisor 11 cI cL dC dI) (hr : meth.sig.returnType = (some .long)) (hlk : meth.locks = false) (hA : ∀ q, AA ad s.heap.size q → A q) : ∀ (n : Nat) (S : hS) (x0 : Int64) (x2 : Int64) (x4 : Int64) (x6 : Int64) (x8 : Int32) (H : Heap) (locs : List Loc) (ls : Array Slot), 0 ≤ x8.toInt → ((100 - x8.toInt).toNat) < n → Wd ad cI cL dC dI A s.heap S H locs → lv_has ls 11 [(0, .long x0), (2, .long x2), (4, .long x4), (6, .long x6), (8, .int x8)] → (∀ (H : Heap) (locs : List Loc) (ls : Array Slot) (y4 : Int64) (y6 : Int64) (y8 : Int32), LHL_commonDivisor_9 n S x0 x2 x4 x6 x8 = (y4, y6, y8) → Wd ad cI cL dC dI A s.heap S H locs → lv_has ls 11 [(0, .long x0), (2, .long x2), (4, .long y4), (6, .long y6), (8, .int y8)] → W p l e ({ frames := 0, cells := 0, slots := 0, locals := 0 } : Room) s m args below meth c H locs 0 0 (MQ below (QcW ad cI cL dC dI post A) args s 0 0 A) (F0 m 44 ls [])) → W p l e ({ frames := 0, cells := 0, slots := 0, locals := 0 } : Room) s m args below meth c H locs 0 0 (MQ below (QcW ad cI cL dC dI post A) args s 0 0 A) (F0 m 9 ls []) := by
  intro n
  obtain ⟨hx, hb, -, hown, hts, -, -⟩ := id B
  induction n with
  | zero => exact fun S x0 x2 x4 x6 x8 H locs ls _ hmu => absurd hmu (Nat.not_lt_zero _)
  | succ n ih =>
    intro S x0 x2 x4 x6 x8 H locs ls hJ hmu hw hl hexit
    have hF := LHL_commonDivisor_9_s n S x0 x2 x4 x6 x8
    refine lv_iload hx hb dHL_commonDivisor_9 (lv_at hl 4 rfl) ?_
    refine lv_bipush (v := 100) hx hb dHL_commonDivisor_11 (by decide) ?_
    refine lv_icmp_ge (tgt := 44) hx hb dHL_commonDivisor_13 (by decide) (fun c1 => ?_) (fun c1 => ?_)
    · have hF := hF.trans (if_pos c1)
      exact hexit _ _ _ x4 x6 x8 hF hw (lv_sub hl [0, 1, 2, 3, 4] rfl)
    · have hF := hF.trans (if_neg c1)
      refine lv_lload hx hb dHL_commonDivisor_16 (lv_at hl 3 rfl) ?_
      refine lv_lconst (v := 0) hx hb dHL_commonDivisor_18 (by decide) ?_
      refine V_leq (tgt := 44) B dHL_commonDivisor_19 dHL_commonDivisor_20 (by decide) (fun c2 => ?_) (fun c2 => ?_)
      · have hF := hF.trans (if_pos c2)
        exact hexit _ _ _ x4 x6 x8 hF hw (lv_sub hl [0, 1, 2, 3, 4] rfl)
      · have hF := hF.trans (if_neg c2)
        refine lv_lload hx hb dHL_commonDivisor_23 (lv_at hl 2 rfl) ?_
        refine lv_lload hx hb dHL_commonDivisor_25 (lv_at hl 3 rfl) ?_
        refine lv_lrem hx hb dHL_commonDivisor_27 (vc_FHL_commonDivisor_nz27_3 S x0 x2 x4 x6 x8 hJ c1 c2) ?_
        refine lv_lstore (lv' := [(9, .long (x4 - x4 / x6 * x6)), (0, .long x0), (2, .long x2), (4, .long x4), (6, .long x6), (8, .int x8)]) hx hb dHL_commonDivisor_28 hl (by decide) rfl (fun ls hl => ?_)
        refine lv_lload hx hb dHL_commonDivisor_30 (lv_at hl 4 rfl) ?_
        refine lv_lstore (lv' := [(4, .long x6), (9, .long (x4 - x4 / x6 * x6)), (0, .long x0), (2, .long x2), (6, .long x6), (8, .int x8)]) hx hb dHL_commonDivisor_32 hl (by decide) rfl (fun ls hl => ?_)
        refine lv_lload hx hb dHL_commonDivisor_34 (lv_at hl 1 rfl) ?_
        refine lv_lstore (lv' := [(6, .long (x4 - x4 / x6 * x6)), (4, .long x6), (9, .long (x4 - x4 / x6 * x6)), (0, .long x0), (2, .long x2), (8, .int x8)]) hx hb dHL_commonDivisor_36 hl (by decide) rfl (fun ls hl => ?_)
        refine lv_iinc (v := x8 + 1) (lv' := [(8, .int (x8 + 1)), (6, .long (x4 - x4 / x6 * x6)), (4, .long x6), (9, .long (x4 - x4 / x6 * x6)), (0, .long x0), (2, .long x2)]) hx hb dHL_commonDivisor_38 hl (k := 5) rfl rfl (by decide) rfl (fun ls hl => ?_)
        refine lv_goto (tgt := 9) hx hb dHL_commonDivisor_41 (by decide) ?_
        exact ih S x0 x2 x6 (x4 - x4 / x6 * x6) (x8 + 1) _ _ _ (vc_FHL_commonDivisor_inv9_4 S x0 x2 x4 x6 x8 hJ c1 c2) (Nat.lt_of_lt_of_le (vc_FHL_commonDivisor_mu9_5 S x0 x2 x4 x6 x8 hJ c1 c2) (Nat.le_of_lt_succ hmu)) hw (lv_sub hl [4, 5, 2, 1, 0] rfl) (fun H locs ls y4 y6 y8 h hw hl => hexit H locs ls y4 y6 y8 (hF.trans h) hw hl)
theorem cw_FHL_commonDivisor {R : Room} {cells slots : Nat} (h1 : 1 ≤ R.frames) (h2 : 30 ≤ R.locals) (h3 : cells ≤ R.cells) (h4 : slots ≤ R.slots) : Cw R cells slots yHL_commonDivisor bHL_commonDivisor 11 (some .long) ({ frames := 0, cells := 0, slots := 0, locals := 0 } : Room) 2 := ⟨wm_399, wm_353, by decide +kernel, ⟨rfl, rfl, h1, h2⟩, h3, h4⟩
set_option maxHeartbeats 4000000 in
set_option maxRecDepth 100000 in
theorem M_FHL_commonDivisor (l : Launch) {ad : Nat → Nat} {cI cL : ClassId} {dC : Nat → ClassId} {dI : Nat → Nat → Nat} (hi : adI ad) (S : hS) (x0 : Int64) (x2 : Int64) : Mt l ad cI cL dC dI yHL_commonDivisor bHL_commonDivisor 11 (some .long) ({ frames := 0, cells := 0, slots := 0, locals := 0 } : Room) [.long x0, .long x2] S (pL (FHL_commonDivisor S x0 x2) S) := by
  refine Mt_of (own := RHL) hi (by decide) rfl (Nat.le_of_ble_eq_true rfl) ?_
  intro p e s m args below meth c ls B hr hlk hw hl
  obtain ⟨hx, hb, -, hown, hts, -, -⟩ := id B
  have hA : ∀ q, AA ad s.heap.size q → AA ad s.heap.size q := fun _ h => h
  have hl : lv_has ls 11 [(0, .long x0), (2, .long x2)] := hl
  have hF := FHL_commonDivisor_e S x0 x2
  refine lv_lload_n hx hb dHL_commonDivisor_0 rfl (lv_at hl 0 rfl) ?_
  refine lv_lstore (lv' := [(4, .long x0), (0, .long x0), (2, .long x2)]) hx hb dHL_commonDivisor_1 hl (by decide) rfl (fun ls hl => ?_)
  refine lv_lload_n hx hb dHL_commonDivisor_3 rfl (lv_at hl 2 rfl) ?_
  refine lv_lstore (lv' := [(6, .long x2), (4, .long x0), (0, .long x0), (2, .long x2)]) hx hb dHL_commonDivisor_4 hl (by decide) rfl (fun ls hl => ?_)
  refine lv_iconst (v := 0) hx hb dHL_commonDivisor_6 (by decide) ?_
  refine lv_istore (lv' := [(8, .int 0), (6, .long x2), (4, .long x0), (0, .long x0), (2, .long x2)]) hx hb dHL_commonDivisor_7 hl (by decide) rfl (fun ls hl => ?_)
  refine LPHL_commonDivisor_9 l hi B hr hlk hA 300 S x0 x2 x0 x2 0 _ _ _ (vc_FHL_commonDivisor_inv09_7 S x0 x2) (vc_FHL_commonDivisor_mu09_8 S x0 x2) hw (lv_sub hl [3, 4, 2, 1, 0] rfl) (fun H locs ls y6_4 y6_6 y6_8 hq6 hw hl => ?_)
  rw [hq6] at hF; try dsimp only at hF
  refine lv_lload hx hb dHL_commonDivisor_44 (lv_at hl 2 rfl) ?_
  exact V_lret B hr hlk hw (pL_r hF) dHL_commonDivisor_46
