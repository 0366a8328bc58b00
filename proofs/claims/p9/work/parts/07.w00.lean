theorem cw_FAC_add {R : Room} {cells slots : Nat} (h1 : 1 ≤ R.frames) (h2 : 22 ≤ R.locals) (h3 : cells ≤ R.cells) (h4 : slots ≤ R.slots) : Cw R cells slots yAC_add bAC_add 3 (some .int) ({ frames := 0, cells := 0, slots := 0, locals := 0 } : Room) 1 := ⟨wm_350, wm_351, by decide +kernel, ⟨rfl, rfl, h1, h2⟩, h3, h4⟩
set_option maxHeartbeats 4000000 in
set_option maxRecDepth 100000 in
theorem M_FAC_add (l : Launch) {ad : Nat → Nat} {cI cL : ClassId} {dC : Nat → ClassId} {dI : Nat → Nat → Nat} (hi : adI ad) (S : hS) (x1 : Int32) (hp : wfC S) : Mt l ad cI cL dC dI yAC_add bAC_add 3 (some .int) ({ frames := 0, cells := 0, slots := 0, locals := 0 } : Room) [.ref (ad 2), .int x1] S (pI (FAC_add S x1).1 (FAC_add S x1).2) := by
  refine Mt_of (own := RAC) hi (by decide) rfl (Nat.le_of_ble_eq_true rfl) ?_
  intro p e s m args below meth c ls B hr hlk hw hl
  obtain ⟨hx, hb, -, hown, hts, -, -⟩ := id B
  have hA : ∀ q, AA ad s.heap.size q → AA ad s.heap.size q := fun _ h => h
  have hl : lv_has ls 3 [(0, .ref (ad 2)), (1, .int x1)] := hl
  have hF := FAC_add_e S x1
  refine lv_aload_n hx hb dAC_add_0 rfl (lv_at hl 0 rfl) ?_
  refine V_get B hw (v := .int (S.1 2 0)) (by decide) rfl rfl hin_AC 0 (by decide) rfl wm_2 rfl dAC_add_1 ?_
  refine lv_bipush (v := 8) hx hb dAC_add_4 (by decide) ?_
  refine lv_icmp_lt (tgt := 11) hx hb dAC_add_6 (by decide) (fun c1 => ?_) (fun c1 => ?_)
  · have hF := hF.trans (if_pos c1)
    refine lv_aload_n hx hb dAC_add_11 rfl (lv_at hl 0 rfl) ?_
    refine V_get B hw (v := .int (S.1 2 0)) (by decide) rfl rfl hin_AC 0 (by decide) rfl wm_2 rfl dAC_add_12 ?_
    refine lv_istore_n (lv' := [(2, .int (S.1 2 0)), (0, .ref (ad 2)), (1, .int x1)]) hx hb dAC_add_15 rfl hl (by decide) rfl (fun ls hl => ?_)
    refine lv_aload_n hx hb dAC_add_16 rfl (lv_at hl 1 rfl) ?_
    refine V_get B hw (v := .ref (ad 3)) (by decide) rfl rfl hin_AC 1 (by decide) rfl wm_3 rfl dAC_add_17 ?_
    refine lv_iload_n hx hb dAC_add_20 rfl (lv_at hl 0 rfl) ?_
    refine lv_iload_n hx hb dAC_add_21 rfl (lv_at hl 2 rfl) ?_
    refine V_iast (j := (S.1 2 0).toNatClampNeg) B hw (by decide) rfl (vc_FAC_add_ix22_2 S x1 hp c1) rfl dAC_add_22 (fun H locs hw => ?_)
    refine lv_aload_n hx hb dAC_add_23 rfl (lv_at hl 1 rfl) ?_
    refine V_get B hw (v := .ref (ad 4)) (by decide) rfl rfl hin_AC 2 (by decide) rfl wm_4 rfl dAC_add_24 ?_
    refine lv_iload_n hx hb dAC_add_27 rfl (lv_at hl 0 rfl) ?_
    refine lv_iconst (v := 0) hx hb dAC_add_28 (by decide) ?_
    refine V_iast (j := (S.1 2 0).toNatClampNeg) B hw (by decide) rfl (vc_FAC_add_ix29_3 S x1 hp c1) rfl dAC_add_29 (fun H locs hw => ?_)
    refine lv_aload_n hx hb dAC_add_30 rfl (lv_at hl 1 rfl) ?_
    refine V_get B hw (v := .ref (ad 5)) (by decide) rfl rfl hin_AC 3 (by decide) rfl wm_5 rfl dAC_add_31 ?_
    refine lv_iload_n hx hb dAC_add_34 rfl (lv_at hl 0 rfl) ?_
    refine lv_iconst (v := 0) hx hb dAC_add_35 (by decide) ?_
    refine V_iast (j := (S.1 2 0).toNatClampNeg) B hw (by decide) rfl (vc_FAC_add_ix36_4 S x1 hp c1) rfl dAC_add_36 (fun H locs hw => ?_)
    refine lv_aload_n hx hb dAC_add_37 rfl (lv_at hl 1 rfl) ?_
    refine V_get B hw (v := .ref (ad 6)) (by decide) rfl rfl hin_AC 4 (by decide) rfl wm_6 rfl dAC_add_38 ?_
    refine lv_iload_n hx hb dAC_add_41 rfl (lv_at hl 0 rfl) ?_
    refine lv_lconst (v := 0) hx hb dAC_add_42 (by decide) ?_
    refine V_last (j := (S.1 2 0).toNatClampNeg) B hw (by decide) rfl (vc_FAC_add_ix43_5 S x1 hp c1) rfl dAC_add_43 (fun H locs hw => ?_)
    refine lv_aload_n hx hb dAC_add_44 rfl (lv_at hl 1 rfl) ?_
    refine V_get B hw (v := .ref (ad 7)) (by decide) rfl rfl hin_AC 5 (by decide) rfl wm_7 rfl dAC_add_45 ?_
    refine lv_iload_n hx hb dAC_add_48 rfl (lv_at hl 0 rfl) ?_
    refine lv_ldc2 (v := (-1)) hx hb hown (hts _ wm_8) dAC_add_49 ?_
    refine V_last (j := (S.1 2 0).toNatClampNeg) B hw (by decide) rfl (vc_FAC_add_ix52_6 S x1 hp c1) rfl dAC_add_52 (fun H locs hw => ?_)
    refine lv_aload_n hx hb dAC_add_53 rfl (lv_at hl 1 rfl) ?_
    refine V_get B hw (v := .ref (ad 8)) (by decide) rfl rfl hin_AC 6 (by decide) rfl wm_9 rfl dAC_add_54 ?_
    refine lv_iload_n hx hb dAC_add_57 rfl (lv_at hl 0 rfl) ?_
    refine lv_iconst (v := (-1)) hx hb dAC_add_58 (by decide) ?_
    refine V_iast (j := (S.1 2 0).toNatClampNeg) B hw (by decide) rfl (vc_FAC_add_ix59_7 S x1 hp c1) rfl dAC_add_59 (fun H locs hw => ?_)
    refine lv_aload_n hx hb dAC_add_60 rfl (lv_at hl 1 rfl) ?_
    refine V_get B hw (v := .ref (ad 9)) (by decide) rfl rfl hin_AC 7 (by decide) rfl wm_10 rfl dAC_add_61 ?_
    refine lv_iload_n hx hb dAC_add_64 rfl (lv_at hl 0 rfl) ?_
    refine lv_iconst (v := (-1)) hx hb dAC_add_65 (by decide) ?_
    refine V_iast (j := (S.1 2 0).toNatClampNeg) B hw (by decide) rfl (vc_FAC_add_ix66_8 S x1 hp c1) rfl dAC_add_66 (fun H locs hw => ?_)
    refine lv_aload_n hx hb dAC_add_67 rfl (lv_at hl 1 rfl) ?_
    refine lv_dup hx hb dAC_add_68 rfl ?_
    refine V_get B hw (v := .int (S.1 2 0)) (by decide) rfl rfl hin_AC 0 (by decide) rfl wm_2 rfl dAC_add_69 ?_
    refine lv_iconst (v := 1) hx hb dAC_add_72 (by decide) ?_
    refine lv_iadd hx hb dAC_add_73 ?_
    refine V_putI (ty := .int) B hw (by decide) rfl rfl hin_AC tyAC_ok nmAC 0 (by decide) rfl wm_2 rfl (by decide +kernel) rfl rfl dAC_add_74 (fun H locs hw => ?_)
    refine lv_iload_n hx hb dAC_add_77 rfl (lv_at hl 0 rfl) ?_
    exact V_iret B hr hlk hw (pI_of hF) dAC_add_78
  · have hF := hF.trans (if_neg c1)
    refine lv_iconst (v := (-1)) hx hb dAC_add_9 (by decide) ?_
    exact V_iret B hr hlk hw (pI_of hF) dAC_add_10
theorem cw_FHL_account {R : Room} {cells slots : Nat} (h1 : 2 ≤ R.frames) (h2 : 43 ≤ R.locals) (h3 : cells ≤ R.cells) (h4 : slots ≤ R.slots) : Cw R cells slots yHL_account bHL_account 2 (some .int) ({ frames := 1, cells := 0, slots := 0, locals := 22 } : Room) 1 := ⟨wm_352, wm_353, by decide +kernel, ⟨rfl, rfl, h1, h2⟩, h3, h4⟩
set_option maxHeartbeats 4000000 in
set_option maxRecDepth 100000 in
theorem M_FHL_account (l : Launch) {ad : Nat → Nat} {cI cL : ClassId} {dC : Nat → ClassId} {dI : Nat → Nat → Nat} (hi : adI ad) (S : hS) (x1 : Int32) (hp : wfC S) : Mt l ad cI cL dC dI yHL_account bHL_account 2 (some .int) ({ frames := 1, cells := 0, slots := 0, locals := 22 } : Room) [.ref (ad 0), .int x1] S (pI (FHL_account S x1).1 (FHL_account S x1).2) := by
  refine Mt_of (own := RHL) hi (by decide) rfl (Nat.le_of_ble_eq_true rfl) ?_
  intro p e s m args below meth c ls B hr hlk hw hl
  obtain ⟨hx, hb, -, hown, hts, -, -⟩ := id B
  have hA : ∀ q, AA ad s.heap.size q → AA ad s.heap.size q := fun _ h => h
  have hl : lv_has ls 2 [(0, .ref (ad 0)), (1, .int x1)] := hl
  have hF := FHL_account_e S x1
  refine lv_iload_n hx hb dHL_account_0 rfl (lv_at hl 1 rfl) ?_
  refine lv_if_lt (tgt := 9) hx hb dHL_account_1 (by decide) (fun c1 => ?_) (fun c1 => ?_)
  · have hF := hF.trans (if_pos c1)
    refine lv_iconst (v := (-1)) hx hb dHL_account_9 (by decide) ?_
    exact V_iret B hr hlk hw (pI_of hF) dHL_account_10
  · have hF := hF.trans (if_neg c1)
    refine lv_iload_n hx hb dHL_account_4 rfl (lv_at hl 1 rfl) ?_
    refine lv_iconst (v := 2) hx hb dHL_account_5 (by decide) ?_
    refine lv_icmp_le (tgt := 11) hx hb dHL_account_6 (by decide) (fun c2 => ?_) (fun c2 => ?_)
    · have hF := hF.trans (if_pos c2)
      refine lv_aload_n hx hb dHL_account_11 rfl (lv_at hl 0 rfl) ?_
      refine V_get B hw (v := .ref (ad 1)) (by decide) rfl rfl hin_HL 0 (by decide) rfl wm_0 rfl dHL_account_12 ?_
      refine V_getN B hw (v := .ref (ad 2)) (by decide) rfl rfl hin_BO 0 (by decide) rfl wn_1 rfl dHL_account_15 ?_
      refine lv_iload_n hx hb dHL_account_18 rfl (lv_at hl 1 rfl) ?_
      rcases hq4 : FAC_add S x1 with ⟨v4, S4⟩
      rw [hq4] at hF; try dsimp only at hF
      refine V_callVN (post := pI v4 S4) (rest := []) B hi hw hA hl.1 (by have h := M_FAC_add (cI := cI) (cL := cL) (dC := dC) (dI := dI) l hi S x1 (vc_FHL_account_pre19_3 S x1 hp c1 c2); rw [hq4] at h; exact h) (cw_FAC_add (Nat.le_of_ble_eq_true rfl) (Nat.le_of_ble_eq_true rfl) (Nat.zero_le _) (Nat.zero_le _)) (by decide) rfl rfl wn_11 wm_12 wm_13 rfl (Nat.le_of_ble_eq_true rfl) dHL_account_19 (kI (fun H locs hw => ?_))
      exact V_iret B hr hlk hw (pI_of hF) dHL_account_22
    · have hF := hF.trans (if_neg c2)
      refine lv_iconst (v := (-1)) hx hb dHL_account_9 (by decide) ?_
      exact V_iret B hr hlk hw (pI_of hF) dHL_account_10
theorem cw_FHL_isDay {R : Room} {cells slots : Nat} (h1 : 1 ≤ R.frames) (h2 : 21 ≤ R.locals) (h3 : cells ≤ R.cells) (h4 : slots ≤ R.slots) : Cw R cells slots yHL_isDay bHL_isDay 2 (some .boolean) ({ frames := 0, cells := 0, slots := 0, locals := 0 } : Room) 1 := ⟨wm_354, wm_353, by decide +kernel, ⟨rfl, rfl, h1, h2⟩, h3, h4⟩
set_option maxHeartbeats 4000000 in
set_option maxRecDepth 100000 in
theorem M_FHL_isDay (l : Launch) {ad : Nat → Nat} {cI cL : ClassId} {dC : Nat → ClassId} {dI : Nat → Nat → Nat} (hi : adI ad) (S : hS) (x0 : Int64) : Mt l ad cI cL dC dI yHL_isDay bHL_isDay 2 (some .boolean) ({ frames := 0, cells := 0, slots := 0, locals := 0 } : Room) [.long x0] S (pI (FHL_isDay S x0) S) := by
  refine Mt_of (own := RHL) hi (by decide) rfl (Nat.le_of_ble_eq_true rfl) ?_
  intro p e s m args below meth c ls B hr hlk hw hl
  obtain ⟨hx, hb, -, hown, hts, -, -⟩ := id B
  have hA : ∀ q, AA ad s.heap.size q → AA ad s.heap.size q := fun _ h => h
  have hl : lv_has ls 2 [(0, .long x0)] := hl
  have hF := FHL_isDay_e S x0
  refine lv_lload_n hx hb dHL_isDay_0 rfl (lv_at hl 0 rfl) ?_
  refine lv_lconst (v := 0) hx hb dHL_isDay_1 (by decide) ?_
  refine V_llt (tgt := 18) B dHL_isDay_2 dHL_isDay_3 (by decide) (fun c1 => ?_) (fun c1 => ?_)
  · have hF := hF.trans (if_pos c1)
    refine lv_iconst (v := 0) hx hb dHL_isDay_18 (by decide) ?_
    exact V_zret B hr hlk hw (by decide) (pI_r hF) dHL_isDay_19
  · have hF := hF.trans (if_neg c1)
    refine lv_lload_n hx hb dHL_isDay_6 rfl (lv_at hl 0 rfl) ?_
    refine lv_ldc2 (v := 3600) hx hb hown (hts _ wm_14) dHL_isDay_7 ?_
    refine V_lge (tgt := 18) B dHL_isDay_10 dHL_isDay_11 (by decide) (fun c2 => ?_) (fun c2 => ?_)
    · have hF := hF.trans (if_pos c2)
      refine lv_iconst (v := 0) hx hb dHL_isDay_18 (by decide) ?_
      exact V_zret B hr hlk hw (by decide) (pI_r hF) dHL_isDay_19
    · have hF := hF.trans (if_neg c2)
      refine lv_iconst (v := 1) hx hb dHL_isDay_14 (by decide) ?_
      refine lv_goto (tgt := 19) hx hb dHL_isDay_15 (by decide) ?_
      exact V_zret B hr hlk hw (by decide) (pI_r hF) dHL_isDay_19
theorem cw_FBO_isUnclosedDay {R : Room} {cells slots : Nat} (h1 : 2 ≤ R.frames) (h2 : 43 ≤ R.locals) (h3 : cells ≤ R.cells) (h4 : slots ≤ R.slots) : Cw R cells slots yBO_isUnclosedDay bBO_isUnclosedDay 3 (some .boolean) ({ frames := 1, cells := 0, slots := 0, locals := 21 } : Room) 1 := ⟨wm_355, wm_356, by decide +kernel, ⟨rfl, rfl, h1, h2⟩, h3, h4⟩
set_option maxHeartbeats 4000000 in
set_option maxRecDepth 100000 in
theorem M_FBO_isUnclosedDay (l : Launch) {ad : Nat → Nat} {cI cL : ClassId} {dC : Nat → ClassId} {dI : Nat → Nat → Nat} (hi : adI ad) (S : hS) (x1 : Int64) (hp : wfC S) : Mt l ad cI cL dC dI yBO_isUnclosedDay bBO_isUnclosedDay 3 (some .boolean) ({ frames := 1, cells := 0, slots := 0, locals := 21 } : Room) [.ref (ad 1), .long x1] S (pI (FBO_isUnclosedDay S x1) S) := by
  refine Mt_of (own := RBO) hi (by decide) rfl (Nat.le_of_ble_eq_true rfl) ?_
  intro p e s m args below meth c ls B hr hlk hw hl
  obtain ⟨hx, hb, -, hown, hts, -, -⟩ := id B
  have hA : ∀ q, AA ad s.heap.size q → AA ad s.heap.size q := fun _ h => h
  have hl : lv_has ls 3 [(0, .ref (ad 1)), (1, .long x1)] := hl
  have hF := FBO_isUnclosedDay_e S x1
  refine lv_lload_n hx hb dBO_isUnclosedDay_0 rfl (lv_at hl 1 rfl) ?_
  refine V_callSN (rest := []) B hi hw hA hl.1 (M_FHL_isDay l hi S x1) (cw_FHL_isDay (Nat.le_of_ble_eq_true rfl) (Nat.le_of_ble_eq_true rfl) (Nat.zero_le _) (Nat.zero_le _)) wn_15 wm_16 rfl (Nat.le_of_ble_eq_true rfl) dBO_isUnclosedDay_1 (kI (fun H locs hw => ?_))
  refine lv_if_eq (tgt := 25) hx hb dBO_isUnclosedDay_4 (by decide) (fun c1 => ?_) (fun c1 => ?_)
  · have hF := hF.trans (if_pos c1)
    refine lv_iconst (v := 0) hx hb dBO_isUnclosedDay_25 (by decide) ?_
    exact V_zret B hr hlk hw (by decide) (pI_r hF) dBO_isUnclosedDay_26
  · have hF := hF.trans (if_neg c1)
    refine lv_lload_n hx hb dBO_isUnclosedDay_7 rfl (lv_at hl 1 rfl) ?_
    refine lv_ldc2 (v := 30) hx hb hown (hts _ wm_17) dBO_isUnclosedDay_8 ?_
    refine lv_ldiv hx hb dBO_isUnclosedDay_11 (by decide) ?_
    refine lv_aload_n hx hb dBO_isUnclosedDay_12 rfl (lv_at hl 0 rfl) ?_
    refine V_get B hw (v := .int (S.1 1 5)) (by decide) rfl rfl hin_BO 5 (by decide) rfl wm_18 rfl dBO_isUnclosedDay_13 ?_
    refine lv_i2l hx hb dBO_isUnclosedDay_16 rfl ?_
    refine V_llt (tgt := 25) B dBO_isUnclosedDay_17 dBO_isUnclosedDay_18 (by decide) (fun c2 => ?_) (fun c2 => ?_)
    · have hF := hF.trans (if_pos c2)
      refine lv_iconst (v := 0) hx hb dBO_isUnclosedDay_25 (by decide) ?_
      exact V_zret B hr hlk hw (by decide) (pI_r hF) dBO_isUnclosedDay_26
    · have hF := hF.trans (if_neg c2)
      refine lv_iconst (v := 1) hx hb dBO_isUnclosedDay_21 (by decide) ?_
      refine lv_goto (tgt := 26) hx hb dBO_isUnclosedDay_22 (by decide) ?_
      exact V_zret B hr hlk hw (by decide) (pI_r hF) dBO_isUnclosedDay_26
theorem cw_FJO_isFull {R : Room} {cells slots : Nat} (h1 : 1 ≤ R.frames) (h2 : 20 ≤ R.locals) (h3 : cells ≤ R.cells) (h4 : slots ≤ R.slots) : Cw R cells slots yJO_isFull bJO_isFull 1 (some .boolean) ({ frames := 0, cells := 0, slots := 0, locals := 0 } : Room) 0 := ⟨wm_357, wm_358, by decide +kernel, ⟨rfl, rfl, h1, h2⟩, h3, h4⟩
set_option maxHeartbeats 4000000 in
set_option maxRecDepth 100000 in
theorem M_FJO_isFull (l : Launch) {ad : Nat → Nat} {cI cL : ClassId} {dC : Nat → ClassId} {dI : Nat → Nat → Nat} (hi : adI ad) (S : hS)  (hp : wfC S) : Mt l ad cI cL dC dI yJO_isFull bJO_isFull 1 (some .boolean) ({ frames := 0, cells := 0, slots := 0, locals := 0 } : Room) [.ref (ad 10)] S (pI (FJO_isFull S) S) := by
  refine Mt_of (own := RJO) hi (by decide) rfl (Nat.le_of_ble_eq_true rfl) ?_
  intro p e s m args below meth c ls B hr hlk hw hl
  obtain ⟨hx, hb, -, hown, hts, -, -⟩ := id B
  have hA : ∀ q, AA ad s.heap.size q → AA ad s.heap.size q := fun _ h => h
  have hl : lv_has ls 1 [(0, .ref (ad 10))] := hl
  have hF := FJO_isFull_e S 
  refine lv_aload_n hx hb dJO_isFull_0 rfl (lv_at hl 0 rfl) ?_
  refine V_get B hw (v := .int (S.1 10 0)) (by decide) rfl rfl hin_JO 0 (by decide) rfl wm_23 rfl dJO_isFull_1 ?_
  refine lv_bipush (v := 40) hx hb dJO_isFull_4 (by decide) ?_
  refine lv_icmp_lt (tgt := 13) hx hb dJO_isFull_6 (by decide) (fun c1 => ?_) (fun c1 => ?_)
  · have hF := hF.trans (if_pos c1)
    refine lv_iconst (v := 0) hx hb dJO_isFull_13 (by decide) ?_
    exact V_zret B hr hlk hw (by decide) (pI_r hF) dJO_isFull_14
  · have hF := hF.trans (if_neg c1)
    refine lv_iconst (v := 1) hx hb dJO_isFull_9 (by decide) ?_
    refine lv_goto (tgt := 14) hx hb dJO_isFull_10 (by decide) ?_
    exact V_zret B hr hlk hw (by decide) (pI_r hF) dJO_isFull_14
set_option maxHeartbeats 4000000 in
set_option maxRecDepth 100000 in
theorem LPJO_add_38 (l : Launch) {ad : Nat → Nat} {cI cL : ClassId} {dC : Nat → ClassId} {dI : Nat → Nat → Nat} (hi : adI ad) {p : Program} {e : Env} {s : State} {m : MethodId} {args : Array Value} {below : List Frame} {meth : Method} {c : Code} {A : Nat → Prop} {post : Option Value → hS → Prop} (B : Bs p s m args c RJO bJO_add 5 cI cL dC dI) (hr : meth.sig.returnType = (some .int)) (hlk : meth.locks = false) (hA : ∀ q, AA ad s.heap.size q → A q) : ∀ (n : Nat) (S : hS) (x1 : Int32) (x2 : Int32) (x3 : Int32) (x4 : Int32) (H : Heap) (locs : List Loc) (ls : Array Slot), wfC S ∧ rg x4 40 → x4.toInt.toNat < n → Wd ad cI cL dC dI A s.heap S H locs → lv_has ls 5 [(0, .ref (ad 10)), (1, .int x1), (2, .int x2), (3, .int x3), (4, .int x4)] → (∀ (H : Heap) (locs : List Loc) (ls : Array Slot) (y4 : Int32) (S' : hS), LJO_add_38 n S x1 x2 x3 x4 = (y4, S') → Wd ad cI cL dC dI A s.heap S' H locs → lv_has ls 5 [(0, .ref (ad 10)), (1, .int x1), (2, .int x2), (3, .int x3), (4, .int y4)] → W p l e ({ frames := 1, cells := 0, slots := 0, locals := 20 } : Room) s m args below meth c H locs 0 0 (MQ below (QcW ad cI cL dC dI post A) args s 0 0 A) (F0 m 83 ls [])) → W p l e ({ frames := 1, cells := 0, slots := 0, locals := 20 } : Room) s m args below meth c H locs 0 0 (MQ below (QcW ad cI cL dC dI post A) args s 0 0 A) (F0 m 38 ls []) := by
  intro n
  obtain ⟨hx, hb, -, hown, hts, -, -⟩ := id B
  induction n with
  | zero => exact fun S x1 x2 x3 x4 H locs ls _ hmu => absurd hmu (Nat.not_lt_zero _)
  | succ n ih =>
    intro S x1 x2 x3 x4 H locs ls hJ hmu hw hl hexit
    have hF := LJO_add_38_s n S x1 x2 x3 x4
    refine lv_iload hx hb dJO_add_38 (lv_at hl 4 rfl) ?_
    refine lv_if_le (tgt := 83) hx hb dJO_add_40 (by decide) (fun c6 => ?_) (fun c6 => ?_)
    · have hF := hF.trans (if_pos c6)
      exact hexit _ _ _ x4 S hF hw (lv_sub hl [0, 1, 2, 3, 4] rfl)
    · have hF := hF.trans (if_neg c6)
      refine lv_aload_n hx hb dJO_add_43 rfl (lv_at hl 0 rfl) ?_
      refine V_get B hw (v := .ref (ad 11)) (by decide) rfl rfl hin_JO 1 (by decide) rfl wm_27 rfl dJO_add_44 ?_
      refine lv_aload_n hx hb dJO_add_47 rfl (lv_at hl 0 rfl) ?_
      refine V_get B hw (v := .ref (ad 14)) (by decide) rfl rfl hin_JO 4 (by decide) rfl wm_30 rfl dJO_add_48 ?_
      refine lv_iload hx hb dJO_add_51 (lv_at hl 4 rfl) ?_
      refine lv_iconst (v := 1) hx hb dJO_add_53 (by decide) ?_
      refine lv_isub hx hb dJO_add_54 ?_
      refine V_iald (j := (x4 - 1).toNatClampNeg) (v := S.1 14 ((x4 - 1).toNatClampNeg)) B hw (by decide) rfl (vc_FJO_add_ix55_7 S x1 x2 x3 x4 hJ c6) rfl rfl dJO_add_55 ?_
      refine V_iald (j := (S.1 14 ((x4 - 1).toNatClampNeg)).toNatClampNeg) (v := S.1 11 ((S.1 14 ((x4 - 1).toNatClampNeg)).toNatClampNeg)) B hw (by decide) rfl (vc_FJO_add_ix56_8 S x1 x2 x3 x4 hJ c6) rfl rfl dJO_add_56 ?_
      refine lv_iload_n hx hb dJO_add_57 rfl (lv_at hl 1 rfl) ?_
      refine lv_icmp_le (tgt := 83) hx hb dJO_add_58 (by decide) (fun c9 => ?_) (fun c9 => ?_)
      · have hF := hF.trans (if_pos c9)
        exact hexit _ _ _ x4 S hF hw (lv_sub hl [0, 1, 2, 3, 4] rfl)
      · have hF := hF.trans (if_neg c9)
        refine lv_aload_n hx hb dJO_add_61 rfl (lv_at hl 0 rfl) ?_
        refine V_get B hw (v := .ref (ad 14)) (by decide) rfl rfl hin_JO 4 (by decide) rfl wm_30 rfl dJO_add_62 ?_
        refine lv_iload hx hb dJO_add_65 (lv_at hl 4 rfl) ?_
        refine lv_aload_n hx hb dJO_add_67 rfl (lv_at hl 0 rfl) ?_
        refine V_get B hw (v := .ref (ad 14)) (by decide) rfl rfl hin_JO 4 (by decide) rfl wm_30 rfl dJO_add_68 ?_
        refine lv_iload hx hb dJO_add_71 (lv_at hl 4 rfl) ?_
        refine lv_iconst (v := 1) hx hb dJO_add_73 (by decide) ?_
        refine lv_isub hx hb dJO_add_74 ?_
        refine V_iald (j := (x4 - 1).toNatClampNeg) (v := S.1 14 ((x4 - 1).toNatClampNeg)) B hw (by decide) rfl (vc_FJO_add_ix75_10 S x1 x2 x3 x4 hJ c6 c9) rfl rfl dJO_add_75 ?_
        refine V_iast (j := x4.toNatClampNeg) B hw (by decide) rfl (vc_FJO_add_ix76_11 S x1 x2 x3 x4 hJ c6 c9) rfl dJO_add_76 (fun H locs hw => ?_)
        refine lv_iinc (v := x4 + (-1)) (lv' := [(4, .int (x4 + (-1))), (0, .ref (ad 10)), (1, .int x1), (2, .int x2), (3, .int x3)]) hx hb dJO_add_77 hl (k := 4) rfl rfl (by decide) rfl (fun ls hl => ?_)
        refine lv_goto (tgt := 38) hx hb dJO_add_80 (by decide) ?_
        exact ih (sI S 14 x4.toNatClampNeg (S.1 14 ((x4 - 1).toNatClampNeg))) x1 x2 x3 (x4 + (-1)) _ _ _ (vc_FJO_add_inv38_12 S x1 x2 x3 x4 hJ c6 c9) (Nat.lt_of_lt_of_le (vc_FJO_add_mu38_13 S x1 x2 x3 x4 hJ c6 c9) (Nat.le_of_lt_succ hmu)) hw (lv_sub hl [1, 2, 3, 4, 0] rfl) (fun H locs ls y4 S' h hw hl => hexit H locs ls y4 S' (hF.trans h) hw hl)
theorem cw_FJO_add {R : Room} {cells slots : Nat} (h1 : 2 ≤ R.frames) (h2 : 44 ≤ R.locals) (h3 : cells ≤ R.cells) (h4 : slots ≤ R.slots) : Cw R cells slots yJO_add bJO_add 5 (some .int) ({ frames := 1, cells := 0, slots := 0, locals := 20 } : Room) 2 := ⟨wm_359, wm_358, by decide +kernel, ⟨rfl, rfl, h1, h2⟩, h3, h4⟩
set_option maxHeartbeats 4000000 in
set_option maxRecDepth 100000 in
theorem M_FJO_add (l : Launch) {ad : Nat → Nat} {cI cL : ClassId} {dC : Nat → ClassId} {dI : Nat → Nat → Nat} (hi : adI ad) (S : hS) (x1 : Int32) (x2 : Int32) (hp : wfC S) : Mt l ad cI cL dC dI yJO_add bJO_add 5 (some .int) ({ frames := 1, cells := 0, slots := 0, locals := 20 } : Room) [.ref (ad 10), .int x1, .int x2] S (pI (FJO_add S x1 x2).1 (FJO_add S x1 x2).2) := by
  refine Mt_of (own := RJO) hi (by decide) rfl (Nat.le_of_ble_eq_true rfl) ?_
  intro p e s m args below meth c ls B hr hlk hw hl
  obtain ⟨hx, hb, -, hown, hts, -, -⟩ := id B
  have hA : ∀ q, AA ad s.heap.size q → AA ad s.heap.size q := fun _ h => h
  have hl : lv_has ls 5 [(0, .ref (ad 10)), (1, .int x1), (2, .int x2)] := hl
  have hF := FJO_add_e S x1 x2
  refine lv_aload_n hx hb dJO_add_0 rfl (lv_at hl 0 rfl) ?_
  refine V_callV (rest := []) B hi hw hA hl.1 (M_FJO_isFull l hi S (vc_FJO_add_pre1_1 S x1 x2 hp)) (cw_FJO_isFull (Nat.le_of_ble_eq_true rfl) (Nat.le_of_ble_eq_true rfl) (Nat.zero_le _) (Nat.zero_le _)) (by decide) rfl rfl wm_24 wm_25 wm_26 rfl (Nat.le_of_ble_eq_true rfl) dJO_add_1 (kI (fun H locs hw => ?_))
  refine lv_if_eq (tgt := 9) hx hb dJO_add_4 (by decide) (fun c2 => ?_) (fun c2 => ?_)
  · have hF := hF.trans (if_pos c2)
    refine lv_aload_n hx hb dJO_add_9 rfl (lv_at hl 0 rfl) ?_
    refine V_get B hw (v := .int (S.1 10 0)) (by decide) rfl rfl hin_JO 0 (by decide) rfl wm_23 rfl dJO_add_10 ?_
    refine lv_istore_n (lv' := [(3, .int (S.1 10 0)), (0, .ref (ad 10)), (1, .int x1), (2, .int x2)]) hx hb dJO_add_13 rfl hl (by decide) rfl (fun ls hl => ?_)
    refine lv_aload_n hx hb dJO_add_14 rfl (lv_at hl 1 rfl) ?_
    refine V_get B hw (v := .ref (ad 11)) (by decide) rfl rfl hin_JO 1 (by decide) rfl wm_27 rfl dJO_add_15 ?_
    refine lv_iload_n hx hb dJO_add_18 rfl (lv_at hl 0 rfl) ?_
    refine lv_iload_n hx hb dJO_add_19 rfl (lv_at hl 2 rfl) ?_
    refine V_iast (j := (S.1 10 0).toNatClampNeg) B hw (by decide) rfl (vc_FJO_add_ix20_3 S x1 x2 hp c2) rfl dJO_add_20 (fun H locs hw => ?_)
    refine lv_aload_n hx hb dJO_add_21 rfl (lv_at hl 1 rfl) ?_
    refine V_get B hw (v := .ref (ad 12)) (by decide) rfl rfl hin_JO 2 (by decide) rfl wm_28 rfl dJO_add_22 ?_
    refine lv_iload_n hx hb dJO_add_25 rfl (lv_at hl 0 rfl) ?_
    refine lv_iload_n hx hb dJO_add_26 rfl (lv_at hl 3 rfl) ?_
    refine V_iast (j := (S.1 10 0).toNatClampNeg) B hw (by decide) rfl (vc_FJO_add_ix27_4 S x1 x2 hp c2) rfl dJO_add_27 (fun H locs hw => ?_)
    refine lv_aload_n hx hb dJO_add_28 rfl (lv_at hl 1 rfl) ?_
    refine V_get B hw (v := .ref (ad 13)) (by decide) rfl rfl hin_JO 3 (by decide) rfl wm_29 rfl dJO_add_29 ?_
    refine lv_iload_n hx hb dJO_add_32 rfl (lv_at hl 0 rfl) ?_
    refine lv_iconst (v := 0) hx hb dJO_add_33 (by decide) ?_
    refine V_iast (j := (S.1 10 0).toNatClampNeg) B hw (by decide) rfl (vc_FJO_add_ix34_5 S x1 x2 hp c2) rfl dJO_add_34 (fun H locs hw => ?_)
    refine lv_iload_n hx hb dJO_add_35 rfl (lv_at hl 0 rfl) ?_
    refine lv_istore (lv' := [(4, .int (S.1 10 0)), (3, .int (S.1 10 0)), (0, .ref (ad 10)), (1, .int x1), (2, .int x2)]) hx hb dJO_add_36 hl (by decide) rfl (fun ls hl => ?_)
    refine LPJO_add_38 l hi B hr hlk hA 300 (sI (sI (sI S 11 ((S.1 10 0).toNatClampNeg) x1) 12 ((S.1 10 0).toNatClampNeg) x2) 13 ((S.1 10 0).toNatClampNeg) 0) x1 x2 (S.1 10 0) (S.1 10 0) _ _ _ (vc_FJO_add_inv038_15 S x1 x2 hp c2) (vc_FJO_add_mu038_16 S x1 x2 hp c2) hw (lv_sub hl [2, 3, 4, 1, 0] rfl) (fun H locs ls y14_4 S14 hq14 hw hl => ?_)
    rw [hq14] at hF; try dsimp only at hF
    refine lv_aload_n hx hb dJO_add_83 rfl (lv_at hl 0 rfl) ?_
    refine V_get B hw (v := .ref (ad 14)) (by decide) rfl rfl hin_JO 4 (by decide) rfl wm_30 rfl dJO_add_84 ?_
    refine lv_iload hx hb dJO_add_87 (lv_at hl 4 rfl) ?_
    refine lv_iload_n hx hb dJO_add_89 rfl (lv_at hl 3 rfl) ?_
    refine V_iast (j := y14_4.toNatClampNeg) B hw (by decide) rfl (vc_FJO_add_ix90_17 S x1 x2 hp c2 y14_4 S14 hq14) rfl dJO_add_90 (fun H locs hw => ?_)
    refine lv_aload_n hx hb dJO_add_91 rfl (lv_at hl 0 rfl) ?_
    refine lv_dup hx hb dJO_add_92 rfl ?_
    refine V_get B hw (v := .int (S14.1 10 0)) (by decide) rfl rfl hin_JO 0 (by decide) rfl wm_23 rfl dJO_add_93 ?_
    refine lv_iconst (v := 1) hx hb dJO_add_96 (by decide) ?_
    refine lv_iadd hx hb dJO_add_97 ?_
    refine V_putI (ty := .int) B hw (by decide) rfl rfl hin_JO tyJO_ok nmJO 0 (by decide) rfl wm_23 rfl (by decide +kernel) rfl rfl dJO_add_98 (fun H locs hw => ?_)
    refine lv_iload_n hx hb dJO_add_101 rfl (lv_at hl 3 rfl) ?_
    exact V_iret B hr hlk hw (pI_of hF) dJO_add_102
  · have hF := hF.trans (if_neg c2)
    refine lv_iconst (v := (-1)) hx hb dJO_add_7 (by decide) ?_
    exact V_iret B hr hlk hw (pI_of hF) dJO_add_8
theorem cw_FHL_entry {R : Room} {cells slots : Nat} (h1 : 3 ≤ R.frames) (h2 : 66 ≤ R.locals) (h3 : cells ≤ R.cells) (h4 : slots ≤ R.slots) : Cw R cells slots yHL_entry bHL_entry 3 (some .int) ({ frames := 2, cells := 0, slots := 0, locals := 44 } : Room) 1 := ⟨wm_360, wm_353, by decide +kernel, ⟨rfl, rfl, h1, h2⟩, h3, h4⟩
set_option maxHeartbeats 4000000 in
set_option maxRecDepth 100000 in
theorem M_FHL_entry (l : Launch) {ad : Nat → Nat} {cI cL : ClassId} {dC : Nat → ClassId} {dI : Nat → Nat → Nat} (hi : adI ad) (S : hS) (x1 : Int64) (hp : wfC S) : Mt l ad cI cL dC dI yHL_entry bHL_entry 3 (some .int) ({ frames := 2, cells := 0, slots := 0, locals := 44 } : Room) [.ref (ad 0), .long x1] S (pI (FHL_entry S x1).1 (FHL_entry S x1).2) := by
  refine Mt_of (own := RHL) hi (by decide) rfl (Nat.le_of_ble_eq_true rfl) ?_
  intro p e s m args below meth c ls B hr hlk hw hl
  obtain ⟨hx, hb, -, hown, hts, -, -⟩ := id B
  have hA : ∀ q, AA ad s.heap.size q → AA ad s.heap.size q := fun _ h => h
  have hl : lv_has ls 3 [(0, .ref (ad 0)), (1, .long x1)] := hl
  have hF := FHL_entry_e S x1
  refine lv_aload_n hx hb dHL_entry_0 rfl (lv_at hl 0 rfl) ?_
  refine V_get B hw (v := .ref (ad 1)) (by decide) rfl rfl hin_HL 0 (by decide) rfl wm_0 rfl dHL_entry_1 ?_
  refine lv_lload_n hx hb dHL_entry_4 rfl (lv_at hl 1 rfl) ?_
  refine V_callVN (rest := []) B hi hw hA hl.1 (M_FBO_isUnclosedDay l hi S x1 (vc_FHL_entry_pre5_1 S x1 hp)) (cw_FBO_isUnclosedDay (Nat.le_of_ble_eq_true rfl) (Nat.le_of_ble_eq_true rfl) (Nat.zero_le _) (Nat.zero_le _)) (by decide) rfl rfl wn_19 wm_20 wm_21 rfl (Nat.le_of_ble_eq_true rfl) dHL_entry_5 (kI (fun H locs hw => ?_))
  refine lv_if_ne (tgt := 13) hx hb dHL_entry_8 (by decide) (fun c2 => ?_) (fun c2 => ?_)
  · have hF := hF.trans (if_neg c2)
    refine lv_aload_n hx hb dHL_entry_13 rfl (lv_at hl 0 rfl) ?_
    refine V_get B hw (v := .ref (ad 1)) (by decide) rfl rfl hin_HL 0 (by decide) rfl wm_0 rfl dHL_entry_14 ?_
    refine V_getN B hw (v := .ref (ad 10)) (by decide) rfl rfl hin_BO 1 (by decide) rfl wn_22 rfl dHL_entry_17 ?_
    refine lv_lload_n hx hb dHL_entry_20 rfl (lv_at hl 1 rfl) ?_
    refine lv_l2i hx hb dHL_entry_21 rfl ?_
    refine lv_iconst (v := 0) hx hb dHL_entry_22 (by decide) ?_
    rcases hq4 : FJO_add S x1.toInt32 0 with ⟨v4, S4⟩
    rw [hq4] at hF; try dsimp only at hF
    refine V_callVN (post := pI v4 S4) (rest := []) B hi hw hA hl.1 (by have h := M_FJO_add (cI := cI) (cL := cL) (dC := dC) (dI := dI) l hi S x1.toInt32 0 (vc_FHL_entry_pre23_3 S x1 hp c2); rw [hq4] at h; exact h) (cw_FJO_add (Nat.le_of_ble_eq_true rfl) (Nat.le_of_ble_eq_true rfl) (Nat.zero_le _) (Nat.zero_le _)) (by decide) rfl rfl wn_31 wm_32 wm_33 rfl (Nat.le_of_ble_eq_true rfl) dHL_entry_23 (kI (fun H locs hw => ?_))
    exact V_iret B hr hlk hw (pI_of hF) dHL_entry_26
  · have hF := hF.trans (if_pos c2)
    refine lv_iconst (v := (-1)) hx hb dHL_entry_11 (by decide) ?_
    exact V_iret B hr hlk hw (pI_of hF) dHL_entry_12
theorem cw_FJO_isOpen {R : Room} {cells slots : Nat} (h1 : 1 ≤ R.frames) (h2 : 21 ≤ R.locals) (h3 : cells ≤ R.cells) (h4 : slots ≤ R.slots) : Cw R cells slots yJO_isOpen bJO_isOpen 2 (some .boolean) ({ frames := 0, cells := 0, slots := 0, locals := 0 } : Room) 1 := ⟨wm_361, wm_358, by decide +kernel, ⟨rfl, rfl, h1, h2⟩, h3, h4⟩
set_option maxHeartbeats 4000000 in
set_option maxRecDepth 100000 in
theorem M_FJO_isOpen (l : Launch) {ad : Nat → Nat} {cI cL : ClassId} {dC : Nat → ClassId} {dI : Nat → Nat → Nat} (hi : adI ad) (S : hS) (x1 : Int32) (hp : wfC S) : Mt l ad cI cL dC dI yJO_isOpen bJO_isOpen 2 (some .boolean) ({ frames := 0, cells := 0, slots := 0, locals := 0 } : Room) [.ref (ad 10), .int x1] S (pI (FJO_isOpen S x1) S) := by
  refine Mt_of (own := RJO) hi (by decide) rfl (Nat.le_of_ble_eq_true rfl) ?_
  intro p e s m args below meth c ls B hr hlk hw hl
  obtain ⟨hx, hb, -, hown, hts, -, -⟩ := id B
  have hA : ∀ q, AA ad s.heap.size q → AA ad s.heap.size q := fun _ h => h
  have hl : lv_has ls 2 [(0, .ref (ad 10)), (1, .int x1)] := hl
  have hF := FJO_isOpen_e S x1
  refine lv_iload_n hx hb dJO_isOpen_0 rfl (lv_at hl 1 rfl) ?_
  refine lv_if_lt (tgt := 25) hx hb dJO_isOpen_1 (by decide) (fun c1 => ?_) (fun c1 => ?_)
  · have hF := hF.trans (if_pos c1)
    refine lv_iconst (v := 0) hx hb dJO_isOpen_25 (by decide) ?_
    exact V_zret B hr hlk hw (by decide) (pI_r hF) dJO_isOpen_26
  · have hF := hF.trans (if_neg c1)
    refine lv_iload_n hx hb dJO_isOpen_4 rfl (lv_at hl 1 rfl) ?_
    refine lv_aload_n hx hb dJO_isOpen_5 rfl (lv_at hl 0 rfl) ?_
    refine V_get B hw (v := .int (S.1 10 0)) (by decide) rfl rfl hin_JO 0 (by decide) rfl wm_23 rfl dJO_isOpen_6 ?_
    refine lv_icmp_ge (tgt := 25) hx hb dJO_isOpen_9 (by decide) (fun c2 => ?_) (fun c2 => ?_)
    · have hF := hF.trans (if_pos c2)
      refine lv_iconst (v := 0) hx hb dJO_isOpen_25 (by decide) ?_
      exact V_zret B hr hlk hw (by decide) (pI_r hF) dJO_isOpen_26
    · have hF := hF.trans (if_neg c2)
      refine lv_aload_n hx hb dJO_isOpen_12 rfl (lv_at hl 0 rfl) ?_
      refine V_get B hw (v := .ref (ad 12)) (by decide) rfl rfl hin_JO 2 (by decide) rfl wm_28 rfl dJO_isOpen_13 ?_
      refine lv_iload_n hx hb dJO_isOpen_16 rfl (lv_at hl 1 rfl) ?_
      refine V_iald (j := x1.toNatClampNeg) (v := S.1 12 x1.toNatClampNeg) B hw (by decide) rfl (vc_FJO_isOpen_ix17_3 S x1 hp c1 c2) rfl rfl dJO_isOpen_17 ?_
      refine lv_if_ne (tgt := 25) hx hb dJO_isOpen_18 (by decide) (fun c4 => ?_) (fun c4 => ?_)
      · have hF := hF.trans (if_neg c4)
        refine lv_iconst (v := 0) hx hb dJO_isOpen_25 (by decide) ?_
        exact V_zret B hr hlk hw (by decide) (pI_r hF) dJO_isOpen_26
      · have hF := hF.trans (if_pos c4)
        refine lv_iconst (v := 1) hx hb dJO_isOpen_21 (by decide) ?_
        refine lv_goto (tgt := 26) hx hb dJO_isOpen_22 (by decide) ?_
        exact V_zret B hr hlk hw (by decide) (pI_r hF) dJO_isOpen_26
theorem cw_FAC_has {R : Room} {cells slots : Nat} (h1 : 1 ≤ R.frames) (h2 : 21 ≤ R.locals) (h3 : cells ≤ R.cells) (h4 : slots ≤ R.slots) : Cw R cells slots yAC_has bAC_has 2 (some .boolean) ({ frames := 0, cells := 0, slots := 0, locals := 0 } : Room) 1 := ⟨wm_362, wm_351, by decide +kernel, ⟨rfl, rfl, h1, h2⟩, h3, h4⟩
set_option maxHeartbeats 4000000 in
set_option maxRecDepth 100000 in
theorem M_FAC_has (l : Launch) {ad : Nat → Nat} {cI cL : ClassId} {dC : Nat → ClassId} {dI : Nat → Nat → Nat} (hi : adI ad) (S : hS) (x1 : Int32) (hp : wfC S) : Mt l ad cI cL dC dI yAC_has bAC_has 2 (some .boolean) ({ frames := 0, cells := 0, slots := 0, locals := 0 } : Room) [.ref (ad 2), .int x1] S (pI (FAC_has S x1) S) := by
  refine Mt_of (own := RAC) hi (by decide) rfl (Nat.le_of_ble_eq_true rfl) ?_
  intro p e s m args below meth c ls B hr hlk hw hl
  obtain ⟨hx, hb, -, hown, hts, -, -⟩ := id B
  have hA : ∀ q, AA ad s.heap.size q → AA ad s.heap.size q := fun _ h => h
  have hl : lv_has ls 2 [(0, .ref (ad 2)), (1, .int x1)] := hl
  have hF := FAC_has_e S x1
  refine lv_iload_n hx hb dAC_has_0 rfl (lv_at hl 1 rfl) ?_
  refine lv_if_lt (tgt := 16) hx hb dAC_has_1 (by decide) (fun c1 => ?_) (fun c1 => ?_)
  · have hF := hF.trans (if_pos c1)
    refine lv_iconst (v := 0) hx hb dAC_has_16 (by decide) ?_
    exact V_zret B hr hlk hw (by decide) (pI_r hF) dAC_has_17
  · have hF := hF.trans (if_neg c1)
    refine lv_iload_n hx hb dAC_has_4 rfl (lv_at hl 1 rfl) ?_
    refine lv_aload_n hx hb dAC_has_5 rfl (lv_at hl 0 rfl) ?_
    refine V_get B hw (v := .int (S.1 2 0)) (by decide) rfl rfl hin_AC 0 (by decide) rfl wm_2 rfl dAC_has_6 ?_
    refine lv_icmp_ge (tgt := 16) hx hb dAC_has_9 (by decide) (fun c2 => ?_) (fun c2 => ?_)
    · have hF := hF.trans (if_pos c2)
      refine lv_iconst (v := 0) hx hb dAC_has_16 (by decide) ?_
      exact V_zret B hr hlk hw (by decide) (pI_r hF) dAC_has_17
    · have hF := hF.trans (if_neg c2)
      refine lv_iconst (v := 1) hx hb dAC_has_12 (by decide) ?_
      refine lv_goto (tgt := 17) hx hb dAC_has_13 (by decide) ?_
      exact V_zret B hr hlk hw (by decide) (pI_r hF) dAC_has_17
theorem cw_FJO_addRow {R : Room} {cells slots : Nat} (h1 : 1 ≤ R.frames) (h2 : 25 ≤ R.locals) (h3 : cells ≤ R.cells) (h4 : slots ≤ R.slots) : Cw R cells slots yJO_addRow bJO_addRow 6 (some .boolean) ({ frames := 0, cells := 0, slots := 0, locals := 0 } : Room) 3 := ⟨wm_363, wm_358, by decide +kernel, ⟨rfl, rfl, h1, h2⟩, h3, h4⟩
set_option maxHeartbeats 4000000 in
set_option maxRecDepth 100000 in
theorem M_FJO_addRow (l : Launch) {ad : Nat → Nat} {cI cL : ClassId} {dC : Nat → ClassId} {dI : Nat → Nat → Nat} (hi : adI ad) (S : hS) (x1 : Int32) (x2 : Int32) (x3 : Int64) (hp : wfC S) : Mt l ad cI cL dC dI yJO_addRow bJO_addRow 6 (some .boolean) ({ frames := 0, cells := 0, slots := 0, locals := 0 } : Room) [.ref (ad 10), .int x1, .int x2, .long x3] S (pI (FJO_addRow S x1 x2 x3).1 (FJO_addRow S x1 x2 x3).2) := by
  refine Mt_of (own := RJO) hi (by decide) rfl (Nat.le_of_ble_eq_true rfl) ?_
  intro p e s m args below meth c ls B hr hlk hw hl
  obtain ⟨hx, hb, -, hown, hts, -, -⟩ := id B
  have hA : ∀ q, AA ad s.heap.size q → AA ad s.heap.size q := fun _ h => h
  have hl : lv_has ls 6 [(0, .ref (ad 10)), (1, .int x1), (2, .int x2), (3, .long x3)] := hl
  have hF := FJO_addRow_e S x1 x2 x3
  refine lv_iload_n hx hb dJO_addRow_0 rfl (lv_at hl 1 rfl) ?_
  refine lv_if_lt (tgt := 23) hx hb dJO_addRow_1 (by decide) (fun c1 => ?_) (fun c1 => ?_)
  · have hF := hF.trans (if_pos c1)
    refine lv_iconst (v := 0) hx hb dJO_addRow_23 (by decide) ?_
    exact V_zret B hr hlk hw (by decide) (pI_of hF) dJO_addRow_24
  · have hF := hF.trans (if_neg c1)
    refine lv_iload_n hx hb dJO_addRow_4 rfl (lv_at hl 1 rfl) ?_
    refine lv_aload_n hx hb dJO_addRow_5 rfl (lv_at hl 0 rfl) ?_
    refine V_get B hw (v := .int (S.1 10 0)) (by decide) rfl rfl hin_JO 0 (by decide) rfl wm_23 rfl dJO_addRow_6 ?_
    refine lv_icmp_ge (tgt := 23) hx hb dJO_addRow_9 (by decide) (fun c2 => ?_) (fun c2 => ?_)
    · have hF := hF.trans (if_pos c2)
      refine lv_iconst (v := 0) hx hb dJO_addRow_23 (by decide) ?_
      exact V_zret B hr hlk hw (by decide) (pI_of hF) dJO_addRow_24
    · have hF := hF.trans (if_neg c2)
      refine lv_aload_n hx hb dJO_addRow_12 rfl (lv_at hl 0 rfl) ?_
      refine V_get B hw (v := .ref (ad 13)) (by decide) rfl rfl hin_JO 3 (by decide) rfl wm_29 rfl dJO_addRow_13 ?_
      refine lv_iload_n hx hb dJO_addRow_16 rfl (lv_at hl 1 rfl) ?_
      refine V_iald (j := x1.toNatClampNeg) (v := S.1 13 x1.toNatClampNeg) B hw (by decide) rfl (vc_FJO_addRow_ix17_3 S x1 x2 x3 hp c1 c2) rfl rfl dJO_addRow_17 ?_
      refine lv_bipush (v := 6) hx hb dJO_addRow_18 (by decide) ?_
      refine lv_icmp_lt (tgt := 25) hx hb dJO_addRow_20 (by decide) (fun c4 => ?_) (fun c4 => ?_)
      · have hF := hF.trans (if_pos c4)
        refine lv_iload_n hx hb dJO_addRow_25 rfl (lv_at hl 1 rfl) ?_
        refine lv_bipush (v := 6) hx hb dJO_addRow_26 (by decide) ?_
        refine lv_imul hx hb dJO_addRow_28 ?_
        refine lv_aload_n hx hb dJO_addRow_29 rfl (lv_at hl 0 rfl) ?_
        refine V_get B hw (v := .ref (ad 13)) (by decide) rfl rfl hin_JO 3 (by decide) rfl wm_29 rfl dJO_addRow_30 ?_
        refine lv_iload_n hx hb dJO_addRow_33 rfl (lv_at hl 1 rfl) ?_
        refine V_iald (j := x1.toNatClampNeg) (v := S.1 13 x1.toNatClampNeg) B hw (by decide) rfl (vc_FJO_addRow_ix34_5 S x1 x2 x3 hp c1 c2 c4) rfl rfl dJO_addRow_34 ?_
        refine lv_iadd hx hb dJO_addRow_35 ?_
        refine lv_istore (lv' := [(5, .int ((x1 * 6) + (S.1 13 x1.toNatClampNeg))), (0, .ref (ad 10)), (1, .int x1), (2, .int x2), (3, .long x3)]) hx hb dJO_addRow_36 hl (by decide) rfl (fun ls hl => ?_)
        refine lv_aload_n hx hb dJO_addRow_38 rfl (lv_at hl 1 rfl) ?_
        refine V_get B hw (v := .ref (ad 15)) (by decide) rfl rfl hin_JO 5 (by decide) rfl wm_42 rfl dJO_addRow_39 ?_
        refine lv_iload hx hb dJO_addRow_42 (lv_at hl 0 rfl) ?_
        refine lv_iload_n hx hb dJO_addRow_44 rfl (lv_at hl 3 rfl) ?_
        refine V_iast (j := ((x1 * 6) + (S.1 13 x1.toNatClampNeg)).toNatClampNeg) B hw (by decide) rfl (vc_FJO_addRow_ix45_6 S x1 x2 x3 hp c1 c2 c4) rfl dJO_addRow_45 (fun H locs hw => ?_)
        refine lv_aload_n hx hb dJO_addRow_46 rfl (lv_at hl 1 rfl) ?_
        refine V_get B hw (v := .ref (ad 16)) (by decide) rfl rfl hin_JO 6 (by decide) rfl wm_43 rfl dJO_addRow_47 ?_
        refine lv_iload hx hb dJO_addRow_50 (lv_at hl 0 rfl) ?_
        refine lv_lload_n hx hb dJO_addRow_52 rfl (lv_at hl 4 rfl) ?_
        refine V_last (j := ((x1 * 6) + (S.1 13 x1.toNatClampNeg)).toNatClampNeg) B hw (by decide) rfl (vc_FJO_addRow_ix53_7 S x1 x2 x3 hp c1 c2 c4) rfl dJO_addRow_53 (fun H locs hw => ?_)
        refine lv_aload_n hx hb dJO_addRow_54 rfl (lv_at hl 1 rfl) ?_
        refine V_get B hw (v := .ref (ad 17)) (by decide) rfl rfl hin_JO 7 (by decide) rfl wm_44 rfl dJO_addRow_55 ?_
        refine lv_iload hx hb dJO_addRow_58 (lv_at hl 0 rfl) ?_
        refine lv_ldc2 (v := (-1)) hx hb hown (hts _ wm_45) dJO_addRow_60 ?_
        refine V_last (j := ((x1 * 6) + (S.1 13 x1.toNatClampNeg)).toNatClampNeg) B hw (by decide) rfl (vc_FJO_addRow_ix63_8 S x1 x2 x3 hp c1 c2 c4) rfl dJO_addRow_63 (fun H locs hw => ?_)
        refine lv_aload_n hx hb dJO_addRow_64 rfl (lv_at hl 1 rfl) ?_
        refine V_get B hw (v := .ref (ad 13)) (by decide) rfl rfl hin_JO 3 (by decide) rfl wm_29 rfl dJO_addRow_65 ?_
        refine lv_iload_n hx hb dJO_addRow_68 rfl (lv_at hl 2 rfl) ?_
        refine lv_dup2_11 hx hb dJO_addRow_69 rfl rfl ?_
        refine V_iald (j := x1.toNatClampNeg) (v := S.1 13 x1.toNatClampNeg) B hw (by decide) rfl (vc_FJO_addRow_ix70_9 S x1 x2 x3 hp c1 c2 c4) rfl (by first | rfl | simp [sI_1, sI_2, sL_1, sL_2]) dJO_addRow_70 ?_
        refine lv_iconst (v := 1) hx hb dJO_addRow_71 (by decide) ?_
        refine lv_iadd hx hb dJO_addRow_72 ?_
        refine V_iast (j := x1.toNatClampNeg) B hw (by decide) rfl (vc_FJO_addRow_ix73_10 S x1 x2 x3 hp c1 c2 c4) rfl dJO_addRow_73 (fun H locs hw => ?_)
        refine lv_iconst (v := 1) hx hb dJO_addRow_74 (by decide) ?_
        exact V_zret B hr hlk hw (by decide) (pI_of hF) dJO_addRow_75
      · have hF := hF.trans (if_neg c4)
        refine lv_iconst (v := 0) hx hb dJO_addRow_23 (by decide) ?_
        exact V_zret B hr hlk hw (by decide) (pI_of hF) dJO_addRow_24
theorem cw_FHL_row {R : Room} {cells slots : Nat} (h1 : 2 ≤ R.frames) (h2 : 49 ≤ R.locals) (h3 : cells ≤ R.cells) (h4 : slots ≤ R.slots) : Cw R cells slots yHL_row bHL_row 5 (some .boolean) ({ frames := 1, cells := 0, slots := 0, locals := 25 } : Room) 3 := ⟨wm_364, wm_353, by decide +kernel, ⟨rfl, rfl, h1, h2⟩, h3, h4⟩
set_option maxHeartbeats 4000000 in
set_option maxRecDepth 100000 in
theorem M_FHL_row (l : Launch) {ad : Nat → Nat} {cI cL : ClassId} {dC : Nat → ClassId} {dI : Nat → Nat → Nat} (hi : adI ad) (S : hS) (x1 : Int32) (x2 : Int32) (x3 : Int64) (hp : wfC S) : Mt l ad cI cL dC dI yHL_row bHL_row 5 (some .boolean) ({ frames := 1, cells := 0, slots := 0, locals := 25 } : Room) [.ref (ad 0), .int x1, .int x2, .long x3] S (pI (FHL_row S x1 x2 x3).1 (FHL_row S x1 x2 x3).2) := by
  refine Mt_of (own := RHL) hi (by decide) rfl (Nat.le_of_ble_eq_true rfl) ?_
  intro p e s m args below meth c ls B hr hlk hw hl
  obtain ⟨hx, hb, -, hown, hts, -, -⟩ := id B
  have hA : ∀ q, AA ad s.heap.size q → AA ad s.heap.size q := fun _ h => h
  have hl : lv_has ls 5 [(0, .ref (ad 0)), (1, .int x1), (2, .int x2), (3, .long x3)] := hl
  have hF := FHL_row_e S x1 x2 x3
  refine lv_aload_n hx hb dHL_row_0 rfl (lv_at hl 0 rfl) ?_
  refine V_get B hw (v := .ref (ad 1)) (by decide) rfl rfl hin_HL 0 (by decide) rfl wm_0 rfl dHL_row_1 ?_
  refine V_getN B hw (v := .ref (ad 10)) (by decide) rfl rfl hin_BO 1 (by decide) rfl wn_22 rfl dHL_row_4 ?_
  refine lv_iload_n hx hb dHL_row_7 rfl (lv_at hl 1 rfl) ?_
  refine V_callVN (rest := []) B hi hw hA hl.1 (M_FJO_isOpen l hi S x1 (vc_FHL_row_pre8_1 S x1 x2 x3 hp)) (cw_FJO_isOpen (Nat.le_of_ble_eq_true rfl) (Nat.le_of_ble_eq_true rfl) (Nat.zero_le _) (Nat.zero_le _)) (by decide) rfl rfl wn_34 wm_35 wm_36 rfl (Nat.le_of_ble_eq_true rfl) dHL_row_8 (kI (fun H locs hw => ?_))
  refine lv_if_eq (tgt := 28) hx hb dHL_row_11 (by decide) (fun c2 => ?_) (fun c2 => ?_)
  · have hF := hF.trans (if_pos c2)
    refine lv_iconst (v := 0) hx hb dHL_row_28 (by decide) ?_
    exact V_zret B hr hlk hw (by decide) (pI_of hF) dHL_row_29
  · have hF := hF.trans (if_neg c2)
    refine lv_aload_n hx hb dHL_row_14 rfl (lv_at hl 0 rfl) ?_
    refine V_get B hw (v := .ref (ad 1)) (by decide) rfl rfl hin_HL 0 (by decide) rfl wm_0 rfl dHL_row_15 ?_
    refine V_getN B hw (v := .ref (ad 2)) (by decide) rfl rfl hin_BO 0 (by decide) rfl wn_1 rfl dHL_row_18 ?_
    refine lv_iload_n hx hb dHL_row_21 rfl (lv_at hl 2 rfl) ?_
    refine V_callVN (rest := []) B hi hw hA hl.1 (M_FAC_has l hi S x2 (vc_FHL_row_pre22_3 S x1 x2 x3 hp c2)) (cw_FAC_has (Nat.le_of_ble_eq_true rfl) (Nat.le_of_ble_eq_true rfl) (Nat.zero_le _) (Nat.zero_le _)) (by decide) rfl rfl wn_37 wm_38 wm_39 rfl (Nat.le_of_ble_eq_true rfl) dHL_row_22 (kI (fun H locs hw => ?_))
    refine lv_if_ne (tgt := 30) hx hb dHL_row_25 (by decide) (fun c4 => ?_) (fun c4 => ?_)
    · have hF := hF.trans (if_neg c4)
      refine lv_lload_n hx hb dHL_row_30 rfl (lv_at hl 3 rfl) ?_
      refine lv_lconst (v := 0) hx hb dHL_row_31 (by decide) ?_
      refine V_leq (tgt := 52) B dHL_row_32 dHL_row_33 (by decide) (fun c5 => ?_) (fun c5 => ?_)
      · have hF := hF.trans (if_pos c5)
        refine lv_iconst (v := 0) hx hb dHL_row_52 (by decide) ?_
        exact V_zret B hr hlk hw (by decide) (pI_of hF) dHL_row_53
      · have hF := hF.trans (if_neg c5)
        refine lv_lload_n hx hb dHL_row_36 rfl (lv_at hl 3 rfl) ?_
        refine lv_ldc2 (v := (-100000000)) hx hb hown (hts _ wm_40) dHL_row_37 ?_
        refine V_llt (tgt := 52) B dHL_row_40 dHL_row_41 (by decide) (fun c6 => ?_) (fun c6 => ?_)
        · have hF := hF.trans (if_pos c6)
          refine lv_iconst (v := 0) hx hb dHL_row_52 (by decide) ?_
          exact V_zret B hr hlk hw (by decide) (pI_of hF) dHL_row_53
        · have hF := hF.trans (if_neg c6)
          refine lv_lload_n hx hb dHL_row_44 rfl (lv_at hl 3 rfl) ?_
          refine lv_ldc2 (v := 100000000) hx hb hown (hts _ wm_41) dHL_row_45 ?_
          refine V_lle (tgt := 54) B dHL_row_48 dHL_row_49 (by decide) (fun c7 => ?_) (fun c7 => ?_)
          · have hF := hF.trans (if_pos c7)
            refine lv_aload_n hx hb dHL_row_54 rfl (lv_at hl 0 rfl) ?_
            refine V_get B hw (v := .ref (ad 1)) (by decide) rfl rfl hin_HL 0 (by decide) rfl wm_0 rfl dHL_row_55 ?_
            refine V_getN B hw (v := .ref (ad 10)) (by decide) rfl rfl hin_BO 1 (by decide) rfl wn_22 rfl dHL_row_58 ?_
            refine lv_iload_n hx hb dHL_row_61 rfl (lv_at hl 1 rfl) ?_
            refine lv_iload_n hx hb dHL_row_62 rfl (lv_at hl 2 rfl) ?_
            refine lv_lload_n hx hb dHL_row_63 rfl (lv_at hl 3 rfl) ?_
            rcases hq9 : FJO_addRow S x1 x2 x3 with ⟨v9, S9⟩
            rw [hq9] at hF; try dsimp only at hF
            refine V_callVN (post := pI v9 S9) (rest := []) B hi hw hA hl.1 (by have h := M_FJO_addRow (cI := cI) (cL := cL) (dC := dC) (dI := dI) l hi S x1 x2 x3 (vc_FHL_row_pre64_8 S x1 x2 x3 hp c2 c4 c5 c6 c7); rw [hq9] at h; exact h) (cw_FJO_addRow (Nat.le_of_ble_eq_true rfl) (Nat.le_of_ble_eq_true rfl) (Nat.zero_le _) (Nat.zero_le _)) (by decide) rfl rfl wn_46 wm_47 wm_48 rfl (Nat.le_of_ble_eq_true rfl) dHL_row_64 (kI (fun H locs hw => ?_))
            exact V_zret B hr hlk hw (vc_FHL_row_bz67_10 S x1 x2 x3 hp c2 c4 c5 c6 c7 v9 S9 hq9) (pI_of hF) dHL_row_67
          · have hF := hF.trans (if_neg c7)
            refine lv_iconst (v := 0) hx hb dHL_row_52 (by decide) ?_
            exact V_zret B hr hlk hw (by decide) (pI_of hF) dHL_row_53
    · have hF := hF.trans (if_pos c4)
      refine lv_iconst (v := 0) hx hb dHL_row_28 (by decide) ?_
      exact V_zret B hr hlk hw (by decide) (pI_of hF) dHL_row_29
set_option maxHeartbeats 4000000 in
set_option maxRecDepth 100000 in
theorem LPJO_sumOf_23 (l : Launch) {ad : Nat → Nat} {cI cL : ClassId} {dC : Nat → ClassId} {dI : Nat → Nat → Nat} (hi : adI ad) {p : Program} {e : Env} {s : State} {m : MethodId} {args : Array Value} {below : List Frame} {meth : Method} {c : Code} {A : Nat → Prop} {post : Option Value → hS → Prop} (B : Bs p s m args c RJO bJO_sumOf 7 cI cL dC dI) (hr : meth.sig.returnType = (some .long)) (hlk : meth.locks = false) (hA : ∀ q, AA ad s.heap.size q → A q) : ∀ (n : Nat) (S : hS) (x1 : Int32) (x2 : Int64) (x4 : Int32) (x5 : Int32) (x6 : Int32) (H : Heap) (locs : List Loc) (ls : Array Slot), wfC S ∧ lp x6 x5 → ((x5.toInt - x6.toInt).toNat) < n → Wd ad cI cL dC dI A s.heap S H locs → lv_has ls 7 [(0, .ref (ad 10)), (1, .int x1), (2, .long x2), (4, .int x4), (5, .int x5), (6, .int x6)] → (∀ (H : Heap) (locs : List Loc) (ls : Array Slot) (y2 : Int64) (y6 : Int32), LJO_sumOf_23 n S x1 x2 x4 x5 x6 = (y2, y6) → Wd ad cI cL dC dI A s.heap S H locs → lv_has ls 7 [(0, .ref (ad 10)), (1, .int x1), (2, .long y2), (4, .int x4), (5, .int x5), (6, .int y6)] → W p l e ({ frames := 0, cells := 0, slots := 0, locals := 0 } : Room) s m args below meth c H locs 0 0 (MQ below (QcW ad cI cL dC dI post A) args s 0 0 A) (F0 m 46 ls [])) → W p l e ({ frames := 0, cells := 0, slots := 0, locals := 0 } : Room) s m args below meth c H locs 0 0 (MQ below (QcW ad cI cL dC dI post A) args s 0 0 A) (F0 m 23 ls []) := by
  intro n
  obtain ⟨hx, hb, -, hown, hts, -, -⟩ := id B
  induction n with
  | zero => exact fun S x1 x2 x4 x5 x6 H locs ls _ hmu => absurd hmu (Nat.not_lt_zero _)
  | succ n ih =>
    intro S x1 x2 x4 x5 x6 H locs ls hJ hmu hw hl hexit
    have hF := LJO_sumOf_23_s n S x1 x2 x4 x5 x6
    refine lv_iload hx hb dJO_sumOf_23 (lv_at hl 5 rfl) ?_
    refine lv_iload hx hb dJO_sumOf_25 (lv_at hl 4 rfl) ?_
    refine lv_icmp_ge (tgt := 46) hx hb dJO_sumOf_27 (by decide) (fun c2 => ?_) (fun c2 => ?_)
    · have hF := hF.trans (if_pos c2)
      exact hexit _ _ _ x2 x6 hF hw (lv_sub hl [0, 1, 2, 3, 4, 5] rfl)
    · have hF := hF.trans (if_neg c2)
      refine lv_lload_n hx hb dJO_sumOf_30 rfl (lv_at hl 2 rfl) ?_
      refine lv_aload_n hx hb dJO_sumOf_31 rfl (lv_at hl 0 rfl) ?_
      refine V_get B hw (v := .ref (ad 16)) (by decide) rfl rfl hin_JO 6 (by decide) rfl wm_43 rfl dJO_sumOf_32 ?_
      refine lv_iload hx hb dJO_sumOf_35 (lv_at hl 5 rfl) ?_
      refine V_lald (j := x6.toNatClampNeg) (v := S.2 16 x6.toNatClampNeg) B hw (by decide) rfl (vc_FJO_sumOf_ix37_3 S x1 x2 x4 x5 x6 hJ c2) rfl rfl dJO_sumOf_37 ?_
      refine lv_ladd hx hb dJO_sumOf_38 ?_
      refine lv_lstore_n (lv' := [(2, .long (x2 + (S.2 16 x6.toNatClampNeg))), (0, .ref (ad 10)), (1, .int x1), (4, .int x4), (5, .int x5), (6, .int x6)]) hx hb dJO_sumOf_39 rfl hl (by decide) rfl (fun ls hl => ?_)
      refine lv_iinc (v := x6 + 1) (lv' := [(6, .int (x6 + 1)), (2, .long (x2 + (S.2 16 x6.toNatClampNeg))), (0, .ref (ad 10)), (1, .int x1), (4, .int x4), (5, .int x5)]) hx hb dJO_sumOf_40 hl (k := 5) rfl rfl (by decide) rfl (fun ls hl => ?_)
      refine lv_goto (tgt := 23) hx hb dJO_sumOf_43 (by decide) ?_
      exact ih S x1 (x2 + (S.2 16 x6.toNatClampNeg)) x4 x5 (x6 + 1) _ _ _ (vc_FJO_sumOf_inv23_4 S x1 x2 x4 x5 x6 hJ c2) (Nat.lt_of_lt_of_le (vc_FJO_sumOf_mu23_5 S x1 x2 x4 x5 x6 hJ c2) (Nat.le_of_lt_succ hmu)) hw (lv_sub hl [2, 3, 1, 4, 5, 0] rfl) (fun H locs ls y2 y6 h hw hl => hexit H locs ls y2 y6 (hF.trans h) hw hl)
theorem cw_FJO_sumOf {R : Room} {cells slots : Nat} (h1 : 1 ≤ R.frames) (h2 : 26 ≤ R.locals) (h3 : cells ≤ R.cells) (h4 : slots ≤ R.slots) : Cw R cells slots yJO_sumOf bJO_sumOf 7 (some .long) ({ frames := 0, cells := 0, slots := 0, locals := 0 } : Room) 1 := ⟨wm_365, wm_358, by decide +kernel, ⟨rfl, rfl, h1, h2⟩, h3, h4⟩
set_option maxHeartbeats 4000000 in
set_option maxRecDepth 100000 in
theorem M_FJO_sumOf (l : Launch) {ad : Nat → Nat} {cI cL : ClassId} {dC : Nat → ClassId} {dI : Nat → Nat → Nat} (hi : adI ad) (S : hS) (x1 : Int32) (hp : wfC S ∧ rg x1 40) : Mt l ad cI cL dC dI yJO_sumOf bJO_sumOf 7 (some .long) ({ frames := 0, cells := 0, slots := 0, locals := 0 } : Room) [.ref (ad 10), .int x1] S (pL (FJO_sumOf S x1) S) := by
  refine Mt_of (own := RJO) hi (by decide) rfl (Nat.le_of_ble_eq_true rfl) ?_
  intro p e s m args below meth c ls B hr hlk hw hl
  obtain ⟨hx, hb, -, hown, hts, -, -⟩ := id B
  have hA : ∀ q, AA ad s.heap.size q → AA ad s.heap.size q := fun _ h => h
  have hl : lv_has ls 7 [(0, .ref (ad 10)), (1, .int x1)] := hl
  have hF := FJO_sumOf_e S x1
  refine lv_lconst (v := 0) hx hb dJO_sumOf_0 (by decide) ?_
  refine lv_lstore_n (lv' := [(2, .long 0), (0, .ref (ad 10)), (1, .int x1)]) hx hb dJO_sumOf_1 rfl hl (by decide) rfl (fun ls hl => ?_)
  refine lv_iload_n hx hb dJO_sumOf_2 rfl (lv_at hl 2 rfl) ?_
  refine lv_bipush (v := 6) hx hb dJO_sumOf_3 (by decide) ?_
  refine lv_imul hx hb dJO_sumOf_5 ?_
  refine lv_istore (lv' := [(4, .int (x1 * 6)), (2, .long 0), (0, .ref (ad 10)), (1, .int x1)]) hx hb dJO_sumOf_6 hl (by decide) rfl (fun ls hl => ?_)
  refine lv_iload hx hb dJO_sumOf_8 (lv_at hl 0 rfl) ?_
  refine lv_aload_n hx hb dJO_sumOf_10 rfl (lv_at hl 2 rfl) ?_
  refine V_get B hw (v := .ref (ad 13)) (by decide) rfl rfl hin_JO 3 (by decide) rfl wm_29 rfl dJO_sumOf_11 ?_
  refine lv_iload_n hx hb dJO_sumOf_14 rfl (lv_at hl 3 rfl) ?_
  refine V_iald (j := x1.toNatClampNeg) (v := S.1 13 x1.toNatClampNeg) B hw (by decide) rfl (vc_FJO_sumOf_ix15_1 S x1 hp) rfl rfl dJO_sumOf_15 ?_
  refine lv_iadd hx hb dJO_sumOf_16 ?_
  refine lv_istore (lv' := [(5, .int ((x1 * 6) + (S.1 13 x1.toNatClampNeg))), (4, .int (x1 * 6)), (2, .long 0), (0, .ref (ad 10)), (1, .int x1)]) hx hb dJO_sumOf_17 hl (by decide) rfl (fun ls hl => ?_)
  refine lv_iload hx hb dJO_sumOf_19 (lv_at hl 1 rfl) ?_
  refine lv_istore (lv' := [(6, .int (x1 * 6)), (5, .int ((x1 * 6) + (S.1 13 x1.toNatClampNeg))), (4, .int (x1 * 6)), (2, .long 0), (0, .ref (ad 10)), (1, .int x1)]) hx hb dJO_sumOf_21 hl (by decide) rfl (fun ls hl => ?_)
  refine LPJO_sumOf_23 l hi B hr hlk hA 300 S x1 0 (x1 * 6) ((x1 * 6) + (S.1 13 x1.toNatClampNeg)) (x1 * 6) _ _ _ (vc_FJO_sumOf_inv023_7 S x1 hp) (vc_FJO_sumOf_mu023_8 S x1 hp) hw (lv_sub hl [4, 5, 3, 2, 1, 0] rfl) (fun H locs ls y6_2 y6_6 hq6 hw hl => ?_)
  rw [hq6] at hF; try dsimp only at hF
  refine lv_lload_n hx hb dJO_sumOf_46 rfl (lv_at hl 2 rfl) ?_
  exact V_lret B hr hlk hw (pL_r hF) dJO_sumOf_47
theorem cw_FAC_hasHousehold {R : Room} {cells slots : Nat} (h1 : 2 ≤ R.frames) (h2 : 42 ≤ R.locals) (h3 : cells ≤ R.cells) (h4 : slots ≤ R.slots) : Cw R cells slots yAC_hasHousehold bAC_hasHousehold 2 (some .boolean) ({ frames := 1, cells := 0, slots := 0, locals := 21 } : Room) 1 := ⟨wm_366, wm_351, by decide +kernel, ⟨rfl, rfl, h1, h2⟩, h3, h4⟩
set_option maxHeartbeats 4000000 in
set_option maxRecDepth 100000 in
theorem M_FAC_hasHousehold (l : Launch) {ad : Nat → Nat} {cI cL : ClassId} {dC : Nat → ClassId} {dI : Nat → Nat → Nat} (hi : adI ad) (S : hS) (x1 : Int32) (hp : wfC S) : Mt l ad cI cL dC dI yAC_hasHousehold bAC_hasHousehold 2 (some .boolean) ({ frames := 1, cells := 0, slots := 0, locals := 21 } : Room) [.ref (ad 2), .int x1] S (pI (FAC_hasHousehold S x1) S) := by
  refine Mt_of (own := RAC) hi (by decide) rfl (Nat.le_of_ble_eq_true rfl) ?_
  intro p e s m args below meth c ls B hr hlk hw hl
  obtain ⟨hx, hb, -, hown, hts, -, -⟩ := id B
  have hA : ∀ q, AA ad s.heap.size q → AA ad s.heap.size q := fun _ h => h
  have hl : lv_has ls 2 [(0, .ref (ad 2)), (1, .int x1)] := hl
  have hF := FAC_hasHousehold_e S x1
  refine lv_aload_n hx hb dAC_hasHousehold_0 rfl (lv_at hl 0 rfl) ?_
  refine lv_iload_n hx hb dAC_hasHousehold_1 rfl (lv_at hl 1 rfl) ?_
  refine V_callV (rest := []) B hi hw hA hl.1 (M_FAC_has l hi S x1 (vc_FAC_hasHousehold_pre2_1 S x1 hp)) (cw_FAC_has (Nat.le_of_ble_eq_true rfl) (Nat.le_of_ble_eq_true rfl) (Nat.zero_le _) (Nat.zero_le _)) (by decide) rfl rfl wm_59 wm_38 wm_39 rfl (Nat.le_of_ble_eq_true rfl) dAC_hasHousehold_2 (kI (fun H locs hw => ?_))
  refine lv_if_eq (tgt := 22) hx hb dAC_hasHousehold_5 (by decide) (fun c2 => ?_) (fun c2 => ?_)
  · have hF := hF.trans (if_pos c2)
    refine lv_iconst (v := 0) hx hb dAC_hasHousehold_22 (by decide) ?_
    exact V_zret B hr hlk hw (by decide) (pI_r hF) dAC_hasHousehold_23
  · have hF := hF.trans (if_neg c2)
    refine lv_aload_n hx hb dAC_hasHousehold_8 rfl (lv_at hl 0 rfl) ?_
    refine V_get B hw (v := .ref (ad 3)) (by decide) rfl rfl hin_AC 1 (by decide) rfl wm_3 rfl dAC_hasHousehold_9 ?_
    refine lv_iload_n hx hb dAC_hasHousehold_12 rfl (lv_at hl 1 rfl) ?_
    refine V_iald (j := x1.toNatClampNeg) (v := S.1 3 x1.toNatClampNeg) B hw (by decide) rfl (vc_FAC_hasHousehold_ix13_3 S x1 hp c2) rfl rfl dAC_hasHousehold_13 ?_
    refine lv_iconst (v := 1) hx hb dAC_hasHousehold_14 (by decide) ?_
    refine lv_icmp_ne (tgt := 22) hx hb dAC_hasHousehold_15 (by decide) (fun c4 => ?_) (fun c4 => ?_)
    · have hF := hF.trans (if_neg c4)
      refine lv_iconst (v := 0) hx hb dAC_hasHousehold_22 (by decide) ?_
      exact V_zret B hr hlk hw (by decide) (pI_r hF) dAC_hasHousehold_23
    · have hF := hF.trans (if_pos c4)
      refine lv_iconst (v := 1) hx hb dAC_hasHousehold_18 (by decide) ?_
      refine lv_goto (tgt := 23) hx hb dAC_hasHousehold_19 (by decide) ?_
      exact V_zret B hr hlk hw (by decide) (pI_r hF) dAC_hasHousehold_23
set_option maxHeartbeats 4000000 in
set_option maxRecDepth 100000 in
theorem LPBO_makeItems_20 (l : Launch) {ad : Nat → Nat} {cI cL : ClassId} {dC : Nat → ClassId} {dI : Nat → Nat → Nat} (hi : adI ad) {p : Program} {e : Env} {s : State} {m : MethodId} {args : Array Value} {below : List Frame} {meth : Method} {c : Code} {A : Nat → Prop} {post : Option Value → hS → Prop} (B : Bs p s m args c RBO bBO_makeItems 5 cI cL dC dI) (hr : meth.sig.returnType = none) (hlk : meth.locks = false) (hA : ∀ q, AA ad s.heap.size q → A q) : ∀ (n : Nat) (S : hS) (x1 : Int32) (x2 : Int32) (x3 : Int32) (x4 : Int32) (H : Heap) (locs : List Loc) (ls : Array Slot), wfC S ∧ lp x4 x3 → ((x3.toInt - x4.toInt).toNat) < n → Wd ad cI cL dC dI A s.heap S H locs → lv_has ls 5 [(0, .ref (ad 1)), (1, .int x1), (2, .int x2), (3, .int x3), (4, .int x4)] → (∀ (H : Heap) (locs : List Loc) (ls : Array Slot) (y4 : Int32) (S' : hS), LBO_makeItems_20 n S x1 x2 x3 x4 = (y4, S') → Wd ad cI cL dC dI A s.heap S' H locs → lv_has ls 5 [(0, .ref (ad 1)), (1, .int x1), (2, .int x2), (3, .int x3), (4, .int y4)] → W p l e ({ frames := 2, cells := 0, slots := 0, locals := 42 } : Room) s m args below meth c H locs 0 0 (MQ below (QcW ad cI cL dC dI post A) args s 0 0 A) (F0 m 87 ls [])) → W p l e ({ frames := 2, cells := 0, slots := 0, locals := 42 } : Room) s m args below meth c H locs 0 0 (MQ below (QcW ad cI cL dC dI post A) args s 0 0 A) (F0 m 20 ls []) := by
  intro n
  obtain ⟨hx, hb, -, hown, hts, -, -⟩ := id B
  induction n with
  | zero => exact fun S x1 x2 x3 x4 H locs ls _ hmu => absurd hmu (Nat.not_lt_zero _)
  | succ n ih =>
    intro S x1 x2 x3 x4 H locs ls hJ hmu hw hl hexit
    have hF := LBO_makeItems_20_s n S x1 x2 x3 x4
    refine lv_iload hx hb dBO_makeItems_20 (lv_at hl 4 rfl) ?_
    refine lv_iload_n hx hb dBO_makeItems_22 rfl (lv_at hl 3 rfl) ?_
    refine lv_icmp_ge (tgt := 87) hx hb dBO_makeItems_23 (by decide) (fun c2 => ?_) (fun c2 => ?_)
    · have hF := hF.trans (if_pos c2)
      exact hexit _ _ _ x4 S hF hw (lv_sub hl [0, 1, 2, 3, 4] rfl)
    · have hF := hF.trans (if_neg c2)
      refine lv_aload_n hx hb dBO_makeItems_26 rfl (lv_at hl 0 rfl) ?_
      refine V_get B hw (v := .ref (ad 10)) (by decide) rfl rfl hin_BO 1 (by decide) rfl wm_54 rfl dBO_makeItems_27 ?_
      refine V_getN B hw (v := .ref (ad 16)) (by decide) rfl rfl hin_JO 6 (by decide) rfl wn_56 rfl dBO_makeItems_30 ?_
      refine lv_iload hx hb dBO_makeItems_33 (lv_at hl 4 rfl) ?_
      refine V_lald (j := x4.toNatClampNeg) (v := S.2 16 x4.toNatClampNeg) B hw (by decide) rfl (vc_FBO_makeItems_ix35_3 S x1 x2 x3 x4 hJ c2) rfl rfl dBO_makeItems_35 ?_
      refine lv_lconst (v := 0) hx hb dBO_makeItems_36 (by decide) ?_
      refine V_lle (tgt := 81) B dBO_makeItems_37 dBO_makeItems_38 (by decide) (fun c4 => ?_) (fun c4 => ?_)
      · have hF := hF.trans (if_pos c4)
        refine lv_iinc (v := x4 + 1) (lv' := [(4, .int (x4 + 1)), (0, .ref (ad 1)), (1, .int x1), (2, .int x2), (3, .int x3)]) hx hb dBO_makeItems_81 hl (k := 4) rfl rfl (by decide) rfl (fun ls hl => ?_)
        refine lv_goto (tgt := 20) hx hb dBO_makeItems_84 (by decide) ?_
        exact ih S x1 x2 x3 (x4 + 1) _ _ _ (vc_FBO_makeItems_inv20_5 S x1 x2 x3 x4 hJ c2 c4) (Nat.lt_of_lt_of_le (vc_FBO_makeItems_mu20_6 S x1 x2 x3 x4 hJ c2 c4) (Nat.le_of_lt_succ hmu)) hw (lv_sub hl [1, 2, 3, 4, 0] rfl) (fun H locs ls y4 S' h hw hl => hexit H locs ls y4 S' (hF.trans h) hw hl)
      · have hF := hF.trans (if_neg c4)
        refine lv_aload_n hx hb dBO_makeItems_41 rfl (lv_at hl 0 rfl) ?_
        refine V_get B hw (v := .ref (ad 2)) (by decide) rfl rfl hin_BO 0 (by decide) rfl wm_57 rfl dBO_makeItems_42 ?_
        refine lv_aload_n hx hb dBO_makeItems_45 rfl (lv_at hl 0 rfl) ?_
        refine V_get B hw (v := .ref (ad 10)) (by decide) rfl rfl hin_BO 1 (by decide) rfl wm_54 rfl dBO_makeItems_46 ?_
        refine V_getN B hw (v := .ref (ad 15)) (by decide) rfl rfl hin_JO 5 (by decide) rfl wn_58 rfl dBO_makeItems_49 ?_
        refine lv_iload hx hb dBO_makeItems_52 (lv_at hl 4 rfl) ?_
        refine V_iald (j := x4.toNatClampNeg) (v := S.1 15 x4.toNatClampNeg) B hw (by decide) rfl (vc_FBO_makeItems_ix54_7 S x1 x2 x3 x4 hJ c2 c4) rfl rfl dBO_makeItems_54 ?_
        refine V_callVN (rest := []) B hi hw hA hl.1 (M_FAC_hasHousehold l hi S (S.1 15 x4.toNatClampNeg) (vc_FBO_makeItems_pre55_8 S x1 x2 x3 x4 hJ c2 c4)) (cw_FAC_hasHousehold (Nat.le_of_ble_eq_true rfl) (Nat.le_of_ble_eq_true rfl) (Nat.zero_le _) (Nat.zero_le _)) (by decide) rfl rfl wn_60 wm_61 wm_62 rfl (Nat.le_of_ble_eq_true rfl) dBO_makeItems_55 (kI (fun H locs hw => ?_))
        refine lv_if_eq (tgt := 81) hx hb dBO_makeItems_58 (by decide) (fun c9 => ?_) (fun c9 => ?_)
        · have hF := hF.trans (if_pos c9)
          refine lv_iinc (v := x4 + 1) (lv' := [(4, .int (x4 + 1)), (0, .ref (ad 1)), (1, .int x1), (2, .int x2), (3, .int x3)]) hx hb dBO_makeItems_81 hl (k := 4) rfl rfl (by decide) rfl (fun ls hl => ?_)
          refine lv_goto (tgt := 20) hx hb dBO_makeItems_84 (by decide) ?_
          exact ih S x1 x2 x3 (x4 + 1) _ _ _ (vc_FBO_makeItems_inv20_10 S x1 x2 x3 x4 hJ c2 c4 c9) (Nat.lt_of_lt_of_le (vc_FBO_makeItems_mu20_11 S x1 x2 x3 x4 hJ c2 c4 c9) (Nat.le_of_lt_succ hmu)) hw (lv_sub hl [1, 2, 3, 4, 0] rfl) (fun H locs ls y4 S' h hw hl => hexit H locs ls y4 S' (hF.trans h) hw hl)
        · have hF := hF.trans (if_neg c9)
          refine lv_aload_n hx hb dBO_makeItems_61 rfl (lv_at hl 0 rfl) ?_
          refine V_get B hw (v := .ref (ad 10)) (by decide) rfl rfl hin_BO 1 (by decide) rfl wm_54 rfl dBO_makeItems_62 ?_
          refine V_getN B hw (v := .ref (ad 17)) (by decide) rfl rfl hin_JO 7 (by decide) rfl wn_63 rfl dBO_makeItems_65 ?_
          refine lv_iload hx hb dBO_makeItems_68 (lv_at hl 4 rfl) ?_
          refine lv_aload_n hx hb dBO_makeItems_70 rfl (lv_at hl 0 rfl) ?_
          refine V_get B hw (v := .ref (ad 10)) (by decide) rfl rfl hin_BO 1 (by decide) rfl wm_54 rfl dBO_makeItems_71 ?_
          refine V_getN B hw (v := .ref (ad 16)) (by decide) rfl rfl hin_JO 6 (by decide) rfl wn_56 rfl dBO_makeItems_74 ?_
          refine lv_iload hx hb dBO_makeItems_77 (lv_at hl 4 rfl) ?_
          refine V_lald (j := x4.toNatClampNeg) (v := S.2 16 x4.toNatClampNeg) B hw (by decide) rfl (vc_FBO_makeItems_ix79_12 S x1 x2 x3 x4 hJ c2 c4 c9) rfl rfl dBO_makeItems_79 ?_
          refine V_last (j := x4.toNatClampNeg) B hw (by decide) rfl (vc_FBO_makeItems_ix80_13 S x1 x2 x3 x4 hJ c2 c4 c9) rfl dBO_makeItems_80 (fun H locs hw => ?_)
          refine lv_iinc (v := x4 + 1) (lv' := [(4, .int (x4 + 1)), (0, .ref (ad 1)), (1, .int x1), (2, .int x2), (3, .int x3)]) hx hb dBO_makeItems_81 hl (k := 4) rfl rfl (by decide) rfl (fun ls hl => ?_)
          refine lv_goto (tgt := 20) hx hb dBO_makeItems_84 (by decide) ?_
          exact ih (sL S 17 x4.toNatClampNeg (S.2 16 x4.toNatClampNeg)) x1 x2 x3 (x4 + 1) _ _ _ (vc_FBO_makeItems_inv20_14 S x1 x2 x3 x4 hJ c2 c4 c9) (Nat.lt_of_lt_of_le (vc_FBO_makeItems_mu20_15 S x1 x2 x3 x4 hJ c2 c4 c9) (Nat.le_of_lt_succ hmu)) hw (lv_sub hl [1, 2, 3, 4, 0] rfl) (fun H locs ls y4 S' h hw hl => hexit H locs ls y4 S' (hF.trans h) hw hl)
theorem cw_FBO_makeItems {R : Room} {cells slots : Nat} (h1 : 3 ≤ R.frames) (h2 : 66 ≤ R.locals) (h3 : cells ≤ R.cells) (h4 : slots ≤ R.slots) : Cw R cells slots yBO_makeItems bBO_makeItems 5 none ({ frames := 2, cells := 0, slots := 0, locals := 42 } : Room) 1 := ⟨wm_367, wm_356, by decide +kernel, ⟨rfl, rfl, h1, h2⟩, h3, h4⟩
set_option maxHeartbeats 4000000 in
set_option maxRecDepth 100000 in
theorem M_FBO_makeItems (l : Launch) {ad : Nat → Nat} {cI cL : ClassId} {dC : Nat → ClassId} {dI : Nat → Nat → Nat} (hi : adI ad) (S : hS) (x1 : Int32) (hp : wfC S ∧ rg x1 40) : Mt l ad cI cL dC dI yBO_makeItems bBO_makeItems 5 none ({ frames := 2, cells := 0, slots := 0, locals := 42 } : Room) [.ref (ad 1), .int x1] S (pV (FBO_makeItems S x1)) := by
  refine Mt_of (own := RBO) hi (by decide) rfl (Nat.le_of_ble_eq_true rfl) ?_
  intro p e s m args below meth c ls B hr hlk hw hl
  obtain ⟨hx, hb, -, hown, hts, -, -⟩ := id B
  have hA : ∀ q, AA ad s.heap.size q → AA ad s.heap.size q := fun _ h => h
  have hl : lv_has ls 5 [(0, .ref (ad 1)), (1, .int x1)] := hl
  have hF := FBO_makeItems_e S x1
  refine lv_iload_n hx hb dBO_makeItems_0 rfl (lv_at hl 1 rfl) ?_
  refine lv_bipush (v := 6) hx hb dBO_makeItems_1 (by decide) ?_
  refine lv_imul hx hb dBO_makeItems_3 ?_
  refine lv_istore_n (lv' := [(2, .int (x1 * 6)), (0, .ref (ad 1)), (1, .int x1)]) hx hb dBO_makeItems_4 rfl hl (by decide) rfl (fun ls hl => ?_)
  refine lv_iload_n hx hb dBO_makeItems_5 rfl (lv_at hl 0 rfl) ?_
  refine lv_aload_n hx hb dBO_makeItems_6 rfl (lv_at hl 1 rfl) ?_
  refine V_get B hw (v := .ref (ad 10)) (by decide) rfl rfl hin_BO 1 (by decide) rfl wm_54 rfl dBO_makeItems_7 ?_
  refine V_getN B hw (v := .ref (ad 13)) (by decide) rfl rfl hin_JO 3 (by decide) rfl wn_55 rfl dBO_makeItems_10 ?_
  refine lv_iload_n hx hb dBO_makeItems_13 rfl (lv_at hl 2 rfl) ?_
  refine V_iald (j := x1.toNatClampNeg) (v := S.1 13 x1.toNatClampNeg) B hw (by decide) rfl (vc_FBO_makeItems_ix14_1 S x1 hp) rfl rfl dBO_makeItems_14 ?_
  refine lv_iadd hx hb dBO_makeItems_15 ?_
  refine lv_istore_n (lv' := [(3, .int ((x1 * 6) + (S.1 13 x1.toNatClampNeg))), (2, .int (x1 * 6)), (0, .ref (ad 1)), (1, .int x1)]) hx hb dBO_makeItems_16 rfl hl (by decide) rfl (fun ls hl => ?_)
  refine lv_iload_n hx hb dBO_makeItems_17 rfl (lv_at hl 1 rfl) ?_
  refine lv_istore (lv' := [(4, .int (x1 * 6)), (3, .int ((x1 * 6) + (S.1 13 x1.toNatClampNeg))), (2, .int (x1 * 6)), (0, .ref (ad 1)), (1, .int x1)]) hx hb dBO_makeItems_18 hl (by decide) rfl (fun ls hl => ?_)
  refine LPBO_makeItems_20 l hi B hr hlk hA 300 S x1 (x1 * 6) ((x1 * 6) + (S.1 13 x1.toNatClampNeg)) (x1 * 6) _ _ _ (vc_FBO_makeItems_inv020_17 S x1 hp) (vc_FBO_makeItems_mu020_18 S x1 hp) hw (lv_sub hl [3, 4, 2, 1, 0] rfl) (fun H locs ls y16_4 S16 hq16 hw hl => ?_)
  rw [hq16] at hF; try dsimp only at hF
  exact V_vret B hr hlk hw (pV_of hF) dBO_makeItems_87
theorem cw_FHL_close {R : Room} {cells slots : Nat} (h1 : 4 ≤ R.frames) (h2 : 88 ≤ R.locals) (h3 : cells ≤ R.cells) (h4 : slots ≤ R.slots) : Cw R cells slots yHL_close bHL_close 3 (some .int) ({ frames := 3, cells := 0, slots := 0, locals := 66 } : Room) 1 := ⟨wm_368, wm_353, by decide +kernel, ⟨rfl, rfl, h1, h2⟩, h3, h4⟩
set_option maxHeartbeats 4000000 in
set_option maxRecDepth 100000 in
theorem M_FHL_close (l : Launch) {ad : Nat → Nat} {cI cL : ClassId} {dC : Nat → ClassId} {dI : Nat → Nat → Nat} (hi : adI ad) (S : hS) (x1 : Int32) (hp : wfC S ∧ (FJO_isOpen S x1 = 0 ∨ FBO_isUnclosedDay S ((S.1 11 x1.toNatClampNeg).toInt64) = 0 ∨ FJO_sumOf S x1 = 0)) : Mt l ad cI cL dC dI yHL_close bHL_close 3 (some .int) ({ frames := 3, cells := 0, slots := 0, locals := 66 } : Room) [.ref (ad 0), .int x1] S (pI (FHL_close S x1).1 (FHL_close S x1).2) := by
  refine Mt_of (own := RHL) hi (by decide) rfl (Nat.le_of_ble_eq_true rfl) ?_
  intro p e s m args below meth c ls B hr hlk hw hl
  obtain ⟨hx, hb, -, hown, hts, -, -⟩ := id B
  have hA : ∀ q, AA ad s.heap.size q → AA ad s.heap.size q := fun _ h => h
  have hl : lv_has ls 3 [(0, .ref (ad 0)), (1, .int x1)] := hl
  have hF := FHL_close_e S x1
  refine lv_aload_n hx hb dHL_close_0 rfl (lv_at hl 0 rfl) ?_
  refine V_get B hw (v := .ref (ad 1)) (by decide) rfl rfl hin_HL 0 (by decide) rfl wm_0 rfl dHL_close_1 ?_
  refine V_getN B hw (v := .ref (ad 10)) (by decide) rfl rfl hin_BO 1 (by decide) rfl wn_22 rfl dHL_close_4 ?_
  refine lv_astore_n (lv' := [(2, .ref (ad 10)), (0, .ref (ad 0)), (1, .int x1)]) hx hb dHL_close_7 rfl hl (by decide) rfl (fun ls hl => ?_)
  refine lv_aload_n hx hb dHL_close_8 rfl (lv_at hl 0 rfl) ?_
  refine lv_iload_n hx hb dHL_close_9 rfl (lv_at hl 2 rfl) ?_
  refine V_callVN (rest := []) B hi hw hA hl.1 (M_FJO_isOpen l hi S x1 (vc_FHL_close_pre10_1 S x1 hp)) (cw_FJO_isOpen (Nat.le_of_ble_eq_true rfl) (Nat.le_of_ble_eq_true rfl) (Nat.zero_le _) (Nat.zero_le _)) (by decide) rfl rfl wn_34 wm_35 wm_36 rfl (Nat.le_of_ble_eq_true rfl) dHL_close_10 (kI (fun H locs hw => ?_))
  refine lv_if_eq (tgt := 33) hx hb dHL_close_13 (by decide) (fun c2 => ?_) (fun c2 => ?_)
  · have hF := hF.trans (if_pos c2)
    refine lv_iconst (v := (-1)) hx hb dHL_close_33 (by decide) ?_
    exact V_iret B hr hlk hw (pI_of hF) dHL_close_34
  · have hF := hF.trans (if_neg c2)
    refine lv_aload_n hx hb dHL_close_16 rfl (lv_at hl 1 rfl) ?_
    refine V_get B hw (v := .ref (ad 1)) (by decide) rfl rfl hin_HL 0 (by decide) rfl wm_0 rfl dHL_close_17 ?_
    refine lv_aload_n hx hb dHL_close_20 rfl (lv_at hl 0 rfl) ?_
    refine V_getN B hw (v := .ref (ad 11)) (by decide) rfl rfl hin_JO 1 (by decide) rfl wn_49 rfl dHL_close_21 ?_
    refine lv_iload_n hx hb dHL_close_24 rfl (lv_at hl 2 rfl) ?_
    refine V_iald (j := x1.toNatClampNeg) (v := S.1 11 x1.toNatClampNeg) B hw (by decide) rfl (vc_FHL_close_ix25_3 S x1 hp c2) rfl rfl dHL_close_25 ?_
    refine lv_i2l hx hb dHL_close_26 rfl ?_
    refine V_callVN (rest := []) B hi hw hA hl.1 (M_FBO_isUnclosedDay l hi S ((S.1 11 x1.toNatClampNeg).toInt64) (vc_FHL_close_pre27_4 S x1 hp c2)) (cw_FBO_isUnclosedDay (Nat.le_of_ble_eq_true rfl) (Nat.le_of_ble_eq_true rfl) (Nat.zero_le _) (Nat.zero_le _)) (by decide) rfl rfl wn_19 wm_20 wm_21 rfl (Nat.le_of_ble_eq_true rfl) dHL_close_27 (kI (fun H locs hw => ?_))
    refine lv_if_ne (tgt := 35) hx hb dHL_close_30 (by decide) (fun c5 => ?_) (fun c5 => ?_)
    · have hF := hF.trans (if_neg c5)
      refine lv_aload_n hx hb dHL_close_35 rfl (lv_at hl 0 rfl) ?_
      refine lv_iload_n hx hb dHL_close_36 rfl (lv_at hl 2 rfl) ?_
      refine V_callVN (rest := []) B hi hw hA hl.1 (M_FJO_sumOf l hi S x1 (vc_FHL_close_pre37_6 S x1 hp c2 c5)) (cw_FJO_sumOf (Nat.le_of_ble_eq_true rfl) (Nat.le_of_ble_eq_true rfl) (Nat.zero_le _) (Nat.zero_le _)) (by decide) rfl rfl wn_50 wm_51 wm_52 rfl (Nat.le_of_ble_eq_true rfl) dHL_close_37 (kL (fun H locs hw => ?_))
      refine lv_lconst (v := 0) hx hb dHL_close_40 (by decide) ?_
      refine V_leq (tgt := 55) B dHL_close_41 dHL_close_42 (by decide) (fun c7 => ?_) (fun c7 => ?_)
      · have hF := hF.trans (if_pos c7)
        refine lv_aload_n hx hb dHL_close_55 rfl (lv_at hl 0 rfl) ?_
        refine V_getN B hw (v := .ref (ad 12)) (by decide) rfl rfl hin_JO 2 (by decide) rfl wn_53 rfl dHL_close_56 ?_
        refine lv_iload_n hx hb dHL_close_59 rfl (lv_at hl 2 rfl) ?_
        refine lv_iconst (v := 1) hx hb dHL_close_60 (by decide) ?_
        refine V_iast (j := x1.toNatClampNeg) B hw (by decide) rfl (vc_FHL_close_ix61_8 S x1 hp c2 c5 c7) rfl dHL_close_61 (fun H locs hw => ?_)
        refine lv_aload_n hx hb dHL_close_62 rfl (lv_at hl 1 rfl) ?_
        refine V_get B hw (v := .ref (ad 1)) (by decide) rfl rfl hin_HL 0 (by decide) rfl wm_0 rfl dHL_close_63 ?_
        refine lv_iload_n hx hb dHL_close_66 rfl (lv_at hl 2 rfl) ?_
        refine V_callVN (rest := []) B hi hw hA hl.1 (M_FBO_makeItems l hi (sI S 12 x1.toNatClampNeg 1) x1 (vc_FHL_close_pre67_9 S x1 hp c2 c5 c7)) (cw_FBO_makeItems (Nat.le_of_ble_eq_true rfl) (Nat.le_of_ble_eq_true rfl) (Nat.zero_le _) (Nat.zero_le _)) (by decide) rfl rfl wn_64 wm_65 wm_66 rfl (Nat.le_of_ble_eq_true rfl) dHL_close_67 (kV (fun H locs hw => ?_))
        refine lv_aload_n hx hb dHL_close_70 rfl (lv_at hl 0 rfl) ?_
        refine V_getN B hw (v := .ref (ad 13)) (by decide) rfl rfl hin_JO 3 (by decide) rfl wn_67 rfl dHL_close_71 ?_
        refine lv_iload_n hx hb dHL_close_74 rfl (lv_at hl 2 rfl) ?_
        refine V_iald (j := x1.toNatClampNeg) (v := (FBO_makeItems (sI S 12 x1.toNatClampNeg 1) x1).1 13 x1.toNatClampNeg) B hw (by decide) rfl (vc_FHL_close_ix75_10 S x1 hp c2 c5 c7) rfl rfl dHL_close_75 ?_
        exact V_iret B hr hlk hw (pI_of hF) dHL_close_76
      · have hF := hF.trans (if_neg c7)
        exact (vc_FHL_close_no45_11 S x1 hp c2 c5 c7).elim
    · have hF := hF.trans (if_pos c5)
      refine lv_iconst (v := (-1)) hx hb dHL_close_33 (by decide) ?_
      exact V_iret B hr hlk hw (pI_of hF) dHL_close_34
theorem cw_FJO_isPostedRow {R : Room} {cells slots : Nat} (h1 : 1 ≤ R.frames) (h2 : 23 ≤ R.locals) (h3 : cells ≤ R.cells) (h4 : slots ≤ R.slots) : Cw R cells slots yJO_isPostedRow bJO_isPostedRow 4 (some .boolean) ({ frames := 0, cells := 0, slots := 0, locals := 0 } : Room) 2 := ⟨wm_369, wm_358, by decide +kernel, ⟨rfl, rfl, h1, h2⟩, h3, h4⟩
set_option maxHeartbeats 4000000 in
set_option maxRecDepth 100000 in
theorem M_FJO_isPostedRow (l : Launch) {ad : Nat → Nat} {cI cL : ClassId} {dC : Nat → ClassId} {dI : Nat → Nat → Nat} (hi : adI ad) (S : hS) (x1 : Int32) (x2 : Int32) (hp : wfC S ∧ rg x1 240) : Mt l ad cI cL dC dI yJO_isPostedRow bJO_isPostedRow 4 (some .boolean) ({ frames := 0, cells := 0, slots := 0, locals := 0 } : Room) [.ref (ad 10), .int x1, .int x2] S (pI (FJO_isPostedRow S x1 x2) S) := by
  refine Mt_of (own := RJO) hi (by decide) rfl (Nat.le_of_ble_eq_true rfl) ?_
  intro p e s m args below meth c ls B hr hlk hw hl
  obtain ⟨hx, hb, -, hown, hts, -, -⟩ := id B
  have hA : ∀ q, AA ad s.heap.size q → AA ad s.heap.size q := fun _ h => h
  have hl : lv_has ls 4 [(0, .ref (ad 10)), (1, .int x1), (2, .int x2)] := hl
  have hF := FJO_isPostedRow_e S x1 x2
  refine lv_iload_n hx hb dJO_isPostedRow_0 rfl (lv_at hl 1 rfl) ?_
  refine lv_bipush (v := 6) hx hb dJO_isPostedRow_1 (by decide) ?_
  refine lv_idiv hx hb dJO_isPostedRow_3 (by decide) ?_
  refine lv_istore_n (lv' := [(3, .int (x1 / 6)), (0, .ref (ad 10)), (1, .int x1), (2, .int x2)]) hx hb dJO_isPostedRow_4 rfl hl (by decide) rfl (fun ls hl => ?_)
  refine lv_aload_n hx hb dJO_isPostedRow_5 rfl (lv_at hl 1 rfl) ?_
  refine V_get B hw (v := .ref (ad 12)) (by decide) rfl rfl hin_JO 2 (by decide) rfl wm_28 rfl dJO_isPostedRow_6 ?_
  refine lv_iload_n hx hb dJO_isPostedRow_9 rfl (lv_at hl 0 rfl) ?_
  refine V_iald (j := (x1 / 6).toNatClampNeg) (v := S.1 12 ((x1 / 6).toNatClampNeg)) B hw (by decide) rfl (vc_FJO_isPostedRow_ix10_1 S x1 x2 hp) rfl rfl dJO_isPostedRow_10 ?_
  refine lv_if_eq (tgt := 41) hx hb dJO_isPostedRow_11 (by decide) (fun c2 => ?_) (fun c2 => ?_)
  · have hF := hF.trans (if_pos c2)
    refine lv_iconst (v := 0) hx hb dJO_isPostedRow_41 (by decide) ?_
    exact V_zret B hr hlk hw (by decide) (pI_r hF) dJO_isPostedRow_42
  · have hF := hF.trans (if_neg c2)
    refine lv_iload_n hx hb dJO_isPostedRow_14 rfl (lv_at hl 2 rfl) ?_
    refine lv_bipush (v := 6) hx hb dJO_isPostedRow_15 (by decide) ?_
    refine lv_irem hx hb dJO_isPostedRow_17 (by decide) ?_
    refine lv_aload_n hx hb dJO_isPostedRow_18 rfl (lv_at hl 1 rfl) ?_
    refine V_get B hw (v := .ref (ad 13)) (by decide) rfl rfl hin_JO 3 (by decide) rfl wm_29 rfl dJO_isPostedRow_19 ?_
    refine lv_iload_n hx hb dJO_isPostedRow_22 rfl (lv_at hl 0 rfl) ?_
    refine V_iald (j := (x1 / 6).toNatClampNeg) (v := S.1 13 ((x1 / 6).toNatClampNeg)) B hw (by decide) rfl (vc_FJO_isPostedRow_ix23_3 S x1 x2 hp c2) rfl rfl dJO_isPostedRow_23 ?_
    refine lv_icmp_ge (tgt := 41) hx hb dJO_isPostedRow_24 (by decide) (fun c4 => ?_) (fun c4 => ?_)
    · have hF := hF.trans (if_pos c4)
      refine lv_iconst (v := 0) hx hb dJO_isPostedRow_41 (by decide) ?_
      exact V_zret B hr hlk hw (by decide) (pI_r hF) dJO_isPostedRow_42
    · have hF := hF.trans (if_neg c4)
      refine lv_aload_n hx hb dJO_isPostedRow_27 rfl (lv_at hl 1 rfl) ?_
      refine V_get B hw (v := .ref (ad 15)) (by decide) rfl rfl hin_JO 5 (by decide) rfl wm_42 rfl dJO_isPostedRow_28 ?_
      refine lv_iload_n hx hb dJO_isPostedRow_31 rfl (lv_at hl 2 rfl) ?_
      refine V_iald (j := x1.toNatClampNeg) (v := S.1 15 x1.toNatClampNeg) B hw (by decide) rfl (vc_FJO_isPostedRow_ix32_5 S x1 x2 hp c2 c4) rfl rfl dJO_isPostedRow_32 ?_
      refine lv_iload_n hx hb dJO_isPostedRow_33 rfl (lv_at hl 3 rfl) ?_
      refine lv_icmp_ne (tgt := 41) hx hb dJO_isPostedRow_34 (by decide) (fun c6 => ?_) (fun c6 => ?_)
      · have hF := hF.trans (if_neg c6)
        refine lv_iconst (v := 0) hx hb dJO_isPostedRow_41 (by decide) ?_
        exact V_zret B hr hlk hw (by decide) (pI_r hF) dJO_isPostedRow_42
      · have hF := hF.trans (if_pos c6)
        refine lv_iconst (v := 1) hx hb dJO_isPostedRow_37 (by decide) ?_
        refine lv_goto (tgt := 42) hx hb dJO_isPostedRow_38 (by decide) ?_
        exact V_zret B hr hlk hw (by decide) (pI_r hF) dJO_isPostedRow_42
