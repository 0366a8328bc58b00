theorem cw_FHL_inLowestTerms {R : Room} {cells slots : Nat} (h1 : 2 ≤ R.frames) (h2 : 56 ≤ R.locals) (h3 : cells ≤ R.cells) (h4 : slots ≤ R.slots) : Cw R cells slots yHL_inLowestTerms bHL_inLowestTerms 7 (some .long) ({ frames := 1, cells := 0, slots := 0, locals := 30 } : Room) 3 := ⟨wm_400, wm_353, by decide +kernel, ⟨rfl, rfl, h1, h2⟩, h3, h4⟩
set_option maxHeartbeats 4000000 in
set_option maxRecDepth 100000 in
theorem M_FHL_inLowestTerms (l : Launch) {ad : Nat → Nat} {cI cL : ClassId} {dC : Nat → ClassId} {dI : Nat → Nat → Nat} (hi : adI ad) (S : hS) (x0 : Int64) (x2 : Int64) (x4 : Int32) : Mt l ad cI cL dC dI yHL_inLowestTerms bHL_inLowestTerms 7 (some .long) ({ frames := 1, cells := 0, slots := 0, locals := 30 } : Room) [.long x0, .long x2, .int x4] S (pL (FHL_inLowestTerms S x0 x2 x4) S) := by
  refine Mt_of (own := RHL) hi (by decide) rfl (Nat.le_of_ble_eq_true rfl) ?_
  intro p e s m args below meth c ls B hr hlk hw hl
  obtain ⟨hx, hb, -, hown, hts, -, -⟩ := id B
  have hA : ∀ q, AA ad s.heap.size q → AA ad s.heap.size q := fun _ h => h
  have hl : lv_has ls 7 [(0, .long x0), (2, .long x2), (4, .int x4)] := hl
  have hF := FHL_inLowestTerms_e S x0 x2 x4
  refine lv_lconst (v := 1) hx hb dHL_inLowestTerms_0 (by decide) ?_
  refine lv_lload_n hx hb dHL_inLowestTerms_1 rfl (lv_at hl 0 rfl) ?_
  refine lv_lload_n hx hb dHL_inLowestTerms_2 rfl (lv_at hl 1 rfl) ?_
  refine V_callS (rest := [.long 1]) B hi hw hA hl.1 (M_FHL_commonDivisor l hi S x0 x2) (cw_FHL_commonDivisor (Nat.le_of_ble_eq_true rfl) (Nat.le_of_ble_eq_true rfl) (Nat.zero_le _) (Nat.zero_le _)) wm_159 wm_160 rfl (Nat.le_of_ble_eq_true rfl) dHL_inLowestTerms_3 (kL (fun H locs hw => ?_))
  refine va_mmax_long hx hb (B.2.2.1.trans hl.1.symm) hown (hts _ wm_161) (hts _ wm_162) (hts _ wm_85) (hts _ wm_163) (Nat.le_of_ble_eq_true rfl) (Nat.le_of_ble_eq_true rfl) (Nat.zero_le _) (Nat.zero_le _) dHL_inLowestTerms_6 ?_
  refine lv_lstore (lv' := [(5, .long (if (FHL_commonDivisor S x0 x2) < 1 then 1 else (FHL_commonDivisor S x0 x2))), (0, .long x0), (2, .long x2), (4, .int x4)]) hx hb dHL_inLowestTerms_9 hl (by decide) rfl (fun ls hl => ?_)
  refine lv_iload hx hb dHL_inLowestTerms_11 (lv_at hl 3 rfl) ?_
  refine lv_if_ne (tgt := 20) hx hb dHL_inLowestTerms_13 (by decide) (fun c1 => ?_) (fun c1 => ?_)
  · have hF := hF.trans (if_neg c1)
    refine lv_lload_n hx hb dHL_inLowestTerms_20 rfl (lv_at hl 2 rfl) ?_
    refine lv_lload hx hb dHL_inLowestTerms_21 (lv_at hl 0 rfl) ?_
    refine lv_ldiv hx hb dHL_inLowestTerms_23 (vc_FHL_inLowestTerms_nz23_2 S x0 x2 x4 c1) ?_
    exact V_lret B hr hlk hw (pL_r hF) dHL_inLowestTerms_24
  · have hF := hF.trans (if_pos c1)
    refine lv_lload_n hx hb dHL_inLowestTerms_16 rfl (lv_at hl 1 rfl) ?_
    refine lv_goto (tgt := 21) hx hb dHL_inLowestTerms_17 (by decide) ?_
    refine lv_lload hx hb dHL_inLowestTerms_21 (lv_at hl 0 rfl) ?_
    refine lv_ldiv hx hb dHL_inLowestTerms_23 (vc_FHL_inLowestTerms_nz23_3 S x0 x2 x4 c1) ?_
    exact V_lret B hr hlk hw (pL_r hF) dHL_inLowestTerms_24
theorem cw_FHL_share {R : Room} {cells slots : Nat} (h1 : 3 ≤ R.frames) (h2 : 79 ≤ R.locals) (h3 : cells ≤ R.cells) (h4 : slots ≤ R.slots) : Cw R cells slots yHL_share bHL_share 4 (some .long) ({ frames := 2, cells := 0, slots := 0, locals := 56 } : Room) 3 := ⟨wm_401, wm_353, by decide +kernel, ⟨rfl, rfl, h1, h2⟩, h3, h4⟩
set_option maxHeartbeats 4000000 in
set_option maxRecDepth 100000 in
theorem M_FHL_share (l : Launch) {ad : Nat → Nat} {cI cL : ClassId} {dC : Nat → ClassId} {dI : Nat → Nat → Nat} (hi : adI ad) (S : hS) (x1 : Int32) (x2 : Int32) (x3 : Int32) (hp : wfC S) : Mt l ad cI cL dC dI yHL_share bHL_share 4 (some .long) ({ frames := 2, cells := 0, slots := 0, locals := 56 } : Room) [.ref (ad 0), .int x1, .int x2, .int x3] S (pL (FHL_share S x1 x2 x3) S) := by
  refine Mt_of (own := RHL) hi (by decide) rfl (Nat.le_of_ble_eq_true rfl) ?_
  intro p e s m args below meth c ls B hr hlk hw hl
  obtain ⟨hx, hb, -, hown, hts, -, -⟩ := id B
  have hA : ∀ q, AA ad s.heap.size q → AA ad s.heap.size q := fun _ h => h
  have hl : lv_has ls 4 [(0, .ref (ad 0)), (1, .int x1), (2, .int x2), (3, .int x3)] := hl
  have hF := FHL_share_e S x1 x2 x3
  refine lv_aload_n hx hb dHL_share_0 rfl (lv_at hl 0 rfl) ?_
  refine V_get B hw (v := .ref (ad 1)) (by decide) rfl rfl hin_HL 0 (by decide) rfl wm_0 rfl dHL_share_1 ?_
  refine V_getN B hw (v := .ref (ad 2)) (by decide) rfl rfl hin_BO 0 (by decide) rfl wn_1 rfl dHL_share_4 ?_
  refine lv_iload_n hx hb dHL_share_7 rfl (lv_at hl 1 rfl) ?_
  refine V_callVN (rest := []) B hi hw hA hl.1 (M_FAC_hasHousehold l hi S x1 (vc_FHL_share_pre8_1 S x1 x2 x3 hp)) (cw_FAC_hasHousehold (Nat.le_of_ble_eq_true rfl) (Nat.le_of_ble_eq_true rfl) (Nat.zero_le _) (Nat.zero_le _)) (by decide) rfl rfl wn_79 wm_61 wm_62 rfl (Nat.le_of_ble_eq_true rfl) dHL_share_8 (kI (fun H locs hw => ?_))
  refine lv_if_eq (tgt := 30) hx hb dHL_share_11 (by decide) (fun c2 => ?_) (fun c2 => ?_)
  · have hF := hF.trans (if_pos c2)
    refine lv_ldc2 (v := (-1)) hx hb hown (hts _ wm_105) dHL_share_30 ?_
    exact V_lret B hr hlk hw (pL_r hF) dHL_share_33
  · have hF := hF.trans (if_neg c2)
    refine lv_iload_n hx hb dHL_share_14 rfl (lv_at hl 2 rfl) ?_
    refine V_callS (rest := []) B hi hw hA hl.1 (M_FHL_isMonth l hi S x2) (cw_FHL_isMonth (Nat.le_of_ble_eq_true rfl) (Nat.le_of_ble_eq_true rfl) (Nat.zero_le _) (Nat.zero_le _)) wm_152 wm_153 rfl (Nat.le_of_ble_eq_true rfl) dHL_share_15 (kI (fun H locs hw => ?_))
    refine lv_if_eq (tgt := 30) hx hb dHL_share_18 (by decide) (fun c3 => ?_) (fun c3 => ?_)
    · have hF := hF.trans (if_pos c3)
      refine lv_ldc2 (v := (-1)) hx hb hown (hts _ wm_105) dHL_share_30 ?_
      exact V_lret B hr hlk hw (pL_r hF) dHL_share_33
    · have hF := hF.trans (if_neg c3)
      refine lv_iload_n hx hb dHL_share_21 rfl (lv_at hl 3 rfl) ?_
      refine lv_if_lt (tgt := 30) hx hb dHL_share_22 (by decide) (fun c4 => ?_) (fun c4 => ?_)
      · have hF := hF.trans (if_pos c4)
        refine lv_ldc2 (v := (-1)) hx hb hown (hts _ wm_105) dHL_share_30 ?_
        exact V_lret B hr hlk hw (pL_r hF) dHL_share_33
      · have hF := hF.trans (if_neg c4)
        refine lv_iload_n hx hb dHL_share_25 rfl (lv_at hl 3 rfl) ?_
        refine lv_iconst (v := 1) hx hb dHL_share_26 (by decide) ?_
        refine lv_icmp_le (tgt := 34) hx hb dHL_share_27 (by decide) (fun c5 => ?_) (fun c5 => ?_)
        · have hF := hF.trans (if_pos c5)
          refine lv_aload_n hx hb dHL_share_34 rfl (lv_at hl 0 rfl) ?_
          refine V_get B hw (v := .ref (ad 1)) (by decide) rfl rfl hin_HL 0 (by decide) rfl wm_0 rfl dHL_share_35 ?_
          refine V_getN B hw (v := .ref (ad 2)) (by decide) rfl rfl hin_BO 0 (by decide) rfl wn_1 rfl dHL_share_38 ?_
          refine lv_iload_n hx hb dHL_share_41 rfl (lv_at hl 1 rfl) ?_
          refine lv_iload_n hx hb dHL_share_42 rfl (lv_at hl 2 rfl) ?_
          refine V_callVN (rest := []) B hi hw hA hl.1 (M_FAC_daysThere l hi S x1 x2 (vc_FHL_share_pre43_6 S x1 x2 x3 hp c2 c3 c4 c5)) (cw_FAC_daysThere (Nat.le_of_ble_eq_true rfl) (Nat.le_of_ble_eq_true rfl) (Nat.zero_le _) (Nat.zero_le _)) (by decide) rfl rfl wn_155 wm_156 wm_157 rfl (Nat.le_of_ble_eq_true rfl) dHL_share_43 (kI (fun H locs hw => ?_))
          refine lv_i2l hx hb dHL_share_46 rfl ?_
          refine lv_ldc2 (v := 30) hx hb hown (hts _ wm_158) dHL_share_47 ?_
          refine lv_iload_n hx hb dHL_share_50 rfl (lv_at hl 3 rfl) ?_
          refine V_callS (rest := []) B hi hw hA hl.1 (M_FHL_inLowestTerms l hi S ((FAC_daysThere S x1 x2).toInt64) 30 x3) (cw_FHL_inLowestTerms (Nat.le_of_ble_eq_true rfl) (Nat.le_of_ble_eq_true rfl) (Nat.zero_le _) (Nat.zero_le _)) wm_164 wm_165 rfl (Nat.le_of_ble_eq_true rfl) dHL_share_51 (kL (fun H locs hw => ?_))
          exact V_lret B hr hlk hw (pL_r hF) dHL_share_54
        · have hF := hF.trans (if_neg c5)
          refine lv_ldc2 (v := (-1)) hx hb hown (hts _ wm_105) dHL_share_30 ?_
          exact V_lret B hr hlk hw (pL_r hF) dHL_share_33
theorem cw_FHL_copyInts_3_27 {R : Room} {cells slots : Nat} (h1 : 2 ≤ R.frames) (h2 : 81 ≤ R.locals) (h3 : cells ≤ R.cells) (h4 : slots ≤ R.slots) : Cw R cells slots yHL_copyInts bHL_copyInts 2 none ({ frames := 1, cells := 0, slots := 0, locals := 60 } : Room) 2 := ⟨wm_402, wm_353, by decide +kernel, ⟨rfl, rfl, h1, h2⟩, h3, h4⟩
set_option maxHeartbeats 4000000 in
set_option maxRecDepth 100000 in
theorem M_FHL_copyInts_3_27 (l : Launch) {ad : Nat → Nat} {cI cL : ClassId} {dC : Nat → ClassId} {dI : Nat → Nat → Nat} (hi : adI ad) (S : hS)  : Mt l ad cI cL dC dI yHL_copyInts bHL_copyInts 2 none ({ frames := 1, cells := 0, slots := 0, locals := 60 } : Room) [.ref (ad 3), .ref (ad 27)] S (pV (FHL_copyInts_3_27 S)) := by
  refine Mt_of (own := RHL) hi (by decide) rfl (Nat.le_of_ble_eq_true rfl) ?_
  intro p e s m args below meth c ls B hr hlk hw hl
  obtain ⟨hx, hb, -, hown, hts, -, -⟩ := id B
  have hA : ∀ q, AA ad s.heap.size q → AA ad s.heap.size q := fun _ h => h
  have hl : lv_has ls 2 [(0, .ref (ad 3)), (1, .ref (ad 27))] := hl
  have hF := FHL_copyInts_3_27_e S 
  refine lv_aload_n hx hb dHL_copyInts_0 rfl (lv_at hl 0 rfl) ?_
  refine lv_iconst (v := 0) hx hb dHL_copyInts_1 (by decide) ?_
  refine lv_aload_n hx hb dHL_copyInts_2 rfl (lv_at hl 1 rfl) ?_
  refine lv_iconst (v := 0) hx hb dHL_copyInts_3 (by decide) ?_
  refine lv_aload_n hx hb dHL_copyInts_4 rfl (lv_at hl 0 rfl) ?_
  refine V_ialen (v := 8) B hw (by decide) rfl (by decide) dHL_copyInts_5 ?_
  refine lv_aload_n hx hb dHL_copyInts_6 rfl (lv_at hl 1 rfl) ?_
  refine V_ialen (v := 8) B hw (by decide) rfl (by decide) dHL_copyInts_7 ?_
  refine va_mmin hx hb (B.2.2.1.trans hl.1.symm) hown (hts _ wm_168) (hts _ wm_125) (hts _ wm_85) (hts _ wm_126) (Nat.le_of_ble_eq_true rfl) (Nat.le_of_ble_eq_true rfl) (Nat.zero_le _) (Nat.zero_le _) dHL_copyInts_8 ?_
  refine V_acI (n0 := 8) B hw hl.1 wm_169 wm_170 wm_171 wm_172 (by decide) (by decide) rfl rfl (by decide) (by decide) (Nat.le_of_ble_eq_true rfl) (Nat.le_of_ble_eq_true rfl) dHL_copyInts_11 (fun H locs hw => ?_)
  exact V_vret B hr hlk hw (pV_of hF) dHL_copyInts_14
theorem cw_FHL_copyInts_4_28 {R : Room} {cells slots : Nat} (h1 : 2 ≤ R.frames) (h2 : 81 ≤ R.locals) (h3 : cells ≤ R.cells) (h4 : slots ≤ R.slots) : Cw R cells slots yHL_copyInts bHL_copyInts 2 none ({ frames := 1, cells := 0, slots := 0, locals := 60 } : Room) 2 := ⟨wm_402, wm_353, by decide +kernel, ⟨rfl, rfl, h1, h2⟩, h3, h4⟩
set_option maxHeartbeats 4000000 in
set_option maxRecDepth 100000 in
theorem M_FHL_copyInts_4_28 (l : Launch) {ad : Nat → Nat} {cI cL : ClassId} {dC : Nat → ClassId} {dI : Nat → Nat → Nat} (hi : adI ad) (S : hS)  : Mt l ad cI cL dC dI yHL_copyInts bHL_copyInts 2 none ({ frames := 1, cells := 0, slots := 0, locals := 60 } : Room) [.ref (ad 4), .ref (ad 28)] S (pV (FHL_copyInts_4_28 S)) := by
  refine Mt_of (own := RHL) hi (by decide) rfl (Nat.le_of_ble_eq_true rfl) ?_
  intro p e s m args below meth c ls B hr hlk hw hl
  obtain ⟨hx, hb, -, hown, hts, -, -⟩ := id B
  have hA : ∀ q, AA ad s.heap.size q → AA ad s.heap.size q := fun _ h => h
  have hl : lv_has ls 2 [(0, .ref (ad 4)), (1, .ref (ad 28))] := hl
  have hF := FHL_copyInts_4_28_e S 
  refine lv_aload_n hx hb dHL_copyInts_0 rfl (lv_at hl 0 rfl) ?_
  refine lv_iconst (v := 0) hx hb dHL_copyInts_1 (by decide) ?_
  refine lv_aload_n hx hb dHL_copyInts_2 rfl (lv_at hl 1 rfl) ?_
  refine lv_iconst (v := 0) hx hb dHL_copyInts_3 (by decide) ?_
  refine lv_aload_n hx hb dHL_copyInts_4 rfl (lv_at hl 0 rfl) ?_
  refine V_ialen (v := 8) B hw (by decide) rfl (by decide) dHL_copyInts_5 ?_
  refine lv_aload_n hx hb dHL_copyInts_6 rfl (lv_at hl 1 rfl) ?_
  refine V_ialen (v := 8) B hw (by decide) rfl (by decide) dHL_copyInts_7 ?_
  refine va_mmin hx hb (B.2.2.1.trans hl.1.symm) hown (hts _ wm_168) (hts _ wm_125) (hts _ wm_85) (hts _ wm_126) (Nat.le_of_ble_eq_true rfl) (Nat.le_of_ble_eq_true rfl) (Nat.zero_le _) (Nat.zero_le _) dHL_copyInts_8 ?_
  refine V_acI (n0 := 8) B hw hl.1 wm_169 wm_170 wm_171 wm_172 (by decide) (by decide) rfl rfl (by decide) (by decide) (Nat.le_of_ble_eq_true rfl) (Nat.le_of_ble_eq_true rfl) dHL_copyInts_11 (fun H locs hw => ?_)
  exact V_vret B hr hlk hw (pV_of hF) dHL_copyInts_14
theorem cw_FHL_copyInts_5_29 {R : Room} {cells slots : Nat} (h1 : 2 ≤ R.frames) (h2 : 81 ≤ R.locals) (h3 : cells ≤ R.cells) (h4 : slots ≤ R.slots) : Cw R cells slots yHL_copyInts bHL_copyInts 2 none ({ frames := 1, cells := 0, slots := 0, locals := 60 } : Room) 2 := ⟨wm_402, wm_353, by decide +kernel, ⟨rfl, rfl, h1, h2⟩, h3, h4⟩
set_option maxHeartbeats 4000000 in
set_option maxRecDepth 100000 in
theorem M_FHL_copyInts_5_29 (l : Launch) {ad : Nat → Nat} {cI cL : ClassId} {dC : Nat → ClassId} {dI : Nat → Nat → Nat} (hi : adI ad) (S : hS)  : Mt l ad cI cL dC dI yHL_copyInts bHL_copyInts 2 none ({ frames := 1, cells := 0, slots := 0, locals := 60 } : Room) [.ref (ad 5), .ref (ad 29)] S (pV (FHL_copyInts_5_29 S)) := by
  refine Mt_of (own := RHL) hi (by decide) rfl (Nat.le_of_ble_eq_true rfl) ?_
  intro p e s m args below meth c ls B hr hlk hw hl
  obtain ⟨hx, hb, -, hown, hts, -, -⟩ := id B
  have hA : ∀ q, AA ad s.heap.size q → AA ad s.heap.size q := fun _ h => h
  have hl : lv_has ls 2 [(0, .ref (ad 5)), (1, .ref (ad 29))] := hl
  have hF := FHL_copyInts_5_29_e S 
  refine lv_aload_n hx hb dHL_copyInts_0 rfl (lv_at hl 0 rfl) ?_
  refine lv_iconst (v := 0) hx hb dHL_copyInts_1 (by decide) ?_
  refine lv_aload_n hx hb dHL_copyInts_2 rfl (lv_at hl 1 rfl) ?_
  refine lv_iconst (v := 0) hx hb dHL_copyInts_3 (by decide) ?_
  refine lv_aload_n hx hb dHL_copyInts_4 rfl (lv_at hl 0 rfl) ?_
  refine V_ialen (v := 8) B hw (by decide) rfl (by decide) dHL_copyInts_5 ?_
  refine lv_aload_n hx hb dHL_copyInts_6 rfl (lv_at hl 1 rfl) ?_
  refine V_ialen (v := 8) B hw (by decide) rfl (by decide) dHL_copyInts_7 ?_
  refine va_mmin hx hb (B.2.2.1.trans hl.1.symm) hown (hts _ wm_168) (hts _ wm_125) (hts _ wm_85) (hts _ wm_126) (Nat.le_of_ble_eq_true rfl) (Nat.le_of_ble_eq_true rfl) (Nat.zero_le _) (Nat.zero_le _) dHL_copyInts_8 ?_
  refine V_acI (n0 := 8) B hw hl.1 wm_169 wm_170 wm_171 wm_172 (by decide) (by decide) rfl rfl (by decide) (by decide) (Nat.le_of_ble_eq_true rfl) (Nat.le_of_ble_eq_true rfl) dHL_copyInts_11 (fun H locs hw => ?_)
  exact V_vret B hr hlk hw (pV_of hF) dHL_copyInts_14
theorem cw_FHL_copyLongs_6_30 {R : Room} {cells slots : Nat} (h1 : 2 ≤ R.frames) (h2 : 81 ≤ R.locals) (h3 : cells ≤ R.cells) (h4 : slots ≤ R.slots) : Cw R cells slots yHL_copyLongs bHL_copyLongs 2 none ({ frames := 1, cells := 0, slots := 0, locals := 60 } : Room) 2 := ⟨wm_403, wm_353, by decide +kernel, ⟨rfl, rfl, h1, h2⟩, h3, h4⟩
set_option maxHeartbeats 4000000 in
set_option maxRecDepth 100000 in
theorem M_FHL_copyLongs_6_30 (l : Launch) {ad : Nat → Nat} {cI cL : ClassId} {dC : Nat → ClassId} {dI : Nat → Nat → Nat} (hi : adI ad) (S : hS)  : Mt l ad cI cL dC dI yHL_copyLongs bHL_copyLongs 2 none ({ frames := 1, cells := 0, slots := 0, locals := 60 } : Room) [.ref (ad 6), .ref (ad 30)] S (pV (FHL_copyLongs_6_30 S)) := by
  refine Mt_of (own := RHL) hi (by decide) rfl (Nat.le_of_ble_eq_true rfl) ?_
  intro p e s m args below meth c ls B hr hlk hw hl
  obtain ⟨hx, hb, -, hown, hts, -, -⟩ := id B
  have hA : ∀ q, AA ad s.heap.size q → AA ad s.heap.size q := fun _ h => h
  have hl : lv_has ls 2 [(0, .ref (ad 6)), (1, .ref (ad 30))] := hl
  have hF := FHL_copyLongs_6_30_e S 
  refine lv_aload_n hx hb dHL_copyLongs_0 rfl (lv_at hl 0 rfl) ?_
  refine lv_iconst (v := 0) hx hb dHL_copyLongs_1 (by decide) ?_
  refine lv_aload_n hx hb dHL_copyLongs_2 rfl (lv_at hl 1 rfl) ?_
  refine lv_iconst (v := 0) hx hb dHL_copyLongs_3 (by decide) ?_
  refine lv_aload_n hx hb dHL_copyLongs_4 rfl (lv_at hl 0 rfl) ?_
  refine V_lalen (v := 8) B hw (by decide) rfl (by decide) dHL_copyLongs_5 ?_
  refine lv_aload_n hx hb dHL_copyLongs_6 rfl (lv_at hl 1 rfl) ?_
  refine V_lalen (v := 8) B hw (by decide) rfl (by decide) dHL_copyLongs_7 ?_
  refine va_mmin hx hb (B.2.2.1.trans hl.1.symm) hown (hts _ wm_168) (hts _ wm_125) (hts _ wm_85) (hts _ wm_126) (Nat.le_of_ble_eq_true rfl) (Nat.le_of_ble_eq_true rfl) (Nat.zero_le _) (Nat.zero_le _) dHL_copyLongs_8 ?_
  refine V_acL (n0 := 8) B hw hl.1 wm_169 wm_170 wm_171 wm_172 (by decide) (by decide) rfl rfl (by decide) (by decide) (Nat.le_of_ble_eq_true rfl) (Nat.le_of_ble_eq_true rfl) dHL_copyLongs_11 (fun H locs hw => ?_)
  exact V_vret B hr hlk hw (pV_of hF) dHL_copyLongs_14
theorem cw_FHL_copyLongs_7_31 {R : Room} {cells slots : Nat} (h1 : 2 ≤ R.frames) (h2 : 81 ≤ R.locals) (h3 : cells ≤ R.cells) (h4 : slots ≤ R.slots) : Cw R cells slots yHL_copyLongs bHL_copyLongs 2 none ({ frames := 1, cells := 0, slots := 0, locals := 60 } : Room) 2 := ⟨wm_403, wm_353, by decide +kernel, ⟨rfl, rfl, h1, h2⟩, h3, h4⟩
set_option maxHeartbeats 4000000 in
set_option maxRecDepth 100000 in
theorem M_FHL_copyLongs_7_31 (l : Launch) {ad : Nat → Nat} {cI cL : ClassId} {dC : Nat → ClassId} {dI : Nat → Nat → Nat} (hi : adI ad) (S : hS)  : Mt l ad cI cL dC dI yHL_copyLongs bHL_copyLongs 2 none ({ frames := 1, cells := 0, slots := 0, locals := 60 } : Room) [.ref (ad 7), .ref (ad 31)] S (pV (FHL_copyLongs_7_31 S)) := by
  refine Mt_of (own := RHL) hi (by decide) rfl (Nat.le_of_ble_eq_true rfl) ?_
  intro p e s m args below meth c ls B hr hlk hw hl
  obtain ⟨hx, hb, -, hown, hts, -, -⟩ := id B
  have hA : ∀ q, AA ad s.heap.size q → AA ad s.heap.size q := fun _ h => h
  have hl : lv_has ls 2 [(0, .ref (ad 7)), (1, .ref (ad 31))] := hl
  have hF := FHL_copyLongs_7_31_e S 
  refine lv_aload_n hx hb dHL_copyLongs_0 rfl (lv_at hl 0 rfl) ?_
  refine lv_iconst (v := 0) hx hb dHL_copyLongs_1 (by decide) ?_
  refine lv_aload_n hx hb dHL_copyLongs_2 rfl (lv_at hl 1 rfl) ?_
  refine lv_iconst (v := 0) hx hb dHL_copyLongs_3 (by decide) ?_
  refine lv_aload_n hx hb dHL_copyLongs_4 rfl (lv_at hl 0 rfl) ?_
  refine V_lalen (v := 8) B hw (by decide) rfl (by decide) dHL_copyLongs_5 ?_
  refine lv_aload_n hx hb dHL_copyLongs_6 rfl (lv_at hl 1 rfl) ?_
  refine V_lalen (v := 8) B hw (by decide) rfl (by decide) dHL_copyLongs_7 ?_
  refine va_mmin hx hb (B.2.2.1.trans hl.1.symm) hown (hts _ wm_168) (hts _ wm_125) (hts _ wm_85) (hts _ wm_126) (Nat.le_of_ble_eq_true rfl) (Nat.le_of_ble_eq_true rfl) (Nat.zero_le _) (Nat.zero_le _) dHL_copyLongs_8 ?_
  refine V_acL (n0 := 8) B hw hl.1 wm_169 wm_170 wm_171 wm_172 (by decide) (by decide) rfl rfl (by decide) (by decide) (Nat.le_of_ble_eq_true rfl) (Nat.le_of_ble_eq_true rfl) dHL_copyLongs_11 (fun H locs hw => ?_)
  exact V_vret B hr hlk hw (pV_of hF) dHL_copyLongs_14
theorem cw_FHL_copyInts_8_32 {R : Room} {cells slots : Nat} (h1 : 2 ≤ R.frames) (h2 : 81 ≤ R.locals) (h3 : cells ≤ R.cells) (h4 : slots ≤ R.slots) : Cw R cells slots yHL_copyInts bHL_copyInts 2 none ({ frames := 1, cells := 0, slots := 0, locals := 60 } : Room) 2 := ⟨wm_402, wm_353, by decide +kernel, ⟨rfl, rfl, h1, h2⟩, h3, h4⟩
set_option maxHeartbeats 4000000 in
set_option maxRecDepth 100000 in
theorem M_FHL_copyInts_8_32 (l : Launch) {ad : Nat → Nat} {cI cL : ClassId} {dC : Nat → ClassId} {dI : Nat → Nat → Nat} (hi : adI ad) (S : hS)  : Mt l ad cI cL dC dI yHL_copyInts bHL_copyInts 2 none ({ frames := 1, cells := 0, slots := 0, locals := 60 } : Room) [.ref (ad 8), .ref (ad 32)] S (pV (FHL_copyInts_8_32 S)) := by
  refine Mt_of (own := RHL) hi (by decide) rfl (Nat.le_of_ble_eq_true rfl) ?_
  intro p e s m args below meth c ls B hr hlk hw hl
  obtain ⟨hx, hb, -, hown, hts, -, -⟩ := id B
  have hA : ∀ q, AA ad s.heap.size q → AA ad s.heap.size q := fun _ h => h
  have hl : lv_has ls 2 [(0, .ref (ad 8)), (1, .ref (ad 32))] := hl
  have hF := FHL_copyInts_8_32_e S 
  refine lv_aload_n hx hb dHL_copyInts_0 rfl (lv_at hl 0 rfl) ?_
  refine lv_iconst (v := 0) hx hb dHL_copyInts_1 (by decide) ?_
  refine lv_aload_n hx hb dHL_copyInts_2 rfl (lv_at hl 1 rfl) ?_
  refine lv_iconst (v := 0) hx hb dHL_copyInts_3 (by decide) ?_
  refine lv_aload_n hx hb dHL_copyInts_4 rfl (lv_at hl 0 rfl) ?_
  refine V_ialen (v := 8) B hw (by decide) rfl (by decide) dHL_copyInts_5 ?_
  refine lv_aload_n hx hb dHL_copyInts_6 rfl (lv_at hl 1 rfl) ?_
  refine V_ialen (v := 8) B hw (by decide) rfl (by decide) dHL_copyInts_7 ?_
  refine va_mmin hx hb (B.2.2.1.trans hl.1.symm) hown (hts _ wm_168) (hts _ wm_125) (hts _ wm_85) (hts _ wm_126) (Nat.le_of_ble_eq_true rfl) (Nat.le_of_ble_eq_true rfl) (Nat.zero_le _) (Nat.zero_le _) dHL_copyInts_8 ?_
  refine V_acI (n0 := 8) B hw hl.1 wm_169 wm_170 wm_171 wm_172 (by decide) (by decide) rfl rfl (by decide) (by decide) (Nat.le_of_ble_eq_true rfl) (Nat.le_of_ble_eq_true rfl) dHL_copyInts_11 (fun H locs hw => ?_)
  exact V_vret B hr hlk hw (pV_of hF) dHL_copyInts_14
theorem cw_FHL_copyInts_9_33 {R : Room} {cells slots : Nat} (h1 : 2 ≤ R.frames) (h2 : 81 ≤ R.locals) (h3 : cells ≤ R.cells) (h4 : slots ≤ R.slots) : Cw R cells slots yHL_copyInts bHL_copyInts 2 none ({ frames := 1, cells := 0, slots := 0, locals := 60 } : Room) 2 := ⟨wm_402, wm_353, by decide +kernel, ⟨rfl, rfl, h1, h2⟩, h3, h4⟩
set_option maxHeartbeats 4000000 in
set_option maxRecDepth 100000 in
theorem M_FHL_copyInts_9_33 (l : Launch) {ad : Nat → Nat} {cI cL : ClassId} {dC : Nat → ClassId} {dI : Nat → Nat → Nat} (hi : adI ad) (S : hS)  : Mt l ad cI cL dC dI yHL_copyInts bHL_copyInts 2 none ({ frames := 1, cells := 0, slots := 0, locals := 60 } : Room) [.ref (ad 9), .ref (ad 33)] S (pV (FHL_copyInts_9_33 S)) := by
  refine Mt_of (own := RHL) hi (by decide) rfl (Nat.le_of_ble_eq_true rfl) ?_
  intro p e s m args below meth c ls B hr hlk hw hl
  obtain ⟨hx, hb, -, hown, hts, -, -⟩ := id B
  have hA : ∀ q, AA ad s.heap.size q → AA ad s.heap.size q := fun _ h => h
  have hl : lv_has ls 2 [(0, .ref (ad 9)), (1, .ref (ad 33))] := hl
  have hF := FHL_copyInts_9_33_e S 
  refine lv_aload_n hx hb dHL_copyInts_0 rfl (lv_at hl 0 rfl) ?_
  refine lv_iconst (v := 0) hx hb dHL_copyInts_1 (by decide) ?_
  refine lv_aload_n hx hb dHL_copyInts_2 rfl (lv_at hl 1 rfl) ?_
  refine lv_iconst (v := 0) hx hb dHL_copyInts_3 (by decide) ?_
  refine lv_aload_n hx hb dHL_copyInts_4 rfl (lv_at hl 0 rfl) ?_
  refine V_ialen (v := 8) B hw (by decide) rfl (by decide) dHL_copyInts_5 ?_
  refine lv_aload_n hx hb dHL_copyInts_6 rfl (lv_at hl 1 rfl) ?_
  refine V_ialen (v := 8) B hw (by decide) rfl (by decide) dHL_copyInts_7 ?_
  refine va_mmin hx hb (B.2.2.1.trans hl.1.symm) hown (hts _ wm_168) (hts _ wm_125) (hts _ wm_85) (hts _ wm_126) (Nat.le_of_ble_eq_true rfl) (Nat.le_of_ble_eq_true rfl) (Nat.zero_le _) (Nat.zero_le _) dHL_copyInts_8 ?_
  refine V_acI (n0 := 8) B hw hl.1 wm_169 wm_170 wm_171 wm_172 (by decide) (by decide) rfl rfl (by decide) (by decide) (Nat.le_of_ble_eq_true rfl) (Nat.le_of_ble_eq_true rfl) dHL_copyInts_11 (fun H locs hw => ?_)
  exact V_vret B hr hlk hw (pV_of hF) dHL_copyInts_14
theorem cw_FAC_copyFrom_26_2 {R : Room} {cells slots : Nat} (h1 : 3 ≤ R.frames) (h2 : 102 ≤ R.locals) (h3 : cells ≤ R.cells) (h4 : slots ≤ R.slots) : Cw R cells slots yAC_copyFrom bAC_copyFrom 2 none ({ frames := 2, cells := 0, slots := 0, locals := 81 } : Room) 1 := ⟨wm_404, wm_351, by decide +kernel, ⟨rfl, rfl, h1, h2⟩, h3, h4⟩
set_option maxHeartbeats 4000000 in
set_option maxRecDepth 100000 in
theorem M_FAC_copyFrom_26_2 (l : Launch) {ad : Nat → Nat} {cI cL : ClassId} {dC : Nat → ClassId} {dI : Nat → Nat → Nat} (hi : adI ad) (S : hS)  : Mt l ad cI cL dC dI yAC_copyFrom bAC_copyFrom 2 none ({ frames := 2, cells := 0, slots := 0, locals := 81 } : Room) [.ref (ad 26), .ref (ad 2)] S (pV (FAC_copyFrom_26_2 S)) := by
  refine Mt_of (own := RAC) hi (by decide) rfl (Nat.le_of_ble_eq_true rfl) ?_
  intro p e s m args below meth c ls B hr hlk hw hl
  obtain ⟨hx, hb, -, hown, hts, -, -⟩ := id B
  have hA : ∀ q, AA ad s.heap.size q → AA ad s.heap.size q := fun _ h => h
  have hl : lv_has ls 2 [(0, .ref (ad 26)), (1, .ref (ad 2))] := hl
  have hF := FAC_copyFrom_26_2_e S 
  refine lv_aload_n hx hb dAC_copyFrom_0 rfl (lv_at hl 0 rfl) ?_
  refine lv_aload_n hx hb dAC_copyFrom_1 rfl (lv_at hl 1 rfl) ?_
  refine V_get B hw (v := .int (S.1 2 0)) (by decide) rfl rfl hin_AC 0 (by decide) rfl wm_2 rfl dAC_copyFrom_2 ?_
  refine V_putI (ty := .int) B hw (by decide) rfl rfl hin_AC tyAC_ok nmAC 0 (by decide) rfl wm_2 rfl (by decide +kernel) rfl rfl dAC_copyFrom_5 (fun H locs hw => ?_)
  refine lv_aload_n hx hb dAC_copyFrom_8 rfl (lv_at hl 1 rfl) ?_
  refine V_get B hw (v := .ref (ad 3)) (by decide) rfl rfl hin_AC 1 (by decide) rfl wm_3 rfl dAC_copyFrom_9 ?_
  refine lv_aload_n hx hb dAC_copyFrom_12 rfl (lv_at hl 0 rfl) ?_
  refine V_get B hw (v := .ref (ad 27)) (by decide) rfl rfl hin_AC 1 (by decide) rfl wm_3 rfl dAC_copyFrom_13 ?_
  refine V_callSN (rest := []) B hi hw hA hl.1 (M_FHL_copyInts_3_27 l hi (sI S 26 0 (S.1 2 0))) (cw_FHL_copyInts_3_27 (Nat.le_of_ble_eq_true rfl) (Nat.le_of_ble_eq_true rfl) (Nat.zero_le _) (Nat.zero_le _)) wn_173 wm_174 rfl (Nat.le_of_ble_eq_true rfl) dAC_copyFrom_16 (kV (fun H locs hw => ?_))
  refine lv_aload_n hx hb dAC_copyFrom_19 rfl (lv_at hl 1 rfl) ?_
  refine V_get B hw (v := .ref (ad 4)) (by decide) rfl rfl hin_AC 2 (by decide) rfl wm_4 rfl dAC_copyFrom_20 ?_
  refine lv_aload_n hx hb dAC_copyFrom_23 rfl (lv_at hl 0 rfl) ?_
  refine V_get B hw (v := .ref (ad 28)) (by decide) rfl rfl hin_AC 2 (by decide) rfl wm_4 rfl dAC_copyFrom_24 ?_
  refine V_callSN (rest := []) B hi hw hA hl.1 (M_FHL_copyInts_4_28 l hi (FHL_copyInts_3_27 (sI S 26 0 (S.1 2 0)))) (cw_FHL_copyInts_4_28 (Nat.le_of_ble_eq_true rfl) (Nat.le_of_ble_eq_true rfl) (Nat.zero_le _) (Nat.zero_le _)) wn_173 wm_174 rfl (Nat.le_of_ble_eq_true rfl) dAC_copyFrom_27 (kV (fun H locs hw => ?_))
  refine lv_aload_n hx hb dAC_copyFrom_30 rfl (lv_at hl 1 rfl) ?_
  refine V_get B hw (v := .ref (ad 5)) (by decide) rfl rfl hin_AC 3 (by decide) rfl wm_5 rfl dAC_copyFrom_31 ?_
  refine lv_aload_n hx hb dAC_copyFrom_34 rfl (lv_at hl 0 rfl) ?_
  refine V_get B hw (v := .ref (ad 29)) (by decide) rfl rfl hin_AC 3 (by decide) rfl wm_5 rfl dAC_copyFrom_35 ?_
  refine V_callSN (rest := []) B hi hw hA hl.1 (M_FHL_copyInts_5_29 l hi (FHL_copyInts_4_28 (FHL_copyInts_3_27 (sI S 26 0 (S.1 2 0))))) (cw_FHL_copyInts_5_29 (Nat.le_of_ble_eq_true rfl) (Nat.le_of_ble_eq_true rfl) (Nat.zero_le _) (Nat.zero_le _)) wn_173 wm_174 rfl (Nat.le_of_ble_eq_true rfl) dAC_copyFrom_38 (kV (fun H locs hw => ?_))
  refine lv_aload_n hx hb dAC_copyFrom_41 rfl (lv_at hl 1 rfl) ?_
  refine V_get B hw (v := .ref (ad 6)) (by decide) rfl rfl hin_AC 4 (by decide) rfl wm_6 rfl dAC_copyFrom_42 ?_
  refine lv_aload_n hx hb dAC_copyFrom_45 rfl (lv_at hl 0 rfl) ?_
  refine V_get B hw (v := .ref (ad 30)) (by decide) rfl rfl hin_AC 4 (by decide) rfl wm_6 rfl dAC_copyFrom_46 ?_
  refine V_callSN (rest := []) B hi hw hA hl.1 (M_FHL_copyLongs_6_30 l hi (FHL_copyInts_5_29 (FHL_copyInts_4_28 (FHL_copyInts_3_27 (sI S 26 0 (S.1 2 0)))))) (cw_FHL_copyLongs_6_30 (Nat.le_of_ble_eq_true rfl) (Nat.le_of_ble_eq_true rfl) (Nat.zero_le _) (Nat.zero_le _)) wn_175 wm_176 rfl (Nat.le_of_ble_eq_true rfl) dAC_copyFrom_49 (kV (fun H locs hw => ?_))
  refine lv_aload_n hx hb dAC_copyFrom_52 rfl (lv_at hl 1 rfl) ?_
  refine V_get B hw (v := .ref (ad 7)) (by decide) rfl rfl hin_AC 5 (by decide) rfl wm_7 rfl dAC_copyFrom_53 ?_
  refine lv_aload_n hx hb dAC_copyFrom_56 rfl (lv_at hl 0 rfl) ?_
  refine V_get B hw (v := .ref (ad 31)) (by decide) rfl rfl hin_AC 5 (by decide) rfl wm_7 rfl dAC_copyFrom_57 ?_
  refine V_callSN (rest := []) B hi hw hA hl.1 (M_FHL_copyLongs_7_31 l hi (FHL_copyLongs_6_30 (FHL_copyInts_5_29 (FHL_copyInts_4_28 (FHL_copyInts_3_27 (sI S 26 0 (S.1 2 0))))))) (cw_FHL_copyLongs_7_31 (Nat.le_of_ble_eq_true rfl) (Nat.le_of_ble_eq_true rfl) (Nat.zero_le _) (Nat.zero_le _)) wn_175 wm_176 rfl (Nat.le_of_ble_eq_true rfl) dAC_copyFrom_60 (kV (fun H locs hw => ?_))
  refine lv_aload_n hx hb dAC_copyFrom_63 rfl (lv_at hl 1 rfl) ?_
  refine V_get B hw (v := .ref (ad 8)) (by decide) rfl rfl hin_AC 6 (by decide) rfl wm_9 rfl dAC_copyFrom_64 ?_
  refine lv_aload_n hx hb dAC_copyFrom_67 rfl (lv_at hl 0 rfl) ?_
  refine V_get B hw (v := .ref (ad 32)) (by decide) rfl rfl hin_AC 6 (by decide) rfl wm_9 rfl dAC_copyFrom_68 ?_
  refine V_callSN (rest := []) B hi hw hA hl.1 (M_FHL_copyInts_8_32 l hi (FHL_copyLongs_7_31 (FHL_copyLongs_6_30 (FHL_copyInts_5_29 (FHL_copyInts_4_28 (FHL_copyInts_3_27 (sI S 26 0 (S.1 2 0)))))))) (cw_FHL_copyInts_8_32 (Nat.le_of_ble_eq_true rfl) (Nat.le_of_ble_eq_true rfl) (Nat.zero_le _) (Nat.zero_le _)) wn_173 wm_174 rfl (Nat.le_of_ble_eq_true rfl) dAC_copyFrom_71 (kV (fun H locs hw => ?_))
  refine lv_aload_n hx hb dAC_copyFrom_74 rfl (lv_at hl 1 rfl) ?_
  refine V_get B hw (v := .ref (ad 9)) (by decide) rfl rfl hin_AC 7 (by decide) rfl wm_10 rfl dAC_copyFrom_75 ?_
  refine lv_aload_n hx hb dAC_copyFrom_78 rfl (lv_at hl 0 rfl) ?_
  refine V_get B hw (v := .ref (ad 33)) (by decide) rfl rfl hin_AC 7 (by decide) rfl wm_10 rfl dAC_copyFrom_79 ?_
  refine V_callSN (rest := []) B hi hw hA hl.1 (M_FHL_copyInts_9_33 l hi (FHL_copyInts_8_32 (FHL_copyLongs_7_31 (FHL_copyLongs_6_30 (FHL_copyInts_5_29 (FHL_copyInts_4_28 (FHL_copyInts_3_27 (sI S 26 0 (S.1 2 0))))))))) (cw_FHL_copyInts_9_33 (Nat.le_of_ble_eq_true rfl) (Nat.le_of_ble_eq_true rfl) (Nat.zero_le _) (Nat.zero_le _)) wn_173 wm_174 rfl (Nat.le_of_ble_eq_true rfl) dAC_copyFrom_82 (kV (fun H locs hw => ?_))
  exact V_vret B hr hlk hw (pV_of hF) dAC_copyFrom_85
theorem cw_FHL_copyInts_11_35 {R : Room} {cells slots : Nat} (h1 : 2 ≤ R.frames) (h2 : 81 ≤ R.locals) (h3 : cells ≤ R.cells) (h4 : slots ≤ R.slots) : Cw R cells slots yHL_copyInts bHL_copyInts 2 none ({ frames := 1, cells := 0, slots := 0, locals := 60 } : Room) 2 := ⟨wm_402, wm_353, by decide +kernel, ⟨rfl, rfl, h1, h2⟩, h3, h4⟩
set_option maxHeartbeats 4000000 in
set_option maxRecDepth 100000 in
theorem M_FHL_copyInts_11_35 (l : Launch) {ad : Nat → Nat} {cI cL : ClassId} {dC : Nat → ClassId} {dI : Nat → Nat → Nat} (hi : adI ad) (S : hS)  : Mt l ad cI cL dC dI yHL_copyInts bHL_copyInts 2 none ({ frames := 1, cells := 0, slots := 0, locals := 60 } : Room) [.ref (ad 11), .ref (ad 35)] S (pV (FHL_copyInts_11_35 S)) := by
  refine Mt_of (own := RHL) hi (by decide) rfl (Nat.le_of_ble_eq_true rfl) ?_
  intro p e s m args below meth c ls B hr hlk hw hl
  obtain ⟨hx, hb, -, hown, hts, -, -⟩ := id B
  have hA : ∀ q, AA ad s.heap.size q → AA ad s.heap.size q := fun _ h => h
  have hl : lv_has ls 2 [(0, .ref (ad 11)), (1, .ref (ad 35))] := hl
  have hF := FHL_copyInts_11_35_e S 
  refine lv_aload_n hx hb dHL_copyInts_0 rfl (lv_at hl 0 rfl) ?_
  refine lv_iconst (v := 0) hx hb dHL_copyInts_1 (by decide) ?_
  refine lv_aload_n hx hb dHL_copyInts_2 rfl (lv_at hl 1 rfl) ?_
  refine lv_iconst (v := 0) hx hb dHL_copyInts_3 (by decide) ?_
  refine lv_aload_n hx hb dHL_copyInts_4 rfl (lv_at hl 0 rfl) ?_
  refine V_ialen (v := 40) B hw (by decide) rfl (by decide) dHL_copyInts_5 ?_
  refine lv_aload_n hx hb dHL_copyInts_6 rfl (lv_at hl 1 rfl) ?_
  refine V_ialen (v := 40) B hw (by decide) rfl (by decide) dHL_copyInts_7 ?_
  refine va_mmin hx hb (B.2.2.1.trans hl.1.symm) hown (hts _ wm_168) (hts _ wm_125) (hts _ wm_85) (hts _ wm_126) (Nat.le_of_ble_eq_true rfl) (Nat.le_of_ble_eq_true rfl) (Nat.zero_le _) (Nat.zero_le _) dHL_copyInts_8 ?_
  refine V_acI (n0 := 40) B hw hl.1 wm_169 wm_170 wm_171 wm_172 (by decide) (by decide) rfl rfl (by decide) (by decide) (Nat.le_of_ble_eq_true rfl) (Nat.le_of_ble_eq_true rfl) dHL_copyInts_11 (fun H locs hw => ?_)
  exact V_vret B hr hlk hw (pV_of hF) dHL_copyInts_14
theorem cw_FHL_copyInts_12_36 {R : Room} {cells slots : Nat} (h1 : 2 ≤ R.frames) (h2 : 81 ≤ R.locals) (h3 : cells ≤ R.cells) (h4 : slots ≤ R.slots) : Cw R cells slots yHL_copyInts bHL_copyInts 2 none ({ frames := 1, cells := 0, slots := 0, locals := 60 } : Room) 2 := ⟨wm_402, wm_353, by decide +kernel, ⟨rfl, rfl, h1, h2⟩, h3, h4⟩
set_option maxHeartbeats 4000000 in
set_option maxRecDepth 100000 in
theorem M_FHL_copyInts_12_36 (l : Launch) {ad : Nat → Nat} {cI cL : ClassId} {dC : Nat → ClassId} {dI : Nat → Nat → Nat} (hi : adI ad) (S : hS)  : Mt l ad cI cL dC dI yHL_copyInts bHL_copyInts 2 none ({ frames := 1, cells := 0, slots := 0, locals := 60 } : Room) [.ref (ad 12), .ref (ad 36)] S (pV (FHL_copyInts_12_36 S)) := by
  refine Mt_of (own := RHL) hi (by decide) rfl (Nat.le_of_ble_eq_true rfl) ?_
  intro p e s m args below meth c ls B hr hlk hw hl
  obtain ⟨hx, hb, -, hown, hts, -, -⟩ := id B
  have hA : ∀ q, AA ad s.heap.size q → AA ad s.heap.size q := fun _ h => h
  have hl : lv_has ls 2 [(0, .ref (ad 12)), (1, .ref (ad 36))] := hl
  have hF := FHL_copyInts_12_36_e S 
  refine lv_aload_n hx hb dHL_copyInts_0 rfl (lv_at hl 0 rfl) ?_
  refine lv_iconst (v := 0) hx hb dHL_copyInts_1 (by decide) ?_
  refine lv_aload_n hx hb dHL_copyInts_2 rfl (lv_at hl 1 rfl) ?_
  refine lv_iconst (v := 0) hx hb dHL_copyInts_3 (by decide) ?_
  refine lv_aload_n hx hb dHL_copyInts_4 rfl (lv_at hl 0 rfl) ?_
  refine V_ialen (v := 40) B hw (by decide) rfl (by decide) dHL_copyInts_5 ?_
  refine lv_aload_n hx hb dHL_copyInts_6 rfl (lv_at hl 1 rfl) ?_
  refine V_ialen (v := 40) B hw (by decide) rfl (by decide) dHL_copyInts_7 ?_
  refine va_mmin hx hb (B.2.2.1.trans hl.1.symm) hown (hts _ wm_168) (hts _ wm_125) (hts _ wm_85) (hts _ wm_126) (Nat.le_of_ble_eq_true rfl) (Nat.le_of_ble_eq_true rfl) (Nat.zero_le _) (Nat.zero_le _) dHL_copyInts_8 ?_
  refine V_acI (n0 := 40) B hw hl.1 wm_169 wm_170 wm_171 wm_172 (by decide) (by decide) rfl rfl (by decide) (by decide) (Nat.le_of_ble_eq_true rfl) (Nat.le_of_ble_eq_true rfl) dHL_copyInts_11 (fun H locs hw => ?_)
  exact V_vret B hr hlk hw (pV_of hF) dHL_copyInts_14
theorem cw_FHL_copyInts_13_37 {R : Room} {cells slots : Nat} (h1 : 2 ≤ R.frames) (h2 : 81 ≤ R.locals) (h3 : cells ≤ R.cells) (h4 : slots ≤ R.slots) : Cw R cells slots yHL_copyInts bHL_copyInts 2 none ({ frames := 1, cells := 0, slots := 0, locals := 60 } : Room) 2 := ⟨wm_402, wm_353, by decide +kernel, ⟨rfl, rfl, h1, h2⟩, h3, h4⟩
set_option maxHeartbeats 4000000 in
set_option maxRecDepth 100000 in
theorem M_FHL_copyInts_13_37 (l : Launch) {ad : Nat → Nat} {cI cL : ClassId} {dC : Nat → ClassId} {dI : Nat → Nat → Nat} (hi : adI ad) (S : hS)  : Mt l ad cI cL dC dI yHL_copyInts bHL_copyInts 2 none ({ frames := 1, cells := 0, slots := 0, locals := 60 } : Room) [.ref (ad 13), .ref (ad 37)] S (pV (FHL_copyInts_13_37 S)) := by
  refine Mt_of (own := RHL) hi (by decide) rfl (Nat.le_of_ble_eq_true rfl) ?_
  intro p e s m args below meth c ls B hr hlk hw hl
  obtain ⟨hx, hb, -, hown, hts, -, -⟩ := id B
  have hA : ∀ q, AA ad s.heap.size q → AA ad s.heap.size q := fun _ h => h
  have hl : lv_has ls 2 [(0, .ref (ad 13)), (1, .ref (ad 37))] := hl
  have hF := FHL_copyInts_13_37_e S 
  refine lv_aload_n hx hb dHL_copyInts_0 rfl (lv_at hl 0 rfl) ?_
  refine lv_iconst (v := 0) hx hb dHL_copyInts_1 (by decide) ?_
  refine lv_aload_n hx hb dHL_copyInts_2 rfl (lv_at hl 1 rfl) ?_
  refine lv_iconst (v := 0) hx hb dHL_copyInts_3 (by decide) ?_
  refine lv_aload_n hx hb dHL_copyInts_4 rfl (lv_at hl 0 rfl) ?_
  refine V_ialen (v := 40) B hw (by decide) rfl (by decide) dHL_copyInts_5 ?_
  refine lv_aload_n hx hb dHL_copyInts_6 rfl (lv_at hl 1 rfl) ?_
  refine V_ialen (v := 40) B hw (by decide) rfl (by decide) dHL_copyInts_7 ?_
  refine va_mmin hx hb (B.2.2.1.trans hl.1.symm) hown (hts _ wm_168) (hts _ wm_125) (hts _ wm_85) (hts _ wm_126) (Nat.le_of_ble_eq_true rfl) (Nat.le_of_ble_eq_true rfl) (Nat.zero_le _) (Nat.zero_le _) dHL_copyInts_8 ?_
  refine V_acI (n0 := 40) B hw hl.1 wm_169 wm_170 wm_171 wm_172 (by decide) (by decide) rfl rfl (by decide) (by decide) (Nat.le_of_ble_eq_true rfl) (Nat.le_of_ble_eq_true rfl) dHL_copyInts_11 (fun H locs hw => ?_)
  exact V_vret B hr hlk hw (pV_of hF) dHL_copyInts_14
theorem cw_FHL_copyInts_14_38 {R : Room} {cells slots : Nat} (h1 : 2 ≤ R.frames) (h2 : 81 ≤ R.locals) (h3 : cells ≤ R.cells) (h4 : slots ≤ R.slots) : Cw R cells slots yHL_copyInts bHL_copyInts 2 none ({ frames := 1, cells := 0, slots := 0, locals := 60 } : Room) 2 := ⟨wm_402, wm_353, by decide +kernel, ⟨rfl, rfl, h1, h2⟩, h3, h4⟩
set_option maxHeartbeats 4000000 in
set_option maxRecDepth 100000 in
theorem M_FHL_copyInts_14_38 (l : Launch) {ad : Nat → Nat} {cI cL : ClassId} {dC : Nat → ClassId} {dI : Nat → Nat → Nat} (hi : adI ad) (S : hS)  : Mt l ad cI cL dC dI yHL_copyInts bHL_copyInts 2 none ({ frames := 1, cells := 0, slots := 0, locals := 60 } : Room) [.ref (ad 14), .ref (ad 38)] S (pV (FHL_copyInts_14_38 S)) := by
  refine Mt_of (own := RHL) hi (by decide) rfl (Nat.le_of_ble_eq_true rfl) ?_
  intro p e s m args below meth c ls B hr hlk hw hl
  obtain ⟨hx, hb, -, hown, hts, -, -⟩ := id B
  have hA : ∀ q, AA ad s.heap.size q → AA ad s.heap.size q := fun _ h => h
  have hl : lv_has ls 2 [(0, .ref (ad 14)), (1, .ref (ad 38))] := hl
  have hF := FHL_copyInts_14_38_e S 
  refine lv_aload_n hx hb dHL_copyInts_0 rfl (lv_at hl 0 rfl) ?_
  refine lv_iconst (v := 0) hx hb dHL_copyInts_1 (by decide) ?_
  refine lv_aload_n hx hb dHL_copyInts_2 rfl (lv_at hl 1 rfl) ?_
  refine lv_iconst (v := 0) hx hb dHL_copyInts_3 (by decide) ?_
  refine lv_aload_n hx hb dHL_copyInts_4 rfl (lv_at hl 0 rfl) ?_
  refine V_ialen (v := 40) B hw (by decide) rfl (by decide) dHL_copyInts_5 ?_
  refine lv_aload_n hx hb dHL_copyInts_6 rfl (lv_at hl 1 rfl) ?_
  refine V_ialen (v := 40) B hw (by decide) rfl (by decide) dHL_copyInts_7 ?_
  refine va_mmin hx hb (B.2.2.1.trans hl.1.symm) hown (hts _ wm_168) (hts _ wm_125) (hts _ wm_85) (hts _ wm_126) (Nat.le_of_ble_eq_true rfl) (Nat.le_of_ble_eq_true rfl) (Nat.zero_le _) (Nat.zero_le _) dHL_copyInts_8 ?_
  refine V_acI (n0 := 40) B hw hl.1 wm_169 wm_170 wm_171 wm_172 (by decide) (by decide) rfl rfl (by decide) (by decide) (Nat.le_of_ble_eq_true rfl) (Nat.le_of_ble_eq_true rfl) dHL_copyInts_11 (fun H locs hw => ?_)
  exact V_vret B hr hlk hw (pV_of hF) dHL_copyInts_14
theorem cw_FHL_copyInts_15_39 {R : Room} {cells slots : Nat} (h1 : 2 ≤ R.frames) (h2 : 81 ≤ R.locals) (h3 : cells ≤ R.cells) (h4 : slots ≤ R.slots) : Cw R cells slots yHL_copyInts bHL_copyInts 2 none ({ frames := 1, cells := 0, slots := 0, locals := 60 } : Room) 2 := ⟨wm_402, wm_353, by decide +kernel, ⟨rfl, rfl, h1, h2⟩, h3, h4⟩
set_option maxHeartbeats 4000000 in
set_option maxRecDepth 100000 in
theorem M_FHL_copyInts_15_39 (l : Launch) {ad : Nat → Nat} {cI cL : ClassId} {dC : Nat → ClassId} {dI : Nat → Nat → Nat} (hi : adI ad) (S : hS)  : Mt l ad cI cL dC dI yHL_copyInts bHL_copyInts 2 none ({ frames := 1, cells := 0, slots := 0, locals := 60 } : Room) [.ref (ad 15), .ref (ad 39)] S (pV (FHL_copyInts_15_39 S)) := by
  refine Mt_of (own := RHL) hi (by decide) rfl (Nat.le_of_ble_eq_true rfl) ?_
  intro p e s m args below meth c ls B hr hlk hw hl
  obtain ⟨hx, hb, -, hown, hts, -, -⟩ := id B
  have hA : ∀ q, AA ad s.heap.size q → AA ad s.heap.size q := fun _ h => h
  have hl : lv_has ls 2 [(0, .ref (ad 15)), (1, .ref (ad 39))] := hl
  have hF := FHL_copyInts_15_39_e S 
  refine lv_aload_n hx hb dHL_copyInts_0 rfl (lv_at hl 0 rfl) ?_
  refine lv_iconst (v := 0) hx hb dHL_copyInts_1 (by decide) ?_
  refine lv_aload_n hx hb dHL_copyInts_2 rfl (lv_at hl 1 rfl) ?_
  refine lv_iconst (v := 0) hx hb dHL_copyInts_3 (by decide) ?_
  refine lv_aload_n hx hb dHL_copyInts_4 rfl (lv_at hl 0 rfl) ?_
  refine V_ialen (v := 240) B hw (by decide) rfl (by decide) dHL_copyInts_5 ?_
  refine lv_aload_n hx hb dHL_copyInts_6 rfl (lv_at hl 1 rfl) ?_
  refine V_ialen (v := 240) B hw (by decide) rfl (by decide) dHL_copyInts_7 ?_
  refine va_mmin hx hb (B.2.2.1.trans hl.1.symm) hown (hts _ wm_168) (hts _ wm_125) (hts _ wm_85) (hts _ wm_126) (Nat.le_of_ble_eq_true rfl) (Nat.le_of_ble_eq_true rfl) (Nat.zero_le _) (Nat.zero_le _) dHL_copyInts_8 ?_
  refine V_acI (n0 := 240) B hw hl.1 wm_169 wm_170 wm_171 wm_172 (by decide) (by decide) rfl rfl (by decide) (by decide) (Nat.le_of_ble_eq_true rfl) (Nat.le_of_ble_eq_true rfl) dHL_copyInts_11 (fun H locs hw => ?_)
  exact V_vret B hr hlk hw (pV_of hF) dHL_copyInts_14
theorem cw_FHL_copyLongs_16_40 {R : Room} {cells slots : Nat} (h1 : 2 ≤ R.frames) (h2 : 81 ≤ R.locals) (h3 : cells ≤ R.cells) (h4 : slots ≤ R.slots) : Cw R cells slots yHL_copyLongs bHL_copyLongs 2 none ({ frames := 1, cells := 0, slots := 0, locals := 60 } : Room) 2 := ⟨wm_403, wm_353, by decide +kernel, ⟨rfl, rfl, h1, h2⟩, h3, h4⟩
set_option maxHeartbeats 4000000 in
set_option maxRecDepth 100000 in
theorem M_FHL_copyLongs_16_40 (l : Launch) {ad : Nat → Nat} {cI cL : ClassId} {dC : Nat → ClassId} {dI : Nat → Nat → Nat} (hi : adI ad) (S : hS)  : Mt l ad cI cL dC dI yHL_copyLongs bHL_copyLongs 2 none ({ frames := 1, cells := 0, slots := 0, locals := 60 } : Room) [.ref (ad 16), .ref (ad 40)] S (pV (FHL_copyLongs_16_40 S)) := by
  refine Mt_of (own := RHL) hi (by decide) rfl (Nat.le_of_ble_eq_true rfl) ?_
  intro p e s m args below meth c ls B hr hlk hw hl
  obtain ⟨hx, hb, -, hown, hts, -, -⟩ := id B
  have hA : ∀ q, AA ad s.heap.size q → AA ad s.heap.size q := fun _ h => h
  have hl : lv_has ls 2 [(0, .ref (ad 16)), (1, .ref (ad 40))] := hl
  have hF := FHL_copyLongs_16_40_e S 
  refine lv_aload_n hx hb dHL_copyLongs_0 rfl (lv_at hl 0 rfl) ?_
  refine lv_iconst (v := 0) hx hb dHL_copyLongs_1 (by decide) ?_
  refine lv_aload_n hx hb dHL_copyLongs_2 rfl (lv_at hl 1 rfl) ?_
  refine lv_iconst (v := 0) hx hb dHL_copyLongs_3 (by decide) ?_
  refine lv_aload_n hx hb dHL_copyLongs_4 rfl (lv_at hl 0 rfl) ?_
  refine V_lalen (v := 240) B hw (by decide) rfl (by decide) dHL_copyLongs_5 ?_
  refine lv_aload_n hx hb dHL_copyLongs_6 rfl (lv_at hl 1 rfl) ?_
  refine V_lalen (v := 240) B hw (by decide) rfl (by decide) dHL_copyLongs_7 ?_
  refine va_mmin hx hb (B.2.2.1.trans hl.1.symm) hown (hts _ wm_168) (hts _ wm_125) (hts _ wm_85) (hts _ wm_126) (Nat.le_of_ble_eq_true rfl) (Nat.le_of_ble_eq_true rfl) (Nat.zero_le _) (Nat.zero_le _) dHL_copyLongs_8 ?_
  refine V_acL (n0 := 240) B hw hl.1 wm_169 wm_170 wm_171 wm_172 (by decide) (by decide) rfl rfl (by decide) (by decide) (Nat.le_of_ble_eq_true rfl) (Nat.le_of_ble_eq_true rfl) dHL_copyLongs_11 (fun H locs hw => ?_)
  exact V_vret B hr hlk hw (pV_of hF) dHL_copyLongs_14
theorem cw_FHL_copyLongs_17_41 {R : Room} {cells slots : Nat} (h1 : 2 ≤ R.frames) (h2 : 81 ≤ R.locals) (h3 : cells ≤ R.cells) (h4 : slots ≤ R.slots) : Cw R cells slots yHL_copyLongs bHL_copyLongs 2 none ({ frames := 1, cells := 0, slots := 0, locals := 60 } : Room) 2 := ⟨wm_403, wm_353, by decide +kernel, ⟨rfl, rfl, h1, h2⟩, h3, h4⟩
set_option maxHeartbeats 4000000 in
set_option maxRecDepth 100000 in
theorem M_FHL_copyLongs_17_41 (l : Launch) {ad : Nat → Nat} {cI cL : ClassId} {dC : Nat → ClassId} {dI : Nat → Nat → Nat} (hi : adI ad) (S : hS)  : Mt l ad cI cL dC dI yHL_copyLongs bHL_copyLongs 2 none ({ frames := 1, cells := 0, slots := 0, locals := 60 } : Room) [.ref (ad 17), .ref (ad 41)] S (pV (FHL_copyLongs_17_41 S)) := by
  refine Mt_of (own := RHL) hi (by decide) rfl (Nat.le_of_ble_eq_true rfl) ?_
  intro p e s m args below meth c ls B hr hlk hw hl
  obtain ⟨hx, hb, -, hown, hts, -, -⟩ := id B
  have hA : ∀ q, AA ad s.heap.size q → AA ad s.heap.size q := fun _ h => h
  have hl : lv_has ls 2 [(0, .ref (ad 17)), (1, .ref (ad 41))] := hl
  have hF := FHL_copyLongs_17_41_e S 
  refine lv_aload_n hx hb dHL_copyLongs_0 rfl (lv_at hl 0 rfl) ?_
  refine lv_iconst (v := 0) hx hb dHL_copyLongs_1 (by decide) ?_
  refine lv_aload_n hx hb dHL_copyLongs_2 rfl (lv_at hl 1 rfl) ?_
  refine lv_iconst (v := 0) hx hb dHL_copyLongs_3 (by decide) ?_
  refine lv_aload_n hx hb dHL_copyLongs_4 rfl (lv_at hl 0 rfl) ?_
  refine V_lalen (v := 240) B hw (by decide) rfl (by decide) dHL_copyLongs_5 ?_
  refine lv_aload_n hx hb dHL_copyLongs_6 rfl (lv_at hl 1 rfl) ?_
  refine V_lalen (v := 240) B hw (by decide) rfl (by decide) dHL_copyLongs_7 ?_
  refine va_mmin hx hb (B.2.2.1.trans hl.1.symm) hown (hts _ wm_168) (hts _ wm_125) (hts _ wm_85) (hts _ wm_126) (Nat.le_of_ble_eq_true rfl) (Nat.le_of_ble_eq_true rfl) (Nat.zero_le _) (Nat.zero_le _) dHL_copyLongs_8 ?_
  refine V_acL (n0 := 240) B hw hl.1 wm_169 wm_170 wm_171 wm_172 (by decide) (by decide) rfl rfl (by decide) (by decide) (Nat.le_of_ble_eq_true rfl) (Nat.le_of_ble_eq_true rfl) dHL_copyLongs_11 (fun H locs hw => ?_)
  exact V_vret B hr hlk hw (pV_of hF) dHL_copyLongs_14
theorem cw_FHL_copyInts_18_42 {R : Room} {cells slots : Nat} (h1 : 2 ≤ R.frames) (h2 : 81 ≤ R.locals) (h3 : cells ≤ R.cells) (h4 : slots ≤ R.slots) : Cw R cells slots yHL_copyInts bHL_copyInts 2 none ({ frames := 1, cells := 0, slots := 0, locals := 60 } : Room) 2 := ⟨wm_402, wm_353, by decide +kernel, ⟨rfl, rfl, h1, h2⟩, h3, h4⟩
set_option maxHeartbeats 4000000 in
set_option maxRecDepth 100000 in
theorem M_FHL_copyInts_18_42 (l : Launch) {ad : Nat → Nat} {cI cL : ClassId} {dC : Nat → ClassId} {dI : Nat → Nat → Nat} (hi : adI ad) (S : hS)  : Mt l ad cI cL dC dI yHL_copyInts bHL_copyInts 2 none ({ frames := 1, cells := 0, slots := 0, locals := 60 } : Room) [.ref (ad 18), .ref (ad 42)] S (pV (FHL_copyInts_18_42 S)) := by
  refine Mt_of (own := RHL) hi (by decide) rfl (Nat.le_of_ble_eq_true rfl) ?_
  intro p e s m args below meth c ls B hr hlk hw hl
  obtain ⟨hx, hb, -, hown, hts, -, -⟩ := id B
  have hA : ∀ q, AA ad s.heap.size q → AA ad s.heap.size q := fun _ h => h
  have hl : lv_has ls 2 [(0, .ref (ad 18)), (1, .ref (ad 42))] := hl
  have hF := FHL_copyInts_18_42_e S 
  refine lv_aload_n hx hb dHL_copyInts_0 rfl (lv_at hl 0 rfl) ?_
  refine lv_iconst (v := 0) hx hb dHL_copyInts_1 (by decide) ?_
  refine lv_aload_n hx hb dHL_copyInts_2 rfl (lv_at hl 1 rfl) ?_
  refine lv_iconst (v := 0) hx hb dHL_copyInts_3 (by decide) ?_
  refine lv_aload_n hx hb dHL_copyInts_4 rfl (lv_at hl 0 rfl) ?_
  refine V_ialen (v := 280) B hw (by decide) rfl (by decide) dHL_copyInts_5 ?_
  refine lv_aload_n hx hb dHL_copyInts_6 rfl (lv_at hl 1 rfl) ?_
  refine V_ialen (v := 280) B hw (by decide) rfl (by decide) dHL_copyInts_7 ?_
  refine va_mmin hx hb (B.2.2.1.trans hl.1.symm) hown (hts _ wm_168) (hts _ wm_125) (hts _ wm_85) (hts _ wm_126) (Nat.le_of_ble_eq_true rfl) (Nat.le_of_ble_eq_true rfl) (Nat.zero_le _) (Nat.zero_le _) dHL_copyInts_8 ?_
  refine V_acI (n0 := 280) B hw hl.1 wm_169 wm_170 wm_171 wm_172 (by decide) (by decide) rfl rfl (by decide) (by decide) (Nat.le_of_ble_eq_true rfl) (Nat.le_of_ble_eq_true rfl) dHL_copyInts_11 (fun H locs hw => ?_)
  exact V_vret B hr hlk hw (pV_of hF) dHL_copyInts_14
theorem cw_FHL_copyInts_19_43 {R : Room} {cells slots : Nat} (h1 : 2 ≤ R.frames) (h2 : 81 ≤ R.locals) (h3 : cells ≤ R.cells) (h4 : slots ≤ R.slots) : Cw R cells slots yHL_copyInts bHL_copyInts 2 none ({ frames := 1, cells := 0, slots := 0, locals := 60 } : Room) 2 := ⟨wm_402, wm_353, by decide +kernel, ⟨rfl, rfl, h1, h2⟩, h3, h4⟩
set_option maxHeartbeats 4000000 in
set_option maxRecDepth 100000 in
theorem M_FHL_copyInts_19_43 (l : Launch) {ad : Nat → Nat} {cI cL : ClassId} {dC : Nat → ClassId} {dI : Nat → Nat → Nat} (hi : adI ad) (S : hS)  : Mt l ad cI cL dC dI yHL_copyInts bHL_copyInts 2 none ({ frames := 1, cells := 0, slots := 0, locals := 60 } : Room) [.ref (ad 19), .ref (ad 43)] S (pV (FHL_copyInts_19_43 S)) := by
  refine Mt_of (own := RHL) hi (by decide) rfl (Nat.le_of_ble_eq_true rfl) ?_
  intro p e s m args below meth c ls B hr hlk hw hl
  obtain ⟨hx, hb, -, hown, hts, -, -⟩ := id B
  have hA : ∀ q, AA ad s.heap.size q → AA ad s.heap.size q := fun _ h => h
  have hl : lv_has ls 2 [(0, .ref (ad 19)), (1, .ref (ad 43))] := hl
  have hF := FHL_copyInts_19_43_e S 
  refine lv_aload_n hx hb dHL_copyInts_0 rfl (lv_at hl 0 rfl) ?_
  refine lv_iconst (v := 0) hx hb dHL_copyInts_1 (by decide) ?_
  refine lv_aload_n hx hb dHL_copyInts_2 rfl (lv_at hl 1 rfl) ?_
  refine lv_iconst (v := 0) hx hb dHL_copyInts_3 (by decide) ?_
  refine lv_aload_n hx hb dHL_copyInts_4 rfl (lv_at hl 0 rfl) ?_
  refine V_ialen (v := 280) B hw (by decide) rfl (by decide) dHL_copyInts_5 ?_
  refine lv_aload_n hx hb dHL_copyInts_6 rfl (lv_at hl 1 rfl) ?_
  refine V_ialen (v := 280) B hw (by decide) rfl (by decide) dHL_copyInts_7 ?_
  refine va_mmin hx hb (B.2.2.1.trans hl.1.symm) hown (hts _ wm_168) (hts _ wm_125) (hts _ wm_85) (hts _ wm_126) (Nat.le_of_ble_eq_true rfl) (Nat.le_of_ble_eq_true rfl) (Nat.zero_le _) (Nat.zero_le _) dHL_copyInts_8 ?_
  refine V_acI (n0 := 280) B hw hl.1 wm_169 wm_170 wm_171 wm_172 (by decide) (by decide) rfl rfl (by decide) (by decide) (Nat.le_of_ble_eq_true rfl) (Nat.le_of_ble_eq_true rfl) dHL_copyInts_11 (fun H locs hw => ?_)
  exact V_vret B hr hlk hw (pV_of hF) dHL_copyInts_14
theorem cw_FJO_copyFrom_34_10 {R : Room} {cells slots : Nat} (h1 : 3 ≤ R.frames) (h2 : 102 ≤ R.locals) (h3 : cells ≤ R.cells) (h4 : slots ≤ R.slots) : Cw R cells slots yJO_copyFrom bJO_copyFrom 2 none ({ frames := 2, cells := 0, slots := 0, locals := 81 } : Room) 1 := ⟨wm_405, wm_358, by decide +kernel, ⟨rfl, rfl, h1, h2⟩, h3, h4⟩
set_option maxHeartbeats 4000000 in
set_option maxRecDepth 100000 in
theorem M_FJO_copyFrom_34_10 (l : Launch) {ad : Nat → Nat} {cI cL : ClassId} {dC : Nat → ClassId} {dI : Nat → Nat → Nat} (hi : adI ad) (S : hS)  : Mt l ad cI cL dC dI yJO_copyFrom bJO_copyFrom 2 none ({ frames := 2, cells := 0, slots := 0, locals := 81 } : Room) [.ref (ad 34), .ref (ad 10)] S (pV (FJO_copyFrom_34_10 S)) := by
  refine Mt_of (own := RJO) hi (by decide) rfl (Nat.le_of_ble_eq_true rfl) ?_
  intro p e s m args below meth c ls B hr hlk hw hl
  obtain ⟨hx, hb, -, hown, hts, -, -⟩ := id B
  have hA : ∀ q, AA ad s.heap.size q → AA ad s.heap.size q := fun _ h => h
  have hl : lv_has ls 2 [(0, .ref (ad 34)), (1, .ref (ad 10))] := hl
  have hF := FJO_copyFrom_34_10_e S 
  refine lv_aload_n hx hb dJO_copyFrom_0 rfl (lv_at hl 0 rfl) ?_
  refine lv_aload_n hx hb dJO_copyFrom_1 rfl (lv_at hl 1 rfl) ?_
  refine V_get B hw (v := .int (S.1 10 0)) (by decide) rfl rfl hin_JO 0 (by decide) rfl wm_23 rfl dJO_copyFrom_2 ?_
  refine V_putI (ty := .int) B hw (by decide) rfl rfl hin_JO tyJO_ok nmJO 0 (by decide) rfl wm_23 rfl (by decide +kernel) rfl rfl dJO_copyFrom_5 (fun H locs hw => ?_)
  refine lv_aload_n hx hb dJO_copyFrom_8 rfl (lv_at hl 1 rfl) ?_
  refine V_get B hw (v := .ref (ad 11)) (by decide) rfl rfl hin_JO 1 (by decide) rfl wm_27 rfl dJO_copyFrom_9 ?_
  refine lv_aload_n hx hb dJO_copyFrom_12 rfl (lv_at hl 0 rfl) ?_
  refine V_get B hw (v := .ref (ad 35)) (by decide) rfl rfl hin_JO 1 (by decide) rfl wm_27 rfl dJO_copyFrom_13 ?_
  refine V_callSN (rest := []) B hi hw hA hl.1 (M_FHL_copyInts_11_35 l hi (sI S 34 0 (S.1 10 0))) (cw_FHL_copyInts_11_35 (Nat.le_of_ble_eq_true rfl) (Nat.le_of_ble_eq_true rfl) (Nat.zero_le _) (Nat.zero_le _)) wn_180 wm_174 rfl (Nat.le_of_ble_eq_true rfl) dJO_copyFrom_16 (kV (fun H locs hw => ?_))
  refine lv_aload_n hx hb dJO_copyFrom_19 rfl (lv_at hl 1 rfl) ?_
  refine V_get B hw (v := .ref (ad 12)) (by decide) rfl rfl hin_JO 2 (by decide) rfl wm_28 rfl dJO_copyFrom_20 ?_
  refine lv_aload_n hx hb dJO_copyFrom_23 rfl (lv_at hl 0 rfl) ?_
  refine V_get B hw (v := .ref (ad 36)) (by decide) rfl rfl hin_JO 2 (by decide) rfl wm_28 rfl dJO_copyFrom_24 ?_
  refine V_callSN (rest := []) B hi hw hA hl.1 (M_FHL_copyInts_12_36 l hi (FHL_copyInts_11_35 (sI S 34 0 (S.1 10 0)))) (cw_FHL_copyInts_12_36 (Nat.le_of_ble_eq_true rfl) (Nat.le_of_ble_eq_true rfl) (Nat.zero_le _) (Nat.zero_le _)) wn_180 wm_174 rfl (Nat.le_of_ble_eq_true rfl) dJO_copyFrom_27 (kV (fun H locs hw => ?_))
  refine lv_aload_n hx hb dJO_copyFrom_30 rfl (lv_at hl 1 rfl) ?_
  refine V_get B hw (v := .ref (ad 13)) (by decide) rfl rfl hin_JO 3 (by decide) rfl wm_29 rfl dJO_copyFrom_31 ?_
  refine lv_aload_n hx hb dJO_copyFrom_34 rfl (lv_at hl 0 rfl) ?_
  refine V_get B hw (v := .ref (ad 37)) (by decide) rfl rfl hin_JO 3 (by decide) rfl wm_29 rfl dJO_copyFrom_35 ?_
  refine V_callSN (rest := []) B hi hw hA hl.1 (M_FHL_copyInts_13_37 l hi (FHL_copyInts_12_36 (FHL_copyInts_11_35 (sI S 34 0 (S.1 10 0))))) (cw_FHL_copyInts_13_37 (Nat.le_of_ble_eq_true rfl) (Nat.le_of_ble_eq_true rfl) (Nat.zero_le _) (Nat.zero_le _)) wn_180 wm_174 rfl (Nat.le_of_ble_eq_true rfl) dJO_copyFrom_38 (kV (fun H locs hw => ?_))
  refine lv_aload_n hx hb dJO_copyFrom_41 rfl (lv_at hl 1 rfl) ?_
  refine V_get B hw (v := .ref (ad 14)) (by decide) rfl rfl hin_JO 4 (by decide) rfl wm_30 rfl dJO_copyFrom_42 ?_
  refine lv_aload_n hx hb dJO_copyFrom_45 rfl (lv_at hl 0 rfl) ?_
  refine V_get B hw (v := .ref (ad 38)) (by decide) rfl rfl hin_JO 4 (by decide) rfl wm_30 rfl dJO_copyFrom_46 ?_
  refine V_callSN (rest := []) B hi hw hA hl.1 (M_FHL_copyInts_14_38 l hi (FHL_copyInts_13_37 (FHL_copyInts_12_36 (FHL_copyInts_11_35 (sI S 34 0 (S.1 10 0)))))) (cw_FHL_copyInts_14_38 (Nat.le_of_ble_eq_true rfl) (Nat.le_of_ble_eq_true rfl) (Nat.zero_le _) (Nat.zero_le _)) wn_180 wm_174 rfl (Nat.le_of_ble_eq_true rfl) dJO_copyFrom_49 (kV (fun H locs hw => ?_))
  refine lv_aload_n hx hb dJO_copyFrom_52 rfl (lv_at hl 1 rfl) ?_
  refine V_get B hw (v := .ref (ad 15)) (by decide) rfl rfl hin_JO 5 (by decide) rfl wm_42 rfl dJO_copyFrom_53 ?_
  refine lv_aload_n hx hb dJO_copyFrom_56 rfl (lv_at hl 0 rfl) ?_
  refine V_get B hw (v := .ref (ad 39)) (by decide) rfl rfl hin_JO 5 (by decide) rfl wm_42 rfl dJO_copyFrom_57 ?_
  refine V_callSN (rest := []) B hi hw hA hl.1 (M_FHL_copyInts_15_39 l hi (FHL_copyInts_14_38 (FHL_copyInts_13_37 (FHL_copyInts_12_36 (FHL_copyInts_11_35 (sI S 34 0 (S.1 10 0))))))) (cw_FHL_copyInts_15_39 (Nat.le_of_ble_eq_true rfl) (Nat.le_of_ble_eq_true rfl) (Nat.zero_le _) (Nat.zero_le _)) wn_180 wm_174 rfl (Nat.le_of_ble_eq_true rfl) dJO_copyFrom_60 (kV (fun H locs hw => ?_))
  refine lv_aload_n hx hb dJO_copyFrom_63 rfl (lv_at hl 1 rfl) ?_
  refine V_get B hw (v := .ref (ad 16)) (by decide) rfl rfl hin_JO 6 (by decide) rfl wm_43 rfl dJO_copyFrom_64 ?_
  refine lv_aload_n hx hb dJO_copyFrom_67 rfl (lv_at hl 0 rfl) ?_
  refine V_get B hw (v := .ref (ad 40)) (by decide) rfl rfl hin_JO 6 (by decide) rfl wm_43 rfl dJO_copyFrom_68 ?_
  refine V_callSN (rest := []) B hi hw hA hl.1 (M_FHL_copyLongs_16_40 l hi (FHL_copyInts_15_39 (FHL_copyInts_14_38 (FHL_copyInts_13_37 (FHL_copyInts_12_36 (FHL_copyInts_11_35 (sI S 34 0 (S.1 10 0)))))))) (cw_FHL_copyLongs_16_40 (Nat.le_of_ble_eq_true rfl) (Nat.le_of_ble_eq_true rfl) (Nat.zero_le _) (Nat.zero_le _)) wn_181 wm_176 rfl (Nat.le_of_ble_eq_true rfl) dJO_copyFrom_71 (kV (fun H locs hw => ?_))
  refine lv_aload_n hx hb dJO_copyFrom_74 rfl (lv_at hl 1 rfl) ?_
  refine V_get B hw (v := .ref (ad 17)) (by decide) rfl rfl hin_JO 7 (by decide) rfl wm_44 rfl dJO_copyFrom_75 ?_
  refine lv_aload_n hx hb dJO_copyFrom_78 rfl (lv_at hl 0 rfl) ?_
  refine V_get B hw (v := .ref (ad 41)) (by decide) rfl rfl hin_JO 7 (by decide) rfl wm_44 rfl dJO_copyFrom_79 ?_
  refine V_callSN (rest := []) B hi hw hA hl.1 (M_FHL_copyLongs_17_41 l hi (FHL_copyLongs_16_40 (FHL_copyInts_15_39 (FHL_copyInts_14_38 (FHL_copyInts_13_37 (FHL_copyInts_12_36 (FHL_copyInts_11_35 (sI S 34 0 (S.1 10 0))))))))) (cw_FHL_copyLongs_17_41 (Nat.le_of_ble_eq_true rfl) (Nat.le_of_ble_eq_true rfl) (Nat.zero_le _) (Nat.zero_le _)) wn_181 wm_176 rfl (Nat.le_of_ble_eq_true rfl) dJO_copyFrom_82 (kV (fun H locs hw => ?_))
  refine lv_aload_n hx hb dJO_copyFrom_85 rfl (lv_at hl 0 rfl) ?_
  refine lv_aload_n hx hb dJO_copyFrom_86 rfl (lv_at hl 1 rfl) ?_
  refine V_get B hw (v := .int ((FHL_copyLongs_17_41 (FHL_copyLongs_16_40 (FHL_copyInts_15_39 (FHL_copyInts_14_38 (FHL_copyInts_13_37 (FHL_copyInts_12_36 (FHL_copyInts_11_35 (sI S 34 0 (S.1 10 0))))))))).1 10 8)) (by decide) rfl rfl hin_JO 8 (by decide) rfl wm_87 rfl dJO_copyFrom_87 ?_
  refine V_putI (ty := .int) B hw (by decide) rfl rfl hin_JO tyJO_ok nmJO 8 (by decide) rfl wm_87 rfl (by decide +kernel) rfl rfl dJO_copyFrom_90 (fun H locs hw => ?_)
  refine lv_aload_n hx hb dJO_copyFrom_93 rfl (lv_at hl 1 rfl) ?_
  refine V_get B hw (v := .ref (ad 18)) (by decide) rfl rfl hin_JO 9 (by decide) rfl wm_88 rfl dJO_copyFrom_94 ?_
  refine lv_aload_n hx hb dJO_copyFrom_97 rfl (lv_at hl 0 rfl) ?_
  refine V_get B hw (v := .ref (ad 42)) (by decide) rfl rfl hin_JO 9 (by decide) rfl wm_88 rfl dJO_copyFrom_98 ?_
  refine V_callSN (rest := []) B hi hw hA hl.1 (M_FHL_copyInts_18_42 l hi (sI (FHL_copyLongs_17_41 (FHL_copyLongs_16_40 (FHL_copyInts_15_39 (FHL_copyInts_14_38 (FHL_copyInts_13_37 (FHL_copyInts_12_36 (FHL_copyInts_11_35 (sI S 34 0 (S.1 10 0))))))))) 34 8 ((FHL_copyLongs_17_41 (FHL_copyLongs_16_40 (FHL_copyInts_15_39 (FHL_copyInts_14_38 (FHL_copyInts_13_37 (FHL_copyInts_12_36 (FHL_copyInts_11_35 (sI S 34 0 (S.1 10 0))))))))).1 10 8))) (cw_FHL_copyInts_18_42 (Nat.le_of_ble_eq_true rfl) (Nat.le_of_ble_eq_true rfl) (Nat.zero_le _) (Nat.zero_le _)) wn_180 wm_174 rfl (Nat.le_of_ble_eq_true rfl) dJO_copyFrom_101 (kV (fun H locs hw => ?_))
  refine lv_aload_n hx hb dJO_copyFrom_104 rfl (lv_at hl 1 rfl) ?_
  refine V_get B hw (v := .ref (ad 19)) (by decide) rfl rfl hin_JO 10 (by decide) rfl wm_89 rfl dJO_copyFrom_105 ?_
  refine lv_aload_n hx hb dJO_copyFrom_108 rfl (lv_at hl 0 rfl) ?_
  refine V_get B hw (v := .ref (ad 43)) (by decide) rfl rfl hin_JO 10 (by decide) rfl wm_89 rfl dJO_copyFrom_109 ?_
  refine V_callSN (rest := []) B hi hw hA hl.1 (M_FHL_copyInts_19_43 l hi (FHL_copyInts_18_42 (sI (FHL_copyLongs_17_41 (FHL_copyLongs_16_40 (FHL_copyInts_15_39 (FHL_copyInts_14_38 (FHL_copyInts_13_37 (FHL_copyInts_12_36 (FHL_copyInts_11_35 (sI S 34 0 (S.1 10 0))))))))) 34 8 ((FHL_copyLongs_17_41 (FHL_copyLongs_16_40 (FHL_copyInts_15_39 (FHL_copyInts_14_38 (FHL_copyInts_13_37 (FHL_copyInts_12_36 (FHL_copyInts_11_35 (sI S 34 0 (S.1 10 0))))))))).1 10 8)))) (cw_FHL_copyInts_19_43 (Nat.le_of_ble_eq_true rfl) (Nat.le_of_ble_eq_true rfl) (Nat.zero_le _) (Nat.zero_le _)) wn_180 wm_174 rfl (Nat.le_of_ble_eq_true rfl) dJO_copyFrom_112 (kV (fun H locs hw => ?_))
  exact V_vret B hr hlk hw (pV_of hF) dJO_copyFrom_115
theorem cw_FHL_copyInts_21_45 {R : Room} {cells slots : Nat} (h1 : 2 ≤ R.frames) (h2 : 81 ≤ R.locals) (h3 : cells ≤ R.cells) (h4 : slots ≤ R.slots) : Cw R cells slots yHL_copyInts bHL_copyInts 2 none ({ frames := 1, cells := 0, slots := 0, locals := 60 } : Room) 2 := ⟨wm_402, wm_353, by decide +kernel, ⟨rfl, rfl, h1, h2⟩, h3, h4⟩
set_option maxHeartbeats 4000000 in
set_option maxRecDepth 100000 in
theorem M_FHL_copyInts_21_45 (l : Launch) {ad : Nat → Nat} {cI cL : ClassId} {dC : Nat → ClassId} {dI : Nat → Nat → Nat} (hi : adI ad) (S : hS)  : Mt l ad cI cL dC dI yHL_copyInts bHL_copyInts 2 none ({ frames := 1, cells := 0, slots := 0, locals := 60 } : Room) [.ref (ad 21), .ref (ad 45)] S (pV (FHL_copyInts_21_45 S)) := by
  refine Mt_of (own := RHL) hi (by decide) rfl (Nat.le_of_ble_eq_true rfl) ?_
  intro p e s m args below meth c ls B hr hlk hw hl
  obtain ⟨hx, hb, -, hown, hts, -, -⟩ := id B
  have hA : ∀ q, AA ad s.heap.size q → AA ad s.heap.size q := fun _ h => h
  have hl : lv_has ls 2 [(0, .ref (ad 21)), (1, .ref (ad 45))] := hl
  have hF := FHL_copyInts_21_45_e S 
  refine lv_aload_n hx hb dHL_copyInts_0 rfl (lv_at hl 0 rfl) ?_
  refine lv_iconst (v := 0) hx hb dHL_copyInts_1 (by decide) ?_
  refine lv_aload_n hx hb dHL_copyInts_2 rfl (lv_at hl 1 rfl) ?_
  refine lv_iconst (v := 0) hx hb dHL_copyInts_3 (by decide) ?_
  refine lv_aload_n hx hb dHL_copyInts_4 rfl (lv_at hl 0 rfl) ?_
  refine V_ialen (v := 10) B hw (by decide) rfl (by decide) dHL_copyInts_5 ?_
  refine lv_aload_n hx hb dHL_copyInts_6 rfl (lv_at hl 1 rfl) ?_
  refine V_ialen (v := 10) B hw (by decide) rfl (by decide) dHL_copyInts_7 ?_
  refine va_mmin hx hb (B.2.2.1.trans hl.1.symm) hown (hts _ wm_168) (hts _ wm_125) (hts _ wm_85) (hts _ wm_126) (Nat.le_of_ble_eq_true rfl) (Nat.le_of_ble_eq_true rfl) (Nat.zero_le _) (Nat.zero_le _) dHL_copyInts_8 ?_
  refine V_acI (n0 := 10) B hw hl.1 wm_169 wm_170 wm_171 wm_172 (by decide) (by decide) rfl rfl (by decide) (by decide) (Nat.le_of_ble_eq_true rfl) (Nat.le_of_ble_eq_true rfl) dHL_copyInts_11 (fun H locs hw => ?_)
  exact V_vret B hr hlk hw (pV_of hF) dHL_copyInts_14
theorem cw_FHL_copyLongs_22_46 {R : Room} {cells slots : Nat} (h1 : 2 ≤ R.frames) (h2 : 81 ≤ R.locals) (h3 : cells ≤ R.cells) (h4 : slots ≤ R.slots) : Cw R cells slots yHL_copyLongs bHL_copyLongs 2 none ({ frames := 1, cells := 0, slots := 0, locals := 60 } : Room) 2 := ⟨wm_403, wm_353, by decide +kernel, ⟨rfl, rfl, h1, h2⟩, h3, h4⟩
set_option maxHeartbeats 4000000 in
set_option maxRecDepth 100000 in
theorem M_FHL_copyLongs_22_46 (l : Launch) {ad : Nat → Nat} {cI cL : ClassId} {dC : Nat → ClassId} {dI : Nat → Nat → Nat} (hi : adI ad) (S : hS)  : Mt l ad cI cL dC dI yHL_copyLongs bHL_copyLongs 2 none ({ frames := 1, cells := 0, slots := 0, locals := 60 } : Room) [.ref (ad 22), .ref (ad 46)] S (pV (FHL_copyLongs_22_46 S)) := by
  refine Mt_of (own := RHL) hi (by decide) rfl (Nat.le_of_ble_eq_true rfl) ?_
  intro p e s m args below meth c ls B hr hlk hw hl
  obtain ⟨hx, hb, -, hown, hts, -, -⟩ := id B
  have hA : ∀ q, AA ad s.heap.size q → AA ad s.heap.size q := fun _ h => h
  have hl : lv_has ls 2 [(0, .ref (ad 22)), (1, .ref (ad 46))] := hl
  have hF := FHL_copyLongs_22_46_e S 
  refine lv_aload_n hx hb dHL_copyLongs_0 rfl (lv_at hl 0 rfl) ?_
  refine lv_iconst (v := 0) hx hb dHL_copyLongs_1 (by decide) ?_
  refine lv_aload_n hx hb dHL_copyLongs_2 rfl (lv_at hl 1 rfl) ?_
  refine lv_iconst (v := 0) hx hb dHL_copyLongs_3 (by decide) ?_
  refine lv_aload_n hx hb dHL_copyLongs_4 rfl (lv_at hl 0 rfl) ?_
  refine V_lalen (v := 10) B hw (by decide) rfl (by decide) dHL_copyLongs_5 ?_
  refine lv_aload_n hx hb dHL_copyLongs_6 rfl (lv_at hl 1 rfl) ?_
  refine V_lalen (v := 10) B hw (by decide) rfl (by decide) dHL_copyLongs_7 ?_
  refine va_mmin hx hb (B.2.2.1.trans hl.1.symm) hown (hts _ wm_168) (hts _ wm_125) (hts _ wm_85) (hts _ wm_126) (Nat.le_of_ble_eq_true rfl) (Nat.le_of_ble_eq_true rfl) (Nat.zero_le _) (Nat.zero_le _) dHL_copyLongs_8 ?_
  refine V_acL (n0 := 10) B hw hl.1 wm_169 wm_170 wm_171 wm_172 (by decide) (by decide) rfl rfl (by decide) (by decide) (Nat.le_of_ble_eq_true rfl) (Nat.le_of_ble_eq_true rfl) dHL_copyLongs_11 (fun H locs hw => ?_)
  exact V_vret B hr hlk hw (pV_of hF) dHL_copyLongs_14
theorem cw_FHL_copyLongs_23_47 {R : Room} {cells slots : Nat} (h1 : 2 ≤ R.frames) (h2 : 81 ≤ R.locals) (h3 : cells ≤ R.cells) (h4 : slots ≤ R.slots) : Cw R cells slots yHL_copyLongs bHL_copyLongs 2 none ({ frames := 1, cells := 0, slots := 0, locals := 60 } : Room) 2 := ⟨wm_403, wm_353, by decide +kernel, ⟨rfl, rfl, h1, h2⟩, h3, h4⟩
set_option maxHeartbeats 4000000 in
set_option maxRecDepth 100000 in
theorem M_FHL_copyLongs_23_47 (l : Launch) {ad : Nat → Nat} {cI cL : ClassId} {dC : Nat → ClassId} {dI : Nat → Nat → Nat} (hi : adI ad) (S : hS)  : Mt l ad cI cL dC dI yHL_copyLongs bHL_copyLongs 2 none ({ frames := 1, cells := 0, slots := 0, locals := 60 } : Room) [.ref (ad 23), .ref (ad 47)] S (pV (FHL_copyLongs_23_47 S)) := by
  refine Mt_of (own := RHL) hi (by decide) rfl (Nat.le_of_ble_eq_true rfl) ?_
  intro p e s m args below meth c ls B hr hlk hw hl
  obtain ⟨hx, hb, -, hown, hts, -, -⟩ := id B
  have hA : ∀ q, AA ad s.heap.size q → AA ad s.heap.size q := fun _ h => h
  have hl : lv_has ls 2 [(0, .ref (ad 23)), (1, .ref (ad 47))] := hl
  have hF := FHL_copyLongs_23_47_e S 
  refine lv_aload_n hx hb dHL_copyLongs_0 rfl (lv_at hl 0 rfl) ?_
  refine lv_iconst (v := 0) hx hb dHL_copyLongs_1 (by decide) ?_
  refine lv_aload_n hx hb dHL_copyLongs_2 rfl (lv_at hl 1 rfl) ?_
  refine lv_iconst (v := 0) hx hb dHL_copyLongs_3 (by decide) ?_
  refine lv_aload_n hx hb dHL_copyLongs_4 rfl (lv_at hl 0 rfl) ?_
  refine V_lalen (v := 10) B hw (by decide) rfl (by decide) dHL_copyLongs_5 ?_
  refine lv_aload_n hx hb dHL_copyLongs_6 rfl (lv_at hl 1 rfl) ?_
  refine V_lalen (v := 10) B hw (by decide) rfl (by decide) dHL_copyLongs_7 ?_
  refine va_mmin hx hb (B.2.2.1.trans hl.1.symm) hown (hts _ wm_168) (hts _ wm_125) (hts _ wm_85) (hts _ wm_126) (Nat.le_of_ble_eq_true rfl) (Nat.le_of_ble_eq_true rfl) (Nat.zero_le _) (Nat.zero_le _) dHL_copyLongs_8 ?_
  refine V_acL (n0 := 10) B hw hl.1 wm_169 wm_170 wm_171 wm_172 (by decide) (by decide) rfl rfl (by decide) (by decide) (Nat.le_of_ble_eq_true rfl) (Nat.le_of_ble_eq_true rfl) dHL_copyLongs_11 (fun H locs hw => ?_)
  exact V_vret B hr hlk hw (pV_of hF) dHL_copyLongs_14
theorem cw_FPL_copyFrom_44_20 {R : Room} {cells slots : Nat} (h1 : 3 ≤ R.frames) (h2 : 102 ≤ R.locals) (h3 : cells ≤ R.cells) (h4 : slots ≤ R.slots) : Cw R cells slots yPL_copyFrom bPL_copyFrom 2 none ({ frames := 2, cells := 0, slots := 0, locals := 81 } : Room) 1 := ⟨wm_406, wm_391, by decide +kernel, ⟨rfl, rfl, h1, h2⟩, h3, h4⟩
set_option maxHeartbeats 4000000 in
set_option maxRecDepth 100000 in
theorem M_FPL_copyFrom_44_20 (l : Launch) {ad : Nat → Nat} {cI cL : ClassId} {dC : Nat → ClassId} {dI : Nat → Nat → Nat} (hi : adI ad) (S : hS)  : Mt l ad cI cL dC dI yPL_copyFrom bPL_copyFrom 2 none ({ frames := 2, cells := 0, slots := 0, locals := 81 } : Room) [.ref (ad 44), .ref (ad 20)] S (pV (FPL_copyFrom_44_20 S)) := by
  refine Mt_of (own := RPL) hi (by decide) rfl (Nat.le_of_ble_eq_true rfl) ?_
  intro p e s m args below meth c ls B hr hlk hw hl
  obtain ⟨hx, hb, -, hown, hts, -, -⟩ := id B
  have hA : ∀ q, AA ad s.heap.size q → AA ad s.heap.size q := fun _ h => h
  have hl : lv_has ls 2 [(0, .ref (ad 44)), (1, .ref (ad 20))] := hl
  have hF := FPL_copyFrom_44_20_e S 
  refine lv_aload_n hx hb dPL_copyFrom_0 rfl (lv_at hl 0 rfl) ?_
  refine lv_aload_n hx hb dPL_copyFrom_1 rfl (lv_at hl 1 rfl) ?_
  refine V_get B hw (v := .int (S.1 20 0)) (by decide) rfl rfl hin_PL 0 (by decide) rfl wm_136 rfl dPL_copyFrom_2 ?_
  refine V_putI (ty := .int) B hw (by decide) rfl rfl hin_PL tyPL_ok nmPL 0 (by decide) rfl wm_136 rfl (by decide +kernel) rfl rfl dPL_copyFrom_5 (fun H locs hw => ?_)
  refine lv_aload_n hx hb dPL_copyFrom_8 rfl (lv_at hl 1 rfl) ?_
  refine V_get B hw (v := .ref (ad 21)) (by decide) rfl rfl hin_PL 1 (by decide) rfl wm_137 rfl dPL_copyFrom_9 ?_
  refine lv_aload_n hx hb dPL_copyFrom_12 rfl (lv_at hl 0 rfl) ?_
  refine V_get B hw (v := .ref (ad 45)) (by decide) rfl rfl hin_PL 1 (by decide) rfl wm_137 rfl dPL_copyFrom_13 ?_
  refine V_callSN (rest := []) B hi hw hA hl.1 (M_FHL_copyInts_21_45 l hi (sI S 44 0 (S.1 20 0))) (cw_FHL_copyInts_21_45 (Nat.le_of_ble_eq_true rfl) (Nat.le_of_ble_eq_true rfl) (Nat.zero_le _) (Nat.zero_le _)) wn_186 wm_174 rfl (Nat.le_of_ble_eq_true rfl) dPL_copyFrom_16 (kV (fun H locs hw => ?_))
  refine lv_aload_n hx hb dPL_copyFrom_19 rfl (lv_at hl 1 rfl) ?_
  refine V_get B hw (v := .ref (ad 22)) (by decide) rfl rfl hin_PL 2 (by decide) rfl wm_138 rfl dPL_copyFrom_20 ?_
  refine lv_aload_n hx hb dPL_copyFrom_23 rfl (lv_at hl 0 rfl) ?_
  refine V_get B hw (v := .ref (ad 46)) (by decide) rfl rfl hin_PL 2 (by decide) rfl wm_138 rfl dPL_copyFrom_24 ?_
  refine V_callSN (rest := []) B hi hw hA hl.1 (M_FHL_copyLongs_22_46 l hi (FHL_copyInts_21_45 (sI S 44 0 (S.1 20 0)))) (cw_FHL_copyLongs_22_46 (Nat.le_of_ble_eq_true rfl) (Nat.le_of_ble_eq_true rfl) (Nat.zero_le _) (Nat.zero_le _)) wn_187 wm_176 rfl (Nat.le_of_ble_eq_true rfl) dPL_copyFrom_27 (kV (fun H locs hw => ?_))
  refine lv_aload_n hx hb dPL_copyFrom_30 rfl (lv_at hl 1 rfl) ?_
  refine V_get B hw (v := .ref (ad 23)) (by decide) rfl rfl hin_PL 3 (by decide) rfl wm_139 rfl dPL_copyFrom_31 ?_
  refine lv_aload_n hx hb dPL_copyFrom_34 rfl (lv_at hl 0 rfl) ?_
  refine V_get B hw (v := .ref (ad 47)) (by decide) rfl rfl hin_PL 3 (by decide) rfl wm_139 rfl dPL_copyFrom_35 ?_
  refine V_callSN (rest := []) B hi hw hA hl.1 (M_FHL_copyLongs_23_47 l hi (FHL_copyLongs_22_46 (FHL_copyInts_21_45 (sI S 44 0 (S.1 20 0))))) (cw_FHL_copyLongs_23_47 (Nat.le_of_ble_eq_true rfl) (Nat.le_of_ble_eq_true rfl) (Nat.zero_le _) (Nat.zero_le _)) wn_187 wm_176 rfl (Nat.le_of_ble_eq_true rfl) dPL_copyFrom_38 (kV (fun H locs hw => ?_))
  exact V_vret B hr hlk hw (pV_of hF) dPL_copyFrom_41
theorem cw_FHL_copyLongs_24_48 {R : Room} {cells slots : Nat} (h1 : 2 ≤ R.frames) (h2 : 81 ≤ R.locals) (h3 : cells ≤ R.cells) (h4 : slots ≤ R.slots) : Cw R cells slots yHL_copyLongs bHL_copyLongs 2 none ({ frames := 1, cells := 0, slots := 0, locals := 60 } : Room) 2 := ⟨wm_403, wm_353, by decide +kernel, ⟨rfl, rfl, h1, h2⟩, h3, h4⟩
set_option maxHeartbeats 4000000 in
set_option maxRecDepth 100000 in
theorem M_FHL_copyLongs_24_48 (l : Launch) {ad : Nat → Nat} {cI cL : ClassId} {dC : Nat → ClassId} {dI : Nat → Nat → Nat} (hi : adI ad) (S : hS)  : Mt l ad cI cL dC dI yHL_copyLongs bHL_copyLongs 2 none ({ frames := 1, cells := 0, slots := 0, locals := 60 } : Room) [.ref (ad 24), .ref (ad 48)] S (pV (FHL_copyLongs_24_48 S)) := by
  refine Mt_of (own := RHL) hi (by decide) rfl (Nat.le_of_ble_eq_true rfl) ?_
  intro p e s m args below meth c ls B hr hlk hw hl
  obtain ⟨hx, hb, -, hown, hts, -, -⟩ := id B
  have hA : ∀ q, AA ad s.heap.size q → AA ad s.heap.size q := fun _ h => h
  have hl : lv_has ls 2 [(0, .ref (ad 24)), (1, .ref (ad 48))] := hl
  have hF := FHL_copyLongs_24_48_e S 
  refine lv_aload_n hx hb dHL_copyLongs_0 rfl (lv_at hl 0 rfl) ?_
  refine lv_iconst (v := 0) hx hb dHL_copyLongs_1 (by decide) ?_
  refine lv_aload_n hx hb dHL_copyLongs_2 rfl (lv_at hl 1 rfl) ?_
  refine lv_iconst (v := 0) hx hb dHL_copyLongs_3 (by decide) ?_
  refine lv_aload_n hx hb dHL_copyLongs_4 rfl (lv_at hl 0 rfl) ?_
  refine V_lalen (v := 20) B hw (by decide) rfl (by decide) dHL_copyLongs_5 ?_
  refine lv_aload_n hx hb dHL_copyLongs_6 rfl (lv_at hl 1 rfl) ?_
  refine V_lalen (v := 20) B hw (by decide) rfl (by decide) dHL_copyLongs_7 ?_
  refine va_mmin hx hb (B.2.2.1.trans hl.1.symm) hown (hts _ wm_168) (hts _ wm_125) (hts _ wm_85) (hts _ wm_126) (Nat.le_of_ble_eq_true rfl) (Nat.le_of_ble_eq_true rfl) (Nat.zero_le _) (Nat.zero_le _) dHL_copyLongs_8 ?_
  refine V_acL (n0 := 20) B hw hl.1 wm_169 wm_170 wm_171 wm_172 (by decide) (by decide) rfl rfl (by decide) (by decide) (Nat.le_of_ble_eq_true rfl) (Nat.le_of_ble_eq_true rfl) dHL_copyLongs_11 (fun H locs hw => ?_)
  exact V_vret B hr hlk hw (pV_of hF) dHL_copyLongs_14
theorem cw_FBO_copyFrom_25_1 {R : Room} {cells slots : Nat} (h1 : 4 ≤ R.frames) (h2 : 123 ≤ R.locals) (h3 : cells ≤ R.cells) (h4 : slots ≤ R.slots) : Cw R cells slots yBO_copyFrom bBO_copyFrom 2 none ({ frames := 3, cells := 0, slots := 0, locals := 102 } : Room) 1 := ⟨wm_407, wm_356, by decide +kernel, ⟨rfl, rfl, h1, h2⟩, h3, h4⟩
set_option maxHeartbeats 4000000 in
set_option maxRecDepth 100000 in
theorem M_FBO_copyFrom_25_1 (l : Launch) {ad : Nat → Nat} {cI cL : ClassId} {dC : Nat → ClassId} {dI : Nat → Nat → Nat} (hi : adI ad) (S : hS)  : Mt l ad cI cL dC dI yBO_copyFrom bBO_copyFrom 2 none ({ frames := 3, cells := 0, slots := 0, locals := 102 } : Room) [.ref (ad 25), .ref (ad 1)] S (pV (FBO_copyFrom_25_1 S)) := by
  refine Mt_of (own := RBO) hi (by decide) rfl (Nat.le_of_ble_eq_true rfl) ?_
  intro p e s m args below meth c ls B hr hlk hw hl
  obtain ⟨hx, hb, -, hown, hts, -, -⟩ := id B
  have hA : ∀ q, AA ad s.heap.size q → AA ad s.heap.size q := fun _ h => h
  have hl : lv_has ls 2 [(0, .ref (ad 25)), (1, .ref (ad 1))] := hl
  have hF := FBO_copyFrom_25_1_e S 
  refine lv_aload_n hx hb dBO_copyFrom_0 rfl (lv_at hl 0 rfl) ?_
  refine V_get B hw (v := .ref (ad 26)) (by decide) rfl rfl hin_BO 0 (by decide) rfl wm_57 rfl dBO_copyFrom_1 ?_
  refine lv_aload_n hx hb dBO_copyFrom_4 rfl (lv_at hl 1 rfl) ?_
  refine V_get B hw (v := .ref (ad 2)) (by decide) rfl rfl hin_BO 0 (by decide) rfl wm_57 rfl dBO_copyFrom_5 ?_
  refine V_callVN (rest := []) B hi hw hA hl.1 (M_FAC_copyFrom_26_2 l hi S) (cw_FAC_copyFrom_26_2 (Nat.le_of_ble_eq_true rfl) (Nat.le_of_ble_eq_true rfl) (Nat.zero_le _) (Nat.zero_le _)) (by decide) rfl rfl wn_177 wm_178 wm_179 rfl (Nat.le_of_ble_eq_true rfl) dBO_copyFrom_8 (kV (fun H locs hw => ?_))
  refine lv_aload_n hx hb dBO_copyFrom_11 rfl (lv_at hl 0 rfl) ?_
  refine V_get B hw (v := .ref (ad 34)) (by decide) rfl rfl hin_BO 1 (by decide) rfl wm_54 rfl dBO_copyFrom_12 ?_
  refine lv_aload_n hx hb dBO_copyFrom_15 rfl (lv_at hl 1 rfl) ?_
  refine V_get B hw (v := .ref (ad 10)) (by decide) rfl rfl hin_BO 1 (by decide) rfl wm_54 rfl dBO_copyFrom_16 ?_
  refine V_callVN (rest := []) B hi hw hA hl.1 (M_FJO_copyFrom_34_10 l hi (FAC_copyFrom_26_2 S)) (cw_FJO_copyFrom_34_10 (Nat.le_of_ble_eq_true rfl) (Nat.le_of_ble_eq_true rfl) (Nat.zero_le _) (Nat.zero_le _)) (by decide) rfl rfl wn_182 wm_183 wm_184 rfl (Nat.le_of_ble_eq_true rfl) dBO_copyFrom_19 (kV (fun H locs hw => ?_))
  refine lv_aload_n hx hb dBO_copyFrom_22 rfl (lv_at hl 0 rfl) ?_
  refine V_get B hw (v := .ref (ad 44)) (by decide) rfl rfl hin_BO 2 (by decide) rfl wm_185 rfl dBO_copyFrom_23 ?_
  refine lv_aload_n hx hb dBO_copyFrom_26 rfl (lv_at hl 1 rfl) ?_
  refine V_get B hw (v := .ref (ad 20)) (by decide) rfl rfl hin_BO 2 (by decide) rfl wm_185 rfl dBO_copyFrom_27 ?_
  refine V_callVN (rest := []) B hi hw hA hl.1 (M_FPL_copyFrom_44_20 l hi (FJO_copyFrom_34_10 (FAC_copyFrom_26_2 S))) (cw_FPL_copyFrom_44_20 (Nat.le_of_ble_eq_true rfl) (Nat.le_of_ble_eq_true rfl) (Nat.zero_le _) (Nat.zero_le _)) (by decide) rfl rfl wn_188 wm_189 wm_190 rfl (Nat.le_of_ble_eq_true rfl) dBO_copyFrom_30 (kV (fun H locs hw => ?_))
  refine lv_aload_n hx hb dBO_copyFrom_33 rfl (lv_at hl 1 rfl) ?_
  refine V_get B hw (v := .ref (ad 24)) (by decide) rfl rfl hin_BO 3 (by decide) rfl wm_97 rfl dBO_copyFrom_34 ?_
  refine lv_aload_n hx hb dBO_copyFrom_37 rfl (lv_at hl 0 rfl) ?_
  refine V_get B hw (v := .ref (ad 48)) (by decide) rfl rfl hin_BO 3 (by decide) rfl wm_97 rfl dBO_copyFrom_38 ?_
  refine V_callSN (rest := []) B hi hw hA hl.1 (M_FHL_copyLongs_24_48 l hi (FPL_copyFrom_44_20 (FJO_copyFrom_34_10 (FAC_copyFrom_26_2 S)))) (cw_FHL_copyLongs_24_48 (Nat.le_of_ble_eq_true rfl) (Nat.le_of_ble_eq_true rfl) (Nat.zero_le _) (Nat.zero_le _)) wn_191 wm_176 rfl (Nat.le_of_ble_eq_true rfl) dBO_copyFrom_41 (kV (fun H locs hw => ?_))
  refine lv_aload_n hx hb dBO_copyFrom_44 rfl (lv_at hl 0 rfl) ?_
  refine lv_aload_n hx hb dBO_copyFrom_45 rfl (lv_at hl 1 rfl) ?_
  refine V_get B hw (v := .int ((FHL_copyLongs_24_48 (FPL_copyFrom_44_20 (FJO_copyFrom_34_10 (FAC_copyFrom_26_2 S)))).1 1 4)) (by decide) rfl rfl hin_BO 4 (by decide) rfl wm_96 rfl dBO_copyFrom_46 ?_
  refine V_putI (ty := .int) B hw (by decide) rfl rfl hin_BO tyBO_ok nmBO 4 (by decide) rfl wm_96 rfl (by decide +kernel) rfl rfl dBO_copyFrom_49 (fun H locs hw => ?_)
  refine lv_aload_n hx hb dBO_copyFrom_52 rfl (lv_at hl 0 rfl) ?_
  refine lv_aload_n hx hb dBO_copyFrom_53 rfl (lv_at hl 1 rfl) ?_
  refine V_get B hw (v := .int ((FHL_copyLongs_24_48 (FPL_copyFrom_44_20 (FJO_copyFrom_34_10 (FAC_copyFrom_26_2 S)))).1 1 5)) (by decide) rfl rfl hin_BO 5 (by decide) rfl wm_18 rfl dBO_copyFrom_54 ?_
  refine V_putI (ty := .int) B hw (by decide) rfl rfl hin_BO tyBO_ok nmBO 5 (by decide) rfl wm_18 rfl (by decide +kernel) rfl rfl dBO_copyFrom_57 (fun H locs hw => ?_)
  refine lv_aload_n hx hb dBO_copyFrom_60 rfl (lv_at hl 0 rfl) ?_
  refine lv_aload_n hx hb dBO_copyFrom_61 rfl (lv_at hl 1 rfl) ?_
  refine V_get B hw (v := .long ((FHL_copyLongs_24_48 (FPL_copyFrom_44_20 (FJO_copyFrom_34_10 (FAC_copyFrom_26_2 S)))).2 1 6)) (by decide) rfl rfl hin_BO 6 (by decide) rfl wm_192 rfl dBO_copyFrom_62 ?_
  refine V_putL (ty := .long) B hw (by decide) rfl rfl hin_BO tyBO_ok nmBO 6 (by decide) rfl wm_192 rfl (by decide +kernel) rfl rfl dBO_copyFrom_65 (fun H locs hw => ?_)
  refine lv_aload_n hx hb dBO_copyFrom_68 rfl (lv_at hl 0 rfl) ?_
  refine lv_aload_n hx hb dBO_copyFrom_69 rfl (lv_at hl 1 rfl) ?_
  refine V_get B hw (v := .long ((FHL_copyLongs_24_48 (FPL_copyFrom_44_20 (FJO_copyFrom_34_10 (FAC_copyFrom_26_2 S)))).2 1 7)) (by decide) rfl rfl hin_BO 7 (by decide) rfl wm_193 rfl dBO_copyFrom_70 ?_
  refine V_putL (ty := .long) B hw (by decide) rfl rfl hin_BO tyBO_ok nmBO 7 (by decide) rfl wm_193 rfl (by decide +kernel) rfl rfl dBO_copyFrom_73 (fun H locs hw => ?_)
  exact V_vret B hr hlk hw (pV_of hF) dBO_copyFrom_76
theorem cw_FHL_batch {R : Room} {cells slots : Nat} (h1 : 5 ≤ R.frames) (h2 : 143 ≤ R.locals) (h3 : cells ≤ R.cells) (h4 : slots ≤ R.slots) : Cw R cells slots yHL_batch bHL_batch 1 (some .int) ({ frames := 4, cells := 0, slots := 0, locals := 123 } : Room) 0 := ⟨wm_408, wm_353, by decide +kernel, ⟨rfl, rfl, h1, h2⟩, h3, h4⟩
set_option maxHeartbeats 4000000 in
set_option maxRecDepth 100000 in
theorem M_FHL_batch (l : Launch) {ad : Nat → Nat} {cI cL : ClassId} {dC : Nat → ClassId} {dI : Nat → Nat → Nat} (hi : adI ad) (S : hS)  : Mt l ad cI cL dC dI yHL_batch bHL_batch 1 (some .int) ({ frames := 4, cells := 0, slots := 0, locals := 123 } : Room) [.ref (ad 0)] S (pI (FHL_batch S).1 (FHL_batch S).2) := by
  refine Mt_of (own := RHL) hi (by decide) rfl (Nat.le_of_ble_eq_true rfl) ?_
  intro p e s m args below meth c ls B hr hlk hw hl
  obtain ⟨hx, hb, -, hown, hts, -, -⟩ := id B
  have hA : ∀ q, AA ad s.heap.size q → AA ad s.heap.size q := fun _ h => h
  have hl : lv_has ls 1 [(0, .ref (ad 0))] := hl
  have hF := FHL_batch_e S 
  refine lv_aload_n hx hb dHL_batch_0 rfl (lv_at hl 0 rfl) ?_
  refine V_get B hw (v := .int (S.1 0 2)) (by decide) rfl rfl hin_HL 2 (by decide) rfl wm_166 rfl dHL_batch_1 ?_
  refine lv_if_eq (tgt := 9) hx hb dHL_batch_4 (by decide) (fun c1 => ?_) (fun c1 => ?_)
  · have hF := hF.trans (if_pos c1)
    refine lv_aload_n hx hb dHL_batch_9 rfl (lv_at hl 0 rfl) ?_
    refine V_get B hw (v := .ref (ad 25)) (by decide) rfl rfl hin_HL 1 (by decide) rfl wm_167 rfl dHL_batch_10 ?_
    refine lv_aload_n hx hb dHL_batch_13 rfl (lv_at hl 0 rfl) ?_
    refine V_get B hw (v := .ref (ad 1)) (by decide) rfl rfl hin_HL 0 (by decide) rfl wm_0 rfl dHL_batch_14 ?_
    refine V_callVN (rest := []) B hi hw hA hl.1 (M_FBO_copyFrom_25_1 l hi S) (cw_FBO_copyFrom_25_1 (Nat.le_of_ble_eq_true rfl) (Nat.le_of_ble_eq_true rfl) (Nat.zero_le _) (Nat.zero_le _)) (by decide) rfl rfl wn_194 wm_195 wm_196 rfl (Nat.le_of_ble_eq_true rfl) dHL_batch_17 (kV (fun H locs hw => ?_))
    refine lv_aload_n hx hb dHL_batch_20 rfl (lv_at hl 0 rfl) ?_
    refine lv_iconst (v := 1) hx hb dHL_batch_21 (by decide) ?_
    refine V_putI (ty := .boolean) B hw (by decide) rfl rfl hin_HL tyHL_ok nmHL 2 (by decide) rfl wm_166 rfl (by decide +kernel) rfl rfl dHL_batch_22 (fun H locs hw => ?_)
    refine lv_aload_n hx hb dHL_batch_25 rfl (lv_at hl 0 rfl) ?_
    refine lv_dup hx hb dHL_batch_26 rfl ?_
    refine V_get B hw (v := .int ((FBO_copyFrom_25_1 S).1 0 3)) (by decide) rfl rfl hin_HL 3 (by decide) rfl wm_197 rfl dHL_batch_27 ?_
    refine lv_iconst (v := 1) hx hb dHL_batch_30 (by decide) ?_
    refine lv_iadd hx hb dHL_batch_31 ?_
    refine V_putI (ty := .int) B hw (by decide) rfl rfl hin_HL tyHL_ok nmHL 3 (by decide) rfl wm_197 rfl (by decide +kernel) rfl rfl dHL_batch_32 (fun H locs hw => ?_)
    refine lv_aload_n hx hb dHL_batch_35 rfl (lv_at hl 0 rfl) ?_
    refine V_get B hw (v := .int (((FBO_copyFrom_25_1 S).1 0 3) + 1)) (by decide) rfl rfl hin_HL 3 (by decide) rfl wm_197 rfl dHL_batch_36 ?_
    refine lv_iconst (v := 1) hx hb dHL_batch_39 (by decide) ?_
    refine lv_isub hx hb dHL_batch_40 ?_
    exact V_iret B hr hlk hw (pI_of hF) dHL_batch_41
  · have hF := hF.trans (if_neg c1)
    refine lv_iconst (v := (-1)) hx hb dHL_batch_7 (by decide) ?_
    exact V_iret B hr hlk hw (pI_of hF) dHL_batch_8
theorem cw_FHL_copyInts_27_3 {R : Room} {cells slots : Nat} (h1 : 2 ≤ R.frames) (h2 : 81 ≤ R.locals) (h3 : cells ≤ R.cells) (h4 : slots ≤ R.slots) : Cw R cells slots yHL_copyInts bHL_copyInts 2 none ({ frames := 1, cells := 0, slots := 0, locals := 60 } : Room) 2 := ⟨wm_402, wm_353, by decide +kernel, ⟨rfl, rfl, h1, h2⟩, h3, h4⟩
set_option maxHeartbeats 4000000 in
set_option maxRecDepth 100000 in
theorem M_FHL_copyInts_27_3 (l : Launch) {ad : Nat → Nat} {cI cL : ClassId} {dC : Nat → ClassId} {dI : Nat → Nat → Nat} (hi : adI ad) (S : hS)  : Mt l ad cI cL dC dI yHL_copyInts bHL_copyInts 2 none ({ frames := 1, cells := 0, slots := 0, locals := 60 } : Room) [.ref (ad 27), .ref (ad 3)] S (pV (FHL_copyInts_27_3 S)) := by
  refine Mt_of (own := RHL) hi (by decide) rfl (Nat.le_of_ble_eq_true rfl) ?_
  intro p e s m args below meth c ls B hr hlk hw hl
  obtain ⟨hx, hb, -, hown, hts, -, -⟩ := id B
  have hA : ∀ q, AA ad s.heap.size q → AA ad s.heap.size q := fun _ h => h
  have hl : lv_has ls 2 [(0, .ref (ad 27)), (1, .ref (ad 3))] := hl
  have hF := FHL_copyInts_27_3_e S 
  refine lv_aload_n hx hb dHL_copyInts_0 rfl (lv_at hl 0 rfl) ?_
  refine lv_iconst (v := 0) hx hb dHL_copyInts_1 (by decide) ?_
  refine lv_aload_n hx hb dHL_copyInts_2 rfl (lv_at hl 1 rfl) ?_
  refine lv_iconst (v := 0) hx hb dHL_copyInts_3 (by decide) ?_
  refine lv_aload_n hx hb dHL_copyInts_4 rfl (lv_at hl 0 rfl) ?_
  refine V_ialen (v := 8) B hw (by decide) rfl (by decide) dHL_copyInts_5 ?_
  refine lv_aload_n hx hb dHL_copyInts_6 rfl (lv_at hl 1 rfl) ?_
  refine V_ialen (v := 8) B hw (by decide) rfl (by decide) dHL_copyInts_7 ?_
  refine va_mmin hx hb (B.2.2.1.trans hl.1.symm) hown (hts _ wm_168) (hts _ wm_125) (hts _ wm_85) (hts _ wm_126) (Nat.le_of_ble_eq_true rfl) (Nat.le_of_ble_eq_true rfl) (Nat.zero_le _) (Nat.zero_le _) dHL_copyInts_8 ?_
  refine V_acI (n0 := 8) B hw hl.1 wm_169 wm_170 wm_171 wm_172 (by decide) (by decide) rfl rfl (by decide) (by decide) (Nat.le_of_ble_eq_true rfl) (Nat.le_of_ble_eq_true rfl) dHL_copyInts_11 (fun H locs hw => ?_)
  exact V_vret B hr hlk hw (pV_of hF) dHL_copyInts_14
theorem cw_FHL_copyInts_28_4 {R : Room} {cells slots : Nat} (h1 : 2 ≤ R.frames) (h2 : 81 ≤ R.locals) (h3 : cells ≤ R.cells) (h4 : slots ≤ R.slots) : Cw R cells slots yHL_copyInts bHL_copyInts 2 none ({ frames := 1, cells := 0, slots := 0, locals := 60 } : Room) 2 := ⟨wm_402, wm_353, by decide +kernel, ⟨rfl, rfl, h1, h2⟩, h3, h4⟩
set_option maxHeartbeats 4000000 in
set_option maxRecDepth 100000 in
theorem M_FHL_copyInts_28_4 (l : Launch) {ad : Nat → Nat} {cI cL : ClassId} {dC : Nat → ClassId} {dI : Nat → Nat → Nat} (hi : adI ad) (S : hS)  : Mt l ad cI cL dC dI yHL_copyInts bHL_copyInts 2 none ({ frames := 1, cells := 0, slots := 0, locals := 60 } : Room) [.ref (ad 28), .ref (ad 4)] S (pV (FHL_copyInts_28_4 S)) := by
  refine Mt_of (own := RHL) hi (by decide) rfl (Nat.le_of_ble_eq_true rfl) ?_
  intro p e s m args below meth c ls B hr hlk hw hl
  obtain ⟨hx, hb, -, hown, hts, -, -⟩ := id B
  have hA : ∀ q, AA ad s.heap.size q → AA ad s.heap.size q := fun _ h => h
  have hl : lv_has ls 2 [(0, .ref (ad 28)), (1, .ref (ad 4))] := hl
  have hF := FHL_copyInts_28_4_e S 
  refine lv_aload_n hx hb dHL_copyInts_0 rfl (lv_at hl 0 rfl) ?_
  refine lv_iconst (v := 0) hx hb dHL_copyInts_1 (by decide) ?_
  refine lv_aload_n hx hb dHL_copyInts_2 rfl (lv_at hl 1 rfl) ?_
  refine lv_iconst (v := 0) hx hb dHL_copyInts_3 (by decide) ?_
  refine lv_aload_n hx hb dHL_copyInts_4 rfl (lv_at hl 0 rfl) ?_
  refine V_ialen (v := 8) B hw (by decide) rfl (by decide) dHL_copyInts_5 ?_
  refine lv_aload_n hx hb dHL_copyInts_6 rfl (lv_at hl 1 rfl) ?_
  refine V_ialen (v := 8) B hw (by decide) rfl (by decide) dHL_copyInts_7 ?_
  refine va_mmin hx hb (B.2.2.1.trans hl.1.symm) hown (hts _ wm_168) (hts _ wm_125) (hts _ wm_85) (hts _ wm_126) (Nat.le_of_ble_eq_true rfl) (Nat.le_of_ble_eq_true rfl) (Nat.zero_le _) (Nat.zero_le _) dHL_copyInts_8 ?_
  refine V_acI (n0 := 8) B hw hl.1 wm_169 wm_170 wm_171 wm_172 (by decide) (by decide) rfl rfl (by decide) (by decide) (Nat.le_of_ble_eq_true rfl) (Nat.le_of_ble_eq_true rfl) dHL_copyInts_11 (fun H locs hw => ?_)
  exact V_vret B hr hlk hw (pV_of hF) dHL_copyInts_14
