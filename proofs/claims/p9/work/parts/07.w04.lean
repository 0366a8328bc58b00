theorem cw_FHL_copyInts_29_5 {R : Room} {cells slots : Nat} (h1 : 2 ≤ R.frames) (h2 : 81 ≤ R.locals) (h3 : cells ≤ R.cells) (h4 : slots ≤ R.slots) : Cw R cells slots yHL_copyInts bHL_copyInts 2 none ({ frames := 1, cells := 0, slots := 0, locals := 60 } : Room) 2 := ⟨wm_402, wm_353, by decide +kernel, ⟨rfl, rfl, h1, h2⟩, h3, h4⟩
set_option maxHeartbeats 4000000 in
set_option maxRecDepth 100000 in
theorem M_FHL_copyInts_29_5 (l : Launch) {ad : Nat → Nat} {cI cL : ClassId} {dC : Nat → ClassId} {dI : Nat → Nat → Nat} (hi : adI ad) (S : hS)  : Mt l ad cI cL dC dI yHL_copyInts bHL_copyInts 2 none ({ frames := 1, cells := 0, slots := 0, locals := 60 } : Room) [.ref (ad 29), .ref (ad 5)] S (pV (FHL_copyInts_29_5 S)) := by
  refine Mt_of (own := RHL) hi (by decide) rfl (Nat.le_of_ble_eq_true rfl) ?_
  intro p e s m args below meth c ls B hr hlk hw hl
  obtain ⟨hx, hb, -, hown, hts, -, -⟩ := id B
  have hA : ∀ q, AA ad s.heap.size q → AA ad s.heap.size q := fun _ h => h
  have hl : lv_has ls 2 [(0, .ref (ad 29)), (1, .ref (ad 5))] := hl
  have hF := FHL_copyInts_29_5_e S 
  refine lv_aload_n hx hb dHL_copyInts_0 rfl (lv_at hl 0 rfl) ?_
  refine lv_iconst (v := 0) hx hb dHL_copyInts_1 (by decide) ?_
  refine lv_aload_n hx hb dHL_copyInts_2 rfl (lv_at hl 1 rfl) ?_
  refine lv_iconst (v := 0) hx hb dHL_copyInts_3 (by decide) ?_
  refine lv_aload_n hx hb dHL_copyInts_4 rfl (lv_at hl 0 rfl) ?_
  refine V_ialen (v := 8) B hw (by decide) rfl (by decide) dHL_copyInts_5 ?_
  refine lv_aload_n hx hb dHL_copyInts_6 rfl (lv_at hl 1 rfl) ?_
  refine V_ialen (v := 8) B hw (by decide) rfl (by decide) dHL_copyInts_7 ?_
  refine va_mmin hx hb (B.2.2.1.trans hl.1.symm) hown (hts _ wm_168) (hts _ wm_125) (hts _ wm_85) (hts _ wm_126) (Nat.le_of_ble_eq_true rfl) (Nat.le_of_ble_eq_true rfl) (Nat.zero_le _) (Nat.zero_le _) dHL_copyInts_8 ?_
  refine V_acI (n0 := 8) B hw hl.1 wm_169 wm_170 wm_171 wm_172 (by decide) (by decide) rfl rfl (by decide) (by decide) (Nat.le_of_ble_eq_true rfl) (Nat.le_of_ble_eq_true rfl) dHL_copyInts_11 (fun H locs hw => ?_)
  exact V_vret B hr hlk hw (pV_of hF) dHL_copyInts_14
theorem cw_FHL_copyLongs_30_6 {R : Room} {cells slots : Nat} (h1 : 2 ≤ R.frames) (h2 : 81 ≤ R.locals) (h3 : cells ≤ R.cells) (h4 : slots ≤ R.slots) : Cw R cells slots yHL_copyLongs bHL_copyLongs 2 none ({ frames := 1, cells := 0, slots := 0, locals := 60 } : Room) 2 := ⟨wm_403, wm_353, by decide +kernel, ⟨rfl, rfl, h1, h2⟩, h3, h4⟩
set_option maxHeartbeats 4000000 in
set_option maxRecDepth 100000 in
theorem M_FHL_copyLongs_30_6 (l : Launch) {ad : Nat → Nat} {cI cL : ClassId} {dC : Nat → ClassId} {dI : Nat → Nat → Nat} (hi : adI ad) (S : hS)  : Mt l ad cI cL dC dI yHL_copyLongs bHL_copyLongs 2 none ({ frames := 1, cells := 0, slots := 0, locals := 60 } : Room) [.ref (ad 30), .ref (ad 6)] S (pV (FHL_copyLongs_30_6 S)) := by
  refine Mt_of (own := RHL) hi (by decide) rfl (Nat.le_of_ble_eq_true rfl) ?_
  intro p e s m args below meth c ls B hr hlk hw hl
  obtain ⟨hx, hb, -, hown, hts, -, -⟩ := id B
  have hA : ∀ q, AA ad s.heap.size q → AA ad s.heap.size q := fun _ h => h
  have hl : lv_has ls 2 [(0, .ref (ad 30)), (1, .ref (ad 6))] := hl
  have hF := FHL_copyLongs_30_6_e S 
  refine lv_aload_n hx hb dHL_copyLongs_0 rfl (lv_at hl 0 rfl) ?_
  refine lv_iconst (v := 0) hx hb dHL_copyLongs_1 (by decide) ?_
  refine lv_aload_n hx hb dHL_copyLongs_2 rfl (lv_at hl 1 rfl) ?_
  refine lv_iconst (v := 0) hx hb dHL_copyLongs_3 (by decide) ?_
  refine lv_aload_n hx hb dHL_copyLongs_4 rfl (lv_at hl 0 rfl) ?_
  refine V_lalen (v := 8) B hw (by decide) rfl (by decide) dHL_copyLongs_5 ?_
  refine lv_aload_n hx hb dHL_copyLongs_6 rfl (lv_at hl 1 rfl) ?_
  refine V_lalen (v := 8) B hw (by decide) rfl (by decide) dHL_copyLongs_7 ?_
  refine va_mmin hx hb (B.2.2.1.trans hl.1.symm) hown (hts _ wm_168) (hts _ wm_125) (hts _ wm_85) (hts _ wm_126) (Nat.le_of_ble_eq_true rfl) (Nat.le_of_ble_eq_true rfl) (Nat.zero_le _) (Nat.zero_le _) dHL_copyLongs_8 ?_
  refine V_acL (n0 := 8) B hw hl.1 wm_169 wm_170 wm_171 wm_172 (by decide) (by decide) rfl rfl (by decide) (by decide) (Nat.le_of_ble_eq_true rfl) (Nat.le_of_ble_eq_true rfl) dHL_copyLongs_11 (fun H locs hw => ?_)
  exact V_vret B hr hlk hw (pV_of hF) dHL_copyLongs_14
theorem cw_FHL_copyLongs_31_7 {R : Room} {cells slots : Nat} (h1 : 2 ≤ R.frames) (h2 : 81 ≤ R.locals) (h3 : cells ≤ R.cells) (h4 : slots ≤ R.slots) : Cw R cells slots yHL_copyLongs bHL_copyLongs 2 none ({ frames := 1, cells := 0, slots := 0, locals := 60 } : Room) 2 := ⟨wm_403, wm_353, by decide +kernel, ⟨rfl, rfl, h1, h2⟩, h3, h4⟩
set_option maxHeartbeats 4000000 in
set_option maxRecDepth 100000 in
theorem M_FHL_copyLongs_31_7 (l : Launch) {ad : Nat → Nat} {cI cL : ClassId} {dC : Nat → ClassId} {dI : Nat → Nat → Nat} (hi : adI ad) (S : hS)  : Mt l ad cI cL dC dI yHL_copyLongs bHL_copyLongs 2 none ({ frames := 1, cells := 0, slots := 0, locals := 60 } : Room) [.ref (ad 31), .ref (ad 7)] S (pV (FHL_copyLongs_31_7 S)) := by
  refine Mt_of (own := RHL) hi (by decide) rfl (Nat.le_of_ble_eq_true rfl) ?_
  intro p e s m args below meth c ls B hr hlk hw hl
  obtain ⟨hx, hb, -, hown, hts, -, -⟩ := id B
  have hA : ∀ q, AA ad s.heap.size q → AA ad s.heap.size q := fun _ h => h
  have hl : lv_has ls 2 [(0, .ref (ad 31)), (1, .ref (ad 7))] := hl
  have hF := FHL_copyLongs_31_7_e S 
  refine lv_aload_n hx hb dHL_copyLongs_0 rfl (lv_at hl 0 rfl) ?_
  refine lv_iconst (v := 0) hx hb dHL_copyLongs_1 (by decide) ?_
  refine lv_aload_n hx hb dHL_copyLongs_2 rfl (lv_at hl 1 rfl) ?_
  refine lv_iconst (v := 0) hx hb dHL_copyLongs_3 (by decide) ?_
  refine lv_aload_n hx hb dHL_copyLongs_4 rfl (lv_at hl 0 rfl) ?_
  refine V_lalen (v := 8) B hw (by decide) rfl (by decide) dHL_copyLongs_5 ?_
  refine lv_aload_n hx hb dHL_copyLongs_6 rfl (lv_at hl 1 rfl) ?_
  refine V_lalen (v := 8) B hw (by decide) rfl (by decide) dHL_copyLongs_7 ?_
  refine va_mmin hx hb (B.2.2.1.trans hl.1.symm) hown (hts _ wm_168) (hts _ wm_125) (hts _ wm_85) (hts _ wm_126) (Nat.le_of_ble_eq_true rfl) (Nat.le_of_ble_eq_true rfl) (Nat.zero_le _) (Nat.zero_le _) dHL_copyLongs_8 ?_
  refine V_acL (n0 := 8) B hw hl.1 wm_169 wm_170 wm_171 wm_172 (by decide) (by decide) rfl rfl (by decide) (by decide) (Nat.le_of_ble_eq_true rfl) (Nat.le_of_ble_eq_true rfl) dHL_copyLongs_11 (fun H locs hw => ?_)
  exact V_vret B hr hlk hw (pV_of hF) dHL_copyLongs_14
theorem cw_FHL_copyInts_32_8 {R : Room} {cells slots : Nat} (h1 : 2 ≤ R.frames) (h2 : 81 ≤ R.locals) (h3 : cells ≤ R.cells) (h4 : slots ≤ R.slots) : Cw R cells slots yHL_copyInts bHL_copyInts 2 none ({ frames := 1, cells := 0, slots := 0, locals := 60 } : Room) 2 := ⟨wm_402, wm_353, by decide +kernel, ⟨rfl, rfl, h1, h2⟩, h3, h4⟩
set_option maxHeartbeats 4000000 in
set_option maxRecDepth 100000 in
theorem M_FHL_copyInts_32_8 (l : Launch) {ad : Nat → Nat} {cI cL : ClassId} {dC : Nat → ClassId} {dI : Nat → Nat → Nat} (hi : adI ad) (S : hS)  : Mt l ad cI cL dC dI yHL_copyInts bHL_copyInts 2 none ({ frames := 1, cells := 0, slots := 0, locals := 60 } : Room) [.ref (ad 32), .ref (ad 8)] S (pV (FHL_copyInts_32_8 S)) := by
  refine Mt_of (own := RHL) hi (by decide) rfl (Nat.le_of_ble_eq_true rfl) ?_
  intro p e s m args below meth c ls B hr hlk hw hl
  obtain ⟨hx, hb, -, hown, hts, -, -⟩ := id B
  have hA : ∀ q, AA ad s.heap.size q → AA ad s.heap.size q := fun _ h => h
  have hl : lv_has ls 2 [(0, .ref (ad 32)), (1, .ref (ad 8))] := hl
  have hF := FHL_copyInts_32_8_e S 
  refine lv_aload_n hx hb dHL_copyInts_0 rfl (lv_at hl 0 rfl) ?_
  refine lv_iconst (v := 0) hx hb dHL_copyInts_1 (by decide) ?_
  refine lv_aload_n hx hb dHL_copyInts_2 rfl (lv_at hl 1 rfl) ?_
  refine lv_iconst (v := 0) hx hb dHL_copyInts_3 (by decide) ?_
  refine lv_aload_n hx hb dHL_copyInts_4 rfl (lv_at hl 0 rfl) ?_
  refine V_ialen (v := 8) B hw (by decide) rfl (by decide) dHL_copyInts_5 ?_
  refine lv_aload_n hx hb dHL_copyInts_6 rfl (lv_at hl 1 rfl) ?_
  refine V_ialen (v := 8) B hw (by decide) rfl (by decide) dHL_copyInts_7 ?_
  refine va_mmin hx hb (B.2.2.1.trans hl.1.symm) hown (hts _ wm_168) (hts _ wm_125) (hts _ wm_85) (hts _ wm_126) (Nat.le_of_ble_eq_true rfl) (Nat.le_of_ble_eq_true rfl) (Nat.zero_le _) (Nat.zero_le _) dHL_copyInts_8 ?_
  refine V_acI (n0 := 8) B hw hl.1 wm_169 wm_170 wm_171 wm_172 (by decide) (by decide) rfl rfl (by decide) (by decide) (Nat.le_of_ble_eq_true rfl) (Nat.le_of_ble_eq_true rfl) dHL_copyInts_11 (fun H locs hw => ?_)
  exact V_vret B hr hlk hw (pV_of hF) dHL_copyInts_14
theorem cw_FHL_copyInts_33_9 {R : Room} {cells slots : Nat} (h1 : 2 ≤ R.frames) (h2 : 81 ≤ R.locals) (h3 : cells ≤ R.cells) (h4 : slots ≤ R.slots) : Cw R cells slots yHL_copyInts bHL_copyInts 2 none ({ frames := 1, cells := 0, slots := 0, locals := 60 } : Room) 2 := ⟨wm_402, wm_353, by decide +kernel, ⟨rfl, rfl, h1, h2⟩, h3, h4⟩
set_option maxHeartbeats 4000000 in
set_option maxRecDepth 100000 in
theorem M_FHL_copyInts_33_9 (l : Launch) {ad : Nat → Nat} {cI cL : ClassId} {dC : Nat → ClassId} {dI : Nat → Nat → Nat} (hi : adI ad) (S : hS)  : Mt l ad cI cL dC dI yHL_copyInts bHL_copyInts 2 none ({ frames := 1, cells := 0, slots := 0, locals := 60 } : Room) [.ref (ad 33), .ref (ad 9)] S (pV (FHL_copyInts_33_9 S)) := by
  refine Mt_of (own := RHL) hi (by decide) rfl (Nat.le_of_ble_eq_true rfl) ?_
  intro p e s m args below meth c ls B hr hlk hw hl
  obtain ⟨hx, hb, -, hown, hts, -, -⟩ := id B
  have hA : ∀ q, AA ad s.heap.size q → AA ad s.heap.size q := fun _ h => h
  have hl : lv_has ls 2 [(0, .ref (ad 33)), (1, .ref (ad 9))] := hl
  have hF := FHL_copyInts_33_9_e S 
  refine lv_aload_n hx hb dHL_copyInts_0 rfl (lv_at hl 0 rfl) ?_
  refine lv_iconst (v := 0) hx hb dHL_copyInts_1 (by decide) ?_
  refine lv_aload_n hx hb dHL_copyInts_2 rfl (lv_at hl 1 rfl) ?_
  refine lv_iconst (v := 0) hx hb dHL_copyInts_3 (by decide) ?_
  refine lv_aload_n hx hb dHL_copyInts_4 rfl (lv_at hl 0 rfl) ?_
  refine V_ialen (v := 8) B hw (by decide) rfl (by decide) dHL_copyInts_5 ?_
  refine lv_aload_n hx hb dHL_copyInts_6 rfl (lv_at hl 1 rfl) ?_
  refine V_ialen (v := 8) B hw (by decide) rfl (by decide) dHL_copyInts_7 ?_
  refine va_mmin hx hb (B.2.2.1.trans hl.1.symm) hown (hts _ wm_168) (hts _ wm_125) (hts _ wm_85) (hts _ wm_126) (Nat.le_of_ble_eq_true rfl) (Nat.le_of_ble_eq_true rfl) (Nat.zero_le _) (Nat.zero_le _) dHL_copyInts_8 ?_
  refine V_acI (n0 := 8) B hw hl.1 wm_169 wm_170 wm_171 wm_172 (by decide) (by decide) rfl rfl (by decide) (by decide) (Nat.le_of_ble_eq_true rfl) (Nat.le_of_ble_eq_true rfl) dHL_copyInts_11 (fun H locs hw => ?_)
  exact V_vret B hr hlk hw (pV_of hF) dHL_copyInts_14
theorem cw_FAC_copyFrom_2_26 {R : Room} {cells slots : Nat} (h1 : 3 ≤ R.frames) (h2 : 102 ≤ R.locals) (h3 : cells ≤ R.cells) (h4 : slots ≤ R.slots) : Cw R cells slots yAC_copyFrom bAC_copyFrom 2 none ({ frames := 2, cells := 0, slots := 0, locals := 81 } : Room) 1 := ⟨wm_404, wm_351, by decide +kernel, ⟨rfl, rfl, h1, h2⟩, h3, h4⟩
set_option maxHeartbeats 4000000 in
set_option maxRecDepth 100000 in
theorem M_FAC_copyFrom_2_26 (l : Launch) {ad : Nat → Nat} {cI cL : ClassId} {dC : Nat → ClassId} {dI : Nat → Nat → Nat} (hi : adI ad) (S : hS)  : Mt l ad cI cL dC dI yAC_copyFrom bAC_copyFrom 2 none ({ frames := 2, cells := 0, slots := 0, locals := 81 } : Room) [.ref (ad 2), .ref (ad 26)] S (pV (FAC_copyFrom_2_26 S)) := by
  refine Mt_of (own := RAC) hi (by decide) rfl (Nat.le_of_ble_eq_true rfl) ?_
  intro p e s m args below meth c ls B hr hlk hw hl
  obtain ⟨hx, hb, -, hown, hts, -, -⟩ := id B
  have hA : ∀ q, AA ad s.heap.size q → AA ad s.heap.size q := fun _ h => h
  have hl : lv_has ls 2 [(0, .ref (ad 2)), (1, .ref (ad 26))] := hl
  have hF := FAC_copyFrom_2_26_e S 
  refine lv_aload_n hx hb dAC_copyFrom_0 rfl (lv_at hl 0 rfl) ?_
  refine lv_aload_n hx hb dAC_copyFrom_1 rfl (lv_at hl 1 rfl) ?_
  refine V_get B hw (v := .int (S.1 26 0)) (by decide) rfl rfl hin_AC 0 (by decide) rfl wm_2 rfl dAC_copyFrom_2 ?_
  refine V_putI (ty := .int) B hw (by decide) rfl rfl hin_AC tyAC_ok nmAC 0 (by decide) rfl wm_2 rfl (by decide +kernel) rfl rfl dAC_copyFrom_5 (fun H locs hw => ?_)
  refine lv_aload_n hx hb dAC_copyFrom_8 rfl (lv_at hl 1 rfl) ?_
  refine V_get B hw (v := .ref (ad 27)) (by decide) rfl rfl hin_AC 1 (by decide) rfl wm_3 rfl dAC_copyFrom_9 ?_
  refine lv_aload_n hx hb dAC_copyFrom_12 rfl (lv_at hl 0 rfl) ?_
  refine V_get B hw (v := .ref (ad 3)) (by decide) rfl rfl hin_AC 1 (by decide) rfl wm_3 rfl dAC_copyFrom_13 ?_
  refine V_callSN (rest := []) B hi hw hA hl.1 (M_FHL_copyInts_27_3 l hi (sI S 2 0 (S.1 26 0))) (cw_FHL_copyInts_27_3 (Nat.le_of_ble_eq_true rfl) (Nat.le_of_ble_eq_true rfl) (Nat.zero_le _) (Nat.zero_le _)) wn_173 wm_174 rfl (Nat.le_of_ble_eq_true rfl) dAC_copyFrom_16 (kV (fun H locs hw => ?_))
  refine lv_aload_n hx hb dAC_copyFrom_19 rfl (lv_at hl 1 rfl) ?_
  refine V_get B hw (v := .ref (ad 28)) (by decide) rfl rfl hin_AC 2 (by decide) rfl wm_4 rfl dAC_copyFrom_20 ?_
  refine lv_aload_n hx hb dAC_copyFrom_23 rfl (lv_at hl 0 rfl) ?_
  refine V_get B hw (v := .ref (ad 4)) (by decide) rfl rfl hin_AC 2 (by decide) rfl wm_4 rfl dAC_copyFrom_24 ?_
  refine V_callSN (rest := []) B hi hw hA hl.1 (M_FHL_copyInts_28_4 l hi (FHL_copyInts_27_3 (sI S 2 0 (S.1 26 0)))) (cw_FHL_copyInts_28_4 (Nat.le_of_ble_eq_true rfl) (Nat.le_of_ble_eq_true rfl) (Nat.zero_le _) (Nat.zero_le _)) wn_173 wm_174 rfl (Nat.le_of_ble_eq_true rfl) dAC_copyFrom_27 (kV (fun H locs hw => ?_))
  refine lv_aload_n hx hb dAC_copyFrom_30 rfl (lv_at hl 1 rfl) ?_
  refine V_get B hw (v := .ref (ad 29)) (by decide) rfl rfl hin_AC 3 (by decide) rfl wm_5 rfl dAC_copyFrom_31 ?_
  refine lv_aload_n hx hb dAC_copyFrom_34 rfl (lv_at hl 0 rfl) ?_
  refine V_get B hw (v := .ref (ad 5)) (by decide) rfl rfl hin_AC 3 (by decide) rfl wm_5 rfl dAC_copyFrom_35 ?_
  refine V_callSN (rest := []) B hi hw hA hl.1 (M_FHL_copyInts_29_5 l hi (FHL_copyInts_28_4 (FHL_copyInts_27_3 (sI S 2 0 (S.1 26 0))))) (cw_FHL_copyInts_29_5 (Nat.le_of_ble_eq_true rfl) (Nat.le_of_ble_eq_true rfl) (Nat.zero_le _) (Nat.zero_le _)) wn_173 wm_174 rfl (Nat.le_of_ble_eq_true rfl) dAC_copyFrom_38 (kV (fun H locs hw => ?_))
  refine lv_aload_n hx hb dAC_copyFrom_41 rfl (lv_at hl 1 rfl) ?_
  refine V_get B hw (v := .ref (ad 30)) (by decide) rfl rfl hin_AC 4 (by decide) rfl wm_6 rfl dAC_copyFrom_42 ?_
  refine lv_aload_n hx hb dAC_copyFrom_45 rfl (lv_at hl 0 rfl) ?_
  refine V_get B hw (v := .ref (ad 6)) (by decide) rfl rfl hin_AC 4 (by decide) rfl wm_6 rfl dAC_copyFrom_46 ?_
  refine V_callSN (rest := []) B hi hw hA hl.1 (M_FHL_copyLongs_30_6 l hi (FHL_copyInts_29_5 (FHL_copyInts_28_4 (FHL_copyInts_27_3 (sI S 2 0 (S.1 26 0)))))) (cw_FHL_copyLongs_30_6 (Nat.le_of_ble_eq_true rfl) (Nat.le_of_ble_eq_true rfl) (Nat.zero_le _) (Nat.zero_le _)) wn_175 wm_176 rfl (Nat.le_of_ble_eq_true rfl) dAC_copyFrom_49 (kV (fun H locs hw => ?_))
  refine lv_aload_n hx hb dAC_copyFrom_52 rfl (lv_at hl 1 rfl) ?_
  refine V_get B hw (v := .ref (ad 31)) (by decide) rfl rfl hin_AC 5 (by decide) rfl wm_7 rfl dAC_copyFrom_53 ?_
  refine lv_aload_n hx hb dAC_copyFrom_56 rfl (lv_at hl 0 rfl) ?_
  refine V_get B hw (v := .ref (ad 7)) (by decide) rfl rfl hin_AC 5 (by decide) rfl wm_7 rfl dAC_copyFrom_57 ?_
  refine V_callSN (rest := []) B hi hw hA hl.1 (M_FHL_copyLongs_31_7 l hi (FHL_copyLongs_30_6 (FHL_copyInts_29_5 (FHL_copyInts_28_4 (FHL_copyInts_27_3 (sI S 2 0 (S.1 26 0))))))) (cw_FHL_copyLongs_31_7 (Nat.le_of_ble_eq_true rfl) (Nat.le_of_ble_eq_true rfl) (Nat.zero_le _) (Nat.zero_le _)) wn_175 wm_176 rfl (Nat.le_of_ble_eq_true rfl) dAC_copyFrom_60 (kV (fun H locs hw => ?_))
  refine lv_aload_n hx hb dAC_copyFrom_63 rfl (lv_at hl 1 rfl) ?_
  refine V_get B hw (v := .ref (ad 32)) (by decide) rfl rfl hin_AC 6 (by decide) rfl wm_9 rfl dAC_copyFrom_64 ?_
  refine lv_aload_n hx hb dAC_copyFrom_67 rfl (lv_at hl 0 rfl) ?_
  refine V_get B hw (v := .ref (ad 8)) (by decide) rfl rfl hin_AC 6 (by decide) rfl wm_9 rfl dAC_copyFrom_68 ?_
  refine V_callSN (rest := []) B hi hw hA hl.1 (M_FHL_copyInts_32_8 l hi (FHL_copyLongs_31_7 (FHL_copyLongs_30_6 (FHL_copyInts_29_5 (FHL_copyInts_28_4 (FHL_copyInts_27_3 (sI S 2 0 (S.1 26 0)))))))) (cw_FHL_copyInts_32_8 (Nat.le_of_ble_eq_true rfl) (Nat.le_of_ble_eq_true rfl) (Nat.zero_le _) (Nat.zero_le _)) wn_173 wm_174 rfl (Nat.le_of_ble_eq_true rfl) dAC_copyFrom_71 (kV (fun H locs hw => ?_))
  refine lv_aload_n hx hb dAC_copyFrom_74 rfl (lv_at hl 1 rfl) ?_
  refine V_get B hw (v := .ref (ad 33)) (by decide) rfl rfl hin_AC 7 (by decide) rfl wm_10 rfl dAC_copyFrom_75 ?_
  refine lv_aload_n hx hb dAC_copyFrom_78 rfl (lv_at hl 0 rfl) ?_
  refine V_get B hw (v := .ref (ad 9)) (by decide) rfl rfl hin_AC 7 (by decide) rfl wm_10 rfl dAC_copyFrom_79 ?_
  refine V_callSN (rest := []) B hi hw hA hl.1 (M_FHL_copyInts_33_9 l hi (FHL_copyInts_32_8 (FHL_copyLongs_31_7 (FHL_copyLongs_30_6 (FHL_copyInts_29_5 (FHL_copyInts_28_4 (FHL_copyInts_27_3 (sI S 2 0 (S.1 26 0))))))))) (cw_FHL_copyInts_33_9 (Nat.le_of_ble_eq_true rfl) (Nat.le_of_ble_eq_true rfl) (Nat.zero_le _) (Nat.zero_le _)) wn_173 wm_174 rfl (Nat.le_of_ble_eq_true rfl) dAC_copyFrom_82 (kV (fun H locs hw => ?_))
  exact V_vret B hr hlk hw (pV_of hF) dAC_copyFrom_85
theorem cw_FHL_copyInts_35_11 {R : Room} {cells slots : Nat} (h1 : 2 ≤ R.frames) (h2 : 81 ≤ R.locals) (h3 : cells ≤ R.cells) (h4 : slots ≤ R.slots) : Cw R cells slots yHL_copyInts bHL_copyInts 2 none ({ frames := 1, cells := 0, slots := 0, locals := 60 } : Room) 2 := ⟨wm_402, wm_353, by decide +kernel, ⟨rfl, rfl, h1, h2⟩, h3, h4⟩
set_option maxHeartbeats 4000000 in
set_option maxRecDepth 100000 in
theorem M_FHL_copyInts_35_11 (l : Launch) {ad : Nat → Nat} {cI cL : ClassId} {dC : Nat → ClassId} {dI : Nat → Nat → Nat} (hi : adI ad) (S : hS)  : Mt l ad cI cL dC dI yHL_copyInts bHL_copyInts 2 none ({ frames := 1, cells := 0, slots := 0, locals := 60 } : Room) [.ref (ad 35), .ref (ad 11)] S (pV (FHL_copyInts_35_11 S)) := by
  refine Mt_of (own := RHL) hi (by decide) rfl (Nat.le_of_ble_eq_true rfl) ?_
  intro p e s m args below meth c ls B hr hlk hw hl
  obtain ⟨hx, hb, -, hown, hts, -, -⟩ := id B
  have hA : ∀ q, AA ad s.heap.size q → AA ad s.heap.size q := fun _ h => h
  have hl : lv_has ls 2 [(0, .ref (ad 35)), (1, .ref (ad 11))] := hl
  have hF := FHL_copyInts_35_11_e S 
  refine lv_aload_n hx hb dHL_copyInts_0 rfl (lv_at hl 0 rfl) ?_
  refine lv_iconst (v := 0) hx hb dHL_copyInts_1 (by decide) ?_
  refine lv_aload_n hx hb dHL_copyInts_2 rfl (lv_at hl 1 rfl) ?_
  refine lv_iconst (v := 0) hx hb dHL_copyInts_3 (by decide) ?_
  refine lv_aload_n hx hb dHL_copyInts_4 rfl (lv_at hl 0 rfl) ?_
  refine V_ialen (v := 40) B hw (by decide) rfl (by decide) dHL_copyInts_5 ?_
  refine lv_aload_n hx hb dHL_copyInts_6 rfl (lv_at hl 1 rfl) ?_
  refine V_ialen (v := 40) B hw (by decide) rfl (by decide) dHL_copyInts_7 ?_
  refine va_mmin hx hb (B.2.2.1.trans hl.1.symm) hown (hts _ wm_168) (hts _ wm_125) (hts _ wm_85) (hts _ wm_126) (Nat.le_of_ble_eq_true rfl) (Nat.le_of_ble_eq_true rfl) (Nat.zero_le _) (Nat.zero_le _) dHL_copyInts_8 ?_
  refine V_acI (n0 := 40) B hw hl.1 wm_169 wm_170 wm_171 wm_172 (by decide) (by decide) rfl rfl (by decide) (by decide) (Nat.le_of_ble_eq_true rfl) (Nat.le_of_ble_eq_true rfl) dHL_copyInts_11 (fun H locs hw => ?_)
  exact V_vret B hr hlk hw (pV_of hF) dHL_copyInts_14
theorem cw_FHL_copyInts_36_12 {R : Room} {cells slots : Nat} (h1 : 2 ≤ R.frames) (h2 : 81 ≤ R.locals) (h3 : cells ≤ R.cells) (h4 : slots ≤ R.slots) : Cw R cells slots yHL_copyInts bHL_copyInts 2 none ({ frames := 1, cells := 0, slots := 0, locals := 60 } : Room) 2 := ⟨wm_402, wm_353, by decide +kernel, ⟨rfl, rfl, h1, h2⟩, h3, h4⟩
set_option maxHeartbeats 4000000 in
set_option maxRecDepth 100000 in
theorem M_FHL_copyInts_36_12 (l : Launch) {ad : Nat → Nat} {cI cL : ClassId} {dC : Nat → ClassId} {dI : Nat → Nat → Nat} (hi : adI ad) (S : hS)  : Mt l ad cI cL dC dI yHL_copyInts bHL_copyInts 2 none ({ frames := 1, cells := 0, slots := 0, locals := 60 } : Room) [.ref (ad 36), .ref (ad 12)] S (pV (FHL_copyInts_36_12 S)) := by
  refine Mt_of (own := RHL) hi (by decide) rfl (Nat.le_of_ble_eq_true rfl) ?_
  intro p e s m args below meth c ls B hr hlk hw hl
  obtain ⟨hx, hb, -, hown, hts, -, -⟩ := id B
  have hA : ∀ q, AA ad s.heap.size q → AA ad s.heap.size q := fun _ h => h
  have hl : lv_has ls 2 [(0, .ref (ad 36)), (1, .ref (ad 12))] := hl
  have hF := FHL_copyInts_36_12_e S 
  refine lv_aload_n hx hb dHL_copyInts_0 rfl (lv_at hl 0 rfl) ?_
  refine lv_iconst (v := 0) hx hb dHL_copyInts_1 (by decide) ?_
  refine lv_aload_n hx hb dHL_copyInts_2 rfl (lv_at hl 1 rfl) ?_
  refine lv_iconst (v := 0) hx hb dHL_copyInts_3 (by decide) ?_
  refine lv_aload_n hx hb dHL_copyInts_4 rfl (lv_at hl 0 rfl) ?_
  refine V_ialen (v := 40) B hw (by decide) rfl (by decide) dHL_copyInts_5 ?_
  refine lv_aload_n hx hb dHL_copyInts_6 rfl (lv_at hl 1 rfl) ?_
  refine V_ialen (v := 40) B hw (by decide) rfl (by decide) dHL_copyInts_7 ?_
  refine va_mmin hx hb (B.2.2.1.trans hl.1.symm) hown (hts _ wm_168) (hts _ wm_125) (hts _ wm_85) (hts _ wm_126) (Nat.le_of_ble_eq_true rfl) (Nat.le_of_ble_eq_true rfl) (Nat.zero_le _) (Nat.zero_le _) dHL_copyInts_8 ?_
  refine V_acI (n0 := 40) B hw hl.1 wm_169 wm_170 wm_171 wm_172 (by decide) (by decide) rfl rfl (by decide) (by decide) (Nat.le_of_ble_eq_true rfl) (Nat.le_of_ble_eq_true rfl) dHL_copyInts_11 (fun H locs hw => ?_)
  exact V_vret B hr hlk hw (pV_of hF) dHL_copyInts_14
theorem cw_FHL_copyInts_37_13 {R : Room} {cells slots : Nat} (h1 : 2 ≤ R.frames) (h2 : 81 ≤ R.locals) (h3 : cells ≤ R.cells) (h4 : slots ≤ R.slots) : Cw R cells slots yHL_copyInts bHL_copyInts 2 none ({ frames := 1, cells := 0, slots := 0, locals := 60 } : Room) 2 := ⟨wm_402, wm_353, by decide +kernel, ⟨rfl, rfl, h1, h2⟩, h3, h4⟩
set_option maxHeartbeats 4000000 in
set_option maxRecDepth 100000 in
theorem M_FHL_copyInts_37_13 (l : Launch) {ad : Nat → Nat} {cI cL : ClassId} {dC : Nat → ClassId} {dI : Nat → Nat → Nat} (hi : adI ad) (S : hS)  : Mt l ad cI cL dC dI yHL_copyInts bHL_copyInts 2 none ({ frames := 1, cells := 0, slots := 0, locals := 60 } : Room) [.ref (ad 37), .ref (ad 13)] S (pV (FHL_copyInts_37_13 S)) := by
  refine Mt_of (own := RHL) hi (by decide) rfl (Nat.le_of_ble_eq_true rfl) ?_
  intro p e s m args below meth c ls B hr hlk hw hl
  obtain ⟨hx, hb, -, hown, hts, -, -⟩ := id B
  have hA : ∀ q, AA ad s.heap.size q → AA ad s.heap.size q := fun _ h => h
  have hl : lv_has ls 2 [(0, .ref (ad 37)), (1, .ref (ad 13))] := hl
  have hF := FHL_copyInts_37_13_e S 
  refine lv_aload_n hx hb dHL_copyInts_0 rfl (lv_at hl 0 rfl) ?_
  refine lv_iconst (v := 0) hx hb dHL_copyInts_1 (by decide) ?_
  refine lv_aload_n hx hb dHL_copyInts_2 rfl (lv_at hl 1 rfl) ?_
  refine lv_iconst (v := 0) hx hb dHL_copyInts_3 (by decide) ?_
  refine lv_aload_n hx hb dHL_copyInts_4 rfl (lv_at hl 0 rfl) ?_
  refine V_ialen (v := 40) B hw (by decide) rfl (by decide) dHL_copyInts_5 ?_
  refine lv_aload_n hx hb dHL_copyInts_6 rfl (lv_at hl 1 rfl) ?_
  refine V_ialen (v := 40) B hw (by decide) rfl (by decide) dHL_copyInts_7 ?_
  refine va_mmin hx hb (B.2.2.1.trans hl.1.symm) hown (hts _ wm_168) (hts _ wm_125) (hts _ wm_85) (hts _ wm_126) (Nat.le_of_ble_eq_true rfl) (Nat.le_of_ble_eq_true rfl) (Nat.zero_le _) (Nat.zero_le _) dHL_copyInts_8 ?_
  refine V_acI (n0 := 40) B hw hl.1 wm_169 wm_170 wm_171 wm_172 (by decide) (by decide) rfl rfl (by decide) (by decide) (Nat.le_of_ble_eq_true rfl) (Nat.le_of_ble_eq_true rfl) dHL_copyInts_11 (fun H locs hw => ?_)
  exact V_vret B hr hlk hw (pV_of hF) dHL_copyInts_14
theorem cw_FHL_copyInts_38_14 {R : Room} {cells slots : Nat} (h1 : 2 ≤ R.frames) (h2 : 81 ≤ R.locals) (h3 : cells ≤ R.cells) (h4 : slots ≤ R.slots) : Cw R cells slots yHL_copyInts bHL_copyInts 2 none ({ frames := 1, cells := 0, slots := 0, locals := 60 } : Room) 2 := ⟨wm_402, wm_353, by decide +kernel, ⟨rfl, rfl, h1, h2⟩, h3, h4⟩
set_option maxHeartbeats 4000000 in
set_option maxRecDepth 100000 in
theorem M_FHL_copyInts_38_14 (l : Launch) {ad : Nat → Nat} {cI cL : ClassId} {dC : Nat → ClassId} {dI : Nat → Nat → Nat} (hi : adI ad) (S : hS)  : Mt l ad cI cL dC dI yHL_copyInts bHL_copyInts 2 none ({ frames := 1, cells := 0, slots := 0, locals := 60 } : Room) [.ref (ad 38), .ref (ad 14)] S (pV (FHL_copyInts_38_14 S)) := by
  refine Mt_of (own := RHL) hi (by decide) rfl (Nat.le_of_ble_eq_true rfl) ?_
  intro p e s m args below meth c ls B hr hlk hw hl
  obtain ⟨hx, hb, -, hown, hts, -, -⟩ := id B
  have hA : ∀ q, AA ad s.heap.size q → AA ad s.heap.size q := fun _ h => h
  have hl : lv_has ls 2 [(0, .ref (ad 38)), (1, .ref (ad 14))] := hl
  have hF := FHL_copyInts_38_14_e S 
  refine lv_aload_n hx hb dHL_copyInts_0 rfl (lv_at hl 0 rfl) ?_
  refine lv_iconst (v := 0) hx hb dHL_copyInts_1 (by decide) ?_
  refine lv_aload_n hx hb dHL_copyInts_2 rfl (lv_at hl 1 rfl) ?_
  refine lv_iconst (v := 0) hx hb dHL_copyInts_3 (by decide) ?_
  refine lv_aload_n hx hb dHL_copyInts_4 rfl (lv_at hl 0 rfl) ?_
  refine V_ialen (v := 40) B hw (by decide) rfl (by decide) dHL_copyInts_5 ?_
  refine lv_aload_n hx hb dHL_copyInts_6 rfl (lv_at hl 1 rfl) ?_
  refine V_ialen (v := 40) B hw (by decide) rfl (by decide) dHL_copyInts_7 ?_
  refine va_mmin hx hb (B.2.2.1.trans hl.1.symm) hown (hts _ wm_168) (hts _ wm_125) (hts _ wm_85) (hts _ wm_126) (Nat.le_of_ble_eq_true rfl) (Nat.le_of_ble_eq_true rfl) (Nat.zero_le _) (Nat.zero_le _) dHL_copyInts_8 ?_
  refine V_acI (n0 := 40) B hw hl.1 wm_169 wm_170 wm_171 wm_172 (by decide) (by decide) rfl rfl (by decide) (by decide) (Nat.le_of_ble_eq_true rfl) (Nat.le_of_ble_eq_true rfl) dHL_copyInts_11 (fun H locs hw => ?_)
  exact V_vret B hr hlk hw (pV_of hF) dHL_copyInts_14
theorem cw_FHL_copyInts_39_15 {R : Room} {cells slots : Nat} (h1 : 2 ≤ R.frames) (h2 : 81 ≤ R.locals) (h3 : cells ≤ R.cells) (h4 : slots ≤ R.slots) : Cw R cells slots yHL_copyInts bHL_copyInts 2 none ({ frames := 1, cells := 0, slots := 0, locals := 60 } : Room) 2 := ⟨wm_402, wm_353, by decide +kernel, ⟨rfl, rfl, h1, h2⟩, h3, h4⟩
set_option maxHeartbeats 4000000 in
set_option maxRecDepth 100000 in
theorem M_FHL_copyInts_39_15 (l : Launch) {ad : Nat → Nat} {cI cL : ClassId} {dC : Nat → ClassId} {dI : Nat → Nat → Nat} (hi : adI ad) (S : hS)  : Mt l ad cI cL dC dI yHL_copyInts bHL_copyInts 2 none ({ frames := 1, cells := 0, slots := 0, locals := 60 } : Room) [.ref (ad 39), .ref (ad 15)] S (pV (FHL_copyInts_39_15 S)) := by
  refine Mt_of (own := RHL) hi (by decide) rfl (Nat.le_of_ble_eq_true rfl) ?_
  intro p e s m args below meth c ls B hr hlk hw hl
  obtain ⟨hx, hb, -, hown, hts, -, -⟩ := id B
  have hA : ∀ q, AA ad s.heap.size q → AA ad s.heap.size q := fun _ h => h
  have hl : lv_has ls 2 [(0, .ref (ad 39)), (1, .ref (ad 15))] := hl
  have hF := FHL_copyInts_39_15_e S 
  refine lv_aload_n hx hb dHL_copyInts_0 rfl (lv_at hl 0 rfl) ?_
  refine lv_iconst (v := 0) hx hb dHL_copyInts_1 (by decide) ?_
  refine lv_aload_n hx hb dHL_copyInts_2 rfl (lv_at hl 1 rfl) ?_
  refine lv_iconst (v := 0) hx hb dHL_copyInts_3 (by decide) ?_
  refine lv_aload_n hx hb dHL_copyInts_4 rfl (lv_at hl 0 rfl) ?_
  refine V_ialen (v := 240) B hw (by decide) rfl (by decide) dHL_copyInts_5 ?_
  refine lv_aload_n hx hb dHL_copyInts_6 rfl (lv_at hl 1 rfl) ?_
  refine V_ialen (v := 240) B hw (by decide) rfl (by decide) dHL_copyInts_7 ?_
  refine va_mmin hx hb (B.2.2.1.trans hl.1.symm) hown (hts _ wm_168) (hts _ wm_125) (hts _ wm_85) (hts _ wm_126) (Nat.le_of_ble_eq_true rfl) (Nat.le_of_ble_eq_true rfl) (Nat.zero_le _) (Nat.zero_le _) dHL_copyInts_8 ?_
  refine V_acI (n0 := 240) B hw hl.1 wm_169 wm_170 wm_171 wm_172 (by decide) (by decide) rfl rfl (by decide) (by decide) (Nat.le_of_ble_eq_true rfl) (Nat.le_of_ble_eq_true rfl) dHL_copyInts_11 (fun H locs hw => ?_)
  exact V_vret B hr hlk hw (pV_of hF) dHL_copyInts_14
theorem cw_FHL_copyLongs_40_16 {R : Room} {cells slots : Nat} (h1 : 2 ≤ R.frames) (h2 : 81 ≤ R.locals) (h3 : cells ≤ R.cells) (h4 : slots ≤ R.slots) : Cw R cells slots yHL_copyLongs bHL_copyLongs 2 none ({ frames := 1, cells := 0, slots := 0, locals := 60 } : Room) 2 := ⟨wm_403, wm_353, by decide +kernel, ⟨rfl, rfl, h1, h2⟩, h3, h4⟩
set_option maxHeartbeats 4000000 in
set_option maxRecDepth 100000 in
theorem M_FHL_copyLongs_40_16 (l : Launch) {ad : Nat → Nat} {cI cL : ClassId} {dC : Nat → ClassId} {dI : Nat → Nat → Nat} (hi : adI ad) (S : hS)  : Mt l ad cI cL dC dI yHL_copyLongs bHL_copyLongs 2 none ({ frames := 1, cells := 0, slots := 0, locals := 60 } : Room) [.ref (ad 40), .ref (ad 16)] S (pV (FHL_copyLongs_40_16 S)) := by
  refine Mt_of (own := RHL) hi (by decide) rfl (Nat.le_of_ble_eq_true rfl) ?_
  intro p e s m args below meth c ls B hr hlk hw hl
  obtain ⟨hx, hb, -, hown, hts, -, -⟩ := id B
  have hA : ∀ q, AA ad s.heap.size q → AA ad s.heap.size q := fun _ h => h
  have hl : lv_has ls 2 [(0, .ref (ad 40)), (1, .ref (ad 16))] := hl
  have hF := FHL_copyLongs_40_16_e S 
  refine lv_aload_n hx hb dHL_copyLongs_0 rfl (lv_at hl 0 rfl) ?_
  refine lv_iconst (v := 0) hx hb dHL_copyLongs_1 (by decide) ?_
  refine lv_aload_n hx hb dHL_copyLongs_2 rfl (lv_at hl 1 rfl) ?_
  refine lv_iconst (v := 0) hx hb dHL_copyLongs_3 (by decide) ?_
  refine lv_aload_n hx hb dHL_copyLongs_4 rfl (lv_at hl 0 rfl) ?_
  refine V_lalen (v := 240) B hw (by decide) rfl (by decide) dHL_copyLongs_5 ?_
  refine lv_aload_n hx hb dHL_copyLongs_6 rfl (lv_at hl 1 rfl) ?_
  refine V_lalen (v := 240) B hw (by decide) rfl (by decide) dHL_copyLongs_7 ?_
  refine va_mmin hx hb (B.2.2.1.trans hl.1.symm) hown (hts _ wm_168) (hts _ wm_125) (hts _ wm_85) (hts _ wm_126) (Nat.le_of_ble_eq_true rfl) (Nat.le_of_ble_eq_true rfl) (Nat.zero_le _) (Nat.zero_le _) dHL_copyLongs_8 ?_
  refine V_acL (n0 := 240) B hw hl.1 wm_169 wm_170 wm_171 wm_172 (by decide) (by decide) rfl rfl (by decide) (by decide) (Nat.le_of_ble_eq_true rfl) (Nat.le_of_ble_eq_true rfl) dHL_copyLongs_11 (fun H locs hw => ?_)
  exact V_vret B hr hlk hw (pV_of hF) dHL_copyLongs_14
theorem cw_FHL_copyLongs_41_17 {R : Room} {cells slots : Nat} (h1 : 2 ≤ R.frames) (h2 : 81 ≤ R.locals) (h3 : cells ≤ R.cells) (h4 : slots ≤ R.slots) : Cw R cells slots yHL_copyLongs bHL_copyLongs 2 none ({ frames := 1, cells := 0, slots := 0, locals := 60 } : Room) 2 := ⟨wm_403, wm_353, by decide +kernel, ⟨rfl, rfl, h1, h2⟩, h3, h4⟩
set_option maxHeartbeats 4000000 in
set_option maxRecDepth 100000 in
theorem M_FHL_copyLongs_41_17 (l : Launch) {ad : Nat → Nat} {cI cL : ClassId} {dC : Nat → ClassId} {dI : Nat → Nat → Nat} (hi : adI ad) (S : hS)  : Mt l ad cI cL dC dI yHL_copyLongs bHL_copyLongs 2 none ({ frames := 1, cells := 0, slots := 0, locals := 60 } : Room) [.ref (ad 41), .ref (ad 17)] S (pV (FHL_copyLongs_41_17 S)) := by
  refine Mt_of (own := RHL) hi (by decide) rfl (Nat.le_of_ble_eq_true rfl) ?_
  intro p e s m args below meth c ls B hr hlk hw hl
  obtain ⟨hx, hb, -, hown, hts, -, -⟩ := id B
  have hA : ∀ q, AA ad s.heap.size q → AA ad s.heap.size q := fun _ h => h
  have hl : lv_has ls 2 [(0, .ref (ad 41)), (1, .ref (ad 17))] := hl
  have hF := FHL_copyLongs_41_17_e S 
  refine lv_aload_n hx hb dHL_copyLongs_0 rfl (lv_at hl 0 rfl) ?_
  refine lv_iconst (v := 0) hx hb dHL_copyLongs_1 (by decide) ?_
  refine lv_aload_n hx hb dHL_copyLongs_2 rfl (lv_at hl 1 rfl) ?_
  refine lv_iconst (v := 0) hx hb dHL_copyLongs_3 (by decide) ?_
  refine lv_aload_n hx hb dHL_copyLongs_4 rfl (lv_at hl 0 rfl) ?_
  refine V_lalen (v := 240) B hw (by decide) rfl (by decide) dHL_copyLongs_5 ?_
  refine lv_aload_n hx hb dHL_copyLongs_6 rfl (lv_at hl 1 rfl) ?_
  refine V_lalen (v := 240) B hw (by decide) rfl (by decide) dHL_copyLongs_7 ?_
  refine va_mmin hx hb (B.2.2.1.trans hl.1.symm) hown (hts _ wm_168) (hts _ wm_125) (hts _ wm_85) (hts _ wm_126) (Nat.le_of_ble_eq_true rfl) (Nat.le_of_ble_eq_true rfl) (Nat.zero_le _) (Nat.zero_le _) dHL_copyLongs_8 ?_
  refine V_acL (n0 := 240) B hw hl.1 wm_169 wm_170 wm_171 wm_172 (by decide) (by decide) rfl rfl (by decide) (by decide) (Nat.le_of_ble_eq_true rfl) (Nat.le_of_ble_eq_true rfl) dHL_copyLongs_11 (fun H locs hw => ?_)
  exact V_vret B hr hlk hw (pV_of hF) dHL_copyLongs_14
theorem cw_FHL_copyInts_42_18 {R : Room} {cells slots : Nat} (h1 : 2 ≤ R.frames) (h2 : 81 ≤ R.locals) (h3 : cells ≤ R.cells) (h4 : slots ≤ R.slots) : Cw R cells slots yHL_copyInts bHL_copyInts 2 none ({ frames := 1, cells := 0, slots := 0, locals := 60 } : Room) 2 := ⟨wm_402, wm_353, by decide +kernel, ⟨rfl, rfl, h1, h2⟩, h3, h4⟩
set_option maxHeartbeats 4000000 in
set_option maxRecDepth 100000 in
theorem M_FHL_copyInts_42_18 (l : Launch) {ad : Nat → Nat} {cI cL : ClassId} {dC : Nat → ClassId} {dI : Nat → Nat → Nat} (hi : adI ad) (S : hS)  : Mt l ad cI cL dC dI yHL_copyInts bHL_copyInts 2 none ({ frames := 1, cells := 0, slots := 0, locals := 60 } : Room) [.ref (ad 42), .ref (ad 18)] S (pV (FHL_copyInts_42_18 S)) := by
  refine Mt_of (own := RHL) hi (by decide) rfl (Nat.le_of_ble_eq_true rfl) ?_
  intro p e s m args below meth c ls B hr hlk hw hl
  obtain ⟨hx, hb, -, hown, hts, -, -⟩ := id B
  have hA : ∀ q, AA ad s.heap.size q → AA ad s.heap.size q := fun _ h => h
  have hl : lv_has ls 2 [(0, .ref (ad 42)), (1, .ref (ad 18))] := hl
  have hF := FHL_copyInts_42_18_e S 
  refine lv_aload_n hx hb dHL_copyInts_0 rfl (lv_at hl 0 rfl) ?_
  refine lv_iconst (v := 0) hx hb dHL_copyInts_1 (by decide) ?_
  refine lv_aload_n hx hb dHL_copyInts_2 rfl (lv_at hl 1 rfl) ?_
  refine lv_iconst (v := 0) hx hb dHL_copyInts_3 (by decide) ?_
  refine lv_aload_n hx hb dHL_copyInts_4 rfl (lv_at hl 0 rfl) ?_
  refine V_ialen (v := 280) B hw (by decide) rfl (by decide) dHL_copyInts_5 ?_
  refine lv_aload_n hx hb dHL_copyInts_6 rfl (lv_at hl 1 rfl) ?_
  refine V_ialen (v := 280) B hw (by decide) rfl (by decide) dHL_copyInts_7 ?_
  refine va_mmin hx hb (B.2.2.1.trans hl.1.symm) hown (hts _ wm_168) (hts _ wm_125) (hts _ wm_85) (hts _ wm_126) (Nat.le_of_ble_eq_true rfl) (Nat.le_of_ble_eq_true rfl) (Nat.zero_le _) (Nat.zero_le _) dHL_copyInts_8 ?_
  refine V_acI (n0 := 280) B hw hl.1 wm_169 wm_170 wm_171 wm_172 (by decide) (by decide) rfl rfl (by decide) (by decide) (Nat.le_of_ble_eq_true rfl) (Nat.le_of_ble_eq_true rfl) dHL_copyInts_11 (fun H locs hw => ?_)
  exact V_vret B hr hlk hw (pV_of hF) dHL_copyInts_14
theorem cw_FHL_copyInts_43_19 {R : Room} {cells slots : Nat} (h1 : 2 ≤ R.frames) (h2 : 81 ≤ R.locals) (h3 : cells ≤ R.cells) (h4 : slots ≤ R.slots) : Cw R cells slots yHL_copyInts bHL_copyInts 2 none ({ frames := 1, cells := 0, slots := 0, locals := 60 } : Room) 2 := ⟨wm_402, wm_353, by decide +kernel, ⟨rfl, rfl, h1, h2⟩, h3, h4⟩
set_option maxHeartbeats 4000000 in
set_option maxRecDepth 100000 in
theorem M_FHL_copyInts_43_19 (l : Launch) {ad : Nat → Nat} {cI cL : ClassId} {dC : Nat → ClassId} {dI : Nat → Nat → Nat} (hi : adI ad) (S : hS)  : Mt l ad cI cL dC dI yHL_copyInts bHL_copyInts 2 none ({ frames := 1, cells := 0, slots := 0, locals := 60 } : Room) [.ref (ad 43), .ref (ad 19)] S (pV (FHL_copyInts_43_19 S)) := by
  refine Mt_of (own := RHL) hi (by decide) rfl (Nat.le_of_ble_eq_true rfl) ?_
  intro p e s m args below meth c ls B hr hlk hw hl
  obtain ⟨hx, hb, -, hown, hts, -, -⟩ := id B
  have hA : ∀ q, AA ad s.heap.size q → AA ad s.heap.size q := fun _ h => h
  have hl : lv_has ls 2 [(0, .ref (ad 43)), (1, .ref (ad 19))] := hl
  have hF := FHL_copyInts_43_19_e S 
  refine lv_aload_n hx hb dHL_copyInts_0 rfl (lv_at hl 0 rfl) ?_
  refine lv_iconst (v := 0) hx hb dHL_copyInts_1 (by decide) ?_
  refine lv_aload_n hx hb dHL_copyInts_2 rfl (lv_at hl 1 rfl) ?_
  refine lv_iconst (v := 0) hx hb dHL_copyInts_3 (by decide) ?_
  refine lv_aload_n hx hb dHL_copyInts_4 rfl (lv_at hl 0 rfl) ?_
  refine V_ialen (v := 280) B hw (by decide) rfl (by decide) dHL_copyInts_5 ?_
  refine lv_aload_n hx hb dHL_copyInts_6 rfl (lv_at hl 1 rfl) ?_
  refine V_ialen (v := 280) B hw (by decide) rfl (by decide) dHL_copyInts_7 ?_
  refine va_mmin hx hb (B.2.2.1.trans hl.1.symm) hown (hts _ wm_168) (hts _ wm_125) (hts _ wm_85) (hts _ wm_126) (Nat.le_of_ble_eq_true rfl) (Nat.le_of_ble_eq_true rfl) (Nat.zero_le _) (Nat.zero_le _) dHL_copyInts_8 ?_
  refine V_acI (n0 := 280) B hw hl.1 wm_169 wm_170 wm_171 wm_172 (by decide) (by decide) rfl rfl (by decide) (by decide) (Nat.le_of_ble_eq_true rfl) (Nat.le_of_ble_eq_true rfl) dHL_copyInts_11 (fun H locs hw => ?_)
  exact V_vret B hr hlk hw (pV_of hF) dHL_copyInts_14
theorem cw_FJO_copyFrom_10_34 {R : Room} {cells slots : Nat} (h1 : 3 ≤ R.frames) (h2 : 102 ≤ R.locals) (h3 : cells ≤ R.cells) (h4 : slots ≤ R.slots) : Cw R cells slots yJO_copyFrom bJO_copyFrom 2 none ({ frames := 2, cells := 0, slots := 0, locals := 81 } : Room) 1 := ⟨wm_405, wm_358, by decide +kernel, ⟨rfl, rfl, h1, h2⟩, h3, h4⟩
set_option maxHeartbeats 4000000 in
set_option maxRecDepth 100000 in
theorem M_FJO_copyFrom_10_34 (l : Launch) {ad : Nat → Nat} {cI cL : ClassId} {dC : Nat → ClassId} {dI : Nat → Nat → Nat} (hi : adI ad) (S : hS)  : Mt l ad cI cL dC dI yJO_copyFrom bJO_copyFrom 2 none ({ frames := 2, cells := 0, slots := 0, locals := 81 } : Room) [.ref (ad 10), .ref (ad 34)] S (pV (FJO_copyFrom_10_34 S)) := by
  refine Mt_of (own := RJO) hi (by decide) rfl (Nat.le_of_ble_eq_true rfl) ?_
  intro p e s m args below meth c ls B hr hlk hw hl
  obtain ⟨hx, hb, -, hown, hts, -, -⟩ := id B
  have hA : ∀ q, AA ad s.heap.size q → AA ad s.heap.size q := fun _ h => h
  have hl : lv_has ls 2 [(0, .ref (ad 10)), (1, .ref (ad 34))] := hl
  have hF := FJO_copyFrom_10_34_e S 
  refine lv_aload_n hx hb dJO_copyFrom_0 rfl (lv_at hl 0 rfl) ?_
  refine lv_aload_n hx hb dJO_copyFrom_1 rfl (lv_at hl 1 rfl) ?_
  refine V_get B hw (v := .int (S.1 34 0)) (by decide) rfl rfl hin_JO 0 (by decide) rfl wm_23 rfl dJO_copyFrom_2 ?_
  refine V_putI (ty := .int) B hw (by decide) rfl rfl hin_JO tyJO_ok nmJO 0 (by decide) rfl wm_23 rfl (by decide +kernel) rfl rfl dJO_copyFrom_5 (fun H locs hw => ?_)
  refine lv_aload_n hx hb dJO_copyFrom_8 rfl (lv_at hl 1 rfl) ?_
  refine V_get B hw (v := .ref (ad 35)) (by decide) rfl rfl hin_JO 1 (by decide) rfl wm_27 rfl dJO_copyFrom_9 ?_
  refine lv_aload_n hx hb dJO_copyFrom_12 rfl (lv_at hl 0 rfl) ?_
  refine V_get B hw (v := .ref (ad 11)) (by decide) rfl rfl hin_JO 1 (by decide) rfl wm_27 rfl dJO_copyFrom_13 ?_
  refine V_callSN (rest := []) B hi hw hA hl.1 (M_FHL_copyInts_35_11 l hi (sI S 10 0 (S.1 34 0))) (cw_FHL_copyInts_35_11 (Nat.le_of_ble_eq_true rfl) (Nat.le_of_ble_eq_true rfl) (Nat.zero_le _) (Nat.zero_le _)) wn_180 wm_174 rfl (Nat.le_of_ble_eq_true rfl) dJO_copyFrom_16 (kV (fun H locs hw => ?_))
  refine lv_aload_n hx hb dJO_copyFrom_19 rfl (lv_at hl 1 rfl) ?_
  refine V_get B hw (v := .ref (ad 36)) (by decide) rfl rfl hin_JO 2 (by decide) rfl wm_28 rfl dJO_copyFrom_20 ?_
  refine lv_aload_n hx hb dJO_copyFrom_23 rfl (lv_at hl 0 rfl) ?_
  refine V_get B hw (v := .ref (ad 12)) (by decide) rfl rfl hin_JO 2 (by decide) rfl wm_28 rfl dJO_copyFrom_24 ?_
  refine V_callSN (rest := []) B hi hw hA hl.1 (M_FHL_copyInts_36_12 l hi (FHL_copyInts_35_11 (sI S 10 0 (S.1 34 0)))) (cw_FHL_copyInts_36_12 (Nat.le_of_ble_eq_true rfl) (Nat.le_of_ble_eq_true rfl) (Nat.zero_le _) (Nat.zero_le _)) wn_180 wm_174 rfl (Nat.le_of_ble_eq_true rfl) dJO_copyFrom_27 (kV (fun H locs hw => ?_))
  refine lv_aload_n hx hb dJO_copyFrom_30 rfl (lv_at hl 1 rfl) ?_
  refine V_get B hw (v := .ref (ad 37)) (by decide) rfl rfl hin_JO 3 (by decide) rfl wm_29 rfl dJO_copyFrom_31 ?_
  refine lv_aload_n hx hb dJO_copyFrom_34 rfl (lv_at hl 0 rfl) ?_
  refine V_get B hw (v := .ref (ad 13)) (by decide) rfl rfl hin_JO 3 (by decide) rfl wm_29 rfl dJO_copyFrom_35 ?_
  refine V_callSN (rest := []) B hi hw hA hl.1 (M_FHL_copyInts_37_13 l hi (FHL_copyInts_36_12 (FHL_copyInts_35_11 (sI S 10 0 (S.1 34 0))))) (cw_FHL_copyInts_37_13 (Nat.le_of_ble_eq_true rfl) (Nat.le_of_ble_eq_true rfl) (Nat.zero_le _) (Nat.zero_le _)) wn_180 wm_174 rfl (Nat.le_of_ble_eq_true rfl) dJO_copyFrom_38 (kV (fun H locs hw => ?_))
  refine lv_aload_n hx hb dJO_copyFrom_41 rfl (lv_at hl 1 rfl) ?_
  refine V_get B hw (v := .ref (ad 38)) (by decide) rfl rfl hin_JO 4 (by decide) rfl wm_30 rfl dJO_copyFrom_42 ?_
  refine lv_aload_n hx hb dJO_copyFrom_45 rfl (lv_at hl 0 rfl) ?_
  refine V_get B hw (v := .ref (ad 14)) (by decide) rfl rfl hin_JO 4 (by decide) rfl wm_30 rfl dJO_copyFrom_46 ?_
  refine V_callSN (rest := []) B hi hw hA hl.1 (M_FHL_copyInts_38_14 l hi (FHL_copyInts_37_13 (FHL_copyInts_36_12 (FHL_copyInts_35_11 (sI S 10 0 (S.1 34 0)))))) (cw_FHL_copyInts_38_14 (Nat.le_of_ble_eq_true rfl) (Nat.le_of_ble_eq_true rfl) (Nat.zero_le _) (Nat.zero_le _)) wn_180 wm_174 rfl (Nat.le_of_ble_eq_true rfl) dJO_copyFrom_49 (kV (fun H locs hw => ?_))
  refine lv_aload_n hx hb dJO_copyFrom_52 rfl (lv_at hl 1 rfl) ?_
  refine V_get B hw (v := .ref (ad 39)) (by decide) rfl rfl hin_JO 5 (by decide) rfl wm_42 rfl dJO_copyFrom_53 ?_
  refine lv_aload_n hx hb dJO_copyFrom_56 rfl (lv_at hl 0 rfl) ?_
  refine V_get B hw (v := .ref (ad 15)) (by decide) rfl rfl hin_JO 5 (by decide) rfl wm_42 rfl dJO_copyFrom_57 ?_
  refine V_callSN (rest := []) B hi hw hA hl.1 (M_FHL_copyInts_39_15 l hi (FHL_copyInts_38_14 (FHL_copyInts_37_13 (FHL_copyInts_36_12 (FHL_copyInts_35_11 (sI S 10 0 (S.1 34 0))))))) (cw_FHL_copyInts_39_15 (Nat.le_of_ble_eq_true rfl) (Nat.le_of_ble_eq_true rfl) (Nat.zero_le _) (Nat.zero_le _)) wn_180 wm_174 rfl (Nat.le_of_ble_eq_true rfl) dJO_copyFrom_60 (kV (fun H locs hw => ?_))
  refine lv_aload_n hx hb dJO_copyFrom_63 rfl (lv_at hl 1 rfl) ?_
  refine V_get B hw (v := .ref (ad 40)) (by decide) rfl rfl hin_JO 6 (by decide) rfl wm_43 rfl dJO_copyFrom_64 ?_
  refine lv_aload_n hx hb dJO_copyFrom_67 rfl (lv_at hl 0 rfl) ?_
  refine V_get B hw (v := .ref (ad 16)) (by decide) rfl rfl hin_JO 6 (by decide) rfl wm_43 rfl dJO_copyFrom_68 ?_
  refine V_callSN (rest := []) B hi hw hA hl.1 (M_FHL_copyLongs_40_16 l hi (FHL_copyInts_39_15 (FHL_copyInts_38_14 (FHL_copyInts_37_13 (FHL_copyInts_36_12 (FHL_copyInts_35_11 (sI S 10 0 (S.1 34 0)))))))) (cw_FHL_copyLongs_40_16 (Nat.le_of_ble_eq_true rfl) (Nat.le_of_ble_eq_true rfl) (Nat.zero_le _) (Nat.zero_le _)) wn_181 wm_176 rfl (Nat.le_of_ble_eq_true rfl) dJO_copyFrom_71 (kV (fun H locs hw => ?_))
  refine lv_aload_n hx hb dJO_copyFrom_74 rfl (lv_at hl 1 rfl) ?_
  refine V_get B hw (v := .ref (ad 41)) (by decide) rfl rfl hin_JO 7 (by decide) rfl wm_44 rfl dJO_copyFrom_75 ?_
  refine lv_aload_n hx hb dJO_copyFrom_78 rfl (lv_at hl 0 rfl) ?_
  refine V_get B hw (v := .ref (ad 17)) (by decide) rfl rfl hin_JO 7 (by decide) rfl wm_44 rfl dJO_copyFrom_79 ?_
  refine V_callSN (rest := []) B hi hw hA hl.1 (M_FHL_copyLongs_41_17 l hi (FHL_copyLongs_40_16 (FHL_copyInts_39_15 (FHL_copyInts_38_14 (FHL_copyInts_37_13 (FHL_copyInts_36_12 (FHL_copyInts_35_11 (sI S 10 0 (S.1 34 0))))))))) (cw_FHL_copyLongs_41_17 (Nat.le_of_ble_eq_true rfl) (Nat.le_of_ble_eq_true rfl) (Nat.zero_le _) (Nat.zero_le _)) wn_181 wm_176 rfl (Nat.le_of_ble_eq_true rfl) dJO_copyFrom_82 (kV (fun H locs hw => ?_))
  refine lv_aload_n hx hb dJO_copyFrom_85 rfl (lv_at hl 0 rfl) ?_
  refine lv_aload_n hx hb dJO_copyFrom_86 rfl (lv_at hl 1 rfl) ?_
  refine V_get B hw (v := .int ((FHL_copyLongs_41_17 (FHL_copyLongs_40_16 (FHL_copyInts_39_15 (FHL_copyInts_38_14 (FHL_copyInts_37_13 (FHL_copyInts_36_12 (FHL_copyInts_35_11 (sI S 10 0 (S.1 34 0))))))))).1 34 8)) (by decide) rfl rfl hin_JO 8 (by decide) rfl wm_87 rfl dJO_copyFrom_87 ?_
  refine V_putI (ty := .int) B hw (by decide) rfl rfl hin_JO tyJO_ok nmJO 8 (by decide) rfl wm_87 rfl (by decide +kernel) rfl rfl dJO_copyFrom_90 (fun H locs hw => ?_)
  refine lv_aload_n hx hb dJO_copyFrom_93 rfl (lv_at hl 1 rfl) ?_
  refine V_get B hw (v := .ref (ad 42)) (by decide) rfl rfl hin_JO 9 (by decide) rfl wm_88 rfl dJO_copyFrom_94 ?_
  refine lv_aload_n hx hb dJO_copyFrom_97 rfl (lv_at hl 0 rfl) ?_
  refine V_get B hw (v := .ref (ad 18)) (by decide) rfl rfl hin_JO 9 (by decide) rfl wm_88 rfl dJO_copyFrom_98 ?_
  refine V_callSN (rest := []) B hi hw hA hl.1 (M_FHL_copyInts_42_18 l hi (sI (FHL_copyLongs_41_17 (FHL_copyLongs_40_16 (FHL_copyInts_39_15 (FHL_copyInts_38_14 (FHL_copyInts_37_13 (FHL_copyInts_36_12 (FHL_copyInts_35_11 (sI S 10 0 (S.1 34 0))))))))) 10 8 ((FHL_copyLongs_41_17 (FHL_copyLongs_40_16 (FHL_copyInts_39_15 (FHL_copyInts_38_14 (FHL_copyInts_37_13 (FHL_copyInts_36_12 (FHL_copyInts_35_11 (sI S 10 0 (S.1 34 0))))))))).1 34 8))) (cw_FHL_copyInts_42_18 (Nat.le_of_ble_eq_true rfl) (Nat.le_of_ble_eq_true rfl) (Nat.zero_le _) (Nat.zero_le _)) wn_180 wm_174 rfl (Nat.le_of_ble_eq_true rfl) dJO_copyFrom_101 (kV (fun H locs hw => ?_))
  refine lv_aload_n hx hb dJO_copyFrom_104 rfl (lv_at hl 1 rfl) ?_
  refine V_get B hw (v := .ref (ad 43)) (by decide) rfl rfl hin_JO 10 (by decide) rfl wm_89 rfl dJO_copyFrom_105 ?_
  refine lv_aload_n hx hb dJO_copyFrom_108 rfl (lv_at hl 0 rfl) ?_
  refine V_get B hw (v := .ref (ad 19)) (by decide) rfl rfl hin_JO 10 (by decide) rfl wm_89 rfl dJO_copyFrom_109 ?_
  refine V_callSN (rest := []) B hi hw hA hl.1 (M_FHL_copyInts_43_19 l hi (FHL_copyInts_42_18 (sI (FHL_copyLongs_41_17 (FHL_copyLongs_40_16 (FHL_copyInts_39_15 (FHL_copyInts_38_14 (FHL_copyInts_37_13 (FHL_copyInts_36_12 (FHL_copyInts_35_11 (sI S 10 0 (S.1 34 0))))))))) 10 8 ((FHL_copyLongs_41_17 (FHL_copyLongs_40_16 (FHL_copyInts_39_15 (FHL_copyInts_38_14 (FHL_copyInts_37_13 (FHL_copyInts_36_12 (FHL_copyInts_35_11 (sI S 10 0 (S.1 34 0))))))))).1 34 8)))) (cw_FHL_copyInts_43_19 (Nat.le_of_ble_eq_true rfl) (Nat.le_of_ble_eq_true rfl) (Nat.zero_le _) (Nat.zero_le _)) wn_180 wm_174 rfl (Nat.le_of_ble_eq_true rfl) dJO_copyFrom_112 (kV (fun H locs hw => ?_))
  exact V_vret B hr hlk hw (pV_of hF) dJO_copyFrom_115
theorem cw_FHL_copyInts_45_21 {R : Room} {cells slots : Nat} (h1 : 2 ≤ R.frames) (h2 : 81 ≤ R.locals) (h3 : cells ≤ R.cells) (h4 : slots ≤ R.slots) : Cw R cells slots yHL_copyInts bHL_copyInts 2 none ({ frames := 1, cells := 0, slots := 0, locals := 60 } : Room) 2 := ⟨wm_402, wm_353, by decide +kernel, ⟨rfl, rfl, h1, h2⟩, h3, h4⟩
set_option maxHeartbeats 4000000 in
set_option maxRecDepth 100000 in
theorem M_FHL_copyInts_45_21 (l : Launch) {ad : Nat → Nat} {cI cL : ClassId} {dC : Nat → ClassId} {dI : Nat → Nat → Nat} (hi : adI ad) (S : hS)  : Mt l ad cI cL dC dI yHL_copyInts bHL_copyInts 2 none ({ frames := 1, cells := 0, slots := 0, locals := 60 } : Room) [.ref (ad 45), .ref (ad 21)] S (pV (FHL_copyInts_45_21 S)) := by
  refine Mt_of (own := RHL) hi (by decide) rfl (Nat.le_of_ble_eq_true rfl) ?_
  intro p e s m args below meth c ls B hr hlk hw hl
  obtain ⟨hx, hb, -, hown, hts, -, -⟩ := id B
  have hA : ∀ q, AA ad s.heap.size q → AA ad s.heap.size q := fun _ h => h
  have hl : lv_has ls 2 [(0, .ref (ad 45)), (1, .ref (ad 21))] := hl
  have hF := FHL_copyInts_45_21_e S 
  refine lv_aload_n hx hb dHL_copyInts_0 rfl (lv_at hl 0 rfl) ?_
  refine lv_iconst (v := 0) hx hb dHL_copyInts_1 (by decide) ?_
  refine lv_aload_n hx hb dHL_copyInts_2 rfl (lv_at hl 1 rfl) ?_
  refine lv_iconst (v := 0) hx hb dHL_copyInts_3 (by decide) ?_
  refine lv_aload_n hx hb dHL_copyInts_4 rfl (lv_at hl 0 rfl) ?_
  refine V_ialen (v := 10) B hw (by decide) rfl (by decide) dHL_copyInts_5 ?_
  refine lv_aload_n hx hb dHL_copyInts_6 rfl (lv_at hl 1 rfl) ?_
  refine V_ialen (v := 10) B hw (by decide) rfl (by decide) dHL_copyInts_7 ?_
  refine va_mmin hx hb (B.2.2.1.trans hl.1.symm) hown (hts _ wm_168) (hts _ wm_125) (hts _ wm_85) (hts _ wm_126) (Nat.le_of_ble_eq_true rfl) (Nat.le_of_ble_eq_true rfl) (Nat.zero_le _) (Nat.zero_le _) dHL_copyInts_8 ?_
  refine V_acI (n0 := 10) B hw hl.1 wm_169 wm_170 wm_171 wm_172 (by decide) (by decide) rfl rfl (by decide) (by decide) (Nat.le_of_ble_eq_true rfl) (Nat.le_of_ble_eq_true rfl) dHL_copyInts_11 (fun H locs hw => ?_)
  exact V_vret B hr hlk hw (pV_of hF) dHL_copyInts_14
theorem cw_FHL_copyLongs_46_22 {R : Room} {cells slots : Nat} (h1 : 2 ≤ R.frames) (h2 : 81 ≤ R.locals) (h3 : cells ≤ R.cells) (h4 : slots ≤ R.slots) : Cw R cells slots yHL_copyLongs bHL_copyLongs 2 none ({ frames := 1, cells := 0, slots := 0, locals := 60 } : Room) 2 := ⟨wm_403, wm_353, by decide +kernel, ⟨rfl, rfl, h1, h2⟩, h3, h4⟩
set_option maxHeartbeats 4000000 in
set_option maxRecDepth 100000 in
theorem M_FHL_copyLongs_46_22 (l : Launch) {ad : Nat → Nat} {cI cL : ClassId} {dC : Nat → ClassId} {dI : Nat → Nat → Nat} (hi : adI ad) (S : hS)  : Mt l ad cI cL dC dI yHL_copyLongs bHL_copyLongs 2 none ({ frames := 1, cells := 0, slots := 0, locals := 60 } : Room) [.ref (ad 46), .ref (ad 22)] S (pV (FHL_copyLongs_46_22 S)) := by
  refine Mt_of (own := RHL) hi (by decide) rfl (Nat.le_of_ble_eq_true rfl) ?_
  intro p e s m args below meth c ls B hr hlk hw hl
  obtain ⟨hx, hb, -, hown, hts, -, -⟩ := id B
  have hA : ∀ q, AA ad s.heap.size q → AA ad s.heap.size q := fun _ h => h
  have hl : lv_has ls 2 [(0, .ref (ad 46)), (1, .ref (ad 22))] := hl
  have hF := FHL_copyLongs_46_22_e S 
  refine lv_aload_n hx hb dHL_copyLongs_0 rfl (lv_at hl 0 rfl) ?_
  refine lv_iconst (v := 0) hx hb dHL_copyLongs_1 (by decide) ?_
  refine lv_aload_n hx hb dHL_copyLongs_2 rfl (lv_at hl 1 rfl) ?_
  refine lv_iconst (v := 0) hx hb dHL_copyLongs_3 (by decide) ?_
  refine lv_aload_n hx hb dHL_copyLongs_4 rfl (lv_at hl 0 rfl) ?_
  refine V_lalen (v := 10) B hw (by decide) rfl (by decide) dHL_copyLongs_5 ?_
  refine lv_aload_n hx hb dHL_copyLongs_6 rfl (lv_at hl 1 rfl) ?_
  refine V_lalen (v := 10) B hw (by decide) rfl (by decide) dHL_copyLongs_7 ?_
  refine va_mmin hx hb (B.2.2.1.trans hl.1.symm) hown (hts _ wm_168) (hts _ wm_125) (hts _ wm_85) (hts _ wm_126) (Nat.le_of_ble_eq_true rfl) (Nat.le_of_ble_eq_true rfl) (Nat.zero_le _) (Nat.zero_le _) dHL_copyLongs_8 ?_
  refine V_acL (n0 := 10) B hw hl.1 wm_169 wm_170 wm_171 wm_172 (by decide) (by decide) rfl rfl (by decide) (by decide) (Nat.le_of_ble_eq_true rfl) (Nat.le_of_ble_eq_true rfl) dHL_copyLongs_11 (fun H locs hw => ?_)
  exact V_vret B hr hlk hw (pV_of hF) dHL_copyLongs_14
theorem cw_FHL_copyLongs_47_23 {R : Room} {cells slots : Nat} (h1 : 2 ≤ R.frames) (h2 : 81 ≤ R.locals) (h3 : cells ≤ R.cells) (h4 : slots ≤ R.slots) : Cw R cells slots yHL_copyLongs bHL_copyLongs 2 none ({ frames := 1, cells := 0, slots := 0, locals := 60 } : Room) 2 := ⟨wm_403, wm_353, by decide +kernel, ⟨rfl, rfl, h1, h2⟩, h3, h4⟩
set_option maxHeartbeats 4000000 in
set_option maxRecDepth 100000 in
theorem M_FHL_copyLongs_47_23 (l : Launch) {ad : Nat → Nat} {cI cL : ClassId} {dC : Nat → ClassId} {dI : Nat → Nat → Nat} (hi : adI ad) (S : hS)  : Mt l ad cI cL dC dI yHL_copyLongs bHL_copyLongs 2 none ({ frames := 1, cells := 0, slots := 0, locals := 60 } : Room) [.ref (ad 47), .ref (ad 23)] S (pV (FHL_copyLongs_47_23 S)) := by
  refine Mt_of (own := RHL) hi (by decide) rfl (Nat.le_of_ble_eq_true rfl) ?_
  intro p e s m args below meth c ls B hr hlk hw hl
  obtain ⟨hx, hb, -, hown, hts, -, -⟩ := id B
  have hA : ∀ q, AA ad s.heap.size q → AA ad s.heap.size q := fun _ h => h
  have hl : lv_has ls 2 [(0, .ref (ad 47)), (1, .ref (ad 23))] := hl
  have hF := FHL_copyLongs_47_23_e S 
  refine lv_aload_n hx hb dHL_copyLongs_0 rfl (lv_at hl 0 rfl) ?_
  refine lv_iconst (v := 0) hx hb dHL_copyLongs_1 (by decide) ?_
  refine lv_aload_n hx hb dHL_copyLongs_2 rfl (lv_at hl 1 rfl) ?_
  refine lv_iconst (v := 0) hx hb dHL_copyLongs_3 (by decide) ?_
  refine lv_aload_n hx hb dHL_copyLongs_4 rfl (lv_at hl 0 rfl) ?_
  refine V_lalen (v := 10) B hw (by decide) rfl (by decide) dHL_copyLongs_5 ?_
  refine lv_aload_n hx hb dHL_copyLongs_6 rfl (lv_at hl 1 rfl) ?_
  refine V_lalen (v := 10) B hw (by decide) rfl (by decide) dHL_copyLongs_7 ?_
  refine va_mmin hx hb (B.2.2.1.trans hl.1.symm) hown (hts _ wm_168) (hts _ wm_125) (hts _ wm_85) (hts _ wm_126) (Nat.le_of_ble_eq_true rfl) (Nat.le_of_ble_eq_true rfl) (Nat.zero_le _) (Nat.zero_le _) dHL_copyLongs_8 ?_
  refine V_acL (n0 := 10) B hw hl.1 wm_169 wm_170 wm_171 wm_172 (by decide) (by decide) rfl rfl (by decide) (by decide) (Nat.le_of_ble_eq_true rfl) (Nat.le_of_ble_eq_true rfl) dHL_copyLongs_11 (fun H locs hw => ?_)
  exact V_vret B hr hlk hw (pV_of hF) dHL_copyLongs_14
theorem cw_FPL_copyFrom_20_44 {R : Room} {cells slots : Nat} (h1 : 3 ≤ R.frames) (h2 : 102 ≤ R.locals) (h3 : cells ≤ R.cells) (h4 : slots ≤ R.slots) : Cw R cells slots yPL_copyFrom bPL_copyFrom 2 none ({ frames := 2, cells := 0, slots := 0, locals := 81 } : Room) 1 := ⟨wm_406, wm_391, by decide +kernel, ⟨rfl, rfl, h1, h2⟩, h3, h4⟩
set_option maxHeartbeats 4000000 in
set_option maxRecDepth 100000 in
theorem M_FPL_copyFrom_20_44 (l : Launch) {ad : Nat → Nat} {cI cL : ClassId} {dC : Nat → ClassId} {dI : Nat → Nat → Nat} (hi : adI ad) (S : hS)  : Mt l ad cI cL dC dI yPL_copyFrom bPL_copyFrom 2 none ({ frames := 2, cells := 0, slots := 0, locals := 81 } : Room) [.ref (ad 20), .ref (ad 44)] S (pV (FPL_copyFrom_20_44 S)) := by
  refine Mt_of (own := RPL) hi (by decide) rfl (Nat.le_of_ble_eq_true rfl) ?_
  intro p e s m args below meth c ls B hr hlk hw hl
  obtain ⟨hx, hb, -, hown, hts, -, -⟩ := id B
  have hA : ∀ q, AA ad s.heap.size q → AA ad s.heap.size q := fun _ h => h
  have hl : lv_has ls 2 [(0, .ref (ad 20)), (1, .ref (ad 44))] := hl
  have hF := FPL_copyFrom_20_44_e S 
  refine lv_aload_n hx hb dPL_copyFrom_0 rfl (lv_at hl 0 rfl) ?_
  refine lv_aload_n hx hb dPL_copyFrom_1 rfl (lv_at hl 1 rfl) ?_
  refine V_get B hw (v := .int (S.1 44 0)) (by decide) rfl rfl hin_PL 0 (by decide) rfl wm_136 rfl dPL_copyFrom_2 ?_
  refine V_putI (ty := .int) B hw (by decide) rfl rfl hin_PL tyPL_ok nmPL 0 (by decide) rfl wm_136 rfl (by decide +kernel) rfl rfl dPL_copyFrom_5 (fun H locs hw => ?_)
  refine lv_aload_n hx hb dPL_copyFrom_8 rfl (lv_at hl 1 rfl) ?_
  refine V_get B hw (v := .ref (ad 45)) (by decide) rfl rfl hin_PL 1 (by decide) rfl wm_137 rfl dPL_copyFrom_9 ?_
  refine lv_aload_n hx hb dPL_copyFrom_12 rfl (lv_at hl 0 rfl) ?_
  refine V_get B hw (v := .ref (ad 21)) (by decide) rfl rfl hin_PL 1 (by decide) rfl wm_137 rfl dPL_copyFrom_13 ?_
  refine V_callSN (rest := []) B hi hw hA hl.1 (M_FHL_copyInts_45_21 l hi (sI S 20 0 (S.1 44 0))) (cw_FHL_copyInts_45_21 (Nat.le_of_ble_eq_true rfl) (Nat.le_of_ble_eq_true rfl) (Nat.zero_le _) (Nat.zero_le _)) wn_186 wm_174 rfl (Nat.le_of_ble_eq_true rfl) dPL_copyFrom_16 (kV (fun H locs hw => ?_))
  refine lv_aload_n hx hb dPL_copyFrom_19 rfl (lv_at hl 1 rfl) ?_
  refine V_get B hw (v := .ref (ad 46)) (by decide) rfl rfl hin_PL 2 (by decide) rfl wm_138 rfl dPL_copyFrom_20 ?_
  refine lv_aload_n hx hb dPL_copyFrom_23 rfl (lv_at hl 0 rfl) ?_
  refine V_get B hw (v := .ref (ad 22)) (by decide) rfl rfl hin_PL 2 (by decide) rfl wm_138 rfl dPL_copyFrom_24 ?_
  refine V_callSN (rest := []) B hi hw hA hl.1 (M_FHL_copyLongs_46_22 l hi (FHL_copyInts_45_21 (sI S 20 0 (S.1 44 0)))) (cw_FHL_copyLongs_46_22 (Nat.le_of_ble_eq_true rfl) (Nat.le_of_ble_eq_true rfl) (Nat.zero_le _) (Nat.zero_le _)) wn_187 wm_176 rfl (Nat.le_of_ble_eq_true rfl) dPL_copyFrom_27 (kV (fun H locs hw => ?_))
  refine lv_aload_n hx hb dPL_copyFrom_30 rfl (lv_at hl 1 rfl) ?_
  refine V_get B hw (v := .ref (ad 47)) (by decide) rfl rfl hin_PL 3 (by decide) rfl wm_139 rfl dPL_copyFrom_31 ?_
  refine lv_aload_n hx hb dPL_copyFrom_34 rfl (lv_at hl 0 rfl) ?_
  refine V_get B hw (v := .ref (ad 23)) (by decide) rfl rfl hin_PL 3 (by decide) rfl wm_139 rfl dPL_copyFrom_35 ?_
  refine V_callSN (rest := []) B hi hw hA hl.1 (M_FHL_copyLongs_47_23 l hi (FHL_copyLongs_46_22 (FHL_copyInts_45_21 (sI S 20 0 (S.1 44 0))))) (cw_FHL_copyLongs_47_23 (Nat.le_of_ble_eq_true rfl) (Nat.le_of_ble_eq_true rfl) (Nat.zero_le _) (Nat.zero_le _)) wn_187 wm_176 rfl (Nat.le_of_ble_eq_true rfl) dPL_copyFrom_38 (kV (fun H locs hw => ?_))
  exact V_vret B hr hlk hw (pV_of hF) dPL_copyFrom_41
theorem cw_FHL_copyLongs_48_24 {R : Room} {cells slots : Nat} (h1 : 2 ≤ R.frames) (h2 : 81 ≤ R.locals) (h3 : cells ≤ R.cells) (h4 : slots ≤ R.slots) : Cw R cells slots yHL_copyLongs bHL_copyLongs 2 none ({ frames := 1, cells := 0, slots := 0, locals := 60 } : Room) 2 := ⟨wm_403, wm_353, by decide +kernel, ⟨rfl, rfl, h1, h2⟩, h3, h4⟩
set_option maxHeartbeats 4000000 in
set_option maxRecDepth 100000 in
theorem M_FHL_copyLongs_48_24 (l : Launch) {ad : Nat → Nat} {cI cL : ClassId} {dC : Nat → ClassId} {dI : Nat → Nat → Nat} (hi : adI ad) (S : hS)  : Mt l ad cI cL dC dI yHL_copyLongs bHL_copyLongs 2 none ({ frames := 1, cells := 0, slots := 0, locals := 60 } : Room) [.ref (ad 48), .ref (ad 24)] S (pV (FHL_copyLongs_48_24 S)) := by
  refine Mt_of (own := RHL) hi (by decide) rfl (Nat.le_of_ble_eq_true rfl) ?_
  intro p e s m args below meth c ls B hr hlk hw hl
  obtain ⟨hx, hb, -, hown, hts, -, -⟩ := id B
  have hA : ∀ q, AA ad s.heap.size q → AA ad s.heap.size q := fun _ h => h
  have hl : lv_has ls 2 [(0, .ref (ad 48)), (1, .ref (ad 24))] := hl
  have hF := FHL_copyLongs_48_24_e S 
  refine lv_aload_n hx hb dHL_copyLongs_0 rfl (lv_at hl 0 rfl) ?_
  refine lv_iconst (v := 0) hx hb dHL_copyLongs_1 (by decide) ?_
  refine lv_aload_n hx hb dHL_copyLongs_2 rfl (lv_at hl 1 rfl) ?_
  refine lv_iconst (v := 0) hx hb dHL_copyLongs_3 (by decide) ?_
  refine lv_aload_n hx hb dHL_copyLongs_4 rfl (lv_at hl 0 rfl) ?_
  refine V_lalen (v := 20) B hw (by decide) rfl (by decide) dHL_copyLongs_5 ?_
  refine lv_aload_n hx hb dHL_copyLongs_6 rfl (lv_at hl 1 rfl) ?_
  refine V_lalen (v := 20) B hw (by decide) rfl (by decide) dHL_copyLongs_7 ?_
  refine va_mmin hx hb (B.2.2.1.trans hl.1.symm) hown (hts _ wm_168) (hts _ wm_125) (hts _ wm_85) (hts _ wm_126) (Nat.le_of_ble_eq_true rfl) (Nat.le_of_ble_eq_true rfl) (Nat.zero_le _) (Nat.zero_le _) dHL_copyLongs_8 ?_
  refine V_acL (n0 := 20) B hw hl.1 wm_169 wm_170 wm_171 wm_172 (by decide) (by decide) rfl rfl (by decide) (by decide) (Nat.le_of_ble_eq_true rfl) (Nat.le_of_ble_eq_true rfl) dHL_copyLongs_11 (fun H locs hw => ?_)
  exact V_vret B hr hlk hw (pV_of hF) dHL_copyLongs_14
theorem cw_FBO_copyFrom_1_25 {R : Room} {cells slots : Nat} (h1 : 4 ≤ R.frames) (h2 : 123 ≤ R.locals) (h3 : cells ≤ R.cells) (h4 : slots ≤ R.slots) : Cw R cells slots yBO_copyFrom bBO_copyFrom 2 none ({ frames := 3, cells := 0, slots := 0, locals := 102 } : Room) 1 := ⟨wm_407, wm_356, by decide +kernel, ⟨rfl, rfl, h1, h2⟩, h3, h4⟩
set_option maxHeartbeats 4000000 in
set_option maxRecDepth 100000 in
theorem M_FBO_copyFrom_1_25 (l : Launch) {ad : Nat → Nat} {cI cL : ClassId} {dC : Nat → ClassId} {dI : Nat → Nat → Nat} (hi : adI ad) (S : hS)  : Mt l ad cI cL dC dI yBO_copyFrom bBO_copyFrom 2 none ({ frames := 3, cells := 0, slots := 0, locals := 102 } : Room) [.ref (ad 1), .ref (ad 25)] S (pV (FBO_copyFrom_1_25 S)) := by
  refine Mt_of (own := RBO) hi (by decide) rfl (Nat.le_of_ble_eq_true rfl) ?_
  intro p e s m args below meth c ls B hr hlk hw hl
  obtain ⟨hx, hb, -, hown, hts, -, -⟩ := id B
  have hA : ∀ q, AA ad s.heap.size q → AA ad s.heap.size q := fun _ h => h
  have hl : lv_has ls 2 [(0, .ref (ad 1)), (1, .ref (ad 25))] := hl
  have hF := FBO_copyFrom_1_25_e S 
  refine lv_aload_n hx hb dBO_copyFrom_0 rfl (lv_at hl 0 rfl) ?_
  refine V_get B hw (v := .ref (ad 2)) (by decide) rfl rfl hin_BO 0 (by decide) rfl wm_57 rfl dBO_copyFrom_1 ?_
  refine lv_aload_n hx hb dBO_copyFrom_4 rfl (lv_at hl 1 rfl) ?_
  refine V_get B hw (v := .ref (ad 26)) (by decide) rfl rfl hin_BO 0 (by decide) rfl wm_57 rfl dBO_copyFrom_5 ?_
  refine V_callVN (rest := []) B hi hw hA hl.1 (M_FAC_copyFrom_2_26 l hi S) (cw_FAC_copyFrom_2_26 (Nat.le_of_ble_eq_true rfl) (Nat.le_of_ble_eq_true rfl) (Nat.zero_le _) (Nat.zero_le _)) (by decide) rfl rfl wn_177 wm_178 wm_179 rfl (Nat.le_of_ble_eq_true rfl) dBO_copyFrom_8 (kV (fun H locs hw => ?_))
  refine lv_aload_n hx hb dBO_copyFrom_11 rfl (lv_at hl 0 rfl) ?_
  refine V_get B hw (v := .ref (ad 10)) (by decide) rfl rfl hin_BO 1 (by decide) rfl wm_54 rfl dBO_copyFrom_12 ?_
  refine lv_aload_n hx hb dBO_copyFrom_15 rfl (lv_at hl 1 rfl) ?_
  refine V_get B hw (v := .ref (ad 34)) (by decide) rfl rfl hin_BO 1 (by decide) rfl wm_54 rfl dBO_copyFrom_16 ?_
  refine V_callVN (rest := []) B hi hw hA hl.1 (M_FJO_copyFrom_10_34 l hi (FAC_copyFrom_2_26 S)) (cw_FJO_copyFrom_10_34 (Nat.le_of_ble_eq_true rfl) (Nat.le_of_ble_eq_true rfl) (Nat.zero_le _) (Nat.zero_le _)) (by decide) rfl rfl wn_182 wm_183 wm_184 rfl (Nat.le_of_ble_eq_true rfl) dBO_copyFrom_19 (kV (fun H locs hw => ?_))
  refine lv_aload_n hx hb dBO_copyFrom_22 rfl (lv_at hl 0 rfl) ?_
  refine V_get B hw (v := .ref (ad 20)) (by decide) rfl rfl hin_BO 2 (by decide) rfl wm_185 rfl dBO_copyFrom_23 ?_
  refine lv_aload_n hx hb dBO_copyFrom_26 rfl (lv_at hl 1 rfl) ?_
  refine V_get B hw (v := .ref (ad 44)) (by decide) rfl rfl hin_BO 2 (by decide) rfl wm_185 rfl dBO_copyFrom_27 ?_
  refine V_callVN (rest := []) B hi hw hA hl.1 (M_FPL_copyFrom_20_44 l hi (FJO_copyFrom_10_34 (FAC_copyFrom_2_26 S))) (cw_FPL_copyFrom_20_44 (Nat.le_of_ble_eq_true rfl) (Nat.le_of_ble_eq_true rfl) (Nat.zero_le _) (Nat.zero_le _)) (by decide) rfl rfl wn_188 wm_189 wm_190 rfl (Nat.le_of_ble_eq_true rfl) dBO_copyFrom_30 (kV (fun H locs hw => ?_))
  refine lv_aload_n hx hb dBO_copyFrom_33 rfl (lv_at hl 1 rfl) ?_
  refine V_get B hw (v := .ref (ad 48)) (by decide) rfl rfl hin_BO 3 (by decide) rfl wm_97 rfl dBO_copyFrom_34 ?_
  refine lv_aload_n hx hb dBO_copyFrom_37 rfl (lv_at hl 0 rfl) ?_
  refine V_get B hw (v := .ref (ad 24)) (by decide) rfl rfl hin_BO 3 (by decide) rfl wm_97 rfl dBO_copyFrom_38 ?_
  refine V_callSN (rest := []) B hi hw hA hl.1 (M_FHL_copyLongs_48_24 l hi (FPL_copyFrom_20_44 (FJO_copyFrom_10_34 (FAC_copyFrom_2_26 S)))) (cw_FHL_copyLongs_48_24 (Nat.le_of_ble_eq_true rfl) (Nat.le_of_ble_eq_true rfl) (Nat.zero_le _) (Nat.zero_le _)) wn_191 wm_176 rfl (Nat.le_of_ble_eq_true rfl) dBO_copyFrom_41 (kV (fun H locs hw => ?_))
  refine lv_aload_n hx hb dBO_copyFrom_44 rfl (lv_at hl 0 rfl) ?_
  refine lv_aload_n hx hb dBO_copyFrom_45 rfl (lv_at hl 1 rfl) ?_
  refine V_get B hw (v := .int ((FHL_copyLongs_48_24 (FPL_copyFrom_20_44 (FJO_copyFrom_10_34 (FAC_copyFrom_2_26 S)))).1 25 4)) (by decide) rfl rfl hin_BO 4 (by decide) rfl wm_96 rfl dBO_copyFrom_46 ?_
  refine V_putI (ty := .int) B hw (by decide) rfl rfl hin_BO tyBO_ok nmBO 4 (by decide) rfl wm_96 rfl (by decide +kernel) rfl rfl dBO_copyFrom_49 (fun H locs hw => ?_)
  refine lv_aload_n hx hb dBO_copyFrom_52 rfl (lv_at hl 0 rfl) ?_
  refine lv_aload_n hx hb dBO_copyFrom_53 rfl (lv_at hl 1 rfl) ?_
  refine V_get B hw (v := .int ((FHL_copyLongs_48_24 (FPL_copyFrom_20_44 (FJO_copyFrom_10_34 (FAC_copyFrom_2_26 S)))).1 25 5)) (by decide) rfl rfl hin_BO 5 (by decide) rfl wm_18 rfl dBO_copyFrom_54 ?_
  refine V_putI (ty := .int) B hw (by decide) rfl rfl hin_BO tyBO_ok nmBO 5 (by decide) rfl wm_18 rfl (by decide +kernel) rfl rfl dBO_copyFrom_57 (fun H locs hw => ?_)
  refine lv_aload_n hx hb dBO_copyFrom_60 rfl (lv_at hl 0 rfl) ?_
  refine lv_aload_n hx hb dBO_copyFrom_61 rfl (lv_at hl 1 rfl) ?_
  refine V_get B hw (v := .long ((FHL_copyLongs_48_24 (FPL_copyFrom_20_44 (FJO_copyFrom_10_34 (FAC_copyFrom_2_26 S)))).2 25 6)) (by decide) rfl rfl hin_BO 6 (by decide) rfl wm_192 rfl dBO_copyFrom_62 ?_
  refine V_putL (ty := .long) B hw (by decide) rfl rfl hin_BO tyBO_ok nmBO 6 (by decide) rfl wm_192 rfl (by decide +kernel) rfl rfl dBO_copyFrom_65 (fun H locs hw => ?_)
  refine lv_aload_n hx hb dBO_copyFrom_68 rfl (lv_at hl 0 rfl) ?_
  refine lv_aload_n hx hb dBO_copyFrom_69 rfl (lv_at hl 1 rfl) ?_
  refine V_get B hw (v := .long ((FHL_copyLongs_48_24 (FPL_copyFrom_20_44 (FJO_copyFrom_10_34 (FAC_copyFrom_2_26 S)))).2 25 7)) (by decide) rfl rfl hin_BO 7 (by decide) rfl wm_193 rfl dBO_copyFrom_70 ?_
  refine V_putL (ty := .long) B hw (by decide) rfl rfl hin_BO tyBO_ok nmBO 7 (by decide) rfl wm_193 rfl (by decide +kernel) rfl rfl dBO_copyFrom_73 (fun H locs hw => ?_)
  exact V_vret B hr hlk hw (pV_of hF) dBO_copyFrom_76
theorem cw_FHL_endBatch {R : Room} {cells slots : Nat} (h1 : 5 ≤ R.frames) (h2 : 144 ≤ R.locals) (h3 : cells ≤ R.cells) (h4 : slots ≤ R.slots) : Cw R cells slots yHL_endBatch bHL_endBatch 2 (some .boolean) ({ frames := 4, cells := 0, slots := 0, locals := 123 } : Room) 1 := ⟨wm_409, wm_353, by decide +kernel, ⟨rfl, rfl, h1, h2⟩, h3, h4⟩
set_option maxHeartbeats 4000000 in
set_option maxRecDepth 100000 in
theorem M_FHL_endBatch (l : Launch) {ad : Nat → Nat} {cI cL : ClassId} {dC : Nat → ClassId} {dI : Nat → Nat → Nat} (hi : adI ad) (S : hS) (x1 : Int32) : Mt l ad cI cL dC dI yHL_endBatch bHL_endBatch 2 (some .boolean) ({ frames := 4, cells := 0, slots := 0, locals := 123 } : Room) [.ref (ad 0), .int x1] S (pI (FHL_endBatch S x1).1 (FHL_endBatch S x1).2) := by
  refine Mt_of (own := RHL) hi (by decide) rfl (Nat.le_of_ble_eq_true rfl) ?_
  intro p e s m args below meth c ls B hr hlk hw hl
  obtain ⟨hx, hb, -, hown, hts, -, -⟩ := id B
  have hA : ∀ q, AA ad s.heap.size q → AA ad s.heap.size q := fun _ h => h
  have hl : lv_has ls 2 [(0, .ref (ad 0)), (1, .int x1)] := hl
  have hF := FHL_endBatch_e S x1
  refine lv_aload_n hx hb dHL_endBatch_0 rfl (lv_at hl 0 rfl) ?_
  refine V_get B hw (v := .int (S.1 0 2)) (by decide) rfl rfl hin_HL 2 (by decide) rfl wm_166 rfl dHL_endBatch_1 ?_
  refine lv_if_ne (tgt := 9) hx hb dHL_endBatch_4 (by decide) (fun c1 => ?_) (fun c1 => ?_)
  · have hF := hF.trans (if_neg c1)
    refine lv_iload_n hx hb dHL_endBatch_9 rfl (lv_at hl 1 rfl) ?_
    refine lv_if_ne (tgt := 24) hx hb dHL_endBatch_10 (by decide) (fun c2 => ?_) (fun c2 => ?_)
    · have hF := hF.trans (if_neg c2)
      refine lv_aload_n hx hb dHL_endBatch_24 rfl (lv_at hl 0 rfl) ?_
      refine lv_iconst (v := 0) hx hb dHL_endBatch_25 (by decide) ?_
      refine V_putI (ty := .boolean) B hw (by decide) rfl rfl hin_HL tyHL_ok nmHL 2 (by decide) rfl wm_166 rfl (by decide +kernel) rfl rfl dHL_endBatch_26 (fun H locs hw => ?_)
      refine lv_iconst (v := 1) hx hb dHL_endBatch_29 (by decide) ?_
      exact V_zret B hr hlk hw (by decide) (pI_of hF) dHL_endBatch_30
    · have hF := hF.trans (if_pos c2)
      refine lv_aload_n hx hb dHL_endBatch_13 rfl (lv_at hl 0 rfl) ?_
      refine V_get B hw (v := .ref (ad 1)) (by decide) rfl rfl hin_HL 0 (by decide) rfl wm_0 rfl dHL_endBatch_14 ?_
      refine lv_aload_n hx hb dHL_endBatch_17 rfl (lv_at hl 0 rfl) ?_
      refine V_get B hw (v := .ref (ad 25)) (by decide) rfl rfl hin_HL 1 (by decide) rfl wm_167 rfl dHL_endBatch_18 ?_
      refine V_callVN (rest := []) B hi hw hA hl.1 (M_FBO_copyFrom_1_25 l hi S) (cw_FBO_copyFrom_1_25 (Nat.le_of_ble_eq_true rfl) (Nat.le_of_ble_eq_true rfl) (Nat.zero_le _) (Nat.zero_le _)) (by decide) rfl rfl wn_194 wm_195 wm_196 rfl (Nat.le_of_ble_eq_true rfl) dHL_endBatch_21 (kV (fun H locs hw => ?_))
      refine lv_aload_n hx hb dHL_endBatch_24 rfl (lv_at hl 0 rfl) ?_
      refine lv_iconst (v := 0) hx hb dHL_endBatch_25 (by decide) ?_
      refine V_putI (ty := .boolean) B hw (by decide) rfl rfl hin_HL tyHL_ok nmHL 2 (by decide) rfl wm_166 rfl (by decide +kernel) rfl rfl dHL_endBatch_26 (fun H locs hw => ?_)
      refine lv_iconst (v := 1) hx hb dHL_endBatch_29 (by decide) ?_
      exact V_zret B hr hlk hw (by decide) (pI_of hF) dHL_endBatch_30
  · have hF := hF.trans (if_pos c1)
    refine lv_iconst (v := 0) hx hb dHL_endBatch_7 (by decide) ?_
    exact V_zret B hr hlk hw (by decide) (pI_of hF) dHL_endBatch_8
theorem cw_FHL_closeMonth {R : Room} {cells slots : Nat} (h1 : 1 ≤ R.frames) (h2 : 21 ≤ R.locals) (h3 : cells ≤ R.cells) (h4 : slots ≤ R.slots) : Cw R cells slots yHL_closeMonth bHL_closeMonth 2 (some .boolean) ({ frames := 0, cells := 0, slots := 0, locals := 0 } : Room) 1 := ⟨wm_410, wm_353, by decide +kernel, ⟨rfl, rfl, h1, h2⟩, h3, h4⟩
set_option maxHeartbeats 4000000 in
set_option maxRecDepth 100000 in
theorem M_FHL_closeMonth (l : Launch) {ad : Nat → Nat} {cI cL : ClassId} {dC : Nat → ClassId} {dI : Nat → Nat → Nat} (hi : adI ad) (S : hS) (x1 : Int32) (hp : wfC S) : Mt l ad cI cL dC dI yHL_closeMonth bHL_closeMonth 2 (some .boolean) ({ frames := 0, cells := 0, slots := 0, locals := 0 } : Room) [.ref (ad 0), .int x1] S (pI (FHL_closeMonth S x1).1 (FHL_closeMonth S x1).2) := by
  refine Mt_of (own := RHL) hi (by decide) rfl (Nat.le_of_ble_eq_true rfl) ?_
  intro p e s m args below meth c ls B hr hlk hw hl
  obtain ⟨hx, hb, -, hown, hts, -, -⟩ := id B
  have hA : ∀ q, AA ad s.heap.size q → AA ad s.heap.size q := fun _ h => h
  have hl : lv_has ls 2 [(0, .ref (ad 0)), (1, .int x1)] := hl
  have hF := FHL_closeMonth_e S x1
  refine lv_iload_n hx hb dHL_closeMonth_0 rfl (lv_at hl 1 rfl) ?_
  refine lv_aload_n hx hb dHL_closeMonth_1 rfl (lv_at hl 0 rfl) ?_
  refine V_get B hw (v := .ref (ad 1)) (by decide) rfl rfl hin_HL 0 (by decide) rfl wm_0 rfl dHL_closeMonth_2 ?_
  refine V_getN B hw (v := .int (S.1 1 5)) (by decide) rfl rfl hin_BO 5 (by decide) rfl wn_198 rfl dHL_closeMonth_5 ?_
  refine lv_icmp_ne (tgt := 23) hx hb dHL_closeMonth_8 (by decide) (fun c1 => ?_) (fun c1 => ?_)
  · have hF := hF.trans (if_neg c1)
    refine lv_iconst (v := 0) hx hb dHL_closeMonth_23 (by decide) ?_
    exact V_zret B hr hlk hw (by decide) (pI_of hF) dHL_closeMonth_24
  · have hF := hF.trans (if_pos c1)
    refine lv_aload_n hx hb dHL_closeMonth_11 rfl (lv_at hl 0 rfl) ?_
    refine V_get B hw (v := .ref (ad 1)) (by decide) rfl rfl hin_HL 0 (by decide) rfl wm_0 rfl dHL_closeMonth_12 ?_
    refine V_getN B hw (v := .int (S.1 1 5)) (by decide) rfl rfl hin_BO 5 (by decide) rfl wn_198 rfl dHL_closeMonth_15 ?_
    refine lv_bipush (v := 120) hx hb dHL_closeMonth_18 (by decide) ?_
    refine lv_icmp_lt (tgt := 25) hx hb dHL_closeMonth_20 (by decide) (fun c2 => ?_) (fun c2 => ?_)
    · have hF := hF.trans (if_pos c2)
      refine lv_aload_n hx hb dHL_closeMonth_25 rfl (lv_at hl 0 rfl) ?_
      refine V_get B hw (v := .ref (ad 1)) (by decide) rfl rfl hin_HL 0 (by decide) rfl wm_0 rfl dHL_closeMonth_26 ?_
      refine lv_dup hx hb dHL_closeMonth_29 rfl ?_
      refine V_getN B hw (v := .int (S.1 1 5)) (by decide) rfl rfl hin_BO 5 (by decide) rfl wn_198 rfl dHL_closeMonth_30 ?_
      refine lv_iconst (v := 1) hx hb dHL_closeMonth_33 (by decide) ?_
      refine lv_iadd hx hb dHL_closeMonth_34 ?_
      refine V_putNI (ty := .int) B hw (by decide) rfl rfl hin_BO tyBO_ok nmBO 5 (by decide) rfl wn_198 rfl (by decide +kernel) rfl rfl dHL_closeMonth_35 (fun H locs hw => ?_)
      refine lv_iconst (v := 1) hx hb dHL_closeMonth_38 (by decide) ?_
      exact V_zret B hr hlk hw (by decide) (pI_of hF) dHL_closeMonth_39
    · have hF := hF.trans (if_neg c2)
      refine lv_iconst (v := 0) hx hb dHL_closeMonth_23 (by decide) ?_
      exact V_zret B hr hlk hw (by decide) (pI_of hF) dHL_closeMonth_24
set_option maxHeartbeats 4000000 in
set_option maxRecDepth 100000 in
theorem LPJO_isReversible_41 (l : Launch) {ad : Nat → Nat} {cI cL : ClassId} {dC : Nat → ClassId} {dI : Nat → Nat → Nat} (hi : adI ad) {p : Program} {e : Env} {s : State} {m : MethodId} {args : Array Value} {below : List Frame} {meth : Method} {c : Code} {A : Nat → Prop} {post : Option Value → hS → Prop} (B : Bs p s m args c RJO bJO_isReversible 5 cI cL dC dI) (hr : meth.sig.returnType = (some .boolean)) (hlk : meth.locks = false) (hA : ∀ q, AA ad s.heap.size q → A q) : ∀ (n : Nat) (S : hS) (x1 : Int32) (x2 : Int32) (x3 : Int32) (x4 : Int32) (H : Heap) (locs : List Loc) (ls : Array Slot), wfC S ∧ lp x4 x3 → ((x3.toInt - x4.toInt).toNat) < n → Wd ad cI cL dC dI A s.heap S H locs → lv_has ls 5 [(0, .ref (ad 10)), (1, .int x1), (2, .int x2), (3, .int x3), (4, .int x4)] → (∀ (v : Int32), LJO_isReversible_41 n S x1 x2 x3 x4 = .inl v → post (some (.int v)) S) → (∀ (H : Heap) (locs : List Loc) (ls : Array Slot) (y4 : Int32), LJO_isReversible_41 n S x1 x2 x3 x4 = .inr y4 → Wd ad cI cL dC dI A s.heap S H locs → lv_has ls 5 [(0, .ref (ad 10)), (1, .int x1), (2, .int x2), (3, .int x3), (4, .int y4)] → W p l e ({ frames := 0, cells := 0, slots := 0, locals := 0 } : Room) s m args below meth c H locs 0 0 (MQ below (QcW ad cI cL dC dI post A) args s 0 0 A) (F0 m 87 ls [])) → W p l e ({ frames := 0, cells := 0, slots := 0, locals := 0 } : Room) s m args below meth c H locs 0 0 (MQ below (QcW ad cI cL dC dI post A) args s 0 0 A) (F0 m 41 ls []) := by
  intro n
  obtain ⟨hx, hb, -, hown, hts, -, -⟩ := id B
  induction n with
  | zero => exact fun S x1 x2 x3 x4 H locs ls _ hmu => absurd hmu (Nat.not_lt_zero _)
  | succ n ih =>
    intro S x1 x2 x3 x4 H locs ls hJ hmu hw hl hret hexit
    have hF := LJO_isReversible_41_s n S x1 x2 x3 x4
    refine lv_iload hx hb dJO_isReversible_41 (lv_at hl 4 rfl) ?_
    refine lv_iload_n hx hb dJO_isReversible_43 rfl (lv_at hl 3 rfl) ?_
    refine lv_icmp_ge (tgt := 87) hx hb dJO_isReversible_44 (by decide) (fun c6 => ?_) (fun c6 => ?_)
    · have hF := hF.trans (if_pos c6)
      exact hexit _ _ _ x4 hF hw (lv_sub hl [0, 1, 2, 3, 4] rfl)
    · have hF := hF.trans (if_neg c6)
      refine lv_aload_n hx hb dJO_isReversible_47 rfl (lv_at hl 0 rfl) ?_
      refine V_get B hw (v := .ref (ad 17)) (by decide) rfl rfl hin_JO 7 (by decide) rfl wm_44 rfl dJO_isReversible_48 ?_
      refine lv_iload hx hb dJO_isReversible_51 (lv_at hl 4 rfl) ?_
      refine V_lald (j := x4.toNatClampNeg) (v := S.2 17 x4.toNatClampNeg) B hw (by decide) rfl (vc_FJO_isReversible_ix53_7 S x1 x2 x3 x4 hJ c6) rfl rfl dJO_isReversible_53 ?_
      refine lv_ldc2 (v := (-1)) hx hb hown (hts _ wm_45) dJO_isReversible_54 ?_
      refine V_leq (tgt := 81) B dJO_isReversible_57 dJO_isReversible_58 (by decide) (fun c8 => ?_) (fun c8 => ?_)
      · have hF := hF.trans (if_pos c8)
        refine lv_iinc (v := x4 + 1) (lv' := [(4, .int (x4 + 1)), (0, .ref (ad 10)), (1, .int x1), (2, .int x2), (3, .int x3)]) hx hb dJO_isReversible_81 hl (k := 4) rfl rfl (by decide) rfl (fun ls hl => ?_)
        refine lv_goto (tgt := 41) hx hb dJO_isReversible_84 (by decide) ?_
        exact ih S x1 x2 x3 (x4 + 1) _ _ _ (vc_FJO_isReversible_inv41_9 S x1 x2 x3 x4 hJ c6 c8) (Nat.lt_of_lt_of_le (vc_FJO_isReversible_mu41_10 S x1 x2 x3 x4 hJ c6 c8) (Nat.le_of_lt_succ hmu)) hw (lv_sub hl [1, 2, 3, 4, 0] rfl) (fun v h => hret v (hF.trans h)) (fun H locs ls y4 h hw hl => hexit H locs ls y4 (hF.trans h) hw hl)
      · have hF := hF.trans (if_neg c8)
        refine lv_aload_n hx hb dJO_isReversible_61 rfl (lv_at hl 0 rfl) ?_
        refine V_get B hw (v := .ref (ad 17)) (by decide) rfl rfl hin_JO 7 (by decide) rfl wm_44 rfl dJO_isReversible_62 ?_
        refine lv_iload hx hb dJO_isReversible_65 (lv_at hl 4 rfl) ?_
        refine V_lald (j := x4.toNatClampNeg) (v := S.2 17 x4.toNatClampNeg) B hw (by decide) rfl (vc_FJO_isReversible_ix67_11 S x1 x2 x3 x4 hJ c6 c8) rfl rfl dJO_isReversible_67 ?_
        refine lv_aload_n hx hb dJO_isReversible_68 rfl (lv_at hl 0 rfl) ?_
        refine V_get B hw (v := .ref (ad 16)) (by decide) rfl rfl hin_JO 6 (by decide) rfl wm_43 rfl dJO_isReversible_69 ?_
        refine lv_iload hx hb dJO_isReversible_72 (lv_at hl 4 rfl) ?_
        refine V_lald (j := x4.toNatClampNeg) (v := S.2 16 x4.toNatClampNeg) B hw (by decide) rfl (vc_FJO_isReversible_ix74_12 S x1 x2 x3 x4 hJ c6 c8) rfl rfl dJO_isReversible_74 ?_
        refine V_leq (tgt := 81) B dJO_isReversible_75 dJO_isReversible_76 (by decide) (fun c13 => ?_) (fun c13 => ?_)
        · have hF := hF.trans (if_pos c13)
          refine lv_iinc (v := x4 + 1) (lv' := [(4, .int (x4 + 1)), (0, .ref (ad 10)), (1, .int x1), (2, .int x2), (3, .int x3)]) hx hb dJO_isReversible_81 hl (k := 4) rfl rfl (by decide) rfl (fun ls hl => ?_)
          refine lv_goto (tgt := 41) hx hb dJO_isReversible_84 (by decide) ?_
          exact ih S x1 x2 x3 (x4 + 1) _ _ _ (vc_FJO_isReversible_inv41_14 S x1 x2 x3 x4 hJ c6 c8 c13) (Nat.lt_of_lt_of_le (vc_FJO_isReversible_mu41_15 S x1 x2 x3 x4 hJ c6 c8 c13) (Nat.le_of_lt_succ hmu)) hw (lv_sub hl [1, 2, 3, 4, 0] rfl) (fun v h => hret v (hF.trans h)) (fun H locs ls y4 h hw hl => hexit H locs ls y4 (hF.trans h) hw hl)
        · have hF := hF.trans (if_neg c13)
          refine lv_iconst (v := 0) hx hb dJO_isReversible_79 (by decide) ?_
          exact V_zret B hr hlk hw (by decide) (hret _ hF) dJO_isReversible_80
theorem cw_FJO_isReversible {R : Room} {cells slots : Nat} (h1 : 1 ≤ R.frames) (h2 : 24 ≤ R.locals) (h3 : cells ≤ R.cells) (h4 : slots ≤ R.slots) : Cw R cells slots yJO_isReversible bJO_isReversible 5 (some .boolean) ({ frames := 0, cells := 0, slots := 0, locals := 0 } : Room) 1 := ⟨wm_411, wm_358, by decide +kernel, ⟨rfl, rfl, h1, h2⟩, h3, h4⟩
set_option maxHeartbeats 4000000 in
set_option maxRecDepth 100000 in
theorem M_FJO_isReversible (l : Launch) {ad : Nat → Nat} {cI cL : ClassId} {dC : Nat → ClassId} {dI : Nat → Nat → Nat} (hi : adI ad) (S : hS) (x1 : Int32) (hp : wfC S) : Mt l ad cI cL dC dI yJO_isReversible bJO_isReversible 5 (some .boolean) ({ frames := 0, cells := 0, slots := 0, locals := 0 } : Room) [.ref (ad 10), .int x1] S (pI (FJO_isReversible S x1) S) := by
  refine Mt_of (own := RJO) hi (by decide) rfl (Nat.le_of_ble_eq_true rfl) ?_
  intro p e s m args below meth c ls B hr hlk hw hl
  obtain ⟨hx, hb, -, hown, hts, -, -⟩ := id B
  have hA : ∀ q, AA ad s.heap.size q → AA ad s.heap.size q := fun _ h => h
  have hl : lv_has ls 5 [(0, .ref (ad 10)), (1, .int x1)] := hl
  have hF := FJO_isReversible_e S x1
  refine lv_iload_n hx hb dJO_isReversible_0 rfl (lv_at hl 1 rfl) ?_
  refine lv_if_lt (tgt := 22) hx hb dJO_isReversible_1 (by decide) (fun c1 => ?_) (fun c1 => ?_)
  · have hF := hF.trans (if_pos c1)
    refine lv_iconst (v := 0) hx hb dJO_isReversible_22 (by decide) ?_
    exact V_zret B hr hlk hw (by decide) (pI_r hF) dJO_isReversible_23
  · have hF := hF.trans (if_neg c1)
    refine lv_iload_n hx hb dJO_isReversible_4 rfl (lv_at hl 1 rfl) ?_
    refine lv_aload_n hx hb dJO_isReversible_5 rfl (lv_at hl 0 rfl) ?_
    refine V_get B hw (v := .int (S.1 10 0)) (by decide) rfl rfl hin_JO 0 (by decide) rfl wm_23 rfl dJO_isReversible_6 ?_
    refine lv_icmp_ge (tgt := 22) hx hb dJO_isReversible_9 (by decide) (fun c2 => ?_) (fun c2 => ?_)
    · have hF := hF.trans (if_pos c2)
      refine lv_iconst (v := 0) hx hb dJO_isReversible_22 (by decide) ?_
      exact V_zret B hr hlk hw (by decide) (pI_r hF) dJO_isReversible_23
    · have hF := hF.trans (if_neg c2)
      refine lv_aload_n hx hb dJO_isReversible_12 rfl (lv_at hl 0 rfl) ?_
      refine V_get B hw (v := .ref (ad 12)) (by decide) rfl rfl hin_JO 2 (by decide) rfl wm_28 rfl dJO_isReversible_13 ?_
      refine lv_iload_n hx hb dJO_isReversible_16 rfl (lv_at hl 1 rfl) ?_
      refine V_iald (j := x1.toNatClampNeg) (v := S.1 12 x1.toNatClampNeg) B hw (by decide) rfl (vc_FJO_isReversible_ix17_3 S x1 hp c1 c2) rfl rfl dJO_isReversible_17 ?_
      refine lv_iconst (v := 1) hx hb dJO_isReversible_18 (by decide) ?_
      refine lv_icmp_eq (tgt := 24) hx hb dJO_isReversible_19 (by decide) (fun c4 => ?_) (fun c4 => ?_)
      · have hF := hF.trans (if_pos c4)
        refine lv_iload_n hx hb dJO_isReversible_24 rfl (lv_at hl 1 rfl) ?_
        refine lv_bipush (v := 6) hx hb dJO_isReversible_25 (by decide) ?_
        refine lv_imul hx hb dJO_isReversible_27 ?_
        refine lv_istore_n (lv' := [(2, .int (x1 * 6)), (0, .ref (ad 10)), (1, .int x1)]) hx hb dJO_isReversible_28 rfl hl (by decide) rfl (fun ls hl => ?_)
        refine lv_iload_n hx hb dJO_isReversible_29 rfl (lv_at hl 0 rfl) ?_
        refine lv_aload_n hx hb dJO_isReversible_30 rfl (lv_at hl 1 rfl) ?_
        refine V_get B hw (v := .ref (ad 13)) (by decide) rfl rfl hin_JO 3 (by decide) rfl wm_29 rfl dJO_isReversible_31 ?_
        refine lv_iload_n hx hb dJO_isReversible_34 rfl (lv_at hl 2 rfl) ?_
        refine V_iald (j := x1.toNatClampNeg) (v := S.1 13 x1.toNatClampNeg) B hw (by decide) rfl (vc_FJO_isReversible_ix35_5 S x1 hp c1 c2 c4) rfl rfl dJO_isReversible_35 ?_
        refine lv_iadd hx hb dJO_isReversible_36 ?_
        refine lv_istore_n (lv' := [(3, .int ((x1 * 6) + (S.1 13 x1.toNatClampNeg))), (2, .int (x1 * 6)), (0, .ref (ad 10)), (1, .int x1)]) hx hb dJO_isReversible_37 rfl hl (by decide) rfl (fun ls hl => ?_)
        refine lv_iload_n hx hb dJO_isReversible_38 rfl (lv_at hl 1 rfl) ?_
        refine lv_istore (lv' := [(4, .int (x1 * 6)), (3, .int ((x1 * 6) + (S.1 13 x1.toNatClampNeg))), (2, .int (x1 * 6)), (0, .ref (ad 10)), (1, .int x1)]) hx hb dJO_isReversible_39 hl (by decide) rfl (fun ls hl => ?_)
        refine LPJO_isReversible_41 l hi B hr hlk hA 300 S x1 (x1 * 6) ((x1 * 6) + (S.1 13 x1.toNatClampNeg)) (x1 * 6) _ _ _ (vc_FJO_isReversible_inv041_17 S x1 hp c1 c2 c4) (vc_FJO_isReversible_mu041_18 S x1 hp c1 c2 c4) hw (lv_sub hl [3, 4, 2, 1, 0] rfl) (fun v hq => by rw [hq, Sum.elim_inl] at hF; exact pI_r hF) (fun H locs ls y16_4 hq16 hw hl => ?_)
        rw [hq16, Sum.elim_inr] at hF; try dsimp only at hF
        refine lv_iconst (v := 1) hx hb dJO_isReversible_87 (by decide) ?_
        exact V_zret B hr hlk hw (by decide) (pI_r hF) dJO_isReversible_88
      · have hF := hF.trans (if_neg c4)
        refine lv_iconst (v := 0) hx hb dJO_isReversible_22 (by decide) ?_
        exact V_zret B hr hlk hw (by decide) (pI_r hF) dJO_isReversible_23
set_option maxHeartbeats 4000000 in
set_option maxRecDepth 100000 in
theorem LPJO_turnRows_18 (l : Launch) {ad : Nat → Nat} {cI cL : ClassId} {dC : Nat → ClassId} {dI : Nat → Nat → Nat} (hi : adI ad) {p : Program} {e : Env} {s : State} {m : MethodId} {args : Array Value} {below : List Frame} {meth : Method} {c : Code} {A : Nat → Prop} {post : Option Value → hS → Prop} (B : Bs p s m args c RJO bJO_turnRows 6 cI cL dC dI) (hr : meth.sig.returnType = none) (hlk : meth.locks = false) (hA : ∀ q, AA ad s.heap.size q → A q) : ∀ (n : Nat) (S : hS) (x1 : Int32) (x2 : Int32) (x3 : Int32) (x4 : Int32) (x5 : Int32) (H : Heap) (locs : List Loc) (ls : Array Slot), wfC S ∧ lp x5 x4 → ((x4.toInt - x5.toInt).toNat) < n → Wd ad cI cL dC dI A s.heap S H locs → lv_has ls 6 [(0, .ref (ad 10)), (1, .int x1), (2, .int x2), (3, .int x3), (4, .int x4), (5, .int x5)] → (∀ (H : Heap) (locs : List Loc) (ls : Array Slot) (y5 : Int32) (S' : hS), LJO_turnRows_18 n S x1 x2 x3 x4 x5 = (y5, S') → Wd ad cI cL dC dI A s.heap S' H locs → lv_has ls 6 [(0, .ref (ad 10)), (1, .int x1), (2, .int x2), (3, .int x3), (4, .int x4), (5, .int y5)] → W p l e ({ frames := 1, cells := 0, slots := 0, locals := 25 } : Room) s m args below meth c H locs 0 0 (MQ below (QcW ad cI cL dC dI post A) args s 0 0 A) (F0 m 52 ls [])) → W p l e ({ frames := 1, cells := 0, slots := 0, locals := 25 } : Room) s m args below meth c H locs 0 0 (MQ below (QcW ad cI cL dC dI post A) args s 0 0 A) (F0 m 18 ls []) := by
  intro n
  obtain ⟨hx, hb, -, hown, hts, -, -⟩ := id B
  induction n with
  | zero => exact fun S x1 x2 x3 x4 x5 H locs ls _ hmu => absurd hmu (Nat.not_lt_zero _)
  | succ n ih =>
    intro S x1 x2 x3 x4 x5 H locs ls hJ hmu hw hl hexit
    have hF := LJO_turnRows_18_s n S x1 x2 x3 x4 x5
    refine lv_iload hx hb dJO_turnRows_18 (lv_at hl 5 rfl) ?_
    refine lv_iload hx hb dJO_turnRows_20 (lv_at hl 4 rfl) ?_
    refine lv_icmp_ge (tgt := 52) hx hb dJO_turnRows_22 (by decide) (fun c2 => ?_) (fun c2 => ?_)
    · have hF := hF.trans (if_pos c2)
      exact hexit _ _ _ x5 S hF hw (lv_sub hl [0, 1, 2, 3, 4, 5] rfl)
    · have hF := hF.trans (if_neg c2)
      refine lv_aload_n hx hb dJO_turnRows_25 rfl (lv_at hl 0 rfl) ?_
      refine lv_iload_n hx hb dJO_turnRows_26 rfl (lv_at hl 2 rfl) ?_
      refine lv_aload_n hx hb dJO_turnRows_27 rfl (lv_at hl 0 rfl) ?_
      refine V_get B hw (v := .ref (ad 15)) (by decide) rfl rfl hin_JO 5 (by decide) rfl wm_42 rfl dJO_turnRows_28 ?_
      refine lv_iload hx hb dJO_turnRows_31 (lv_at hl 5 rfl) ?_
      refine V_iald (j := x5.toNatClampNeg) (v := S.1 15 x5.toNatClampNeg) B hw (by decide) rfl (vc_FJO_turnRows_ix33_3 S x1 x2 x3 x4 x5 hJ c2) rfl rfl dJO_turnRows_33 ?_
      refine lv_aload_n hx hb dJO_turnRows_34 rfl (lv_at hl 0 rfl) ?_
      refine V_get B hw (v := .ref (ad 16)) (by decide) rfl rfl hin_JO 6 (by decide) rfl wm_43 rfl dJO_turnRows_35 ?_
      refine lv_iload hx hb dJO_turnRows_38 (lv_at hl 5 rfl) ?_
      refine V_lald (j := x5.toNatClampNeg) (v := S.2 16 x5.toNatClampNeg) B hw (by decide) rfl (vc_FJO_turnRows_ix40_4 S x1 x2 x3 x4 x5 hJ c2) rfl rfl dJO_turnRows_40 ?_
      refine lv_lneg hx hb dJO_turnRows_41 ?_
      rcases hq6 : FJO_addRow S x2 (S.1 15 x5.toNatClampNeg) (-(S.2 16 x5.toNatClampNeg)) with ⟨v6, S6⟩
      rw [hq6] at hF; try dsimp only at hF
      refine V_callV (post := pI v6 S6) (rest := []) B hi hw hA hl.1 (by have h := M_FJO_addRow (cI := cI) (cL := cL) (dC := dC) (dI := dI) l hi S x2 (S.1 15 x5.toNatClampNeg) (-(S.2 16 x5.toNatClampNeg)) (vc_FJO_turnRows_pre42_5 S x1 x2 x3 x4 x5 hJ c2); rw [hq6] at h; exact h) (cw_FJO_addRow (Nat.le_of_ble_eq_true rfl) (Nat.le_of_ble_eq_true rfl) (Nat.zero_le _) (Nat.zero_le _)) (by decide) rfl rfl wm_202 wm_47 wm_48 rfl (Nat.le_of_ble_eq_true rfl) dJO_turnRows_42 (kI (fun H locs hw => ?_))
      refine lv_pop hx hb dJO_turnRows_45 rfl ?_
      refine lv_iinc (v := x5 + 1) (lv' := [(5, .int (x5 + 1)), (0, .ref (ad 10)), (1, .int x1), (2, .int x2), (3, .int x3), (4, .int x4)]) hx hb dJO_turnRows_46 hl (k := 5) rfl rfl (by decide) rfl (fun ls hl => ?_)
      refine lv_goto (tgt := 18) hx hb dJO_turnRows_49 (by decide) ?_
      exact ih S6 x1 x2 x3 x4 (x5 + 1) _ _ _ (vc_FJO_turnRows_inv18_7 S x1 x2 x3 x4 x5 hJ c2 v6 S6 hq6) (Nat.lt_of_lt_of_le (vc_FJO_turnRows_mu18_8 S x1 x2 x3 x4 x5 hJ c2 v6 S6 hq6) (Nat.le_of_lt_succ hmu)) hw (lv_sub hl [1, 2, 3, 4, 5, 0] rfl) (fun H locs ls y5 S' h hw hl => hexit H locs ls y5 S' (hF.trans h) hw hl)
theorem cw_FJO_turnRows {R : Room} {cells slots : Nat} (h1 : 2 ≤ R.frames) (h2 : 50 ≤ R.locals) (h3 : cells ≤ R.cells) (h4 : slots ≤ R.slots) : Cw R cells slots yJO_turnRows bJO_turnRows 6 none ({ frames := 1, cells := 0, slots := 0, locals := 25 } : Room) 2 := ⟨wm_412, wm_358, by decide +kernel, ⟨rfl, rfl, h1, h2⟩, h3, h4⟩
set_option maxHeartbeats 4000000 in
set_option maxRecDepth 100000 in
theorem M_FJO_turnRows (l : Launch) {ad : Nat → Nat} {cI cL : ClassId} {dC : Nat → ClassId} {dI : Nat → Nat → Nat} (hi : adI ad) (S : hS) (x1 : Int32) (x2 : Int32) (hp : wfC S ∧ rg x1 40) : Mt l ad cI cL dC dI yJO_turnRows bJO_turnRows 6 none ({ frames := 1, cells := 0, slots := 0, locals := 25 } : Room) [.ref (ad 10), .int x1, .int x2] S (pV (FJO_turnRows S x1 x2)) := by
  refine Mt_of (own := RJO) hi (by decide) rfl (Nat.le_of_ble_eq_true rfl) ?_
  intro p e s m args below meth c ls B hr hlk hw hl
  obtain ⟨hx, hb, -, hown, hts, -, -⟩ := id B
  have hA : ∀ q, AA ad s.heap.size q → AA ad s.heap.size q := fun _ h => h
  have hl : lv_has ls 6 [(0, .ref (ad 10)), (1, .int x1), (2, .int x2)] := hl
  have hF := FJO_turnRows_e S x1 x2
  refine lv_iload_n hx hb dJO_turnRows_0 rfl (lv_at hl 1 rfl) ?_
  refine lv_bipush (v := 6) hx hb dJO_turnRows_1 (by decide) ?_
  refine lv_imul hx hb dJO_turnRows_3 ?_
  refine lv_istore_n (lv' := [(3, .int (x1 * 6)), (0, .ref (ad 10)), (1, .int x1), (2, .int x2)]) hx hb dJO_turnRows_4 rfl hl (by decide) rfl (fun ls hl => ?_)
  refine lv_iload_n hx hb dJO_turnRows_5 rfl (lv_at hl 0 rfl) ?_
  refine lv_aload_n hx hb dJO_turnRows_6 rfl (lv_at hl 1 rfl) ?_
  refine V_get B hw (v := .ref (ad 13)) (by decide) rfl rfl hin_JO 3 (by decide) rfl wm_29 rfl dJO_turnRows_7 ?_
  refine lv_iload_n hx hb dJO_turnRows_10 rfl (lv_at hl 2 rfl) ?_
  refine V_iald (j := x1.toNatClampNeg) (v := S.1 13 x1.toNatClampNeg) B hw (by decide) rfl (vc_FJO_turnRows_ix11_1 S x1 x2 hp) rfl rfl dJO_turnRows_11 ?_
  refine lv_iadd hx hb dJO_turnRows_12 ?_
  refine lv_istore (lv' := [(4, .int ((x1 * 6) + (S.1 13 x1.toNatClampNeg))), (3, .int (x1 * 6)), (0, .ref (ad 10)), (1, .int x1), (2, .int x2)]) hx hb dJO_turnRows_13 hl (by decide) rfl (fun ls hl => ?_)
  refine lv_iload_n hx hb dJO_turnRows_15 rfl (lv_at hl 1 rfl) ?_
  refine lv_istore (lv' := [(5, .int (x1 * 6)), (4, .int ((x1 * 6) + (S.1 13 x1.toNatClampNeg))), (3, .int (x1 * 6)), (0, .ref (ad 10)), (1, .int x1), (2, .int x2)]) hx hb dJO_turnRows_16 hl (by decide) rfl (fun ls hl => ?_)
  refine LPJO_turnRows_18 l hi B hr hlk hA 300 S x1 x2 (x1 * 6) ((x1 * 6) + (S.1 13 x1.toNatClampNeg)) (x1 * 6) _ _ _ (vc_FJO_turnRows_inv018_10 S x1 x2 hp) (vc_FJO_turnRows_mu018_11 S x1 x2 hp) hw (lv_sub hl [3, 4, 5, 2, 1, 0] rfl) (fun H locs ls y9_5 S9 hq9 hw hl => ?_)
  rw [hq9] at hF; try dsimp only at hF
  exact V_vret B hr hlk hw (pV_of hF) dJO_turnRows_52
