theorem cw_FMO_dun {R : Room} {cells slots : Nat} (h1 : 4 ≤ R.frames) (h2 : 94 ≤ R.locals) (h3 : cells ≤ R.cells) (h4 : slots ≤ R.slots) : Cw R cells slots yMO_dun bMO_dun 5 (some .int) ({ frames := 3, cells := 0, slots := 0, locals := 70 } : Room) 2 := ⟨wm_448, wm_426, by decide +kernel, ⟨rfl, rfl, h1, h2⟩, h3, h4⟩
set_option maxHeartbeats 4000000 in
set_option maxRecDepth 100000 in
theorem M_FMO_dun (l : Launch) {ad : Nat → Nat} {cI cL : ClassId} {dC : Nat → ClassId} {dI : Nat → Nat → Nat} (hi : adI ad) (S : hS) (x1 : Int32) (x2 : Int64) (hp : wfM S) : Mt l ad cI cL dC dI yMO_dun bMO_dun 5 (some .int) ({ frames := 3, cells := 0, slots := 0, locals := 70 } : Room) [.ref (ad 49), .int x1, .long x2] S (pI (FMO_dun S x1 x2).1 (FMO_dun S x1 x2).2) := by
  refine Mt_of (own := RMO) hi (by decide) rfl (Nat.le_of_ble_eq_true rfl) ?_
  intro p e s m args below meth c ls B hr hlk hw hl
  obtain ⟨hx, hb, -, hown, hts, -, -⟩ := id B
  have hA : ∀ q, AA ad s.heap.size q → AA ad s.heap.size q := fun _ h => h
  have hl : lv_has ls 5 [(0, .ref (ad 49)), (1, .int x1), (2, .long x2)] := hl
  have hF := FMO_dun_e S x1 x2
  refine lv_aload_n hx hb dMO_dun_0 rfl (lv_at hl 0 rfl) ?_
  refine lv_iconst (v := 0) hx hb dMO_dun_1 (by decide) ?_
  refine V_putI (ty := .int) B hw (by decide) rfl rfl hin_MO tyMO_ok nmMO 4 (by decide) rfl wm_242 rfl (by decide +kernel) rfl rfl dMO_dun_2 (fun H locs hw => ?_)
  refine lv_aload_n hx hb dMO_dun_5 rfl (lv_at hl 0 rfl) ?_
  refine lv_iload_n hx hb dMO_dun_6 rfl (lv_at hl 1 rfl) ?_
  refine V_callV (rest := []) B hi hw hA hl.1 (M_FMO_isHousehold l hi (sI S 49 4 0) x1 (vc_FMO_dun_pre7_1 S x1 x2 hp)) (cw_FMO_isHousehold (Nat.le_of_ble_eq_true rfl) (Nat.le_of_ble_eq_true rfl) (Nat.zero_le _) (Nat.zero_le _)) (by decide) rfl rfl wm_271 wm_272 wm_273 rfl (Nat.le_of_ble_eq_true rfl) dMO_dun_7 (kI (fun H locs hw => ?_))
  refine lv_if_eq (tgt := 20) hx hb dMO_dun_10 (by decide) (fun c2 => ?_) (fun c2 => ?_)
  · have hF := hF.trans (if_pos c2)
    refine lv_iconst (v := (-1)) hx hb dMO_dun_20 (by decide) ?_
    exact V_iret B hr hlk hw (pI_of hF) dMO_dun_21
  · have hF := hF.trans (if_neg c2)
    refine lv_lload_n hx hb dMO_dun_13 rfl (lv_at hl 2 rfl) ?_
    refine V_callS (rest := []) B hi hw hA hl.1 (M_FMO_isDay l hi (sI S 49 4 0) x2) (cw_FMO_isDay (Nat.le_of_ble_eq_true rfl) (Nat.le_of_ble_eq_true rfl) (Nat.zero_le _) (Nat.zero_le _)) wm_245 wm_246 rfl (Nat.le_of_ble_eq_true rfl) dMO_dun_14 (kI (fun H locs hw => ?_))
    refine lv_if_ne (tgt := 22) hx hb dMO_dun_17 (by decide) (fun c3 => ?_) (fun c3 => ?_)
    · have hF := hF.trans (if_neg c3)
      refine lv_aload_n hx hb dMO_dun_22 rfl (lv_at hl 0 rfl) ?_
      refine V_get B hw (v := .ref (ad 50)) (by decide) rfl rfl hin_MO 0 (by decide) rfl wm_234 rfl dMO_dun_23 ?_
      refine lv_bipush (v := 40) hx hb dMO_dun_26 (by decide) ?_
      refine lv_iload_n hx hb dMO_dun_28 rfl (lv_at hl 1 rfl) ?_
      refine lv_iadd hx hb dMO_dun_29 ?_
      refine V_lald (j := (40 + x1).toNatClampNeg) (v := S.2 50 ((40 + x1).toNatClampNeg)) B hw (by decide) rfl (vc_FMO_dun_ix30_4 S x1 x2 hp c2 c3) rfl (by first | rfl | simp [sI_1, sI_2, sL_1, sL_2]) dMO_dun_30 ?_
      refine lv_lconst (v := 0) hx hb dMO_dun_31 (by decide) ?_
      refine V_lle (tgt := 65) B dMO_dun_32 dMO_dun_33 (by decide) (fun c5 => ?_) (fun c5 => ?_)
      · have hF := hF.trans (if_pos c5)
        refine lv_iconst (v := 0) hx hb dMO_dun_65 (by decide) ?_
        refine lv_istore (lv' := [(4, .int 0), (0, .ref (ad 49)), (1, .int x1), (2, .long x2)]) hx hb dMO_dun_66 hl (by decide) rfl (fun ls hl => ?_)
        refine lv_aload_n hx hb dMO_dun_68 rfl (lv_at hl 1 rfl) ?_
        refine lv_iload_n hx hb dMO_dun_69 rfl (lv_at hl 2 rfl) ?_
        refine lv_lload_n hx hb dMO_dun_70 rfl (lv_at hl 3 rfl) ?_
        refine V_callV (rest := []) B hi hw hA hl.1 (M_FMO_hasOld l hi (sI S 49 4 0) x1 x2 (vc_FMO_dun_pre71_6 S x1 x2 hp c2 c3 c5)) (cw_FMO_hasOld (Nat.le_of_ble_eq_true rfl) (Nat.le_of_ble_eq_true rfl) (Nat.zero_le _) (Nat.zero_le _)) (by decide) rfl rfl wm_283 wm_284 wm_285 rfl (Nat.le_of_ble_eq_true rfl) dMO_dun_71 (kI (fun H locs hw => ?_))
        refine lv_if_ne (tgt := 90) hx hb dMO_dun_74 (by decide) (fun c7 => ?_) (fun c7 => ?_)
        · have hF := hF.trans (if_neg c7)
          refine lv_iload hx hb dMO_dun_90 (lv_at hl 0 rfl) ?_
          refine lv_if_ne (tgt := 179) hx hb dMO_dun_92 (by decide) (fun c => absurd (by decide) c) (fun c => ?_)
          refine lv_aload_n hx hb dMO_dun_95 rfl (lv_at hl 1 rfl) ?_
          refine V_get B hw (v := .ref (ad 50)) (by decide) rfl rfl hin_MO 0 (by decide) rfl wm_234 rfl dMO_dun_96 ?_
          refine lv_bipush (v := 20) hx hb dMO_dun_99 (by decide) ?_
          refine lv_iload_n hx hb dMO_dun_101 rfl (lv_at hl 2 rfl) ?_
          refine lv_iadd hx hb dMO_dun_102 ?_
          refine V_lald (j := (20 + x1).toNatClampNeg) (v := S.2 50 ((20 + x1).toNatClampNeg)) B hw (by decide) rfl (vc_FMO_dun_ix103_8 S x1 x2 hp c2 c3 c5 c7) rfl (by first | rfl | simp [sI_1, sI_2, sL_1, sL_2]) dMO_dun_103 ?_
          refine lv_lconst (v := 0) hx hb dMO_dun_104 (by decide) ?_
          refine V_leq (tgt := 127) B dMO_dun_105 dMO_dun_106 (by decide) (fun c9 => ?_) (fun c9 => ?_)
          · have hF := hF.trans (if_pos c9)
            refine lv_aload_n hx hb dMO_dun_127 rfl (lv_at hl 1 rfl) ?_
            refine V_get B hw (v := .ref (ad 50)) (by decide) rfl rfl hin_MO 0 (by decide) rfl wm_234 rfl dMO_dun_128 ?_
            refine lv_bipush (v := 20) hx hb dMO_dun_131 (by decide) ?_
            refine lv_iload_n hx hb dMO_dun_133 rfl (lv_at hl 2 rfl) ?_
            refine lv_iadd hx hb dMO_dun_134 ?_
            refine lv_aload_n hx hb dMO_dun_135 rfl (lv_at hl 1 rfl) ?_
            refine V_get B hw (v := .ref (ad 50)) (by decide) rfl rfl hin_MO 0 (by decide) rfl wm_234 rfl dMO_dun_136 ?_
            refine lv_bipush (v := 20) hx hb dMO_dun_139 (by decide) ?_
            refine lv_iload_n hx hb dMO_dun_141 rfl (lv_at hl 2 rfl) ?_
            refine lv_iadd hx hb dMO_dun_142 ?_
            refine V_lald (j := (20 + x1).toNatClampNeg) (v := S.2 50 ((20 + x1).toNatClampNeg)) B hw (by decide) rfl (vc_FMO_dun_ix143_10 S x1 x2 hp c2 c3 c5 c7 c9) rfl (by first | rfl | simp [sI_1, sI_2, sL_1, sL_2]) dMO_dun_143 ?_
            refine lv_ldc2 (v := 3) hx hb hown (hts _ wm_286) dMO_dun_144 ?_
            refine V_lne (tgt := 157) B dMO_dun_147 dMO_dun_148 (by decide) (fun c11 => ?_) (fun c11 => ?_)
            · have hF := hF.trans (if_neg c11)
              refine lv_aload_n hx hb dMO_dun_157 rfl (lv_at hl 1 rfl) ?_
              refine V_get B hw (v := .ref (ad 50)) (by decide) rfl rfl hin_MO 0 (by decide) rfl wm_234 rfl dMO_dun_158 ?_
              refine lv_bipush (v := 20) hx hb dMO_dun_161 (by decide) ?_
              refine lv_iload_n hx hb dMO_dun_163 rfl (lv_at hl 2 rfl) ?_
              refine lv_iadd hx hb dMO_dun_164 ?_
              refine V_lald (j := (20 + x1).toNatClampNeg) (v := S.2 50 ((20 + x1).toNatClampNeg)) B hw (by decide) rfl (vc_FMO_dun_ix165_12 S x1 x2 hp c2 c3 c5 c7 c9 c11) rfl (by first | rfl | simp [sI_1, sI_2, sL_1, sL_2]) dMO_dun_165 ?_
              refine lv_lconst (v := 1) hx hb dMO_dun_166 (by decide) ?_
              refine lv_ladd hx hb dMO_dun_167 ?_
              refine V_last (j := (20 + x1).toNatClampNeg) B hw (by decide) rfl (vc_FMO_dun_ix168_13 S x1 x2 hp c2 c3 c5 c7 c9 c11) rfl dMO_dun_168 (fun H locs hw => ?_)
              refine lv_aload_n hx hb dMO_dun_169 rfl (lv_at hl 1 rfl) ?_
              refine V_get B hw (v := .ref (ad 50)) (by decide) rfl rfl hin_MO 0 (by decide) rfl wm_234 rfl dMO_dun_170 ?_
              refine lv_bipush (v := 30) hx hb dMO_dun_173 (by decide) ?_
              refine lv_iload_n hx hb dMO_dun_175 rfl (lv_at hl 2 rfl) ?_
              refine lv_iadd hx hb dMO_dun_176 ?_
              refine lv_lload_n hx hb dMO_dun_177 rfl (lv_at hl 3 rfl) ?_
              refine V_last (j := (30 + x1).toNatClampNeg) B hw (by decide) rfl (vc_FMO_dun_ix178_14 S x1 x2 hp c2 c3 c5 c7 c9 c11) rfl dMO_dun_178 (fun H locs hw => ?_)
              refine lv_aload_n hx hb dMO_dun_179 rfl (lv_at hl 1 rfl) ?_
              refine V_get B hw (v := .ref (ad 50)) (by decide) rfl rfl hin_MO 0 (by decide) rfl wm_234 rfl dMO_dun_180 ?_
              refine lv_bipush (v := 20) hx hb dMO_dun_183 (by decide) ?_
              refine lv_iload_n hx hb dMO_dun_185 rfl (lv_at hl 2 rfl) ?_
              refine lv_iadd hx hb dMO_dun_186 ?_
              refine V_lald (j := (20 + x1).toNatClampNeg) (v := (sL (sL (sI S 49 4 0) 50 ((20 + x1).toNatClampNeg) ((S.2 50 ((20 + x1).toNatClampNeg)) + 1)) 50 ((30 + x1).toNatClampNeg) x2).2 50 ((20 + x1).toNatClampNeg)) B hw (by decide) rfl (vc_FMO_dun_ix187_15 S x1 x2 hp c2 c3 c5 c7 c9 c11) rfl rfl dMO_dun_187 ?_
              refine lv_l2i hx hb dMO_dun_188 rfl ?_
              exact V_iret B hr hlk hw (pI_of hF) dMO_dun_189
            · have hF := hF.trans (if_pos c11)
              refine lv_ldc2 (v := 3) hx hb hown (hts _ wm_286) dMO_dun_151 ?_
              refine lv_goto (tgt := 168) hx hb dMO_dun_154 (by decide) ?_
              refine V_last (j := (20 + x1).toNatClampNeg) B hw (by decide) rfl (vc_FMO_dun_ix168_16 S x1 x2 hp c2 c3 c5 c7 c9 c11) rfl dMO_dun_168 (fun H locs hw => ?_)
              refine lv_aload_n hx hb dMO_dun_169 rfl (lv_at hl 1 rfl) ?_
              refine V_get B hw (v := .ref (ad 50)) (by decide) rfl rfl hin_MO 0 (by decide) rfl wm_234 rfl dMO_dun_170 ?_
              refine lv_bipush (v := 30) hx hb dMO_dun_173 (by decide) ?_
              refine lv_iload_n hx hb dMO_dun_175 rfl (lv_at hl 2 rfl) ?_
              refine lv_iadd hx hb dMO_dun_176 ?_
              refine lv_lload_n hx hb dMO_dun_177 rfl (lv_at hl 3 rfl) ?_
              refine V_last (j := (30 + x1).toNatClampNeg) B hw (by decide) rfl (vc_FMO_dun_ix178_17 S x1 x2 hp c2 c3 c5 c7 c9 c11) rfl dMO_dun_178 (fun H locs hw => ?_)
              refine lv_aload_n hx hb dMO_dun_179 rfl (lv_at hl 1 rfl) ?_
              refine V_get B hw (v := .ref (ad 50)) (by decide) rfl rfl hin_MO 0 (by decide) rfl wm_234 rfl dMO_dun_180 ?_
              refine lv_bipush (v := 20) hx hb dMO_dun_183 (by decide) ?_
              refine lv_iload_n hx hb dMO_dun_185 rfl (lv_at hl 2 rfl) ?_
              refine lv_iadd hx hb dMO_dun_186 ?_
              refine V_lald (j := (20 + x1).toNatClampNeg) (v := (sL (sL (sI S 49 4 0) 50 ((20 + x1).toNatClampNeg) 3) 50 ((30 + x1).toNatClampNeg) x2).2 50 ((20 + x1).toNatClampNeg)) B hw (by decide) rfl (vc_FMO_dun_ix187_18 S x1 x2 hp c2 c3 c5 c7 c9 c11) rfl rfl dMO_dun_187 ?_
              refine lv_l2i hx hb dMO_dun_188 rfl ?_
              exact V_iret B hr hlk hw (pI_of hF) dMO_dun_189
          · have hF := hF.trans (if_neg c9)
            refine lv_lload_n hx hb dMO_dun_109 rfl (lv_at hl 3 rfl) ?_
            refine lv_aload_n hx hb dMO_dun_110 rfl (lv_at hl 1 rfl) ?_
            refine V_get B hw (v := .ref (ad 50)) (by decide) rfl rfl hin_MO 0 (by decide) rfl wm_234 rfl dMO_dun_111 ?_
            refine lv_bipush (v := 30) hx hb dMO_dun_114 (by decide) ?_
            refine lv_iload_n hx hb dMO_dun_116 rfl (lv_at hl 2 rfl) ?_
            refine lv_iadd hx hb dMO_dun_117 ?_
            refine V_lald (j := (30 + x1).toNatClampNeg) (v := S.2 50 ((30 + x1).toNatClampNeg)) B hw (by decide) rfl (vc_FMO_dun_ix118_19 S x1 x2 hp c2 c3 c5 c7 c9) rfl (by first | rfl | simp [sI_1, sI_2, sL_1, sL_2]) dMO_dun_118 ?_
            refine lv_lsub hx hb dMO_dun_119 ?_
            refine lv_ldc2 (v := 14) hx hb hown (hts _ wm_287) dMO_dun_120 ?_
            refine V_llt (tgt := 179) B dMO_dun_123 dMO_dun_124 (by decide) (fun c20 => ?_) (fun c20 => ?_)
            · have hF := hF.trans (if_pos c20)
              refine lv_aload_n hx hb dMO_dun_179 rfl (lv_at hl 1 rfl) ?_
              refine V_get B hw (v := .ref (ad 50)) (by decide) rfl rfl hin_MO 0 (by decide) rfl wm_234 rfl dMO_dun_180 ?_
              refine lv_bipush (v := 20) hx hb dMO_dun_183 (by decide) ?_
              refine lv_iload_n hx hb dMO_dun_185 rfl (lv_at hl 2 rfl) ?_
              refine lv_iadd hx hb dMO_dun_186 ?_
              refine V_lald (j := (20 + x1).toNatClampNeg) (v := S.2 50 ((20 + x1).toNatClampNeg)) B hw (by decide) rfl (vc_FMO_dun_ix187_21 S x1 x2 hp c2 c3 c5 c7 c9 c20) rfl (by first | rfl | simp [sI_1, sI_2, sL_1, sL_2]) dMO_dun_187 ?_
              refine lv_l2i hx hb dMO_dun_188 rfl ?_
              exact V_iret B hr hlk hw (pI_of hF) dMO_dun_189
            · have hF := hF.trans (if_neg c20)
              refine lv_aload_n hx hb dMO_dun_127 rfl (lv_at hl 1 rfl) ?_
              refine V_get B hw (v := .ref (ad 50)) (by decide) rfl rfl hin_MO 0 (by decide) rfl wm_234 rfl dMO_dun_128 ?_
              refine lv_bipush (v := 20) hx hb dMO_dun_131 (by decide) ?_
              refine lv_iload_n hx hb dMO_dun_133 rfl (lv_at hl 2 rfl) ?_
              refine lv_iadd hx hb dMO_dun_134 ?_
              refine lv_aload_n hx hb dMO_dun_135 rfl (lv_at hl 1 rfl) ?_
              refine V_get B hw (v := .ref (ad 50)) (by decide) rfl rfl hin_MO 0 (by decide) rfl wm_234 rfl dMO_dun_136 ?_
              refine lv_bipush (v := 20) hx hb dMO_dun_139 (by decide) ?_
              refine lv_iload_n hx hb dMO_dun_141 rfl (lv_at hl 2 rfl) ?_
              refine lv_iadd hx hb dMO_dun_142 ?_
              refine V_lald (j := (20 + x1).toNatClampNeg) (v := S.2 50 ((20 + x1).toNatClampNeg)) B hw (by decide) rfl (vc_FMO_dun_ix143_22 S x1 x2 hp c2 c3 c5 c7 c9 c20) rfl (by first | rfl | simp [sI_1, sI_2, sL_1, sL_2]) dMO_dun_143 ?_
              refine lv_ldc2 (v := 3) hx hb hown (hts _ wm_286) dMO_dun_144 ?_
              refine V_lne (tgt := 157) B dMO_dun_147 dMO_dun_148 (by decide) (fun c23 => ?_) (fun c23 => ?_)
              · have hF := hF.trans (if_neg c23)
                refine lv_aload_n hx hb dMO_dun_157 rfl (lv_at hl 1 rfl) ?_
                refine V_get B hw (v := .ref (ad 50)) (by decide) rfl rfl hin_MO 0 (by decide) rfl wm_234 rfl dMO_dun_158 ?_
                refine lv_bipush (v := 20) hx hb dMO_dun_161 (by decide) ?_
                refine lv_iload_n hx hb dMO_dun_163 rfl (lv_at hl 2 rfl) ?_
                refine lv_iadd hx hb dMO_dun_164 ?_
                refine V_lald (j := (20 + x1).toNatClampNeg) (v := S.2 50 ((20 + x1).toNatClampNeg)) B hw (by decide) rfl (vc_FMO_dun_ix165_24 S x1 x2 hp c2 c3 c5 c7 c9 c20 c23) rfl (by first | rfl | simp [sI_1, sI_2, sL_1, sL_2]) dMO_dun_165 ?_
                refine lv_lconst (v := 1) hx hb dMO_dun_166 (by decide) ?_
                refine lv_ladd hx hb dMO_dun_167 ?_
                refine V_last (j := (20 + x1).toNatClampNeg) B hw (by decide) rfl (vc_FMO_dun_ix168_25 S x1 x2 hp c2 c3 c5 c7 c9 c20 c23) rfl dMO_dun_168 (fun H locs hw => ?_)
                refine lv_aload_n hx hb dMO_dun_169 rfl (lv_at hl 1 rfl) ?_
                refine V_get B hw (v := .ref (ad 50)) (by decide) rfl rfl hin_MO 0 (by decide) rfl wm_234 rfl dMO_dun_170 ?_
                refine lv_bipush (v := 30) hx hb dMO_dun_173 (by decide) ?_
                refine lv_iload_n hx hb dMO_dun_175 rfl (lv_at hl 2 rfl) ?_
                refine lv_iadd hx hb dMO_dun_176 ?_
                refine lv_lload_n hx hb dMO_dun_177 rfl (lv_at hl 3 rfl) ?_
                refine V_last (j := (30 + x1).toNatClampNeg) B hw (by decide) rfl (vc_FMO_dun_ix178_26 S x1 x2 hp c2 c3 c5 c7 c9 c20 c23) rfl dMO_dun_178 (fun H locs hw => ?_)
                refine lv_aload_n hx hb dMO_dun_179 rfl (lv_at hl 1 rfl) ?_
                refine V_get B hw (v := .ref (ad 50)) (by decide) rfl rfl hin_MO 0 (by decide) rfl wm_234 rfl dMO_dun_180 ?_
                refine lv_bipush (v := 20) hx hb dMO_dun_183 (by decide) ?_
                refine lv_iload_n hx hb dMO_dun_185 rfl (lv_at hl 2 rfl) ?_
                refine lv_iadd hx hb dMO_dun_186 ?_
                refine V_lald (j := (20 + x1).toNatClampNeg) (v := (sL (sL (sI S 49 4 0) 50 ((20 + x1).toNatClampNeg) ((S.2 50 ((20 + x1).toNatClampNeg)) + 1)) 50 ((30 + x1).toNatClampNeg) x2).2 50 ((20 + x1).toNatClampNeg)) B hw (by decide) rfl (vc_FMO_dun_ix187_27 S x1 x2 hp c2 c3 c5 c7 c9 c20 c23) rfl rfl dMO_dun_187 ?_
                refine lv_l2i hx hb dMO_dun_188 rfl ?_
                exact V_iret B hr hlk hw (pI_of hF) dMO_dun_189
              · have hF := hF.trans (if_pos c23)
                refine lv_ldc2 (v := 3) hx hb hown (hts _ wm_286) dMO_dun_151 ?_
                refine lv_goto (tgt := 168) hx hb dMO_dun_154 (by decide) ?_
                refine V_last (j := (20 + x1).toNatClampNeg) B hw (by decide) rfl (vc_FMO_dun_ix168_28 S x1 x2 hp c2 c3 c5 c7 c9 c20 c23) rfl dMO_dun_168 (fun H locs hw => ?_)
                refine lv_aload_n hx hb dMO_dun_169 rfl (lv_at hl 1 rfl) ?_
                refine V_get B hw (v := .ref (ad 50)) (by decide) rfl rfl hin_MO 0 (by decide) rfl wm_234 rfl dMO_dun_170 ?_
                refine lv_bipush (v := 30) hx hb dMO_dun_173 (by decide) ?_
                refine lv_iload_n hx hb dMO_dun_175 rfl (lv_at hl 2 rfl) ?_
                refine lv_iadd hx hb dMO_dun_176 ?_
                refine lv_lload_n hx hb dMO_dun_177 rfl (lv_at hl 3 rfl) ?_
                refine V_last (j := (30 + x1).toNatClampNeg) B hw (by decide) rfl (vc_FMO_dun_ix178_29 S x1 x2 hp c2 c3 c5 c7 c9 c20 c23) rfl dMO_dun_178 (fun H locs hw => ?_)
                refine lv_aload_n hx hb dMO_dun_179 rfl (lv_at hl 1 rfl) ?_
                refine V_get B hw (v := .ref (ad 50)) (by decide) rfl rfl hin_MO 0 (by decide) rfl wm_234 rfl dMO_dun_180 ?_
                refine lv_bipush (v := 20) hx hb dMO_dun_183 (by decide) ?_
                refine lv_iload_n hx hb dMO_dun_185 rfl (lv_at hl 2 rfl) ?_
                refine lv_iadd hx hb dMO_dun_186 ?_
                refine V_lald (j := (20 + x1).toNatClampNeg) (v := (sL (sL (sI S 49 4 0) 50 ((20 + x1).toNatClampNeg) 3) 50 ((30 + x1).toNatClampNeg) x2).2 50 ((20 + x1).toNatClampNeg)) B hw (by decide) rfl (vc_FMO_dun_ix187_30 S x1 x2 hp c2 c3 c5 c7 c9 c20 c23) rfl rfl dMO_dun_187 ?_
                refine lv_l2i hx hb dMO_dun_188 rfl ?_
                exact V_iret B hr hlk hw (pI_of hF) dMO_dun_189
        · have hF := hF.trans (if_pos c7)
          refine lv_aload_n hx hb dMO_dun_77 rfl (lv_at hl 1 rfl) ?_
          refine V_get B hw (v := .ref (ad 50)) (by decide) rfl rfl hin_MO 0 (by decide) rfl wm_234 rfl dMO_dun_78 ?_
          refine lv_bipush (v := 20) hx hb dMO_dun_81 (by decide) ?_
          refine lv_iload_n hx hb dMO_dun_83 rfl (lv_at hl 2 rfl) ?_
          refine lv_iadd hx hb dMO_dun_84 ?_
          refine lv_lconst (v := 0) hx hb dMO_dun_85 (by decide) ?_
          refine V_last (j := (20 + x1).toNatClampNeg) B hw (by decide) rfl (vc_FMO_dun_ix86_31 S x1 x2 hp c2 c3 c5 c7) rfl dMO_dun_86 (fun H locs hw => ?_)
          refine lv_goto (tgt := 179) hx hb dMO_dun_87 (by decide) ?_
          refine lv_aload_n hx hb dMO_dun_179 rfl (lv_at hl 1 rfl) ?_
          refine V_get B hw (v := .ref (ad 50)) (by decide) rfl rfl hin_MO 0 (by decide) rfl wm_234 rfl dMO_dun_180 ?_
          refine lv_bipush (v := 20) hx hb dMO_dun_183 (by decide) ?_
          refine lv_iload_n hx hb dMO_dun_185 rfl (lv_at hl 2 rfl) ?_
          refine lv_iadd hx hb dMO_dun_186 ?_
          refine V_lald (j := (20 + x1).toNatClampNeg) (v := 0) B hw (by decide) rfl (vc_FMO_dun_ix187_32 S x1 x2 hp c2 c3 c5 c7) rfl (by first | rfl | simp [sI_1, sI_2, sL_1, sL_2]) dMO_dun_187 ?_
          refine lv_l2i (v := 0) hx hb dMO_dun_188 (by decide) ?_
          exact V_iret B hr hlk hw (pI_of hF) dMO_dun_189
      · have hF := hF.trans (if_neg c5)
        refine lv_lload_n hx hb dMO_dun_36 rfl (lv_at hl 2 rfl) ?_
        refine lv_aload_n hx hb dMO_dun_37 rfl (lv_at hl 0 rfl) ?_
        refine V_get B hw (v := .ref (ad 50)) (by decide) rfl rfl hin_MO 0 (by decide) rfl wm_234 rfl dMO_dun_38 ?_
        refine lv_bipush (v := 50) hx hb dMO_dun_41 (by decide) ?_
        refine lv_iload_n hx hb dMO_dun_43 rfl (lv_at hl 1 rfl) ?_
        refine lv_iadd hx hb dMO_dun_44 ?_
        refine V_lald (j := (50 + x1).toNatClampNeg) (v := S.2 50 ((50 + x1).toNatClampNeg)) B hw (by decide) rfl (vc_FMO_dun_ix45_33 S x1 x2 hp c2 c3 c5) rfl (by first | rfl | simp [sI_1, sI_2, sL_1, sL_2]) dMO_dun_45 ?_
        refine lv_aload_n hx hb dMO_dun_46 rfl (lv_at hl 0 rfl) ?_
        refine V_get B hw (v := .ref (ad 50)) (by decide) rfl rfl hin_MO 0 (by decide) rfl wm_234 rfl dMO_dun_47 ?_
        refine lv_bipush (v := 60) hx hb dMO_dun_50 (by decide) ?_
        refine lv_iload_n hx hb dMO_dun_52 rfl (lv_at hl 1 rfl) ?_
        refine lv_iadd hx hb dMO_dun_53 ?_
        refine V_lald (j := (60 + x1).toNatClampNeg) (v := S.2 50 ((60 + x1).toNatClampNeg)) B hw (by decide) rfl (vc_FMO_dun_ix54_34 S x1 x2 hp c2 c3 c5) rfl (by first | rfl | simp [sI_1, sI_2, sL_1, sL_2]) dMO_dun_54 ?_
        refine V_callS (rest := []) B hi hw hA hl.1 (M_FMO_isIn l hi (sI S 49 4 0) x2 (S.2 50 ((50 + x1).toNatClampNeg)) (S.2 50 ((60 + x1).toNatClampNeg))) (cw_FMO_isIn (Nat.le_of_ble_eq_true rfl) (Nat.le_of_ble_eq_true rfl) (Nat.zero_le _) (Nat.zero_le _)) wm_239 wm_240 rfl (Nat.le_of_ble_eq_true rfl) dMO_dun_55 (kI (fun H locs hw => ?_))
        refine lv_if_eq (tgt := 65) hx hb dMO_dun_58 (by decide) (fun c35 => ?_) (fun c35 => ?_)
        · have hF := hF.trans (if_pos c35)
          refine lv_iconst (v := 0) hx hb dMO_dun_65 (by decide) ?_
          refine lv_istore (lv' := [(4, .int 0), (0, .ref (ad 49)), (1, .int x1), (2, .long x2)]) hx hb dMO_dun_66 hl (by decide) rfl (fun ls hl => ?_)
          refine lv_aload_n hx hb dMO_dun_68 rfl (lv_at hl 1 rfl) ?_
          refine lv_iload_n hx hb dMO_dun_69 rfl (lv_at hl 2 rfl) ?_
          refine lv_lload_n hx hb dMO_dun_70 rfl (lv_at hl 3 rfl) ?_
          refine V_callV (rest := []) B hi hw hA hl.1 (M_FMO_hasOld l hi (sI S 49 4 0) x1 x2 (vc_FMO_dun_pre71_36 S x1 x2 hp c2 c3 c5 c35)) (cw_FMO_hasOld (Nat.le_of_ble_eq_true rfl) (Nat.le_of_ble_eq_true rfl) (Nat.zero_le _) (Nat.zero_le _)) (by decide) rfl rfl wm_283 wm_284 wm_285 rfl (Nat.le_of_ble_eq_true rfl) dMO_dun_71 (kI (fun H locs hw => ?_))
          refine lv_if_ne (tgt := 90) hx hb dMO_dun_74 (by decide) (fun c37 => ?_) (fun c37 => ?_)
          · have hF := hF.trans (if_neg c37)
            refine lv_iload hx hb dMO_dun_90 (lv_at hl 0 rfl) ?_
            refine lv_if_ne (tgt := 179) hx hb dMO_dun_92 (by decide) (fun c => absurd (by decide) c) (fun c => ?_)
            refine lv_aload_n hx hb dMO_dun_95 rfl (lv_at hl 1 rfl) ?_
            refine V_get B hw (v := .ref (ad 50)) (by decide) rfl rfl hin_MO 0 (by decide) rfl wm_234 rfl dMO_dun_96 ?_
            refine lv_bipush (v := 20) hx hb dMO_dun_99 (by decide) ?_
            refine lv_iload_n hx hb dMO_dun_101 rfl (lv_at hl 2 rfl) ?_
            refine lv_iadd hx hb dMO_dun_102 ?_
            refine V_lald (j := (20 + x1).toNatClampNeg) (v := S.2 50 ((20 + x1).toNatClampNeg)) B hw (by decide) rfl (vc_FMO_dun_ix103_38 S x1 x2 hp c2 c3 c5 c35 c37) rfl (by first | rfl | simp [sI_1, sI_2, sL_1, sL_2]) dMO_dun_103 ?_
            refine lv_lconst (v := 0) hx hb dMO_dun_104 (by decide) ?_
            refine V_leq (tgt := 127) B dMO_dun_105 dMO_dun_106 (by decide) (fun c39 => ?_) (fun c39 => ?_)
            · have hF := hF.trans (if_pos c39)
              refine lv_aload_n hx hb dMO_dun_127 rfl (lv_at hl 1 rfl) ?_
              refine V_get B hw (v := .ref (ad 50)) (by decide) rfl rfl hin_MO 0 (by decide) rfl wm_234 rfl dMO_dun_128 ?_
              refine lv_bipush (v := 20) hx hb dMO_dun_131 (by decide) ?_
              refine lv_iload_n hx hb dMO_dun_133 rfl (lv_at hl 2 rfl) ?_
              refine lv_iadd hx hb dMO_dun_134 ?_
              refine lv_aload_n hx hb dMO_dun_135 rfl (lv_at hl 1 rfl) ?_
              refine V_get B hw (v := .ref (ad 50)) (by decide) rfl rfl hin_MO 0 (by decide) rfl wm_234 rfl dMO_dun_136 ?_
              refine lv_bipush (v := 20) hx hb dMO_dun_139 (by decide) ?_
              refine lv_iload_n hx hb dMO_dun_141 rfl (lv_at hl 2 rfl) ?_
              refine lv_iadd hx hb dMO_dun_142 ?_
              refine V_lald (j := (20 + x1).toNatClampNeg) (v := S.2 50 ((20 + x1).toNatClampNeg)) B hw (by decide) rfl (vc_FMO_dun_ix143_40 S x1 x2 hp c2 c3 c5 c35 c37 c39) rfl (by first | rfl | simp [sI_1, sI_2, sL_1, sL_2]) dMO_dun_143 ?_
              refine lv_ldc2 (v := 3) hx hb hown (hts _ wm_286) dMO_dun_144 ?_
              refine V_lne (tgt := 157) B dMO_dun_147 dMO_dun_148 (by decide) (fun c41 => ?_) (fun c41 => ?_)
              · have hF := hF.trans (if_neg c41)
                refine lv_aload_n hx hb dMO_dun_157 rfl (lv_at hl 1 rfl) ?_
                refine V_get B hw (v := .ref (ad 50)) (by decide) rfl rfl hin_MO 0 (by decide) rfl wm_234 rfl dMO_dun_158 ?_
                refine lv_bipush (v := 20) hx hb dMO_dun_161 (by decide) ?_
                refine lv_iload_n hx hb dMO_dun_163 rfl (lv_at hl 2 rfl) ?_
                refine lv_iadd hx hb dMO_dun_164 ?_
                refine V_lald (j := (20 + x1).toNatClampNeg) (v := S.2 50 ((20 + x1).toNatClampNeg)) B hw (by decide) rfl (vc_FMO_dun_ix165_42 S x1 x2 hp c2 c3 c5 c35 c37 c39 c41) rfl (by first | rfl | simp [sI_1, sI_2, sL_1, sL_2]) dMO_dun_165 ?_
                refine lv_lconst (v := 1) hx hb dMO_dun_166 (by decide) ?_
                refine lv_ladd hx hb dMO_dun_167 ?_
                refine V_last (j := (20 + x1).toNatClampNeg) B hw (by decide) rfl (vc_FMO_dun_ix168_43 S x1 x2 hp c2 c3 c5 c35 c37 c39 c41) rfl dMO_dun_168 (fun H locs hw => ?_)
                refine lv_aload_n hx hb dMO_dun_169 rfl (lv_at hl 1 rfl) ?_
                refine V_get B hw (v := .ref (ad 50)) (by decide) rfl rfl hin_MO 0 (by decide) rfl wm_234 rfl dMO_dun_170 ?_
                refine lv_bipush (v := 30) hx hb dMO_dun_173 (by decide) ?_
                refine lv_iload_n hx hb dMO_dun_175 rfl (lv_at hl 2 rfl) ?_
                refine lv_iadd hx hb dMO_dun_176 ?_
                refine lv_lload_n hx hb dMO_dun_177 rfl (lv_at hl 3 rfl) ?_
                refine V_last (j := (30 + x1).toNatClampNeg) B hw (by decide) rfl (vc_FMO_dun_ix178_44 S x1 x2 hp c2 c3 c5 c35 c37 c39 c41) rfl dMO_dun_178 (fun H locs hw => ?_)
                refine lv_aload_n hx hb dMO_dun_179 rfl (lv_at hl 1 rfl) ?_
                refine V_get B hw (v := .ref (ad 50)) (by decide) rfl rfl hin_MO 0 (by decide) rfl wm_234 rfl dMO_dun_180 ?_
                refine lv_bipush (v := 20) hx hb dMO_dun_183 (by decide) ?_
                refine lv_iload_n hx hb dMO_dun_185 rfl (lv_at hl 2 rfl) ?_
                refine lv_iadd hx hb dMO_dun_186 ?_
                refine V_lald (j := (20 + x1).toNatClampNeg) (v := (sL (sL (sI S 49 4 0) 50 ((20 + x1).toNatClampNeg) ((S.2 50 ((20 + x1).toNatClampNeg)) + 1)) 50 ((30 + x1).toNatClampNeg) x2).2 50 ((20 + x1).toNatClampNeg)) B hw (by decide) rfl (vc_FMO_dun_ix187_45 S x1 x2 hp c2 c3 c5 c35 c37 c39 c41) rfl rfl dMO_dun_187 ?_
                refine lv_l2i hx hb dMO_dun_188 rfl ?_
                exact V_iret B hr hlk hw (pI_of hF) dMO_dun_189
              · have hF := hF.trans (if_pos c41)
                refine lv_ldc2 (v := 3) hx hb hown (hts _ wm_286) dMO_dun_151 ?_
                refine lv_goto (tgt := 168) hx hb dMO_dun_154 (by decide) ?_
                refine V_last (j := (20 + x1).toNatClampNeg) B hw (by decide) rfl (vc_FMO_dun_ix168_46 S x1 x2 hp c2 c3 c5 c35 c37 c39 c41) rfl dMO_dun_168 (fun H locs hw => ?_)
                refine lv_aload_n hx hb dMO_dun_169 rfl (lv_at hl 1 rfl) ?_
                refine V_get B hw (v := .ref (ad 50)) (by decide) rfl rfl hin_MO 0 (by decide) rfl wm_234 rfl dMO_dun_170 ?_
                refine lv_bipush (v := 30) hx hb dMO_dun_173 (by decide) ?_
                refine lv_iload_n hx hb dMO_dun_175 rfl (lv_at hl 2 rfl) ?_
                refine lv_iadd hx hb dMO_dun_176 ?_
                refine lv_lload_n hx hb dMO_dun_177 rfl (lv_at hl 3 rfl) ?_
                refine V_last (j := (30 + x1).toNatClampNeg) B hw (by decide) rfl (vc_FMO_dun_ix178_47 S x1 x2 hp c2 c3 c5 c35 c37 c39 c41) rfl dMO_dun_178 (fun H locs hw => ?_)
                refine lv_aload_n hx hb dMO_dun_179 rfl (lv_at hl 1 rfl) ?_
                refine V_get B hw (v := .ref (ad 50)) (by decide) rfl rfl hin_MO 0 (by decide) rfl wm_234 rfl dMO_dun_180 ?_
                refine lv_bipush (v := 20) hx hb dMO_dun_183 (by decide) ?_
                refine lv_iload_n hx hb dMO_dun_185 rfl (lv_at hl 2 rfl) ?_
                refine lv_iadd hx hb dMO_dun_186 ?_
                refine V_lald (j := (20 + x1).toNatClampNeg) (v := (sL (sL (sI S 49 4 0) 50 ((20 + x1).toNatClampNeg) 3) 50 ((30 + x1).toNatClampNeg) x2).2 50 ((20 + x1).toNatClampNeg)) B hw (by decide) rfl (vc_FMO_dun_ix187_48 S x1 x2 hp c2 c3 c5 c35 c37 c39 c41) rfl rfl dMO_dun_187 ?_
                refine lv_l2i hx hb dMO_dun_188 rfl ?_
                exact V_iret B hr hlk hw (pI_of hF) dMO_dun_189
            · have hF := hF.trans (if_neg c39)
              refine lv_lload_n hx hb dMO_dun_109 rfl (lv_at hl 3 rfl) ?_
              refine lv_aload_n hx hb dMO_dun_110 rfl (lv_at hl 1 rfl) ?_
              refine V_get B hw (v := .ref (ad 50)) (by decide) rfl rfl hin_MO 0 (by decide) rfl wm_234 rfl dMO_dun_111 ?_
              refine lv_bipush (v := 30) hx hb dMO_dun_114 (by decide) ?_
              refine lv_iload_n hx hb dMO_dun_116 rfl (lv_at hl 2 rfl) ?_
              refine lv_iadd hx hb dMO_dun_117 ?_
              refine V_lald (j := (30 + x1).toNatClampNeg) (v := S.2 50 ((30 + x1).toNatClampNeg)) B hw (by decide) rfl (vc_FMO_dun_ix118_49 S x1 x2 hp c2 c3 c5 c35 c37 c39) rfl (by first | rfl | simp [sI_1, sI_2, sL_1, sL_2]) dMO_dun_118 ?_
              refine lv_lsub hx hb dMO_dun_119 ?_
              refine lv_ldc2 (v := 14) hx hb hown (hts _ wm_287) dMO_dun_120 ?_
              refine V_llt (tgt := 179) B dMO_dun_123 dMO_dun_124 (by decide) (fun c50 => ?_) (fun c50 => ?_)
              · have hF := hF.trans (if_pos c50)
                refine lv_aload_n hx hb dMO_dun_179 rfl (lv_at hl 1 rfl) ?_
                refine V_get B hw (v := .ref (ad 50)) (by decide) rfl rfl hin_MO 0 (by decide) rfl wm_234 rfl dMO_dun_180 ?_
                refine lv_bipush (v := 20) hx hb dMO_dun_183 (by decide) ?_
                refine lv_iload_n hx hb dMO_dun_185 rfl (lv_at hl 2 rfl) ?_
                refine lv_iadd hx hb dMO_dun_186 ?_
                refine V_lald (j := (20 + x1).toNatClampNeg) (v := S.2 50 ((20 + x1).toNatClampNeg)) B hw (by decide) rfl (vc_FMO_dun_ix187_51 S x1 x2 hp c2 c3 c5 c35 c37 c39 c50) rfl (by first | rfl | simp [sI_1, sI_2, sL_1, sL_2]) dMO_dun_187 ?_
                refine lv_l2i hx hb dMO_dun_188 rfl ?_
                exact V_iret B hr hlk hw (pI_of hF) dMO_dun_189
              · have hF := hF.trans (if_neg c50)
                refine lv_aload_n hx hb dMO_dun_127 rfl (lv_at hl 1 rfl) ?_
                refine V_get B hw (v := .ref (ad 50)) (by decide) rfl rfl hin_MO 0 (by decide) rfl wm_234 rfl dMO_dun_128 ?_
                refine lv_bipush (v := 20) hx hb dMO_dun_131 (by decide) ?_
                refine lv_iload_n hx hb dMO_dun_133 rfl (lv_at hl 2 rfl) ?_
                refine lv_iadd hx hb dMO_dun_134 ?_
                refine lv_aload_n hx hb dMO_dun_135 rfl (lv_at hl 1 rfl) ?_
                refine V_get B hw (v := .ref (ad 50)) (by decide) rfl rfl hin_MO 0 (by decide) rfl wm_234 rfl dMO_dun_136 ?_
                refine lv_bipush (v := 20) hx hb dMO_dun_139 (by decide) ?_
                refine lv_iload_n hx hb dMO_dun_141 rfl (lv_at hl 2 rfl) ?_
                refine lv_iadd hx hb dMO_dun_142 ?_
                refine V_lald (j := (20 + x1).toNatClampNeg) (v := S.2 50 ((20 + x1).toNatClampNeg)) B hw (by decide) rfl (vc_FMO_dun_ix143_52 S x1 x2 hp c2 c3 c5 c35 c37 c39 c50) rfl (by first | rfl | simp [sI_1, sI_2, sL_1, sL_2]) dMO_dun_143 ?_
                refine lv_ldc2 (v := 3) hx hb hown (hts _ wm_286) dMO_dun_144 ?_
                refine V_lne (tgt := 157) B dMO_dun_147 dMO_dun_148 (by decide) (fun c53 => ?_) (fun c53 => ?_)
                · have hF := hF.trans (if_neg c53)
                  refine lv_aload_n hx hb dMO_dun_157 rfl (lv_at hl 1 rfl) ?_
                  refine V_get B hw (v := .ref (ad 50)) (by decide) rfl rfl hin_MO 0 (by decide) rfl wm_234 rfl dMO_dun_158 ?_
                  refine lv_bipush (v := 20) hx hb dMO_dun_161 (by decide) ?_
                  refine lv_iload_n hx hb dMO_dun_163 rfl (lv_at hl 2 rfl) ?_
                  refine lv_iadd hx hb dMO_dun_164 ?_
                  refine V_lald (j := (20 + x1).toNatClampNeg) (v := S.2 50 ((20 + x1).toNatClampNeg)) B hw (by decide) rfl (vc_FMO_dun_ix165_54 S x1 x2 hp c2 c3 c5 c35 c37 c39 c50 c53) rfl (by first | rfl | simp [sI_1, sI_2, sL_1, sL_2]) dMO_dun_165 ?_
                  refine lv_lconst (v := 1) hx hb dMO_dun_166 (by decide) ?_
                  refine lv_ladd hx hb dMO_dun_167 ?_
                  refine V_last (j := (20 + x1).toNatClampNeg) B hw (by decide) rfl (vc_FMO_dun_ix168_55 S x1 x2 hp c2 c3 c5 c35 c37 c39 c50 c53) rfl dMO_dun_168 (fun H locs hw => ?_)
                  refine lv_aload_n hx hb dMO_dun_169 rfl (lv_at hl 1 rfl) ?_
                  refine V_get B hw (v := .ref (ad 50)) (by decide) rfl rfl hin_MO 0 (by decide) rfl wm_234 rfl dMO_dun_170 ?_
                  refine lv_bipush (v := 30) hx hb dMO_dun_173 (by decide) ?_
                  refine lv_iload_n hx hb dMO_dun_175 rfl (lv_at hl 2 rfl) ?_
                  refine lv_iadd hx hb dMO_dun_176 ?_
                  refine lv_lload_n hx hb dMO_dun_177 rfl (lv_at hl 3 rfl) ?_
                  refine V_last (j := (30 + x1).toNatClampNeg) B hw (by decide) rfl (vc_FMO_dun_ix178_56 S x1 x2 hp c2 c3 c5 c35 c37 c39 c50 c53) rfl dMO_dun_178 (fun H locs hw => ?_)
                  refine lv_aload_n hx hb dMO_dun_179 rfl (lv_at hl 1 rfl) ?_
                  refine V_get B hw (v := .ref (ad 50)) (by decide) rfl rfl hin_MO 0 (by decide) rfl wm_234 rfl dMO_dun_180 ?_
                  refine lv_bipush (v := 20) hx hb dMO_dun_183 (by decide) ?_
                  refine lv_iload_n hx hb dMO_dun_185 rfl (lv_at hl 2 rfl) ?_
                  refine lv_iadd hx hb dMO_dun_186 ?_
                  refine V_lald (j := (20 + x1).toNatClampNeg) (v := (sL (sL (sI S 49 4 0) 50 ((20 + x1).toNatClampNeg) ((S.2 50 ((20 + x1).toNatClampNeg)) + 1)) 50 ((30 + x1).toNatClampNeg) x2).2 50 ((20 + x1).toNatClampNeg)) B hw (by decide) rfl (vc_FMO_dun_ix187_57 S x1 x2 hp c2 c3 c5 c35 c37 c39 c50 c53) rfl rfl dMO_dun_187 ?_
                  refine lv_l2i hx hb dMO_dun_188 rfl ?_
                  exact V_iret B hr hlk hw (pI_of hF) dMO_dun_189
                · have hF := hF.trans (if_pos c53)
                  refine lv_ldc2 (v := 3) hx hb hown (hts _ wm_286) dMO_dun_151 ?_
                  refine lv_goto (tgt := 168) hx hb dMO_dun_154 (by decide) ?_
                  refine V_last (j := (20 + x1).toNatClampNeg) B hw (by decide) rfl (vc_FMO_dun_ix168_58 S x1 x2 hp c2 c3 c5 c35 c37 c39 c50 c53) rfl dMO_dun_168 (fun H locs hw => ?_)
                  refine lv_aload_n hx hb dMO_dun_169 rfl (lv_at hl 1 rfl) ?_
                  refine V_get B hw (v := .ref (ad 50)) (by decide) rfl rfl hin_MO 0 (by decide) rfl wm_234 rfl dMO_dun_170 ?_
                  refine lv_bipush (v := 30) hx hb dMO_dun_173 (by decide) ?_
                  refine lv_iload_n hx hb dMO_dun_175 rfl (lv_at hl 2 rfl) ?_
                  refine lv_iadd hx hb dMO_dun_176 ?_
                  refine lv_lload_n hx hb dMO_dun_177 rfl (lv_at hl 3 rfl) ?_
                  refine V_last (j := (30 + x1).toNatClampNeg) B hw (by decide) rfl (vc_FMO_dun_ix178_59 S x1 x2 hp c2 c3 c5 c35 c37 c39 c50 c53) rfl dMO_dun_178 (fun H locs hw => ?_)
                  refine lv_aload_n hx hb dMO_dun_179 rfl (lv_at hl 1 rfl) ?_
                  refine V_get B hw (v := .ref (ad 50)) (by decide) rfl rfl hin_MO 0 (by decide) rfl wm_234 rfl dMO_dun_180 ?_
                  refine lv_bipush (v := 20) hx hb dMO_dun_183 (by decide) ?_
                  refine lv_iload_n hx hb dMO_dun_185 rfl (lv_at hl 2 rfl) ?_
                  refine lv_iadd hx hb dMO_dun_186 ?_
                  refine V_lald (j := (20 + x1).toNatClampNeg) (v := (sL (sL (sI S 49 4 0) 50 ((20 + x1).toNatClampNeg) 3) 50 ((30 + x1).toNatClampNeg) x2).2 50 ((20 + x1).toNatClampNeg)) B hw (by decide) rfl (vc_FMO_dun_ix187_60 S x1 x2 hp c2 c3 c5 c35 c37 c39 c50 c53) rfl rfl dMO_dun_187 ?_
                  refine lv_l2i hx hb dMO_dun_188 rfl ?_
                  exact V_iret B hr hlk hw (pI_of hF) dMO_dun_189
          · have hF := hF.trans (if_pos c37)
            refine lv_aload_n hx hb dMO_dun_77 rfl (lv_at hl 1 rfl) ?_
            refine V_get B hw (v := .ref (ad 50)) (by decide) rfl rfl hin_MO 0 (by decide) rfl wm_234 rfl dMO_dun_78 ?_
            refine lv_bipush (v := 20) hx hb dMO_dun_81 (by decide) ?_
            refine lv_iload_n hx hb dMO_dun_83 rfl (lv_at hl 2 rfl) ?_
            refine lv_iadd hx hb dMO_dun_84 ?_
            refine lv_lconst (v := 0) hx hb dMO_dun_85 (by decide) ?_
            refine V_last (j := (20 + x1).toNatClampNeg) B hw (by decide) rfl (vc_FMO_dun_ix86_61 S x1 x2 hp c2 c3 c5 c35 c37) rfl dMO_dun_86 (fun H locs hw => ?_)
            refine lv_goto (tgt := 179) hx hb dMO_dun_87 (by decide) ?_
            refine lv_aload_n hx hb dMO_dun_179 rfl (lv_at hl 1 rfl) ?_
            refine V_get B hw (v := .ref (ad 50)) (by decide) rfl rfl hin_MO 0 (by decide) rfl wm_234 rfl dMO_dun_180 ?_
            refine lv_bipush (v := 20) hx hb dMO_dun_183 (by decide) ?_
            refine lv_iload_n hx hb dMO_dun_185 rfl (lv_at hl 2 rfl) ?_
            refine lv_iadd hx hb dMO_dun_186 ?_
            refine V_lald (j := (20 + x1).toNatClampNeg) (v := 0) B hw (by decide) rfl (vc_FMO_dun_ix187_62 S x1 x2 hp c2 c3 c5 c35 c37) rfl (by first | rfl | simp [sI_1, sI_2, sL_1, sL_2]) dMO_dun_187 ?_
            refine lv_l2i (v := 0) hx hb dMO_dun_188 (by decide) ?_
            exact V_iret B hr hlk hw (pI_of hF) dMO_dun_189
        · have hF := hF.trans (if_neg c35)
          refine lv_iconst (v := 1) hx hb dMO_dun_61 (by decide) ?_
          refine lv_goto (tgt := 66) hx hb dMO_dun_62 (by decide) ?_
          refine lv_istore (lv' := [(4, .int 1), (0, .ref (ad 49)), (1, .int x1), (2, .long x2)]) hx hb dMO_dun_66 hl (by decide) rfl (fun ls hl => ?_)
          refine lv_aload_n hx hb dMO_dun_68 rfl (lv_at hl 1 rfl) ?_
          refine lv_iload_n hx hb dMO_dun_69 rfl (lv_at hl 2 rfl) ?_
          refine lv_lload_n hx hb dMO_dun_70 rfl (lv_at hl 3 rfl) ?_
          refine V_callV (rest := []) B hi hw hA hl.1 (M_FMO_hasOld l hi (sI S 49 4 0) x1 x2 (vc_FMO_dun_pre71_63 S x1 x2 hp c2 c3 c5 c35)) (cw_FMO_hasOld (Nat.le_of_ble_eq_true rfl) (Nat.le_of_ble_eq_true rfl) (Nat.zero_le _) (Nat.zero_le _)) (by decide) rfl rfl wm_283 wm_284 wm_285 rfl (Nat.le_of_ble_eq_true rfl) dMO_dun_71 (kI (fun H locs hw => ?_))
          refine lv_if_ne (tgt := 90) hx hb dMO_dun_74 (by decide) (fun c64 => ?_) (fun c64 => ?_)
          · have hF := hF.trans (if_neg c64)
            refine lv_iload hx hb dMO_dun_90 (lv_at hl 0 rfl) ?_
            refine lv_if_ne (tgt := 179) hx hb dMO_dun_92 (by decide) (fun c => ?_) (fun c => absurd c (by decide))
            refine lv_aload_n hx hb dMO_dun_179 rfl (lv_at hl 1 rfl) ?_
            refine V_get B hw (v := .ref (ad 50)) (by decide) rfl rfl hin_MO 0 (by decide) rfl wm_234 rfl dMO_dun_180 ?_
            refine lv_bipush (v := 20) hx hb dMO_dun_183 (by decide) ?_
            refine lv_iload_n hx hb dMO_dun_185 rfl (lv_at hl 2 rfl) ?_
            refine lv_iadd hx hb dMO_dun_186 ?_
            refine V_lald (j := (20 + x1).toNatClampNeg) (v := S.2 50 ((20 + x1).toNatClampNeg)) B hw (by decide) rfl (vc_FMO_dun_ix187_65 S x1 x2 hp c2 c3 c5 c35 c64) rfl (by first | rfl | simp [sI_1, sI_2, sL_1, sL_2]) dMO_dun_187 ?_
            refine lv_l2i hx hb dMO_dun_188 rfl ?_
            exact V_iret B hr hlk hw (pI_of hF) dMO_dun_189
          · have hF := hF.trans (if_pos c64)
            refine lv_aload_n hx hb dMO_dun_77 rfl (lv_at hl 1 rfl) ?_
            refine V_get B hw (v := .ref (ad 50)) (by decide) rfl rfl hin_MO 0 (by decide) rfl wm_234 rfl dMO_dun_78 ?_
            refine lv_bipush (v := 20) hx hb dMO_dun_81 (by decide) ?_
            refine lv_iload_n hx hb dMO_dun_83 rfl (lv_at hl 2 rfl) ?_
            refine lv_iadd hx hb dMO_dun_84 ?_
            refine lv_lconst (v := 0) hx hb dMO_dun_85 (by decide) ?_
            refine V_last (j := (20 + x1).toNatClampNeg) B hw (by decide) rfl (vc_FMO_dun_ix86_66 S x1 x2 hp c2 c3 c5 c35 c64) rfl dMO_dun_86 (fun H locs hw => ?_)
            refine lv_goto (tgt := 179) hx hb dMO_dun_87 (by decide) ?_
            refine lv_aload_n hx hb dMO_dun_179 rfl (lv_at hl 1 rfl) ?_
            refine V_get B hw (v := .ref (ad 50)) (by decide) rfl rfl hin_MO 0 (by decide) rfl wm_234 rfl dMO_dun_180 ?_
            refine lv_bipush (v := 20) hx hb dMO_dun_183 (by decide) ?_
            refine lv_iload_n hx hb dMO_dun_185 rfl (lv_at hl 2 rfl) ?_
            refine lv_iadd hx hb dMO_dun_186 ?_
            refine V_lald (j := (20 + x1).toNatClampNeg) (v := 0) B hw (by decide) rfl (vc_FMO_dun_ix187_67 S x1 x2 hp c2 c3 c5 c35 c64) rfl (by first | rfl | simp [sI_1, sI_2, sL_1, sL_2]) dMO_dun_187 ?_
            refine lv_l2i (v := 0) hx hb dMO_dun_188 (by decide) ?_
            exact V_iret B hr hlk hw (pI_of hF) dMO_dun_189
    · have hF := hF.trans (if_pos c3)
      refine lv_iconst (v := (-1)) hx hb dMO_dun_20 (by decide) ?_
      exact V_iret B hr hlk hw (pI_of hF) dMO_dun_21
theorem cw_FMO_hardship {R : Room} {cells slots : Nat} (h1 : 3 ≤ R.frames) (h2 : 67 ≤ R.locals) (h3 : cells ≤ R.cells) (h4 : slots ≤ R.slots) : Cw R cells slots yMO_hardship bMO_hardship 6 (some .boolean) ({ frames := 2, cells := 0, slots := 0, locals := 42 } : Room) 3 := ⟨wm_449, wm_426, by decide +kernel, ⟨rfl, rfl, h1, h2⟩, h3, h4⟩
set_option maxHeartbeats 4000000 in
set_option maxRecDepth 100000 in
theorem M_FMO_hardship (l : Launch) {ad : Nat → Nat} {cI cL : ClassId} {dC : Nat → ClassId} {dI : Nat → Nat → Nat} (hi : adI ad) (S : hS) (x1 : Int32) (x2 : Int64) (x4 : Int64) (hp : wfM S) : Mt l ad cI cL dC dI yMO_hardship bMO_hardship 6 (some .boolean) ({ frames := 2, cells := 0, slots := 0, locals := 42 } : Room) [.ref (ad 49), .int x1, .long x2, .long x4] S (pI (FMO_hardship S x1 x2 x4).1 (FMO_hardship S x1 x2 x4).2) := by
  refine Mt_of (own := RMO) hi (by decide) rfl (Nat.le_of_ble_eq_true rfl) ?_
  intro p e s m args below meth c ls B hr hlk hw hl
  obtain ⟨hx, hb, -, hown, hts, -, -⟩ := id B
  have hA : ∀ q, AA ad s.heap.size q → AA ad s.heap.size q := fun _ h => h
  have hl : lv_has ls 6 [(0, .ref (ad 49)), (1, .int x1), (2, .long x2), (4, .long x4)] := hl
  have hF := FMO_hardship_e S x1 x2 x4
  refine lv_aload_n hx hb dMO_hardship_0 rfl (lv_at hl 0 rfl) ?_
  refine lv_iconst (v := 0) hx hb dMO_hardship_1 (by decide) ?_
  refine V_putI (ty := .int) B hw (by decide) rfl rfl hin_MO tyMO_ok nmMO 4 (by decide) rfl wm_242 rfl (by decide +kernel) rfl rfl dMO_hardship_2 (fun H locs hw => ?_)
  refine lv_aload_n hx hb dMO_hardship_5 rfl (lv_at hl 0 rfl) ?_
  refine lv_iload_n hx hb dMO_hardship_6 rfl (lv_at hl 1 rfl) ?_
  refine V_callV (rest := []) B hi hw hA hl.1 (M_FMO_isHousehold l hi (sI S 49 4 0) x1 (vc_FMO_hardship_pre7_1 S x1 x2 x4 hp)) (cw_FMO_isHousehold (Nat.le_of_ble_eq_true rfl) (Nat.le_of_ble_eq_true rfl) (Nat.zero_le _) (Nat.zero_le _)) (by decide) rfl rfl wm_271 wm_272 wm_273 rfl (Nat.le_of_ble_eq_true rfl) dMO_hardship_7 (kI (fun H locs hw => ?_))
  refine lv_if_eq (tgt := 20) hx hb dMO_hardship_10 (by decide) (fun c2 => ?_) (fun c2 => ?_)
  · have hF := hF.trans (if_pos c2)
    refine lv_iconst (v := 0) hx hb dMO_hardship_20 (by decide) ?_
    exact V_zret B hr hlk hw (by decide) (pI_of hF) dMO_hardship_21
  · have hF := hF.trans (if_neg c2)
    refine lv_lload_n hx hb dMO_hardship_13 rfl (lv_at hl 2 rfl) ?_
    refine lv_lload hx hb dMO_hardship_14 (lv_at hl 3 rfl) ?_
    refine V_lle (tgt := 22) B dMO_hardship_16 dMO_hardship_17 (by decide) (fun c3 => ?_) (fun c3 => ?_)
    · have hF := hF.trans (if_pos c3)
      refine lv_aload_n hx hb dMO_hardship_22 rfl (lv_at hl 0 rfl) ?_
      refine V_get B hw (v := .ref (ad 50)) (by decide) rfl rfl hin_MO 0 (by decide) rfl wm_234 rfl dMO_hardship_23 ?_
      refine lv_bipush (v := 40) hx hb dMO_hardship_26 (by decide) ?_
      refine lv_iload_n hx hb dMO_hardship_28 rfl (lv_at hl 1 rfl) ?_
      refine lv_iadd hx hb dMO_hardship_29 ?_
      refine lv_lconst (v := 1) hx hb dMO_hardship_30 (by decide) ?_
      refine V_last (j := (40 + x1).toNatClampNeg) B hw (by decide) rfl (vc_FMO_hardship_ix31_4 S x1 x2 x4 hp c2 c3) rfl dMO_hardship_31 (fun H locs hw => ?_)
      refine lv_aload_n hx hb dMO_hardship_32 rfl (lv_at hl 0 rfl) ?_
      refine V_get B hw (v := .ref (ad 50)) (by decide) rfl rfl hin_MO 0 (by decide) rfl wm_234 rfl dMO_hardship_33 ?_
      refine lv_bipush (v := 50) hx hb dMO_hardship_36 (by decide) ?_
      refine lv_iload_n hx hb dMO_hardship_38 rfl (lv_at hl 1 rfl) ?_
      refine lv_iadd hx hb dMO_hardship_39 ?_
      refine lv_lload_n hx hb dMO_hardship_40 rfl (lv_at hl 2 rfl) ?_
      refine V_last (j := (50 + x1).toNatClampNeg) B hw (by decide) rfl (vc_FMO_hardship_ix41_5 S x1 x2 x4 hp c2 c3) rfl dMO_hardship_41 (fun H locs hw => ?_)
      refine lv_aload_n hx hb dMO_hardship_42 rfl (lv_at hl 0 rfl) ?_
      refine V_get B hw (v := .ref (ad 50)) (by decide) rfl rfl hin_MO 0 (by decide) rfl wm_234 rfl dMO_hardship_43 ?_
      refine lv_bipush (v := 60) hx hb dMO_hardship_46 (by decide) ?_
      refine lv_iload_n hx hb dMO_hardship_48 rfl (lv_at hl 1 rfl) ?_
      refine lv_iadd hx hb dMO_hardship_49 ?_
      refine lv_lload hx hb dMO_hardship_50 (lv_at hl 3 rfl) ?_
      refine V_last (j := (60 + x1).toNatClampNeg) B hw (by decide) rfl (vc_FMO_hardship_ix52_6 S x1 x2 x4 hp c2 c3) rfl dMO_hardship_52 (fun H locs hw => ?_)
      refine lv_iconst (v := 1) hx hb dMO_hardship_53 (by decide) ?_
      exact V_zret B hr hlk hw (by decide) (pI_of hF) dMO_hardship_54
    · have hF := hF.trans (if_neg c3)
      refine lv_iconst (v := 0) hx hb dMO_hardship_20 (by decide) ?_
      exact V_zret B hr hlk hw (by decide) (pI_of hF) dMO_hardship_21
set_option maxHeartbeats 4000000 in
set_option maxRecDepth 100000 in
theorem LPMO_allDue_5 (l : Launch) {ad : Nat → Nat} {cI cL : ClassId} {dC : Nat → ClassId} {dI : Nat → Nat → Nat} (hi : adI ad) {p : Program} {e : Env} {s : State} {m : MethodId} {args : Array Value} {below : List Frame} {meth : Method} {c : Code} {A : Nat → Prop} {post : Option Value → hS → Prop} (B : Bs p s m args c RMO bMO_allDue 5 cI cL dC dI) (hr : meth.sig.returnType = (some .long)) (hlk : meth.locks = false) (hA : ∀ q, AA ad s.heap.size q → A q) : ∀ (n : Nat) (S : hS) (x1 : Int32) (x2 : Int64) (x4 : Int32) (H : Heap) (locs : List Loc) (ls : Array Slot), wfM S ∧ bt x4 240 → ((240 - x4.toInt).toNat) < n → Wd ad cI cL dC dI A s.heap S H locs → lv_has ls 5 [(0, .ref (ad 49)), (1, .int x1), (2, .long x2), (4, .int x4)] → (∀ (H : Heap) (locs : List Loc) (ls : Array Slot) (y2 : Int64) (y4 : Int32), LMO_allDue_5 n S x1 x2 x4 = (y2, y4) → Wd ad cI cL dC dI A s.heap S H locs → lv_has ls 5 [(0, .ref (ad 49)), (1, .int x1), (2, .long y2), (4, .int y4)] → W p l e ({ frames := 2, cells := 0, slots := 0, locals := 45 } : Room) s m args below meth c H locs 0 0 (MQ below (QcW ad cI cL dC dI post A) args s 0 0 A) (F0 m 47 ls [])) → W p l e ({ frames := 2, cells := 0, slots := 0, locals := 45 } : Room) s m args below meth c H locs 0 0 (MQ below (QcW ad cI cL dC dI post A) args s 0 0 A) (F0 m 5 ls []) := by
  intro n
  obtain ⟨hx, hb, -, hown, hts, -, -⟩ := id B
  induction n with
  | zero => exact fun S x1 x2 x4 H locs ls _ hmu => absurd hmu (Nat.not_lt_zero _)
  | succ n ih =>
    intro S x1 x2 x4 H locs ls hJ hmu hw hl hexit
    have hF := LMO_allDue_5_s n S x1 x2 x4
    refine lv_iload hx hb dMO_allDue_5 (lv_at hl 3 rfl) ?_
    refine lv_sipush (v := 240) hx hb dMO_allDue_7 (by decide) ?_
    refine lv_icmp_ge (tgt := 47) hx hb dMO_allDue_10 (by decide) (fun c1 => ?_) (fun c1 => ?_)
    · have hF := hF.trans (if_pos c1)
      exact hexit _ _ _ x2 x4 hF hw (lv_sub hl [0, 1, 2, 3] rfl)
    · have hF := hF.trans (if_neg c1)
      refine lv_lload_n hx hb dMO_allDue_13 rfl (lv_at hl 2 rfl) ?_
      refine lv_aload_n hx hb dMO_allDue_14 rfl (lv_at hl 0 rfl) ?_
      refine lv_iload hx hb dMO_allDue_15 (lv_at hl 3 rfl) ?_
      refine lv_iload_n hx hb dMO_allDue_17 rfl (lv_at hl 1 rfl) ?_
      refine V_callV (rest := [.long x2]) B hi hw hA hl.1 (M_FMO_isItemOf l hi S x4 x1 (vc_FMO_allDue_pre18_2 S x1 x2 x4 hJ c1)) (cw_FMO_isItemOf (Nat.le_of_ble_eq_true rfl) (Nat.le_of_ble_eq_true rfl) (Nat.zero_le _) (Nat.zero_le _)) (by decide) rfl rfl wm_265 wm_266 wm_267 rfl (Nat.le_of_ble_eq_true rfl) dMO_allDue_18 (kI (fun H locs hw => ?_))
      refine lv_if_eq (tgt := 38) hx hb dMO_allDue_21 (by decide) (fun c3 => ?_) (fun c3 => ?_)
      · have hF := hF.trans (if_pos c3)
        refine lv_lconst (v := 0) hx hb dMO_allDue_38 (by decide) ?_
        refine lv_ladd hx hb dMO_allDue_39 ?_
        refine lv_lstore_n (lv' := [(2, .long (x2 + 0)), (0, .ref (ad 49)), (1, .int x1), (4, .int x4)]) hx hb dMO_allDue_40 rfl hl (by decide) rfl (fun ls hl => ?_)
        refine lv_iinc (v := x4 + 1) (lv' := [(4, .int (x4 + 1)), (2, .long (x2 + 0)), (0, .ref (ad 49)), (1, .int x1)]) hx hb dMO_allDue_41 hl (k := 3) rfl rfl (by decide) rfl (fun ls hl => ?_)
        refine lv_goto (tgt := 5) hx hb dMO_allDue_44 (by decide) ?_
        exact ih S x1 (x2 + 0) (x4 + 1) _ _ _ (vc_FMO_allDue_inv5_4 S x1 x2 x4 hJ c1 c3) (Nat.lt_of_lt_of_le (vc_FMO_allDue_mu5_5 S x1 x2 x4 hJ c1 c3) (Nat.le_of_lt_succ hmu)) hw (lv_sub hl [2, 3, 1, 0] rfl) (fun H locs ls y2 y4 h hw hl => hexit H locs ls y2 y4 (hF.trans h) hw hl)
      · have hF := hF.trans (if_neg c3)
        refine lv_aload_n hx hb dMO_allDue_24 rfl (lv_at hl 0 rfl) ?_
        refine V_get B hw (v := .ref (ad 50)) (by decide) rfl rfl hin_MO 0 (by decide) rfl wm_234 rfl dMO_allDue_25 ?_
        refine lv_sipush (v := 780) hx hb dMO_allDue_28 (by decide) ?_
        refine lv_iload hx hb dMO_allDue_31 (lv_at hl 3 rfl) ?_
        refine lv_iadd hx hb dMO_allDue_33 ?_
        refine V_lald (j := (780 + x4).toNatClampNeg) (v := S.2 50 ((780 + x4).toNatClampNeg)) B hw (by decide) rfl (vc_FMO_allDue_ix34_6 S x1 x2 x4 hJ c1 c3) rfl rfl dMO_allDue_34 ?_
        refine lv_goto (tgt := 39) hx hb dMO_allDue_35 (by decide) ?_
        refine lv_ladd hx hb dMO_allDue_39 ?_
        refine lv_lstore_n (lv' := [(2, .long (x2 + (S.2 50 ((780 + x4).toNatClampNeg)))), (0, .ref (ad 49)), (1, .int x1), (4, .int x4)]) hx hb dMO_allDue_40 rfl hl (by decide) rfl (fun ls hl => ?_)
        refine lv_iinc (v := x4 + 1) (lv' := [(4, .int (x4 + 1)), (2, .long (x2 + (S.2 50 ((780 + x4).toNatClampNeg)))), (0, .ref (ad 49)), (1, .int x1)]) hx hb dMO_allDue_41 hl (k := 3) rfl rfl (by decide) rfl (fun ls hl => ?_)
        refine lv_goto (tgt := 5) hx hb dMO_allDue_44 (by decide) ?_
        exact ih S x1 (x2 + (S.2 50 ((780 + x4).toNatClampNeg))) (x4 + 1) _ _ _ (vc_FMO_allDue_inv5_7 S x1 x2 x4 hJ c1 c3) (Nat.lt_of_lt_of_le (vc_FMO_allDue_mu5_8 S x1 x2 x4 hJ c1 c3) (Nat.le_of_lt_succ hmu)) hw (lv_sub hl [2, 3, 1, 0] rfl) (fun H locs ls y2 y4 h hw hl => hexit H locs ls y2 y4 (hF.trans h) hw hl)
theorem cw_FMO_allDue {R : Room} {cells slots : Nat} (h1 : 3 ≤ R.frames) (h2 : 69 ≤ R.locals) (h3 : cells ≤ R.cells) (h4 : slots ≤ R.slots) : Cw R cells slots yMO_allDue bMO_allDue 5 (some .long) ({ frames := 2, cells := 0, slots := 0, locals := 45 } : Room) 1 := ⟨wm_450, wm_426, by decide +kernel, ⟨rfl, rfl, h1, h2⟩, h3, h4⟩
set_option maxHeartbeats 4000000 in
set_option maxRecDepth 100000 in
theorem M_FMO_allDue (l : Launch) {ad : Nat → Nat} {cI cL : ClassId} {dC : Nat → ClassId} {dI : Nat → Nat → Nat} (hi : adI ad) (S : hS) (x1 : Int32) (hp : wfM S) : Mt l ad cI cL dC dI yMO_allDue bMO_allDue 5 (some .long) ({ frames := 2, cells := 0, slots := 0, locals := 45 } : Room) [.ref (ad 49), .int x1] S (pL (FMO_allDue S x1) S) := by
  refine Mt_of (own := RMO) hi (by decide) rfl (Nat.le_of_ble_eq_true rfl) ?_
  intro p e s m args below meth c ls B hr hlk hw hl
  obtain ⟨hx, hb, -, hown, hts, -, -⟩ := id B
  have hA : ∀ q, AA ad s.heap.size q → AA ad s.heap.size q := fun _ h => h
  have hl : lv_has ls 5 [(0, .ref (ad 49)), (1, .int x1)] := hl
  have hF := FMO_allDue_e S x1
  refine lv_lconst (v := 0) hx hb dMO_allDue_0 (by decide) ?_
  refine lv_lstore_n (lv' := [(2, .long 0), (0, .ref (ad 49)), (1, .int x1)]) hx hb dMO_allDue_1 rfl hl (by decide) rfl (fun ls hl => ?_)
  refine lv_iconst (v := 0) hx hb dMO_allDue_2 (by decide) ?_
  refine lv_istore (lv' := [(4, .int 0), (2, .long 0), (0, .ref (ad 49)), (1, .int x1)]) hx hb dMO_allDue_3 hl (by decide) rfl (fun ls hl => ?_)
  refine LPMO_allDue_5 l hi B hr hlk hA 300 S x1 0 0 _ _ _ (vc_FMO_allDue_inv05_10 S x1 hp) (vc_FMO_allDue_mu05_11 S x1 hp) hw (lv_sub hl [2, 3, 1, 0] rfl) (fun H locs ls y9_2 y9_4 hq9 hw hl => ?_)
  rw [hq9] at hF; try dsimp only at hF
  refine lv_lload_n hx hb dMO_allDue_47 rfl (lv_at hl 2 rfl) ?_
  exact V_lret B hr hlk hw (pL_r hF) dMO_allDue_48
theorem cw_FMO_instal {R : Room} {cells slots : Nat} (h1 : 4 ≤ R.frames) (h2 : 92 ≤ R.locals) (h3 : cells ≤ R.cells) (h4 : slots ≤ R.slots) : Cw R cells slots yMO_instal bMO_instal 4 (some .int) ({ frames := 3, cells := 0, slots := 0, locals := 69 } : Room) 2 := ⟨wm_451, wm_426, by decide +kernel, ⟨rfl, rfl, h1, h2⟩, h3, h4⟩
set_option maxHeartbeats 4000000 in
set_option maxRecDepth 100000 in
theorem M_FMO_instal (l : Launch) {ad : Nat → Nat} {cI cL : ClassId} {dC : Nat → ClassId} {dI : Nat → Nat → Nat} (hi : adI ad) (S : hS) (x1 : Int32) (x2 : Int32) (hp : wfM S) : Mt l ad cI cL dC dI yMO_instal bMO_instal 4 (some .int) ({ frames := 3, cells := 0, slots := 0, locals := 69 } : Room) [.ref (ad 49), .int x1, .int x2] S (pI (FMO_instal S x1 x2).1 (FMO_instal S x1 x2).2) := by
  refine Mt_of (own := RMO) hi (by decide) rfl (Nat.le_of_ble_eq_true rfl) ?_
  intro p e s m args below meth c ls B hr hlk hw hl
  obtain ⟨hx, hb, -, hown, hts, -, -⟩ := id B
  have hA : ∀ q, AA ad s.heap.size q → AA ad s.heap.size q := fun _ h => h
  have hl : lv_has ls 4 [(0, .ref (ad 49)), (1, .int x1), (2, .int x2)] := hl
  have hF := FMO_instal_e S x1 x2
  refine lv_aload_n hx hb dMO_instal_0 rfl (lv_at hl 0 rfl) ?_
  refine lv_iconst (v := 0) hx hb dMO_instal_1 (by decide) ?_
  refine V_putI (ty := .int) B hw (by decide) rfl rfl hin_MO tyMO_ok nmMO 4 (by decide) rfl wm_242 rfl (by decide +kernel) rfl rfl dMO_instal_2 (fun H locs hw => ?_)
  refine lv_aload_n hx hb dMO_instal_5 rfl (lv_at hl 0 rfl) ?_
  refine lv_iload_n hx hb dMO_instal_6 rfl (lv_at hl 1 rfl) ?_
  refine V_callV (rest := []) B hi hw hA hl.1 (M_FMO_isHousehold l hi (sI S 49 4 0) x1 (vc_FMO_instal_pre7_1 S x1 x2 hp)) (cw_FMO_isHousehold (Nat.le_of_ble_eq_true rfl) (Nat.le_of_ble_eq_true rfl) (Nat.zero_le _) (Nat.zero_le _)) (by decide) rfl rfl wm_271 wm_272 wm_273 rfl (Nat.le_of_ble_eq_true rfl) dMO_instal_7 (kI (fun H locs hw => ?_))
  refine lv_if_eq (tgt := 47) hx hb dMO_instal_10 (by decide) (fun c2 => ?_) (fun c2 => ?_)
  · have hF := hF.trans (if_pos c2)
    refine lv_iconst (v := (-1)) hx hb dMO_instal_47 (by decide) ?_
    exact V_iret B hr hlk hw (pI_of hF) dMO_instal_48
  · have hF := hF.trans (if_neg c2)
    refine lv_iload_n hx hb dMO_instal_13 rfl (lv_at hl 2 rfl) ?_
    refine lv_iconst (v := 1) hx hb dMO_instal_14 (by decide) ?_
    refine lv_icmp_lt (tgt := 47) hx hb dMO_instal_15 (by decide) (fun c3 => ?_) (fun c3 => ?_)
    · have hF := hF.trans (if_pos c3)
      refine lv_iconst (v := (-1)) hx hb dMO_instal_47 (by decide) ?_
      exact V_iret B hr hlk hw (pI_of hF) dMO_instal_48
    · have hF := hF.trans (if_neg c3)
      refine lv_iload_n hx hb dMO_instal_18 rfl (lv_at hl 2 rfl) ?_
      refine lv_bipush (v := 24) hx hb dMO_instal_19 (by decide) ?_
      refine lv_icmp_gt (tgt := 47) hx hb dMO_instal_21 (by decide) (fun c4 => ?_) (fun c4 => ?_)
      · have hF := hF.trans (if_pos c4)
        refine lv_iconst (v := (-1)) hx hb dMO_instal_47 (by decide) ?_
        exact V_iret B hr hlk hw (pI_of hF) dMO_instal_48
      · have hF := hF.trans (if_neg c4)
        refine lv_aload_n hx hb dMO_instal_24 rfl (lv_at hl 0 rfl) ?_
        refine V_get B hw (v := .ref (ad 50)) (by decide) rfl rfl hin_MO 0 (by decide) rfl wm_234 rfl dMO_instal_25 ?_
        refine lv_iconst (v := 3) hx hb dMO_instal_28 (by decide) ?_
        refine V_lald (j := 3) (v := S.2 50 3) B hw (by decide) rfl (vc_FMO_instal_ix29_5 S x1 x2 hp c2 c3 c4) rfl (by first | rfl | simp [sI_1, sI_2, sL_1, sL_2]) dMO_instal_29 ?_
        refine lv_ldc2 (v := 10) hx hb hown (hts _ wm_288) dMO_instal_30 ?_
        refine V_leq (tgt := 47) B dMO_instal_33 dMO_instal_34 (by decide) (fun c6 => ?_) (fun c6 => ?_)
        · have hF := hF.trans (if_pos c6)
          refine lv_iconst (v := (-1)) hx hb dMO_instal_47 (by decide) ?_
          exact V_iret B hr hlk hw (pI_of hF) dMO_instal_48
        · have hF := hF.trans (if_neg c6)
          refine lv_aload_n hx hb dMO_instal_37 rfl (lv_at hl 0 rfl) ?_
          refine lv_iload_n hx hb dMO_instal_38 rfl (lv_at hl 1 rfl) ?_
          refine V_callV (rest := []) B hi hw hA hl.1 (M_FMO_allDue l hi (sI S 49 4 0) x1 (vc_FMO_instal_pre39_7 S x1 x2 hp c2 c3 c4 c6)) (cw_FMO_allDue (Nat.le_of_ble_eq_true rfl) (Nat.le_of_ble_eq_true rfl) (Nat.zero_le _) (Nat.zero_le _)) (by decide) rfl rfl wm_289 wm_290 wm_291 rfl (Nat.le_of_ble_eq_true rfl) dMO_instal_39 (kL (fun H locs hw => ?_))
          refine lv_lconst (v := 0) hx hb dMO_instal_42 (by decide) ?_
          refine V_lne (tgt := 49) B dMO_instal_43 dMO_instal_44 (by decide) (fun c8 => ?_) (fun c8 => ?_)
          · have hF := hF.trans (if_neg c8)
            refine lv_aload_n hx hb dMO_instal_49 rfl (lv_at hl 0 rfl) ?_
            refine V_get B hw (v := .ref (ad 50)) (by decide) rfl rfl hin_MO 0 (by decide) rfl wm_234 rfl dMO_instal_50 ?_
            refine lv_iconst (v := 3) hx hb dMO_instal_53 (by decide) ?_
            refine V_lald (j := 3) (v := S.2 50 3) B hw (by decide) rfl (vc_FMO_instal_ix54_9 S x1 x2 hp c2 c3 c4 c6 c8) rfl (by first | rfl | simp [sI_1, sI_2, sL_1, sL_2]) dMO_instal_54 ?_
            refine lv_l2i hx hb dMO_instal_55 rfl ?_
            refine lv_istore_n (lv' := [(3, .int ((S.2 50 3).toInt32)), (0, .ref (ad 49)), (1, .int x1), (2, .int x2)]) hx hb dMO_instal_56 rfl hl (by decide) rfl (fun ls hl => ?_)
            refine lv_aload_n hx hb dMO_instal_57 rfl (lv_at hl 1 rfl) ?_
            refine V_get B hw (v := .ref (ad 50)) (by decide) rfl rfl hin_MO 0 (by decide) rfl wm_234 rfl dMO_instal_58 ?_
            refine lv_sipush (v := 1180) hx hb dMO_instal_61 (by decide) ?_
            refine lv_iload_n hx hb dMO_instal_64 rfl (lv_at hl 0 rfl) ?_
            refine lv_iadd hx hb dMO_instal_65 ?_
            refine lv_aload_n hx hb dMO_instal_66 rfl (lv_at hl 1 rfl) ?_
            refine lv_iload_n hx hb dMO_instal_67 rfl (lv_at hl 2 rfl) ?_
            refine V_callV (rest := [.int (1180 + ((S.2 50 3).toInt32)), .ref (ad 50)]) B hi hw hA hl.1 (M_FMO_allDue l hi (sI S 49 4 0) x1 (vc_FMO_instal_pre68_10 S x1 x2 hp c2 c3 c4 c6 c8)) (cw_FMO_allDue (Nat.le_of_ble_eq_true rfl) (Nat.le_of_ble_eq_true rfl) (Nat.zero_le _) (Nat.zero_le _)) (by decide) rfl rfl wm_289 wm_290 wm_291 rfl (Nat.le_of_ble_eq_true rfl) dMO_instal_68 (kL (fun H locs hw => ?_))
            refine V_last (j := (1180 + ((S.2 50 3).toInt32)).toNatClampNeg) B hw (by decide) rfl (vc_FMO_instal_ix71_11 S x1 x2 hp c2 c3 c4 c6 c8) rfl dMO_instal_71 (fun H locs hw => ?_)
            refine lv_aload_n hx hb dMO_instal_72 rfl (lv_at hl 1 rfl) ?_
            refine V_get B hw (v := .ref (ad 50)) (by decide) rfl rfl hin_MO 0 (by decide) rfl wm_234 rfl dMO_instal_73 ?_
            refine lv_sipush (v := 1190) hx hb dMO_instal_76 (by decide) ?_
            refine lv_iload_n hx hb dMO_instal_79 rfl (lv_at hl 0 rfl) ?_
            refine lv_iadd hx hb dMO_instal_80 ?_
            refine lv_iload_n hx hb dMO_instal_81 rfl (lv_at hl 3 rfl) ?_
            refine lv_i2l hx hb dMO_instal_82 rfl ?_
            refine V_last (j := (1190 + ((S.2 50 3).toInt32)).toNatClampNeg) B hw (by decide) rfl (vc_FMO_instal_ix83_12 S x1 x2 hp c2 c3 c4 c6 c8) rfl dMO_instal_83 (fun H locs hw => ?_)
            refine lv_aload_n hx hb dMO_instal_84 rfl (lv_at hl 1 rfl) ?_
            refine V_get B hw (v := .ref (ad 50)) (by decide) rfl rfl hin_MO 0 (by decide) rfl wm_234 rfl dMO_instal_85 ?_
            refine lv_iconst (v := 3) hx hb dMO_instal_88 (by decide) ?_
            refine lv_dup2_11 hx hb dMO_instal_89 rfl rfl ?_
            refine V_lald (j := 3) (v := (sL (sL (sI S 49 4 0) 50 ((1180 + ((S.2 50 3).toInt32)).toNatClampNeg) (FMO_allDue (sI S 49 4 0) x1)) 50 ((1190 + ((S.2 50 3).toInt32)).toNatClampNeg) x2.toInt64).2 50 3) B hw (by decide) rfl (vc_FMO_instal_ix90_13 S x1 x2 hp c2 c3 c4 c6 c8) rfl rfl dMO_instal_90 ?_
            refine lv_lconst (v := 1) hx hb dMO_instal_91 (by decide) ?_
            refine lv_ladd hx hb dMO_instal_92 ?_
            refine V_last (j := 3) B hw (by decide) rfl (vc_FMO_instal_ix93_14 S x1 x2 hp c2 c3 c4 c6 c8) rfl dMO_instal_93 (fun H locs hw => ?_)
            refine lv_iload_n hx hb dMO_instal_94 rfl (lv_at hl 0 rfl) ?_
            exact V_iret B hr hlk hw (pI_of hF) dMO_instal_95
          · have hF := hF.trans (if_pos c8)
            refine lv_iconst (v := (-1)) hx hb dMO_instal_47 (by decide) ?_
            exact V_iret B hr hlk hw (pI_of hF) dMO_instal_48
theorem cw_FMO_due {R : Room} {cells slots : Nat} (h1 : 1 ≤ R.frames) (h2 : 24 ≤ R.locals) (h3 : cells ≤ R.cells) (h4 : slots ≤ R.slots) : Cw R cells slots yMO_due bMO_due 5 (some .long) ({ frames := 0, cells := 0, slots := 0, locals := 0 } : Room) 2 := ⟨wm_452, wm_426, by decide +kernel, ⟨rfl, rfl, h1, h2⟩, h3, h4⟩
set_option maxHeartbeats 4000000 in
set_option maxRecDepth 100000 in
theorem M_FMO_due (l : Launch) {ad : Nat → Nat} {cI cL : ClassId} {dC : Nat → ClassId} {dI : Nat → Nat → Nat} (hi : adI ad) (S : hS) (x1 : Int32) (x2 : Int32) (hp : wfM S) : Mt l ad cI cL dC dI yMO_due bMO_due 5 (some .long) ({ frames := 0, cells := 0, slots := 0, locals := 0 } : Room) [.ref (ad 49), .int x1, .int x2] S (pL (FMO_due S x1 x2).1 (FMO_due S x1 x2).2) := by
  refine Mt_of (own := RMO) hi (by decide) rfl (Nat.le_of_ble_eq_true rfl) ?_
  intro p e s m args below meth c ls B hr hlk hw hl
  obtain ⟨hx, hb, -, hown, hts, -, -⟩ := id B
  have hA : ∀ q, AA ad s.heap.size q → AA ad s.heap.size q := fun _ h => h
  have hl : lv_has ls 5 [(0, .ref (ad 49)), (1, .int x1), (2, .int x2)] := hl
  have hF := FMO_due_e S x1 x2
  refine lv_aload_n hx hb dMO_due_0 rfl (lv_at hl 0 rfl) ?_
  refine lv_iconst (v := 0) hx hb dMO_due_1 (by decide) ?_
  refine V_putI (ty := .int) B hw (by decide) rfl rfl hin_MO tyMO_ok nmMO 4 (by decide) rfl wm_242 rfl (by decide +kernel) rfl rfl dMO_due_2 (fun H locs hw => ?_)
  refine lv_iload_n hx hb dMO_due_5 rfl (lv_at hl 1 rfl) ?_
  refine lv_if_lt (tgt := 41) hx hb dMO_due_6 (by decide) (fun c1 => ?_) (fun c1 => ?_)
  · have hF := hF.trans (if_pos c1)
    refine lv_ldc2 (v := (-1)) hx hb hown (hts _ wm_278) dMO_due_41 ?_
    exact V_lret B hr hlk hw (pL_of hF) dMO_due_44
  · have hF := hF.trans (if_neg c1)
    refine lv_iload_n hx hb dMO_due_9 rfl (lv_at hl 1 rfl) ?_
    refine lv_i2l hx hb dMO_due_10 rfl ?_
    refine lv_aload_n hx hb dMO_due_11 rfl (lv_at hl 0 rfl) ?_
    refine V_get B hw (v := .ref (ad 50)) (by decide) rfl rfl hin_MO 0 (by decide) rfl wm_234 rfl dMO_due_12 ?_
    refine lv_iconst (v := 3) hx hb dMO_due_15 (by decide) ?_
    refine V_lald (j := 3) (v := S.2 50 3) B hw (by decide) rfl (vc_FMO_due_ix16_2 S x1 x2 hp c1) rfl (by first | rfl | simp [sI_1, sI_2, sL_1, sL_2]) dMO_due_16 ?_
    refine V_lge (tgt := 41) B dMO_due_17 dMO_due_18 (by decide) (fun c3 => ?_) (fun c3 => ?_)
    · have hF := hF.trans (if_pos c3)
      refine lv_ldc2 (v := (-1)) hx hb hown (hts _ wm_278) dMO_due_41 ?_
      exact V_lret B hr hlk hw (pL_of hF) dMO_due_44
    · have hF := hF.trans (if_neg c3)
      refine lv_iload_n hx hb dMO_due_21 rfl (lv_at hl 2 rfl) ?_
      refine lv_if_lt (tgt := 41) hx hb dMO_due_22 (by decide) (fun c4 => ?_) (fun c4 => ?_)
      · have hF := hF.trans (if_pos c4)
        refine lv_ldc2 (v := (-1)) hx hb hown (hts _ wm_278) dMO_due_41 ?_
        exact V_lret B hr hlk hw (pL_of hF) dMO_due_44
      · have hF := hF.trans (if_neg c4)
        refine lv_iload_n hx hb dMO_due_25 rfl (lv_at hl 2 rfl) ?_
        refine lv_i2l hx hb dMO_due_26 rfl ?_
        refine lv_aload_n hx hb dMO_due_27 rfl (lv_at hl 0 rfl) ?_
        refine V_get B hw (v := .ref (ad 50)) (by decide) rfl rfl hin_MO 0 (by decide) rfl wm_234 rfl dMO_due_28 ?_
        refine lv_sipush (v := 1190) hx hb dMO_due_31 (by decide) ?_
        refine lv_iload_n hx hb dMO_due_34 rfl (lv_at hl 1 rfl) ?_
        refine lv_iadd hx hb dMO_due_35 ?_
        refine V_lald (j := (1190 + x1).toNatClampNeg) (v := S.2 50 ((1190 + x1).toNatClampNeg)) B hw (by decide) rfl (vc_FMO_due_ix36_5 S x1 x2 hp c1 c3 c4) rfl (by first | rfl | simp [sI_1, sI_2, sL_1, sL_2]) dMO_due_36 ?_
        refine V_llt (tgt := 45) B dMO_due_37 dMO_due_38 (by decide) (fun c6 => ?_) (fun c6 => ?_)
        · have hF := hF.trans (if_pos c6)
          refine lv_aload_n hx hb dMO_due_45 rfl (lv_at hl 0 rfl) ?_
          refine V_get B hw (v := .ref (ad 50)) (by decide) rfl rfl hin_MO 0 (by decide) rfl wm_234 rfl dMO_due_46 ?_
          refine lv_sipush (v := 1190) hx hb dMO_due_49 (by decide) ?_
          refine lv_iload_n hx hb dMO_due_52 rfl (lv_at hl 1 rfl) ?_
          refine lv_iadd hx hb dMO_due_53 ?_
          refine V_lald (j := (1190 + x1).toNatClampNeg) (v := S.2 50 ((1190 + x1).toNatClampNeg)) B hw (by decide) rfl (vc_FMO_due_ix54_7 S x1 x2 hp c1 c3 c4 c6) rfl (by first | rfl | simp [sI_1, sI_2, sL_1, sL_2]) dMO_due_54 ?_
          refine lv_lstore_n (lv' := [(3, .long (S.2 50 ((1190 + x1).toNatClampNeg))), (0, .ref (ad 49)), (1, .int x1), (2, .int x2)]) hx hb dMO_due_55 rfl hl (by decide) rfl (fun ls hl => ?_)
          refine lv_aload_n hx hb dMO_due_56 rfl (lv_at hl 1 rfl) ?_
          refine V_get B hw (v := .ref (ad 50)) (by decide) rfl rfl hin_MO 0 (by decide) rfl wm_234 rfl dMO_due_57 ?_
          refine lv_sipush (v := 1180) hx hb dMO_due_60 (by decide) ?_
          refine lv_iload_n hx hb dMO_due_63 rfl (lv_at hl 2 rfl) ?_
          refine lv_iadd hx hb dMO_due_64 ?_
          refine V_lald (j := (1180 + x1).toNatClampNeg) (v := S.2 50 ((1180 + x1).toNatClampNeg)) B hw (by decide) rfl (vc_FMO_due_ix65_8 S x1 x2 hp c1 c3 c4 c6) rfl (by first | rfl | simp [sI_1, sI_2, sL_1, sL_2]) dMO_due_65 ?_
          refine lv_lload_n hx hb dMO_due_66 rfl (lv_at hl 0 rfl) ?_
          refine lv_ldiv hx hb dMO_due_67 (vc_FMO_due_nz67_9 S x1 x2 hp c1 c3 c4 c6) ?_
          refine lv_iload_n hx hb dMO_due_68 rfl (lv_at hl 3 rfl) ?_
          refine lv_i2l hx hb dMO_due_69 rfl ?_
          refine lv_aload_n hx hb dMO_due_70 rfl (lv_at hl 1 rfl) ?_
          refine V_get B hw (v := .ref (ad 50)) (by decide) rfl rfl hin_MO 0 (by decide) rfl wm_234 rfl dMO_due_71 ?_
          refine lv_sipush (v := 1180) hx hb dMO_due_74 (by decide) ?_
          refine lv_iload_n hx hb dMO_due_77 rfl (lv_at hl 2 rfl) ?_
          refine lv_iadd hx hb dMO_due_78 ?_
          refine V_lald (j := (1180 + x1).toNatClampNeg) (v := S.2 50 ((1180 + x1).toNatClampNeg)) B hw (by decide) rfl (vc_FMO_due_ix79_10 S x1 x2 hp c1 c3 c4 c6) rfl (by first | rfl | simp [sI_1, sI_2, sL_1, sL_2]) dMO_due_79 ?_
          refine lv_lload_n hx hb dMO_due_80 rfl (lv_at hl 0 rfl) ?_
          refine lv_lrem hx hb dMO_due_81 (vc_FMO_due_nz81_11 S x1 x2 hp c1 c3 c4 c6) ?_
          refine V_lge (tgt := 90) B dMO_due_82 dMO_due_83 (by decide) (fun c12 => ?_) (fun c12 => ?_)
          · have hF := hF.trans (if_pos c12)
            refine lv_lconst (v := 0) hx hb dMO_due_90 (by decide) ?_
            refine lv_ladd hx hb dMO_due_91 ?_
            exact V_lret B hr hlk hw (pL_of hF) dMO_due_92
          · have hF := hF.trans (if_neg c12)
            refine lv_lconst (v := 1) hx hb dMO_due_86 (by decide) ?_
            refine lv_goto (tgt := 91) hx hb dMO_due_87 (by decide) ?_
            refine lv_ladd hx hb dMO_due_91 ?_
            exact V_lret B hr hlk hw (pL_of hF) dMO_due_92
        · have hF := hF.trans (if_neg c6)
          refine lv_ldc2 (v := (-1)) hx hb hown (hts _ wm_278) dMO_due_41 ?_
          exact V_lret B hr hlk hw (pL_of hF) dMO_due_44
