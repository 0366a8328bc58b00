set_option maxHeartbeats 4000000 in
set_option maxRecDepth 100000 in
theorem LPMO_reverse_99 (l : Launch) {ad : Nat → Nat} {cI cL : ClassId} {dC : Nat → ClassId} {dI : Nat → Nat → Nat} (hi : adI ad) {p : Program} {e : Env} {s : State} {m : MethodId} {args : Array Value} {below : List Frame} {meth : Method} {c : Code} {A : Nat → Prop} {post : Option Value → hS → Prop} (B : Bs p s m args c RMO bMO_reverse 6 cI cL dC dI) (hr : meth.sig.returnType = (some .int)) (hlk : meth.locks = false) (hA : ∀ q, AA ad s.heap.size q → A q) : ∀ (n : Nat) (S : hS) (x1 : Int32) (x2 : Int64) (x4 : Int32) (x5 : Int32) (H : Heap) (locs : List Loc) (ls : Array Slot), wfM S ∧ bt x5 6 ∧ rg x1 40 ∧ rg x4 40 ∧ ¬ x1 = x4 ∧ (S.2 50 (260 + x4).toNatClampNeg).toInt = x5.toInt ∧ x4.toInt < (S.2 50 1).toInt → ((6 - x5.toInt).toNat) < n → Wd ad cI cL dC dI A s.heap S H locs → lv_has ls 6 [(0, .ref (ad 49)), (1, .int x1), (2, .long x2), (4, .int x4), (5, .int x5)] → (∀ (H : Heap) (locs : List Loc) (ls : Array Slot) (y5 : Int32) (S' : hS), LMO_reverse_99 n S x1 x2 x4 x5 = (y5, S') → Wd ad cI cL dC dI A s.heap S' H locs → lv_has ls 6 [(0, .ref (ad 49)), (1, .int x1), (2, .long x2), (4, .int x4), (5, .int y5)] → W p l e ({ frames := 2, cells := 0, slots := 0, locals := 46 } : Room) s m args below meth c H locs 0 0 (MQ below (QcW ad cI cL dC dI post A) args s 0 0 A) (F0 m 179 ls [])) → W p l e ({ frames := 2, cells := 0, slots := 0, locals := 46 } : Room) s m args below meth c H locs 0 0 (MQ below (QcW ad cI cL dC dI post A) args s 0 0 A) (F0 m 99 ls []) := by
  intro n
  obtain ⟨hx, hb, -, hown, hts, -, -⟩ := id B
  induction n with
  | zero => exact fun S x1 x2 x4 x5 H locs ls _ hmu => absurd hmu (Nat.not_lt_zero _)
  | succ n ih =>
    intro S x1 x2 x4 x5 H locs ls hJ hmu hw hl hexit
    have hF := LMO_reverse_99_s n S x1 x2 x4 x5
    refine lv_iload hx hb dMO_reverse_99 (lv_at hl 4 rfl) ?_
    refine lv_i2l hx hb dMO_reverse_101 rfl ?_
    refine lv_aload_n hx hb dMO_reverse_102 rfl (lv_at hl 0 rfl) ?_
    refine V_get B hw (v := .ref (ad 50)) (by decide) rfl rfl hin_MO 0 (by decide) rfl wm_234 rfl dMO_reverse_103 ?_
    refine lv_sipush (v := 260) hx hb dMO_reverse_106 (by decide) ?_
    refine lv_iload_n hx hb dMO_reverse_109 rfl (lv_at hl 1 rfl) ?_
    refine lv_iadd hx hb dMO_reverse_110 ?_
    refine V_lald (j := (260 + x1).toNatClampNeg) (v := S.2 50 ((260 + x1).toNatClampNeg)) B hw (by decide) rfl (vc_FMO_reverse_ix111_16 S x1 x2 x4 x5 hJ) rfl rfl dMO_reverse_111 ?_
    refine V_lge (tgt := 179) B dMO_reverse_112 dMO_reverse_113 (by decide) (fun c17 => ?_) (fun c17 => ?_)
    · have hF := hF.trans (if_pos c17)
      exact hexit _ _ _ x5 S hF hw (lv_sub hl [0, 1, 2, 3, 4] rfl)
    · have hF := hF.trans (if_neg c17)
      refine lv_aload_n hx hb dMO_reverse_116 rfl (lv_at hl 0 rfl) ?_
      refine lv_iload hx hb dMO_reverse_117 (lv_at hl 3 rfl) ?_
      refine lv_aload_n hx hb dMO_reverse_119 rfl (lv_at hl 0 rfl) ?_
      refine V_get B hw (v := .ref (ad 50)) (by decide) rfl rfl hin_MO 0 (by decide) rfl wm_234 rfl dMO_reverse_120 ?_
      refine lv_sipush (v := 300) hx hb dMO_reverse_123 (by decide) ?_
      refine lv_bipush (v := 6) hx hb dMO_reverse_126 (by decide) ?_
      refine lv_iload_n hx hb dMO_reverse_128 rfl (lv_at hl 1 rfl) ?_
      refine lv_imul hx hb dMO_reverse_129 ?_
      refine lv_iadd hx hb dMO_reverse_130 ?_
      refine lv_iload hx hb dMO_reverse_131 (lv_at hl 4 rfl) ?_
      refine lv_iadd hx hb dMO_reverse_133 ?_
      refine V_lald (j := ((300 + (6 * x1)) + x5).toNatClampNeg) (v := S.2 50 (((300 + (6 * x1)) + x5).toNatClampNeg)) B hw (by decide) rfl (vc_FMO_reverse_ix134_18 S x1 x2 x4 x5 hJ c17) rfl rfl dMO_reverse_134 ?_
      refine lv_l2i hx hb dMO_reverse_135 rfl ?_
      refine lv_aload_n hx hb dMO_reverse_136 rfl (lv_at hl 0 rfl) ?_
      refine V_get B hw (v := .ref (ad 50)) (by decide) rfl rfl hin_MO 0 (by decide) rfl wm_234 rfl dMO_reverse_137 ?_
      refine lv_sipush (v := 540) hx hb dMO_reverse_140 (by decide) ?_
      refine lv_bipush (v := 6) hx hb dMO_reverse_143 (by decide) ?_
      refine lv_iload_n hx hb dMO_reverse_145 rfl (lv_at hl 1 rfl) ?_
      refine lv_imul hx hb dMO_reverse_146 ?_
      refine lv_iadd hx hb dMO_reverse_147 ?_
      refine lv_iload hx hb dMO_reverse_148 (lv_at hl 4 rfl) ?_
      refine lv_iadd hx hb dMO_reverse_150 ?_
      refine V_lald (j := ((540 + (6 * x1)) + x5).toNatClampNeg) (v := S.2 50 (((540 + (6 * x1)) + x5).toNatClampNeg)) B hw (by decide) rfl (vc_FMO_reverse_ix151_19 S x1 x2 x4 x5 hJ c17) rfl rfl dMO_reverse_151 ?_
      refine lv_lneg hx hb dMO_reverse_152 ?_
      refine V_callV (rest := []) B hi hw hA hl.1 (M_FMO_addRow l hi S x4 ((S.2 50 (((300 + (6 * x1)) + x5).toNatClampNeg)).toInt32) (-(S.2 50 (((540 + (6 * x1)) + x5).toNatClampNeg))) (vc_FMO_reverse_pre153_20 S x1 x2 x4 x5 hJ c17)) (cw_FMO_addRow (Nat.le_of_ble_eq_true rfl) (Nat.le_of_ble_eq_true rfl) (Nat.zero_le _) (Nat.zero_le _)) (by decide) rfl rfl wm_259 wm_260 wm_261 rfl (Nat.le_of_ble_eq_true rfl) dMO_reverse_153 (kV (fun H locs hw => ?_))
      refine lv_aload_n hx hb dMO_reverse_156 rfl (lv_at hl 0 rfl) ?_
      refine V_get B hw (v := .ref (ad 50)) (by decide) rfl rfl hin_MO 0 (by decide) rfl wm_234 rfl dMO_reverse_157 ?_
      refine lv_sipush (v := 780) hx hb dMO_reverse_160 (by decide) ?_
      refine lv_bipush (v := 6) hx hb dMO_reverse_163 (by decide) ?_
      refine lv_iload_n hx hb dMO_reverse_165 rfl (lv_at hl 1 rfl) ?_
      refine lv_imul hx hb dMO_reverse_166 ?_
      refine lv_iadd hx hb dMO_reverse_167 ?_
      refine lv_iload hx hb dMO_reverse_168 (lv_at hl 4 rfl) ?_
      refine lv_iadd hx hb dMO_reverse_170 ?_
      refine lv_lconst (v := 0) hx hb dMO_reverse_171 (by decide) ?_
      refine V_last (j := ((780 + (6 * x1)) + x5).toNatClampNeg) B hw (by decide) rfl (vc_FMO_reverse_ix172_21 S x1 x2 x4 x5 hJ c17) rfl dMO_reverse_172 (fun H locs hw => ?_)
      refine lv_iinc (v := x5 + 1) (lv' := [(5, .int (x5 + 1)), (0, .ref (ad 49)), (1, .int x1), (2, .long x2), (4, .int x4)]) hx hb dMO_reverse_173 hl (k := 4) rfl rfl (by decide) rfl (fun ls hl => ?_)
      refine lv_goto (tgt := 99) hx hb dMO_reverse_176 (by decide) ?_
      exact ih (sL (FMO_addRow S x4 ((S.2 50 (((300 + (6 * x1)) + x5).toNatClampNeg)).toInt32) (-(S.2 50 (((540 + (6 * x1)) + x5).toNatClampNeg)))) 50 (((780 + (6 * x1)) + x5).toNatClampNeg) 0) x1 x2 x4 (x5 + 1) _ _ _ (vc_FMO_reverse_inv99_22 S x1 x2 x4 x5 hJ c17) (Nat.lt_of_lt_of_le (vc_FMO_reverse_mu99_23 S x1 x2 x4 x5 hJ c17) (Nat.le_of_lt_succ hmu)) hw (lv_sub hl [1, 2, 3, 4, 0] rfl) (fun H locs ls y5 S' h hw hl => hexit H locs ls y5 S' (hF.trans h) hw hl)
theorem cw_FMO_reverse {R : Room} {cells slots : Nat} (h1 : 3 ≤ R.frames) (h2 : 71 ≤ R.locals) (h3 : cells ≤ R.cells) (h4 : slots ≤ R.slots) : Cw R cells slots yMO_reverse bMO_reverse 6 (some .int) ({ frames := 2, cells := 0, slots := 0, locals := 46 } : Room) 2 := ⟨wm_462, wm_426, by decide +kernel, ⟨rfl, rfl, h1, h2⟩, h3, h4⟩
set_option maxHeartbeats 4000000 in
set_option maxRecDepth 100000 in
theorem M_FMO_reverse (l : Launch) {ad : Nat → Nat} {cI cL : ClassId} {dC : Nat → ClassId} {dI : Nat → Nat → Nat} (hi : adI ad) (S : hS) (x1 : Int32) (x2 : Int64) (hp : wfM S) : Mt l ad cI cL dC dI yMO_reverse bMO_reverse 6 (some .int) ({ frames := 2, cells := 0, slots := 0, locals := 46 } : Room) [.ref (ad 49), .int x1, .long x2] S (pI (FMO_reverse S x1 x2).1 (FMO_reverse S x1 x2).2) := by
  refine Mt_of (own := RMO) hi (by decide) rfl (Nat.le_of_ble_eq_true rfl) ?_
  intro p e s m args below meth c ls B hr hlk hw hl
  obtain ⟨hx, hb, -, hown, hts, -, -⟩ := id B
  have hA : ∀ q, AA ad s.heap.size q → AA ad s.heap.size q := fun _ h => h
  have hl : lv_has ls 6 [(0, .ref (ad 49)), (1, .int x1), (2, .long x2)] := hl
  have hF := FMO_reverse_e S x1 x2
  refine lv_aload_n hx hb dMO_reverse_0 rfl (lv_at hl 0 rfl) ?_
  refine lv_iconst (v := 0) hx hb dMO_reverse_1 (by decide) ?_
  refine V_putI (ty := .int) B hw (by decide) rfl rfl hin_MO tyMO_ok nmMO 4 (by decide) rfl wm_242 rfl (by decide +kernel) rfl rfl dMO_reverse_2 (fun H locs hw => ?_)
  refine lv_aload_n hx hb dMO_reverse_5 rfl (lv_at hl 0 rfl) ?_
  refine lv_iload_n hx hb dMO_reverse_6 rfl (lv_at hl 1 rfl) ?_
  refine V_callV (rest := []) B hi hw hA hl.1 (M_FMO_isEntry l hi (sI S 49 4 0) x1 (vc_FMO_reverse_pre7_1 S x1 x2 hp)) (cw_FMO_isEntry (Nat.le_of_ble_eq_true rfl) (Nat.le_of_ble_eq_true rfl) (Nat.zero_le _) (Nat.zero_le _)) (by decide) rfl rfl wm_253 wm_254 wm_255 rfl (Nat.le_of_ble_eq_true rfl) dMO_reverse_7 (kI (fun H locs hw => ?_))
  refine lv_if_eq (tgt := 86) hx hb dMO_reverse_10 (by decide) (fun c2 => ?_) (fun c2 => ?_)
  · have hF := hF.trans (if_pos c2)
    refine lv_iconst (v := (-1)) hx hb dMO_reverse_86 (by decide) ?_
    exact V_iret B hr hlk hw (pI_of hF) dMO_reverse_87
  · have hF := hF.trans (if_neg c2)
    refine lv_aload_n hx hb dMO_reverse_13 rfl (lv_at hl 0 rfl) ?_
    refine V_get B hw (v := .ref (ad 50)) (by decide) rfl rfl hin_MO 0 (by decide) rfl wm_234 rfl dMO_reverse_14 ?_
    refine lv_sipush (v := 140) hx hb dMO_reverse_17 (by decide) ?_
    refine lv_iload_n hx hb dMO_reverse_20 rfl (lv_at hl 1 rfl) ?_
    refine lv_iadd hx hb dMO_reverse_21 ?_
    refine V_lald (j := (140 + x1).toNatClampNeg) (v := S.2 50 ((140 + x1).toNatClampNeg)) B hw (by decide) rfl (vc_FMO_reverse_ix22_3 S x1 x2 hp c2) rfl (by first | rfl | simp [sI_1, sI_2, sL_1, sL_2]) dMO_reverse_22 ?_
    refine lv_lconst (v := 0) hx hb dMO_reverse_23 (by decide) ?_
    refine V_leq (tgt := 86) B dMO_reverse_24 dMO_reverse_25 (by decide) (fun c4 => ?_) (fun c4 => ?_)
    · have hF := hF.trans (if_pos c4)
      refine lv_iconst (v := (-1)) hx hb dMO_reverse_86 (by decide) ?_
      exact V_iret B hr hlk hw (pI_of hF) dMO_reverse_87
    · have hF := hF.trans (if_neg c4)
      refine lv_aload_n hx hb dMO_reverse_28 rfl (lv_at hl 0 rfl) ?_
      refine V_get B hw (v := .ref (ad 50)) (by decide) rfl rfl hin_MO 0 (by decide) rfl wm_234 rfl dMO_reverse_29 ?_
      refine lv_sipush (v := 220) hx hb dMO_reverse_32 (by decide) ?_
      refine lv_iload_n hx hb dMO_reverse_35 rfl (lv_at hl 1 rfl) ?_
      refine lv_iadd hx hb dMO_reverse_36 ?_
      refine V_lald (j := (220 + x1).toNatClampNeg) (v := S.2 50 ((220 + x1).toNatClampNeg)) B hw (by decide) rfl (vc_FMO_reverse_ix37_5 S x1 x2 hp c2 c4) rfl (by first | rfl | simp [sI_1, sI_2, sL_1, sL_2]) dMO_reverse_37 ?_
      refine lv_lconst (v := 0) hx hb dMO_reverse_38 (by decide) ?_
      refine V_lgt (tgt := 86) B dMO_reverse_39 dMO_reverse_40 (by decide) (fun c6 => ?_) (fun c6 => ?_)
      · have hF := hF.trans (if_pos c6)
        refine lv_iconst (v := (-1)) hx hb dMO_reverse_86 (by decide) ?_
        exact V_iret B hr hlk hw (pI_of hF) dMO_reverse_87
      · have hF := hF.trans (if_neg c6)
        refine lv_aload_n hx hb dMO_reverse_43 rfl (lv_at hl 0 rfl) ?_
        refine V_get B hw (v := .ref (ad 50)) (by decide) rfl rfl hin_MO 0 (by decide) rfl wm_234 rfl dMO_reverse_44 ?_
        refine lv_sipush (v := 180) hx hb dMO_reverse_47 (by decide) ?_
        refine lv_iload_n hx hb dMO_reverse_50 rfl (lv_at hl 1 rfl) ?_
        refine lv_iadd hx hb dMO_reverse_51 ?_
        refine V_lald (j := (180 + x1).toNatClampNeg) (v := S.2 50 ((180 + x1).toNatClampNeg)) B hw (by decide) rfl (vc_FMO_reverse_ix52_7 S x1 x2 hp c2 c4 c6) rfl (by first | rfl | simp [sI_1, sI_2, sL_1, sL_2]) dMO_reverse_52 ?_
        refine lv_lconst (v := 0) hx hb dMO_reverse_53 (by decide) ?_
        refine V_lgt (tgt := 86) B dMO_reverse_54 dMO_reverse_55 (by decide) (fun c8 => ?_) (fun c8 => ?_)
        · have hF := hF.trans (if_pos c8)
          refine lv_iconst (v := (-1)) hx hb dMO_reverse_86 (by decide) ?_
          exact V_iret B hr hlk hw (pI_of hF) dMO_reverse_87
        · have hF := hF.trans (if_neg c8)
          refine lv_aload_n hx hb dMO_reverse_58 rfl (lv_at hl 0 rfl) ?_
          refine lv_iload_n hx hb dMO_reverse_59 rfl (lv_at hl 1 rfl) ?_
          refine V_callV (rest := []) B hi hw hA hl.1 (M_FMO_isPaid l hi (sI S 49 4 0) x1 (vc_FMO_reverse_pre60_9 S x1 x2 hp c2 c4 c6 c8)) (cw_FMO_isPaid (Nat.le_of_ble_eq_true rfl) (Nat.le_of_ble_eq_true rfl) (Nat.zero_le _) (Nat.zero_le _)) (by decide) rfl rfl wm_303 wm_304 wm_305 rfl (Nat.le_of_ble_eq_true rfl) dMO_reverse_60 (kI (fun H locs hw => ?_))
          refine lv_if_ne (tgt := 86) hx hb dMO_reverse_63 (by decide) (fun c10 => ?_) (fun c10 => ?_)
          · have hF := hF.trans (if_neg c10)
            refine lv_iconst (v := (-1)) hx hb dMO_reverse_86 (by decide) ?_
            exact V_iret B hr hlk hw (pI_of hF) dMO_reverse_87
          · have hF := hF.trans (if_pos c10)
            refine lv_lload_n hx hb dMO_reverse_66 rfl (lv_at hl 2 rfl) ?_
            refine V_callS (rest := []) B hi hw hA hl.1 (M_FMO_isDay l hi (sI S 49 4 0) x2) (cw_FMO_isDay (Nat.le_of_ble_eq_true rfl) (Nat.le_of_ble_eq_true rfl) (Nat.zero_le _) (Nat.zero_le _)) wm_245 wm_246 rfl (Nat.le_of_ble_eq_true rfl) dMO_reverse_67 (kI (fun H locs hw => ?_))
            refine lv_if_eq (tgt := 86) hx hb dMO_reverse_70 (by decide) (fun c11 => ?_) (fun c11 => ?_)
            · have hF := hF.trans (if_pos c11)
              refine lv_iconst (v := (-1)) hx hb dMO_reverse_86 (by decide) ?_
              exact V_iret B hr hlk hw (pI_of hF) dMO_reverse_87
            · have hF := hF.trans (if_neg c11)
              refine lv_aload_n hx hb dMO_reverse_73 rfl (lv_at hl 0 rfl) ?_
              refine V_get B hw (v := .ref (ad 50)) (by decide) rfl rfl hin_MO 0 (by decide) rfl wm_234 rfl dMO_reverse_74 ?_
              refine lv_iconst (v := 1) hx hb dMO_reverse_77 (by decide) ?_
              refine V_lald (j := 1) (v := S.2 50 1) B hw (by decide) rfl (vc_FMO_reverse_ix78_12 S x1 x2 hp c2 c4 c6 c8 c10 c11) rfl (by first | rfl | simp [sI_1, sI_2, sL_1, sL_2]) dMO_reverse_78 ?_
              refine lv_ldc2 (v := 40) hx hb hown (hts _ wm_244) dMO_reverse_79 ?_
              refine V_lne (tgt := 88) B dMO_reverse_82 dMO_reverse_83 (by decide) (fun c13 => ?_) (fun c13 => ?_)
              · have hF := hF.trans (if_neg c13)
                refine lv_aload_n hx hb dMO_reverse_88 rfl (lv_at hl 0 rfl) ?_
                refine lv_lload_n hx hb dMO_reverse_89 rfl (lv_at hl 2 rfl) ?_
                refine lv_iconst (v := 2) hx hb dMO_reverse_90 (by decide) ?_
                rcases hq15 : FMO_addEntry (sI S 49 4 0) x2 2 with ⟨v15, S15⟩
                rw [hq15] at hF; try dsimp only at hF
                refine V_callV (post := pI v15 S15) (rest := []) B hi hw hA hl.1 (by have h := M_FMO_addEntry (cI := cI) (cL := cL) (dC := dC) (dI := dI) l hi (sI S 49 4 0) x2 2 (vc_FMO_reverse_pre91_14 S x1 x2 hp c2 c4 c6 c8 c10 c11 c13); rw [hq15] at h; exact h) (cw_FMO_addEntry (Nat.le_of_ble_eq_true rfl) (Nat.le_of_ble_eq_true rfl) (Nat.zero_le _) (Nat.zero_le _)) (by decide) rfl rfl wm_250 wm_251 wm_252 rfl (Nat.le_of_ble_eq_true rfl) dMO_reverse_91 (kI (fun H locs hw => ?_))
                refine lv_istore (lv' := [(4, .int v15), (0, .ref (ad 49)), (1, .int x1), (2, .long x2)]) hx hb dMO_reverse_94 hl (by decide) rfl (fun ls hl => ?_)
                refine lv_iconst (v := 0) hx hb dMO_reverse_96 (by decide) ?_
                refine lv_istore (lv' := [(5, .int 0), (4, .int v15), (0, .ref (ad 49)), (1, .int x1), (2, .long x2)]) hx hb dMO_reverse_97 hl (by decide) rfl (fun ls hl => ?_)
                refine LPMO_reverse_99 l hi B hr hlk hA 300 S15 x1 x2 v15 0 _ _ _ (vc_FMO_reverse_inv099_25 S x1 x2 hp c2 c4 c6 c8 c10 c11 c13 v15 S15 hq15) (vc_FMO_reverse_mu099_26 S x1 x2 hp c2 c4 c6 c8 c10 c11 c13 v15 S15 hq15) hw (lv_sub hl [2, 3, 4, 1, 0] rfl) (fun H locs ls y24_5 S24 hq24 hw hl => ?_)
                rw [hq24] at hF; try dsimp only at hF
                refine lv_aload_n hx hb dMO_reverse_179 rfl (lv_at hl 0 rfl) ?_
                refine V_get B hw (v := .ref (ad 50)) (by decide) rfl rfl hin_MO 0 (by decide) rfl wm_234 rfl dMO_reverse_180 ?_
                refine lv_sipush (v := 140) hx hb dMO_reverse_183 (by decide) ?_
                refine lv_iload hx hb dMO_reverse_186 (lv_at hl 3 rfl) ?_
                refine lv_iadd hx hb dMO_reverse_188 ?_
                refine lv_lconst (v := 1) hx hb dMO_reverse_189 (by decide) ?_
                refine V_last (j := (140 + v15).toNatClampNeg) B hw (by decide) rfl (vc_FMO_reverse_ix190_27 S x1 x2 hp c2 c4 c6 c8 c10 c11 c13 v15 S15 hq15 y24_5 S24 hq24) rfl dMO_reverse_190 (fun H locs hw => ?_)
                refine lv_aload_n hx hb dMO_reverse_191 rfl (lv_at hl 0 rfl) ?_
                refine V_get B hw (v := .ref (ad 50)) (by decide) rfl rfl hin_MO 0 (by decide) rfl wm_234 rfl dMO_reverse_192 ?_
                refine lv_sipush (v := 220) hx hb dMO_reverse_195 (by decide) ?_
                refine lv_iload_n hx hb dMO_reverse_198 rfl (lv_at hl 1 rfl) ?_
                refine lv_iadd hx hb dMO_reverse_199 ?_
                refine lv_lconst (v := 1) hx hb dMO_reverse_200 (by decide) ?_
                refine V_last (j := (220 + x1).toNatClampNeg) B hw (by decide) rfl (vc_FMO_reverse_ix201_28 S x1 x2 hp c2 c4 c6 c8 c10 c11 c13 v15 S15 hq15 y24_5 S24 hq24) rfl dMO_reverse_201 (fun H locs hw => ?_)
                refine lv_iload hx hb dMO_reverse_202 (lv_at hl 3 rfl) ?_
                exact V_iret B hr hlk hw (pI_of hF) dMO_reverse_204
              · have hF := hF.trans (if_pos c13)
                refine lv_iconst (v := (-1)) hx hb dMO_reverse_86 (by decide) ?_
                exact V_iret B hr hlk hw (pI_of hF) dMO_reverse_87
set_option maxHeartbeats 4000000 in
set_option maxRecDepth 100000 in
theorem LPMO_interest_41 (l : Launch) {ad : Nat → Nat} {cI cL : ClassId} {dC : Nat → ClassId} {dI : Nat → Nat → Nat} (hi : adI ad) {p : Program} {e : Env} {s : State} {m : MethodId} {args : Array Value} {below : List Frame} {meth : Method} {c : Code} {A : Nat → Prop} {post : Option Value → hS → Prop} (B : Bs p s m args c RMO bMO_interest 11 cI cL dC dI) (hr : meth.sig.returnType = (some .long)) (hlk : meth.locks = false) (hA : ∀ q, AA ad s.heap.size q → A q) : ∀ (n : Nat) (S : hS) (x1 : Int32) (x2 : Int64) (x4 : Int32) (x5 : Int64) (x7 : Int32) (H : Heap) (locs : List Loc) (ls : Array Slot), wfM S ∧ bt x7 240 → ((240 - x7.toInt).toNat) < n → Wd ad cI cL dC dI A s.heap S H locs → lv_has ls 11 [(0, .ref (ad 49)), (1, .int x1), (2, .long x2), (4, .int x4), (5, .long x5), (7, .int x7)] → (∀ (H : Heap) (locs : List Loc) (ls : Array Slot) (y5 : Int64) (y7 : Int32), LMO_interest_41 n S x1 x2 x4 x5 x7 = (y5, y7) → Wd ad cI cL dC dI A s.heap S H locs → lv_has ls 11 [(0, .ref (ad 49)), (1, .int x1), (2, .long x2), (4, .int x4), (5, .long y5), (7, .int y7)] → W p l e ({ frames := 2, cells := 0, slots := 0, locals := 55 } : Room) s m args below meth c H locs 0 0 (MQ below (QcW ad cI cL dC dI post A) args s 0 0 A) (F0 m 120 ls [])) → W p l e ({ frames := 2, cells := 0, slots := 0, locals := 55 } : Room) s m args below meth c H locs 0 0 (MQ below (QcW ad cI cL dC dI post A) args s 0 0 A) (F0 m 41 ls []) := by
  intro n
  obtain ⟨hx, hb, -, hown, hts, -, -⟩ := id B
  induction n with
  | zero => exact fun S x1 x2 x4 x5 x7 H locs ls _ hmu => absurd hmu (Nat.not_lt_zero _)
  | succ n ih =>
    intro S x1 x2 x4 x5 x7 H locs ls hJ hmu hw hl hexit
    have hF := LMO_interest_41_s n S x1 x2 x4 x5 x7
    refine lv_iload hx hb dMO_interest_41 (lv_at hl 5 rfl) ?_
    refine lv_sipush (v := 240) hx hb dMO_interest_43 (by decide) ?_
    refine lv_icmp_ge (tgt := 120) hx hb dMO_interest_46 (by decide) (fun c6 => ?_) (fun c6 => ?_)
    · have hF := hF.trans (if_pos c6)
      exact hexit _ _ _ x5 x7 hF hw (lv_sub hl [0, 1, 2, 3, 4, 5] rfl)
    · have hF := hF.trans (if_neg c6)
      refine lv_aload_n hx hb dMO_interest_49 rfl (lv_at hl 0 rfl) ?_
      refine lv_iload hx hb dMO_interest_50 (lv_at hl 5 rfl) ?_
      refine lv_iload_n hx hb dMO_interest_52 rfl (lv_at hl 1 rfl) ?_
      refine V_callV (rest := []) B hi hw hA hl.1 (M_FMO_isItemOf l hi S x7 x1 (vc_FMO_interest_pre53_7 S x1 x2 x4 x5 x7 hJ c6)) (cw_FMO_isItemOf (Nat.le_of_ble_eq_true rfl) (Nat.le_of_ble_eq_true rfl) (Nat.zero_le _) (Nat.zero_le _)) (by decide) rfl rfl wm_265 wm_266 wm_267 rfl (Nat.le_of_ble_eq_true rfl) dMO_interest_53 (kI (fun H locs hw => ?_))
      refine lv_if_eq (tgt := 81) hx hb dMO_interest_56 (by decide) (fun c8 => ?_) (fun c8 => ?_)
      · have hF := hF.trans (if_pos c8)
        refine lv_lconst (v := 0) hx hb dMO_interest_81 (by decide) ?_
        refine lv_lstore (lv' := [(8, .long 0), (0, .ref (ad 49)), (1, .int x1), (2, .long x2), (4, .int x4), (5, .long x5), (7, .int x7)]) hx hb dMO_interest_82 hl (by decide) rfl (fun ls hl => ?_)
        refine lv_lload hx hb dMO_interest_84 (lv_at hl 5 rfl) ?_
        refine lv_lload hx hb dMO_interest_86 (lv_at hl 0 rfl) ?_
        refine lv_lconst (v := 0) hx hb dMO_interest_88 (by decide) ?_
        refine V_lle (tgt := 110) B dMO_interest_89 dMO_interest_90 (by decide) (fun c => ?_) (fun c => absurd (by decide) c)
        refine lv_lconst (v := 0) hx hb dMO_interest_110 (by decide) ?_
        refine lv_ladd hx hb dMO_interest_111 ?_
        refine lv_lstore (lv' := [(5, .long (x5 + 0)), (8, .long 0), (0, .ref (ad 49)), (1, .int x1), (2, .long x2), (4, .int x4), (7, .int x7)]) hx hb dMO_interest_112 hl (by decide) rfl (fun ls hl => ?_)
        refine lv_iinc (v := x7 + 1) (lv' := [(7, .int (x7 + 1)), (5, .long (x5 + 0)), (8, .long 0), (0, .ref (ad 49)), (1, .int x1), (2, .long x2), (4, .int x4)]) hx hb dMO_interest_114 hl (k := 6) rfl rfl (by decide) rfl (fun ls hl => ?_)
        refine lv_goto (tgt := 41) hx hb dMO_interest_117 (by decide) ?_
        exact ih S x1 x2 x4 (x5 + 0) (x7 + 1) _ _ _ (vc_FMO_interest_inv41_9 S x1 x2 x4 x5 x7 hJ c6 c8) (Nat.lt_of_lt_of_le (vc_FMO_interest_mu41_10 S x1 x2 x4 x5 x7 hJ c6 c8) (Nat.le_of_lt_succ hmu)) hw (lv_sub hl [3, 4, 5, 6, 1, 0] rfl) (fun H locs ls y5 y7 h hw hl => hexit H locs ls y5 y7 (hF.trans h) hw hl)
      · have hF := hF.trans (if_neg c8)
        refine lv_lload_n hx hb dMO_interest_59 rfl (lv_at hl 2 rfl) ?_
        refine lv_aload_n hx hb dMO_interest_60 rfl (lv_at hl 0 rfl) ?_
        refine V_get B hw (v := .ref (ad 50)) (by decide) rfl rfl hin_MO 0 (by decide) rfl wm_234 rfl dMO_interest_61 ?_
        refine lv_bipush (v := 100) hx hb dMO_interest_64 (by decide) ?_
        refine lv_iload hx hb dMO_interest_66 (lv_at hl 5 rfl) ?_
        refine lv_bipush (v := 6) hx hb dMO_interest_68 (by decide) ?_
        refine lv_idiv hx hb dMO_interest_70 (by decide) ?_
        refine lv_iadd hx hb dMO_interest_71 ?_
        refine V_lald (j := (100 + (x7 / 6)).toNatClampNeg) (v := S.2 50 ((100 + (x7 / 6)).toNatClampNeg)) B hw (by decide) rfl (vc_FMO_interest_ix72_11 S x1 x2 x4 x5 x7 hJ c6 c8) rfl rfl dMO_interest_72 ?_
        refine lv_lsub hx hb dMO_interest_73 ?_
        refine lv_ldc2 (v := 30) hx hb hown (hts _ wm_241) dMO_interest_74 ?_
        refine lv_lsub hx hb dMO_interest_77 ?_
        refine lv_goto (tgt := 82) hx hb dMO_interest_78 (by decide) ?_
        refine lv_lstore (lv' := [(8, .long ((x2 - (S.2 50 ((100 + (x7 / 6)).toNatClampNeg))) - 30)), (0, .ref (ad 49)), (1, .int x1), (2, .long x2), (4, .int x4), (5, .long x5), (7, .int x7)]) hx hb dMO_interest_82 hl (by decide) rfl (fun ls hl => ?_)
        refine lv_lload hx hb dMO_interest_84 (lv_at hl 5 rfl) ?_
        refine lv_lload hx hb dMO_interest_86 (lv_at hl 0 rfl) ?_
        refine lv_lconst (v := 0) hx hb dMO_interest_88 (by decide) ?_
        refine V_lle (tgt := 110) B dMO_interest_89 dMO_interest_90 (by decide) (fun c12 => ?_) (fun c12 => ?_)
        · have hF := hF.trans (if_pos c12)
          refine lv_lconst (v := 0) hx hb dMO_interest_110 (by decide) ?_
          refine lv_ladd hx hb dMO_interest_111 ?_
          refine lv_lstore (lv' := [(5, .long (x5 + 0)), (8, .long ((x2 - (S.2 50 ((100 + (x7 / 6)).toNatClampNeg))) - 30)), (0, .ref (ad 49)), (1, .int x1), (2, .long x2), (4, .int x4), (7, .int x7)]) hx hb dMO_interest_112 hl (by decide) rfl (fun ls hl => ?_)
          refine lv_iinc (v := x7 + 1) (lv' := [(7, .int (x7 + 1)), (5, .long (x5 + 0)), (8, .long ((x2 - (S.2 50 ((100 + (x7 / 6)).toNatClampNeg))) - 30)), (0, .ref (ad 49)), (1, .int x1), (2, .long x2), (4, .int x4)]) hx hb dMO_interest_114 hl (k := 6) rfl rfl (by decide) rfl (fun ls hl => ?_)
          refine lv_goto (tgt := 41) hx hb dMO_interest_117 (by decide) ?_
          exact ih S x1 x2 x4 (x5 + 0) (x7 + 1) _ _ _ (vc_FMO_interest_inv41_13 S x1 x2 x4 x5 x7 hJ c6 c8 c12) (Nat.lt_of_lt_of_le (vc_FMO_interest_mu41_14 S x1 x2 x4 x5 x7 hJ c6 c8 c12) (Nat.le_of_lt_succ hmu)) hw (lv_sub hl [3, 4, 5, 6, 1, 0] rfl) (fun H locs ls y5 y7 h hw hl => hexit H locs ls y5 y7 (hF.trans h) hw hl)
        · have hF := hF.trans (if_neg c12)
          refine lv_lload hx hb dMO_interest_93 (lv_at hl 0 rfl) ?_
          refine lv_aload_n hx hb dMO_interest_95 rfl (lv_at hl 1 rfl) ?_
          refine V_get B hw (v := .ref (ad 50)) (by decide) rfl rfl hin_MO 0 (by decide) rfl wm_234 rfl dMO_interest_96 ?_
          refine lv_sipush (v := 780) hx hb dMO_interest_99 (by decide) ?_
          refine lv_iload hx hb dMO_interest_102 (lv_at hl 6 rfl) ?_
          refine lv_iadd hx hb dMO_interest_104 ?_
          refine V_lald (j := (780 + x7).toNatClampNeg) (v := S.2 50 ((780 + x7).toNatClampNeg)) B hw (by decide) rfl (vc_FMO_interest_ix105_15 S x1 x2 x4 x5 x7 hJ c6 c8 c12) rfl rfl dMO_interest_105 ?_
          refine lv_lmul hx hb dMO_interest_106 ?_
          refine lv_goto (tgt := 111) hx hb dMO_interest_107 (by decide) ?_
          refine lv_ladd hx hb dMO_interest_111 ?_
          refine lv_lstore (lv' := [(5, .long (x5 + (((x2 - (S.2 50 ((100 + (x7 / 6)).toNatClampNeg))) - 30) * (S.2 50 ((780 + x7).toNatClampNeg))))), (8, .long ((x2 - (S.2 50 ((100 + (x7 / 6)).toNatClampNeg))) - 30)), (0, .ref (ad 49)), (1, .int x1), (2, .long x2), (4, .int x4), (7, .int x7)]) hx hb dMO_interest_112 hl (by decide) rfl (fun ls hl => ?_)
          refine lv_iinc (v := x7 + 1) (lv' := [(7, .int (x7 + 1)), (5, .long (x5 + (((x2 - (S.2 50 ((100 + (x7 / 6)).toNatClampNeg))) - 30) * (S.2 50 ((780 + x7).toNatClampNeg))))), (8, .long ((x2 - (S.2 50 ((100 + (x7 / 6)).toNatClampNeg))) - 30)), (0, .ref (ad 49)), (1, .int x1), (2, .long x2), (4, .int x4)]) hx hb dMO_interest_114 hl (k := 6) rfl rfl (by decide) rfl (fun ls hl => ?_)
          refine lv_goto (tgt := 41) hx hb dMO_interest_117 (by decide) ?_
          exact ih S x1 x2 x4 (x5 + (((x2 - (S.2 50 ((100 + (x7 / 6)).toNatClampNeg))) - 30) * (S.2 50 ((780 + x7).toNatClampNeg)))) (x7 + 1) _ _ _ (vc_FMO_interest_inv41_16 S x1 x2 x4 x5 x7 hJ c6 c8 c12) (Nat.lt_of_lt_of_le (vc_FMO_interest_mu41_17 S x1 x2 x4 x5 x7 hJ c6 c8 c12) (Nat.le_of_lt_succ hmu)) hw (lv_sub hl [3, 4, 5, 6, 1, 0] rfl) (fun H locs ls y5 y7 h hw hl => hexit H locs ls y5 y7 (hF.trans h) hw hl)
theorem cw_FMO_interest {R : Room} {cells slots : Nat} (h1 : 3 ≤ R.frames) (h2 : 85 ≤ R.locals) (h3 : cells ≤ R.cells) (h4 : slots ≤ R.slots) : Cw R cells slots yMO_interest bMO_interest 11 (some .long) ({ frames := 2, cells := 0, slots := 0, locals := 55 } : Room) 3 := ⟨wm_463, wm_426, by decide +kernel, ⟨rfl, rfl, h1, h2⟩, h3, h4⟩
set_option maxHeartbeats 4000000 in
set_option maxRecDepth 100000 in
theorem M_FMO_interest (l : Launch) {ad : Nat → Nat} {cI cL : ClassId} {dC : Nat → ClassId} {dI : Nat → Nat → Nat} (hi : adI ad) (S : hS) (x1 : Int32) (x2 : Int64) (x4 : Int32) (hp : wfM S) : Mt l ad cI cL dC dI yMO_interest bMO_interest 11 (some .long) ({ frames := 2, cells := 0, slots := 0, locals := 55 } : Room) [.ref (ad 49), .int x1, .long x2, .int x4] S (pL (FMO_interest S x1 x2 x4).1 (FMO_interest S x1 x2 x4).2) := by
  refine Mt_of (own := RMO) hi (by decide) rfl (Nat.le_of_ble_eq_true rfl) ?_
  intro p e s m args below meth c ls B hr hlk hw hl
  obtain ⟨hx, hb, -, hown, hts, -, -⟩ := id B
  have hA : ∀ q, AA ad s.heap.size q → AA ad s.heap.size q := fun _ h => h
  have hl : lv_has ls 11 [(0, .ref (ad 49)), (1, .int x1), (2, .long x2), (4, .int x4)] := hl
  have hF := FMO_interest_e S x1 x2 x4
  refine lv_aload_n hx hb dMO_interest_0 rfl (lv_at hl 0 rfl) ?_
  refine lv_iconst (v := 0) hx hb dMO_interest_1 (by decide) ?_
  refine V_putI (ty := .int) B hw (by decide) rfl rfl hin_MO tyMO_ok nmMO 4 (by decide) rfl wm_242 rfl (by decide +kernel) rfl rfl dMO_interest_2 (fun H locs hw => ?_)
  refine lv_aload_n hx hb dMO_interest_5 rfl (lv_at hl 0 rfl) ?_
  refine lv_iload_n hx hb dMO_interest_6 rfl (lv_at hl 1 rfl) ?_
  refine V_callV (rest := []) B hi hw hA hl.1 (M_FMO_isHousehold l hi (sI S 49 4 0) x1 (vc_FMO_interest_pre7_1 S x1 x2 x4 hp)) (cw_FMO_isHousehold (Nat.le_of_ble_eq_true rfl) (Nat.le_of_ble_eq_true rfl) (Nat.zero_le _) (Nat.zero_le _)) (by decide) rfl rfl wm_271 wm_272 wm_273 rfl (Nat.le_of_ble_eq_true rfl) dMO_interest_7 (kI (fun H locs hw => ?_))
  refine lv_if_eq (tgt := 31) hx hb dMO_interest_10 (by decide) (fun c2 => ?_) (fun c2 => ?_)
  · have hF := hF.trans (if_pos c2)
    refine lv_ldc2 (v := (-1)) hx hb hown (hts _ wm_278) dMO_interest_31 ?_
    exact V_lret B hr hlk hw (pL_of hF) dMO_interest_34
  · have hF := hF.trans (if_neg c2)
    refine lv_lload_n hx hb dMO_interest_13 rfl (lv_at hl 2 rfl) ?_
    refine V_callS (rest := []) B hi hw hA hl.1 (M_FMO_isDay l hi (sI S 49 4 0) x2) (cw_FMO_isDay (Nat.le_of_ble_eq_true rfl) (Nat.le_of_ble_eq_true rfl) (Nat.zero_le _) (Nat.zero_le _)) wm_245 wm_246 rfl (Nat.le_of_ble_eq_true rfl) dMO_interest_14 (kI (fun H locs hw => ?_))
    refine lv_if_eq (tgt := 31) hx hb dMO_interest_17 (by decide) (fun c3 => ?_) (fun c3 => ?_)
    · have hF := hF.trans (if_pos c3)
      refine lv_ldc2 (v := (-1)) hx hb hown (hts _ wm_278) dMO_interest_31 ?_
      exact V_lret B hr hlk hw (pL_of hF) dMO_interest_34
    · have hF := hF.trans (if_neg c3)
      refine lv_iload hx hb dMO_interest_20 (lv_at hl 3 rfl) ?_
      refine lv_if_lt (tgt := 31) hx hb dMO_interest_22 (by decide) (fun c4 => ?_) (fun c4 => ?_)
      · have hF := hF.trans (if_pos c4)
        refine lv_ldc2 (v := (-1)) hx hb hown (hts _ wm_278) dMO_interest_31 ?_
        exact V_lret B hr hlk hw (pL_of hF) dMO_interest_34
      · have hF := hF.trans (if_neg c4)
        refine lv_iload hx hb dMO_interest_25 (lv_at hl 3 rfl) ?_
        refine lv_iconst (v := 2) hx hb dMO_interest_27 (by decide) ?_
        refine lv_icmp_le (tgt := 35) hx hb dMO_interest_28 (by decide) (fun c5 => ?_) (fun c5 => ?_)
        · have hF := hF.trans (if_pos c5)
          refine lv_lconst (v := 0) hx hb dMO_interest_35 (by decide) ?_
          refine lv_lstore (lv' := [(5, .long 0), (0, .ref (ad 49)), (1, .int x1), (2, .long x2), (4, .int x4)]) hx hb dMO_interest_36 hl (by decide) rfl (fun ls hl => ?_)
          refine lv_iconst (v := 0) hx hb dMO_interest_38 (by decide) ?_
          refine lv_istore (lv' := [(7, .int 0), (5, .long 0), (0, .ref (ad 49)), (1, .int x1), (2, .long x2), (4, .int x4)]) hx hb dMO_interest_39 hl (by decide) rfl (fun ls hl => ?_)
          refine LPMO_interest_41 l hi B hr hlk hA 300 (sI S 49 4 0) x1 x2 x4 0 0 _ _ _ (vc_FMO_interest_inv041_19 S x1 x2 x4 hp c2 c3 c4 c5) (vc_FMO_interest_mu041_20 S x1 x2 x4 hp c2 c3 c4 c5) hw (lv_sub hl [2, 3, 4, 5, 1, 0] rfl) (fun H locs ls y18_5 y18_7 hq18 hw hl => ?_)
          rw [hq18] at hF; try dsimp only at hF
          refine lv_lload hx hb dMO_interest_120 (lv_at hl 4 rfl) ?_
          refine lv_aload_n hx hb dMO_interest_122 rfl (lv_at hl 0 rfl) ?_
          refine V_get B hw (v := .ref (ad 50)) (by decide) rfl rfl hin_MO 0 (by decide) rfl wm_234 rfl dMO_interest_123 ?_
          refine lv_iconst (v := 5) hx hb dMO_interest_126 (by decide) ?_
          refine V_lald (j := 5) (v := S.2 50 5) B hw (by decide) rfl (vc_FMO_interest_ix127_21 S x1 x2 x4 hp c2 c3 c4 c5 y18_5 y18_7 hq18) rfl (by first | rfl | simp [sI_1, sI_2, sL_1, sL_2]) dMO_interest_127 ?_
          refine lv_lmul hx hb dMO_interest_128 ?_
          refine lv_lstore (lv' := [(7, .long (y18_5 * (S.2 50 5))), (0, .ref (ad 49)), (1, .int x1), (2, .long x2), (4, .int x4), (5, .long y18_5)]) hx hb dMO_interest_129 hl (by decide) rfl (fun ls hl => ?_)
          refine lv_ldc2 (v := 360) hx hb hown (hts _ wm_306) dMO_interest_131 ?_
          refine lv_aload_n hx hb dMO_interest_134 rfl (lv_at hl 1 rfl) ?_
          refine V_get B hw (v := .ref (ad 50)) (by decide) rfl rfl hin_MO 0 (by decide) rfl wm_234 rfl dMO_interest_135 ?_
          refine lv_bipush (v := 6) hx hb dMO_interest_138 (by decide) ?_
          refine V_lald (j := 6) (v := S.2 50 6) B hw (by decide) rfl (vc_FMO_interest_ix140_22 S x1 x2 x4 hp c2 c3 c4 c5 y18_5 y18_7 hq18) rfl (by first | rfl | simp [sI_1, sI_2, sL_1, sL_2]) dMO_interest_140 ?_
          refine lv_lmul hx hb dMO_interest_141 ?_
          refine lv_lstore (lv' := [(9, .long (360 * (S.2 50 6))), (7, .long (y18_5 * (S.2 50 5))), (0, .ref (ad 49)), (1, .int x1), (2, .long x2), (4, .int x4), (5, .long y18_5)]) hx hb dMO_interest_142 hl (by decide) rfl (fun ls hl => ?_)
          refine lv_iload hx hb dMO_interest_144 (lv_at hl 5 rfl) ?_
          refine lv_iconst (v := 2) hx hb dMO_interest_146 (by decide) ?_
          refine lv_icmp_ge (tgt := 162) hx hb dMO_interest_147 (by decide) (fun c23 => ?_) (fun c23 => ?_)
          · have hF := hF.trans (if_pos c23)
            refine lv_ldc2 (v := 2) hx hb hown (hts _ wm_307) dMO_interest_162 ?_
            refine lv_lload hx hb dMO_interest_165 (lv_at hl 1 rfl) ?_
            refine lv_lmul hx hb dMO_interest_167 ?_
            refine lv_lload hx hb dMO_interest_168 (lv_at hl 0 rfl) ?_
            refine lv_ladd hx hb dMO_interest_170 ?_
            refine lv_ldc2 (v := 2) hx hb hown (hts _ wm_307) dMO_interest_171 ?_
            refine lv_lload hx hb dMO_interest_174 (lv_at hl 0 rfl) ?_
            refine lv_lmul hx hb dMO_interest_176 ?_
            refine lv_ldiv hx hb dMO_interest_177 (vc_FMO_interest_nz177_24 S x1 x2 x4 hp c2 c3 c4 c5 y18_5 y18_7 hq18 c23) ?_
            exact V_lret B hr hlk hw (pL_of hF) dMO_interest_178
          · have hF := hF.trans (if_neg c23)
            refine lv_lload hx hb dMO_interest_150 (lv_at hl 1 rfl) ?_
            refine lv_lload hx hb dMO_interest_152 (lv_at hl 0 rfl) ?_
            refine lv_iload hx hb dMO_interest_154 (lv_at hl 5 rfl) ?_
            refine V_callS (rest := []) B hi hw hA hl.1 (M_FMO_part l hi (sI S 49 4 0) (y18_5 * (S.2 50 5)) (360 * (S.2 50 6)) x4 (vc_FMO_interest_pre156_25 S x1 x2 x4 hp c2 c3 c4 c5 y18_5 y18_7 hq18 c23)) (cw_FMO_part (Nat.le_of_ble_eq_true rfl) (Nat.le_of_ble_eq_true rfl) (Nat.zero_le _) (Nat.zero_le _)) wm_297 wm_298 rfl (Nat.le_of_ble_eq_true rfl) dMO_interest_156 (kL (fun H locs hw => ?_))
            refine lv_goto (tgt := 178) hx hb dMO_interest_159 (by decide) ?_
            exact V_lret B hr hlk hw (pL_of hF) dMO_interest_178
        · have hF := hF.trans (if_neg c5)
          refine lv_ldc2 (v := (-1)) hx hb hown (hts _ wm_278) dMO_interest_31 ?_
          exact V_lret B hr hlk hw (pL_of hF) dMO_interest_34
theorem cw_FMO_rate {R : Room} {cells slots : Nat} (h1 : 2 ≤ R.frames) (h2 : 49 ≤ R.locals) (h3 : cells ≤ R.cells) (h4 : slots ≤ R.slots) : Cw R cells slots yMO_rate bMO_rate 5 (some .boolean) ({ frames := 1, cells := 0, slots := 0, locals := 25 } : Room) 2 := ⟨wm_464, wm_426, by decide +kernel, ⟨rfl, rfl, h1, h2⟩, h3, h4⟩
set_option maxHeartbeats 4000000 in
set_option maxRecDepth 100000 in
theorem M_FMO_rate (l : Launch) {ad : Nat → Nat} {cI cL : ClassId} {dC : Nat → ClassId} {dI : Nat → Nat → Nat} (hi : adI ad) (S : hS) (x1 : Int64) (x3 : Int64) (hp : wfM S) : Mt l ad cI cL dC dI yMO_rate bMO_rate 5 (some .boolean) ({ frames := 1, cells := 0, slots := 0, locals := 25 } : Room) [.ref (ad 49), .long x1, .long x3] S (pI (FMO_rate S x1 x3).1 (FMO_rate S x1 x3).2) := by
  refine Mt_of (own := RMO) hi (by decide) rfl (Nat.le_of_ble_eq_true rfl) ?_
  intro p e s m args below meth c ls B hr hlk hw hl
  obtain ⟨hx, hb, -, hown, hts, -, -⟩ := id B
  have hA : ∀ q, AA ad s.heap.size q → AA ad s.heap.size q := fun _ h => h
  have hl : lv_has ls 5 [(0, .ref (ad 49)), (1, .long x1), (3, .long x3)] := hl
  have hF := FMO_rate_e S x1 x3
  refine lv_aload_n hx hb dMO_rate_0 rfl (lv_at hl 0 rfl) ?_
  refine lv_iconst (v := 0) hx hb dMO_rate_1 (by decide) ?_
  refine V_putI (ty := .int) B hw (by decide) rfl rfl hin_MO tyMO_ok nmMO 4 (by decide) rfl wm_242 rfl (by decide +kernel) rfl rfl dMO_rate_2 (fun H locs hw => ?_)
  refine lv_lload_n hx hb dMO_rate_5 rfl (lv_at hl 1 rfl) ?_
  refine lv_lconst (v := 0) hx hb dMO_rate_6 (by decide) ?_
  refine lv_ldc2 (v := 100) hx hb hown (hts _ wm_308) dMO_rate_7 ?_
  refine V_callS (rest := []) B hi hw hA hl.1 (M_FMO_isIn l hi (sI S 49 4 0) x1 0 100) (cw_FMO_isIn (Nat.le_of_ble_eq_true rfl) (Nat.le_of_ble_eq_true rfl) (Nat.zero_le _) (Nat.zero_le _)) wm_239 wm_240 rfl (Nat.le_of_ble_eq_true rfl) dMO_rate_10 (kI (fun H locs hw => ?_))
  refine lv_if_eq (tgt := 27) hx hb dMO_rate_13 (by decide) (fun c1 => ?_) (fun c1 => ?_)
  · have hF := hF.trans (if_pos c1)
    refine lv_iconst (v := 0) hx hb dMO_rate_27 (by decide) ?_
    exact V_zret B hr hlk hw (by decide) (pI_of hF) dMO_rate_28
  · have hF := hF.trans (if_neg c1)
    refine lv_lload_n hx hb dMO_rate_16 rfl (lv_at hl 2 rfl) ?_
    refine lv_lconst (v := 1) hx hb dMO_rate_17 (by decide) ?_
    refine lv_ldc2 (v := 100) hx hb hown (hts _ wm_308) dMO_rate_18 ?_
    refine V_callS (rest := []) B hi hw hA hl.1 (M_FMO_isIn l hi (sI S 49 4 0) x3 1 100) (cw_FMO_isIn (Nat.le_of_ble_eq_true rfl) (Nat.le_of_ble_eq_true rfl) (Nat.zero_le _) (Nat.zero_le _)) wm_239 wm_240 rfl (Nat.le_of_ble_eq_true rfl) dMO_rate_21 (kI (fun H locs hw => ?_))
    refine lv_if_ne (tgt := 29) hx hb dMO_rate_24 (by decide) (fun c2 => ?_) (fun c2 => ?_)
    · have hF := hF.trans (if_neg c2)
      refine lv_aload_n hx hb dMO_rate_29 rfl (lv_at hl 0 rfl) ?_
      refine V_get B hw (v := .ref (ad 50)) (by decide) rfl rfl hin_MO 0 (by decide) rfl wm_234 rfl dMO_rate_30 ?_
      refine lv_iconst (v := 5) hx hb dMO_rate_33 (by decide) ?_
      refine lv_lload_n hx hb dMO_rate_34 rfl (lv_at hl 1 rfl) ?_
      refine V_last (j := 5) B hw (by decide) rfl (vc_FMO_rate_ix35_3 S x1 x3 hp c1 c2) rfl dMO_rate_35 (fun H locs hw => ?_)
      refine lv_aload_n hx hb dMO_rate_36 rfl (lv_at hl 0 rfl) ?_
      refine V_get B hw (v := .ref (ad 50)) (by decide) rfl rfl hin_MO 0 (by decide) rfl wm_234 rfl dMO_rate_37 ?_
      refine lv_bipush (v := 6) hx hb dMO_rate_40 (by decide) ?_
      refine lv_lload_n hx hb dMO_rate_42 rfl (lv_at hl 2 rfl) ?_
      refine V_last (j := 6) B hw (by decide) rfl (vc_FMO_rate_ix43_4 S x1 x3 hp c1 c2) rfl dMO_rate_43 (fun H locs hw => ?_)
      refine lv_iconst (v := 1) hx hb dMO_rate_44 (by decide) ?_
      exact V_zret B hr hlk hw (by decide) (pI_of hF) dMO_rate_45
    · have hF := hF.trans (if_pos c2)
      refine lv_iconst (v := 0) hx hb dMO_rate_27 (by decide) ?_
      exact V_zret B hr hlk hw (by decide) (pI_of hF) dMO_rate_28
set_option maxHeartbeats 4000000 in
set_option maxRecDepth 100000 in
theorem LPMO_statement_27 (l : Launch) {ad : Nat → Nat} {cI cL : ClassId} {dC : Nat → ClassId} {dI : Nat → Nat → Nat} (hi : adI ad) {p : Program} {e : Env} {s : State} {m : MethodId} {args : Array Value} {below : List Frame} {meth : Method} {c : Code} {A : Nat → Prop} {post : Option Value → hS → Prop} (B : Bs p s m args c RMO bMO_statement 8 cI cL dC dI) (hr : meth.sig.returnType = (some .int)) (hlk : meth.locks = false) (hA : ∀ q, AA ad s.heap.size q → A q) : ∀ (n : Nat) (S : hS) (x1 : Int32) (x2 : Int32) (x3 : Int32) (x4 : Int32) (x5 : Int32) (x6 : Int32) (H : Heap) (locs : List Loc) (ls : Array Slot), wfM S ∧ bt x6 6 ∧ rg x5 40 → ((6 - x6.toInt).toNat) < n → Wd ad cI cL dC dI A s.heap S H locs → lv_has ls 8 [(0, .ref (ad 49)), (1, .int x1), (2, .int x2), (3, .int x3), (4, .int x4), (5, .int x5), (6, .int x6)] → (∀ (v : Int32), LMO_statement_27 n S x1 x2 x3 x4 x5 x6 = .inl v → post (some (.int v)) S) → (∀ (H : Heap) (locs : List Loc) (ls : Array Slot) (y4 : Int32) (y6 : Int32), LMO_statement_27 n S x1 x2 x3 x4 x5 x6 = .inr (y4, y6) → Wd ad cI cL dC dI A s.heap S H locs → lv_has ls 8 [(0, .ref (ad 49)), (1, .int x1), (2, .int x2), (3, .int x3), (4, .int y4), (5, .int x5), (6, .int y6)] → W p l e ({ frames := 1, cells := 0, slots := 0, locals := 21 } : Room) s m args below meth c H locs 0 0 (MQ below (QcW ad cI cL dC dI post A) args s 0 0 A) (F0 m 160 ls [])) → W p l e ({ frames := 1, cells := 0, slots := 0, locals := 21 } : Room) s m args below meth c H locs 0 0 (MQ below (QcW ad cI cL dC dI post A) args s 0 0 A) (F0 m 27 ls []) := by
  intro n
  obtain ⟨hx, hb, -, hown, hts, -, -⟩ := id B
  induction n with
  | zero => exact fun S x1 x2 x3 x4 x5 x6 H locs ls _ hmu => absurd hmu (Nat.not_lt_zero _)
  | succ n ih =>
    intro S x1 x2 x3 x4 x5 x6 H locs ls hJ hmu hw hl hret hexit
    have hF := LMO_statement_27_s n S x1 x2 x3 x4 x5 x6
    refine lv_iload hx hb dMO_statement_27 (lv_at hl 6 rfl) ?_
    refine lv_i2l hx hb dMO_statement_29 rfl ?_
    refine lv_aload_n hx hb dMO_statement_30 rfl (lv_at hl 0 rfl) ?_
    refine V_get B hw (v := .ref (ad 50)) (by decide) rfl rfl hin_MO 0 (by decide) rfl wm_234 rfl dMO_statement_31 ?_
    refine lv_sipush (v := 260) hx hb dMO_statement_34 (by decide) ?_
    refine lv_iload hx hb dMO_statement_37 (lv_at hl 5 rfl) ?_
    refine lv_iadd hx hb dMO_statement_39 ?_
    refine V_lald (j := (260 + x5).toNatClampNeg) (v := S.2 50 ((260 + x5).toNatClampNeg)) B hw (by decide) rfl (vc_FMO_statement_ix40_3 S x1 x2 x3 x4 x5 x6 hJ) rfl rfl dMO_statement_40 ?_
    refine V_lge (tgt := 160) B dMO_statement_41 dMO_statement_42 (by decide) (fun c4 => ?_) (fun c4 => ?_)
    · have hF := hF.trans (if_pos c4)
      exact hexit _ _ _ x4 x6 hF hw (lv_sub hl [0, 1, 2, 3, 4, 5, 6] rfl)
    · have hF := hF.trans (if_neg c4)
      refine lv_aload_n hx hb dMO_statement_45 rfl (lv_at hl 0 rfl) ?_
      refine lv_iload_n hx hb dMO_statement_46 rfl (lv_at hl 1 rfl) ?_
      refine V_callV (rest := []) B hi hw hA hl.1 (M_FMO_isAccount l hi S x1 (vc_FMO_statement_pre47_5 S x1 x2 x3 x4 x5 x6 hJ c4)) (cw_FMO_isAccount (Nat.le_of_ble_eq_true rfl) (Nat.le_of_ble_eq_true rfl) (Nat.zero_le _) (Nat.zero_le _)) (by decide) rfl rfl wm_235 wm_236 wm_237 rfl (Nat.le_of_ble_eq_true rfl) dMO_statement_47 (kI (fun H locs hw => ?_))
      refine lv_if_eq (tgt := 116) hx hb dMO_statement_50 (by decide) (fun c6 => ?_) (fun c6 => ?_)
      · have hF := hF.trans (if_pos c6)
        refine lv_iconst (v := 0) hx hb dMO_statement_116 (by decide) ?_
        refine lv_istore (lv' := [(7, .int 0), (0, .ref (ad 49)), (1, .int x1), (2, .int x2), (3, .int x3), (4, .int x4), (5, .int x5), (6, .int x6)]) hx hb dMO_statement_117 hl (by decide) rfl (fun ls hl => ?_)
        refine lv_iload hx hb dMO_statement_119 (lv_at hl 0 rfl) ?_
        refine lv_if_eq (tgt := 139) hx hb dMO_statement_121 (by decide) (fun c => ?_) (fun c => absurd (by decide) c)
        refine lv_iload hx hb dMO_statement_139 (lv_at hl 5 rfl) ?_
        refine lv_iload hx hb dMO_statement_141 (lv_at hl 0 rfl) ?_
        refine lv_if_eq (tgt := 150) hx hb dMO_statement_143 (by decide) (fun c => ?_) (fun c => absurd (by decide) c)
        refine lv_iconst (v := 0) hx hb dMO_statement_150 (by decide) ?_
        refine lv_iadd hx hb dMO_statement_151 ?_
        refine lv_istore (lv' := [(4, .int (x4 + 0)), (7, .int 0), (0, .ref (ad 49)), (1, .int x1), (2, .int x2), (3, .int x3), (5, .int x5), (6, .int x6)]) hx hb dMO_statement_152 hl (by decide) rfl (fun ls hl => ?_)
        refine lv_iinc (v := x6 + 1) (lv' := [(6, .int (x6 + 1)), (4, .int (x4 + 0)), (7, .int 0), (0, .ref (ad 49)), (1, .int x1), (2, .int x2), (3, .int x3), (5, .int x5)]) hx hb dMO_statement_154 hl (k := 7) rfl rfl (by decide) rfl (fun ls hl => ?_)
        refine lv_goto (tgt := 27) hx hb dMO_statement_157 (by decide) ?_
        exact ih S x1 x2 x3 (x4 + 0) x5 (x6 + 1) _ _ _ (vc_FMO_statement_inv27_7 S x1 x2 x3 x4 x5 x6 hJ c4 c6) (Nat.lt_of_lt_of_le (vc_FMO_statement_mu27_8 S x1 x2 x3 x4 x5 x6 hJ c4 c6) (Nat.le_of_lt_succ hmu)) hw (lv_sub hl [3, 4, 5, 6, 1, 7, 0] rfl) (fun v h => hret v (hF.trans h)) (fun H locs ls y4 y6 h hw hl => hexit H locs ls y4 y6 (hF.trans h) hw hl)
      · have hF := hF.trans (if_neg c6)
        refine lv_aload_n hx hb dMO_statement_53 rfl (lv_at hl 0 rfl) ?_
        refine V_get B hw (v := .ref (ad 50)) (by decide) rfl rfl hin_MO 0 (by decide) rfl wm_234 rfl dMO_statement_54 ?_
        refine lv_sipush (v := 140) hx hb dMO_statement_57 (by decide) ?_
        refine lv_iload hx hb dMO_statement_60 (lv_at hl 5 rfl) ?_
        refine lv_iadd hx hb dMO_statement_62 ?_
        refine V_lald (j := (140 + x5).toNatClampNeg) (v := S.2 50 ((140 + x5).toNatClampNeg)) B hw (by decide) rfl (vc_FMO_statement_ix63_9 S x1 x2 x3 x4 x5 x6 hJ c4 c6) rfl rfl dMO_statement_63 ?_
        refine lv_lconst (v := 0) hx hb dMO_statement_64 (by decide) ?_
        refine V_lle (tgt := 116) B dMO_statement_65 dMO_statement_66 (by decide) (fun c10 => ?_) (fun c10 => ?_)
        · have hF := hF.trans (if_pos c10)
          refine lv_iconst (v := 0) hx hb dMO_statement_116 (by decide) ?_
          refine lv_istore (lv' := [(7, .int 0), (0, .ref (ad 49)), (1, .int x1), (2, .int x2), (3, .int x3), (4, .int x4), (5, .int x5), (6, .int x6)]) hx hb dMO_statement_117 hl (by decide) rfl (fun ls hl => ?_)
          refine lv_iload hx hb dMO_statement_119 (lv_at hl 0 rfl) ?_
          refine lv_if_eq (tgt := 139) hx hb dMO_statement_121 (by decide) (fun c => ?_) (fun c => absurd (by decide) c)
          refine lv_iload hx hb dMO_statement_139 (lv_at hl 5 rfl) ?_
          refine lv_iload hx hb dMO_statement_141 (lv_at hl 0 rfl) ?_
          refine lv_if_eq (tgt := 150) hx hb dMO_statement_143 (by decide) (fun c => ?_) (fun c => absurd (by decide) c)
          refine lv_iconst (v := 0) hx hb dMO_statement_150 (by decide) ?_
          refine lv_iadd hx hb dMO_statement_151 ?_
          refine lv_istore (lv' := [(4, .int (x4 + 0)), (7, .int 0), (0, .ref (ad 49)), (1, .int x1), (2, .int x2), (3, .int x3), (5, .int x5), (6, .int x6)]) hx hb dMO_statement_152 hl (by decide) rfl (fun ls hl => ?_)
          refine lv_iinc (v := x6 + 1) (lv' := [(6, .int (x6 + 1)), (4, .int (x4 + 0)), (7, .int 0), (0, .ref (ad 49)), (1, .int x1), (2, .int x2), (3, .int x3), (5, .int x5)]) hx hb dMO_statement_154 hl (k := 7) rfl rfl (by decide) rfl (fun ls hl => ?_)
          refine lv_goto (tgt := 27) hx hb dMO_statement_157 (by decide) ?_
          exact ih S x1 x2 x3 (x4 + 0) x5 (x6 + 1) _ _ _ (vc_FMO_statement_inv27_11 S x1 x2 x3 x4 x5 x6 hJ c4 c6 c10) (Nat.lt_of_lt_of_le (vc_FMO_statement_mu27_12 S x1 x2 x3 x4 x5 x6 hJ c4 c6 c10) (Nat.le_of_lt_succ hmu)) hw (lv_sub hl [3, 4, 5, 6, 1, 7, 0] rfl) (fun v h => hret v (hF.trans h)) (fun H locs ls y4 y6 h hw hl => hexit H locs ls y4 y6 (hF.trans h) hw hl)
        · have hF := hF.trans (if_neg c10)
          refine lv_aload_n hx hb dMO_statement_69 rfl (lv_at hl 0 rfl) ?_
          refine V_get B hw (v := .ref (ad 50)) (by decide) rfl rfl hin_MO 0 (by decide) rfl wm_234 rfl dMO_statement_70 ?_
          refine lv_bipush (v := 100) hx hb dMO_statement_73 (by decide) ?_
          refine lv_iload hx hb dMO_statement_75 (lv_at hl 5 rfl) ?_
          refine lv_iadd hx hb dMO_statement_77 ?_
          refine V_lald (j := (100 + x5).toNatClampNeg) (v := S.2 50 ((100 + x5).toNatClampNeg)) B hw (by decide) rfl (vc_FMO_statement_ix78_13 S x1 x2 x3 x4 x5 x6 hJ c4 c6 c10) rfl rfl dMO_statement_78 ?_
          refine lv_ldc2 (v := 30) hx hb hown (hts _ wm_241) dMO_statement_79 ?_
          refine lv_ldiv hx hb dMO_statement_82 (by decide) ?_
          refine lv_iload_n hx hb dMO_statement_83 rfl (lv_at hl 2 rfl) ?_
          refine lv_i2l hx hb dMO_statement_84 rfl ?_
          refine V_lne (tgt := 116) B dMO_statement_85 dMO_statement_86 (by decide) (fun c14 => ?_) (fun c14 => ?_)
          · have hF := hF.trans (if_neg c14)
            refine lv_iconst (v := 0) hx hb dMO_statement_116 (by decide) ?_
            refine lv_istore (lv' := [(7, .int 0), (0, .ref (ad 49)), (1, .int x1), (2, .int x2), (3, .int x3), (4, .int x4), (5, .int x5), (6, .int x6)]) hx hb dMO_statement_117 hl (by decide) rfl (fun ls hl => ?_)
            refine lv_iload hx hb dMO_statement_119 (lv_at hl 0 rfl) ?_
            refine lv_if_eq (tgt := 139) hx hb dMO_statement_121 (by decide) (fun c => ?_) (fun c => absurd (by decide) c)
            refine lv_iload hx hb dMO_statement_139 (lv_at hl 5 rfl) ?_
            refine lv_iload hx hb dMO_statement_141 (lv_at hl 0 rfl) ?_
            refine lv_if_eq (tgt := 150) hx hb dMO_statement_143 (by decide) (fun c => ?_) (fun c => absurd (by decide) c)
            refine lv_iconst (v := 0) hx hb dMO_statement_150 (by decide) ?_
            refine lv_iadd hx hb dMO_statement_151 ?_
            refine lv_istore (lv' := [(4, .int (x4 + 0)), (7, .int 0), (0, .ref (ad 49)), (1, .int x1), (2, .int x2), (3, .int x3), (5, .int x5), (6, .int x6)]) hx hb dMO_statement_152 hl (by decide) rfl (fun ls hl => ?_)
            refine lv_iinc (v := x6 + 1) (lv' := [(6, .int (x6 + 1)), (4, .int (x4 + 0)), (7, .int 0), (0, .ref (ad 49)), (1, .int x1), (2, .int x2), (3, .int x3), (5, .int x5)]) hx hb dMO_statement_154 hl (k := 7) rfl rfl (by decide) rfl (fun ls hl => ?_)
            refine lv_goto (tgt := 27) hx hb dMO_statement_157 (by decide) ?_
            exact ih S x1 x2 x3 (x4 + 0) x5 (x6 + 1) _ _ _ (vc_FMO_statement_inv27_15 S x1 x2 x3 x4 x5 x6 hJ c4 c6 c10 c14) (Nat.lt_of_lt_of_le (vc_FMO_statement_mu27_16 S x1 x2 x3 x4 x5 x6 hJ c4 c6 c10 c14) (Nat.le_of_lt_succ hmu)) hw (lv_sub hl [3, 4, 5, 6, 1, 7, 0] rfl) (fun v h => hret v (hF.trans h)) (fun H locs ls y4 y6 h hw hl => hexit H locs ls y4 y6 (hF.trans h) hw hl)
          · have hF := hF.trans (if_pos c14)
            refine lv_aload_n hx hb dMO_statement_89 rfl (lv_at hl 0 rfl) ?_
            refine V_get B hw (v := .ref (ad 50)) (by decide) rfl rfl hin_MO 0 (by decide) rfl wm_234 rfl dMO_statement_90 ?_
            refine lv_sipush (v := 300) hx hb dMO_statement_93 (by decide) ?_
            refine lv_bipush (v := 6) hx hb dMO_statement_96 (by decide) ?_
            refine lv_iload hx hb dMO_statement_98 (lv_at hl 5 rfl) ?_
            refine lv_imul hx hb dMO_statement_100 ?_
            refine lv_iadd hx hb dMO_statement_101 ?_
            refine lv_iload hx hb dMO_statement_102 (lv_at hl 6 rfl) ?_
            refine lv_iadd hx hb dMO_statement_104 ?_
            refine V_lald (j := ((300 + (6 * x5)) + x6).toNatClampNeg) (v := S.2 50 (((300 + (6 * x5)) + x6).toNatClampNeg)) B hw (by decide) rfl (vc_FMO_statement_ix105_17 S x1 x2 x3 x4 x5 x6 hJ c4 c6 c10 c14) rfl rfl dMO_statement_105 ?_
            refine lv_iload_n hx hb dMO_statement_106 rfl (lv_at hl 1 rfl) ?_
            refine lv_i2l hx hb dMO_statement_107 rfl ?_
            refine V_lne (tgt := 116) B dMO_statement_108 dMO_statement_109 (by decide) (fun c18 => ?_) (fun c18 => ?_)
            · have hF := hF.trans (if_neg c18)
              refine lv_iconst (v := 0) hx hb dMO_statement_116 (by decide) ?_
              refine lv_istore (lv' := [(7, .int 0), (0, .ref (ad 49)), (1, .int x1), (2, .int x2), (3, .int x3), (4, .int x4), (5, .int x5), (6, .int x6)]) hx hb dMO_statement_117 hl (by decide) rfl (fun ls hl => ?_)
              refine lv_iload hx hb dMO_statement_119 (lv_at hl 0 rfl) ?_
              refine lv_if_eq (tgt := 139) hx hb dMO_statement_121 (by decide) (fun c => ?_) (fun c => absurd (by decide) c)
              refine lv_iload hx hb dMO_statement_139 (lv_at hl 5 rfl) ?_
              refine lv_iload hx hb dMO_statement_141 (lv_at hl 0 rfl) ?_
              refine lv_if_eq (tgt := 150) hx hb dMO_statement_143 (by decide) (fun c => ?_) (fun c => absurd (by decide) c)
              refine lv_iconst (v := 0) hx hb dMO_statement_150 (by decide) ?_
              refine lv_iadd hx hb dMO_statement_151 ?_
              refine lv_istore (lv' := [(4, .int (x4 + 0)), (7, .int 0), (0, .ref (ad 49)), (1, .int x1), (2, .int x2), (3, .int x3), (5, .int x5), (6, .int x6)]) hx hb dMO_statement_152 hl (by decide) rfl (fun ls hl => ?_)
              refine lv_iinc (v := x6 + 1) (lv' := [(6, .int (x6 + 1)), (4, .int (x4 + 0)), (7, .int 0), (0, .ref (ad 49)), (1, .int x1), (2, .int x2), (3, .int x3), (5, .int x5)]) hx hb dMO_statement_154 hl (k := 7) rfl rfl (by decide) rfl (fun ls hl => ?_)
              refine lv_goto (tgt := 27) hx hb dMO_statement_157 (by decide) ?_
              exact ih S x1 x2 x3 (x4 + 0) x5 (x6 + 1) _ _ _ (vc_FMO_statement_inv27_19 S x1 x2 x3 x4 x5 x6 hJ c4 c6 c10 c14 c18) (Nat.lt_of_lt_of_le (vc_FMO_statement_mu27_20 S x1 x2 x3 x4 x5 x6 hJ c4 c6 c10 c14 c18) (Nat.le_of_lt_succ hmu)) hw (lv_sub hl [3, 4, 5, 6, 1, 7, 0] rfl) (fun v h => hret v (hF.trans h)) (fun H locs ls y4 y6 h hw hl => hexit H locs ls y4 y6 (hF.trans h) hw hl)
            · have hF := hF.trans (if_pos c18)
              refine lv_iconst (v := 1) hx hb dMO_statement_112 (by decide) ?_
              refine lv_goto (tgt := 117) hx hb dMO_statement_113 (by decide) ?_
              refine lv_istore (lv' := [(7, .int 1), (0, .ref (ad 49)), (1, .int x1), (2, .int x2), (3, .int x3), (4, .int x4), (5, .int x5), (6, .int x6)]) hx hb dMO_statement_117 hl (by decide) rfl (fun ls hl => ?_)
              refine lv_iload hx hb dMO_statement_119 (lv_at hl 0 rfl) ?_
              refine lv_if_eq (tgt := 139) hx hb dMO_statement_121 (by decide) (fun c => absurd c (by decide)) (fun c => ?_)
              refine lv_iload hx hb dMO_statement_124 (lv_at hl 5 rfl) ?_
              refine lv_iload_n hx hb dMO_statement_126 rfl (lv_at hl 4 rfl) ?_
              refine lv_icmp_ne (tgt := 139) hx hb dMO_statement_127 (by decide) (fun c21 => ?_) (fun c21 => ?_)
              · have hF := hF.trans (if_neg c21)
                refine lv_iload hx hb dMO_statement_139 (lv_at hl 5 rfl) ?_
                refine lv_iload hx hb dMO_statement_141 (lv_at hl 0 rfl) ?_
                refine lv_if_eq (tgt := 150) hx hb dMO_statement_143 (by decide) (fun c => absurd c (by decide)) (fun c => ?_)
                refine lv_iconst (v := 1) hx hb dMO_statement_146 (by decide) ?_
                refine lv_goto (tgt := 151) hx hb dMO_statement_147 (by decide) ?_
                refine lv_iadd hx hb dMO_statement_151 ?_
                refine lv_istore (lv' := [(4, .int (x4 + 1)), (7, .int 1), (0, .ref (ad 49)), (1, .int x1), (2, .int x2), (3, .int x3), (5, .int x5), (6, .int x6)]) hx hb dMO_statement_152 hl (by decide) rfl (fun ls hl => ?_)
                refine lv_iinc (v := x6 + 1) (lv' := [(6, .int (x6 + 1)), (4, .int (x4 + 1)), (7, .int 1), (0, .ref (ad 49)), (1, .int x1), (2, .int x2), (3, .int x3), (5, .int x5)]) hx hb dMO_statement_154 hl (k := 7) rfl rfl (by decide) rfl (fun ls hl => ?_)
                refine lv_goto (tgt := 27) hx hb dMO_statement_157 (by decide) ?_
                exact ih S x1 x2 x3 (x4 + 1) x5 (x6 + 1) _ _ _ (vc_FMO_statement_inv27_22 S x1 x2 x3 x4 x5 x6 hJ c4 c6 c10 c14 c18 c21) (Nat.lt_of_lt_of_le (vc_FMO_statement_mu27_23 S x1 x2 x3 x4 x5 x6 hJ c4 c6 c10 c14 c18 c21) (Nat.le_of_lt_succ hmu)) hw (lv_sub hl [3, 4, 5, 6, 1, 7, 0] rfl) (fun v h => hret v (hF.trans h)) (fun H locs ls y4 y6 h hw hl => hexit H locs ls y4 y6 (hF.trans h) hw hl)
              · have hF := hF.trans (if_pos c21)
                refine lv_bipush (v := 10) hx hb dMO_statement_130 (by decide) ?_
                refine lv_iload hx hb dMO_statement_132 (lv_at hl 6 rfl) ?_
                refine lv_imul hx hb dMO_statement_134 ?_
                refine lv_iload hx hb dMO_statement_135 (lv_at hl 7 rfl) ?_
                refine lv_iadd hx hb dMO_statement_137 ?_
                exact V_iret B hr hlk hw (hret _ hF) dMO_statement_138
set_option maxHeartbeats 4000000 in
set_option maxRecDepth 100000 in
theorem LPMO_statement_11 (l : Launch) {ad : Nat → Nat} {cI cL : ClassId} {dC : Nat → ClassId} {dI : Nat → Nat → Nat} (hi : adI ad) {p : Program} {e : Env} {s : State} {m : MethodId} {args : Array Value} {below : List Frame} {meth : Method} {c : Code} {A : Nat → Prop} {post : Option Value → hS → Prop} (B : Bs p s m args c RMO bMO_statement 8 cI cL dC dI) (hr : meth.sig.returnType = (some .int)) (hlk : meth.locks = false) (hA : ∀ q, AA ad s.heap.size q → A q) : ∀ (n : Nat) (S : hS) (x1 : Int32) (x2 : Int32) (x3 : Int32) (x4 : Int32) (x5 : Int32) (H : Heap) (locs : List Loc) (ls : Array Slot), wfM S ∧ bt x5 40 → ((40 - x5.toInt).toNat) < n → Wd ad cI cL dC dI A s.heap S H locs → lv_has ls 8 [(0, .ref (ad 49)), (1, .int x1), (2, .int x2), (3, .int x3), (4, .int x4), (5, .int x5)] → (∀ (v : Int32), LMO_statement_11 n S x1 x2 x3 x4 x5 = .inl v → post (some (.int v)) S) → (∀ (H : Heap) (locs : List Loc) (ls : Array Slot) (y4 : Int32) (y5 : Int32), LMO_statement_11 n S x1 x2 x3 x4 x5 = .inr (y4, y5) → Wd ad cI cL dC dI A s.heap S H locs → lv_has ls 8 [(0, .ref (ad 49)), (1, .int x1), (2, .int x2), (3, .int x3), (4, .int y4), (5, .int y5)] → W p l e ({ frames := 1, cells := 0, slots := 0, locals := 21 } : Room) s m args below meth c H locs 0 0 (MQ below (QcW ad cI cL dC dI post A) args s 0 0 A) (F0 m 166 ls [])) → W p l e ({ frames := 1, cells := 0, slots := 0, locals := 21 } : Room) s m args below meth c H locs 0 0 (MQ below (QcW ad cI cL dC dI post A) args s 0 0 A) (F0 m 11 ls []) := by
  intro n
  obtain ⟨hx, hb, -, hown, hts, -, -⟩ := id B
  induction n with
  | zero => exact fun S x1 x2 x3 x4 x5 H locs ls _ hmu => absurd hmu (Nat.not_lt_zero _)
  | succ n ih =>
    intro S x1 x2 x3 x4 x5 H locs ls hJ hmu hw hl hret hexit
    have hF := LMO_statement_11_s n S x1 x2 x3 x4 x5
    refine lv_iload hx hb dMO_statement_11 (lv_at hl 5 rfl) ?_
    refine lv_i2l hx hb dMO_statement_13 rfl ?_
    refine lv_aload_n hx hb dMO_statement_14 rfl (lv_at hl 0 rfl) ?_
    refine V_get B hw (v := .ref (ad 50)) (by decide) rfl rfl hin_MO 0 (by decide) rfl wm_234 rfl dMO_statement_15 ?_
    refine lv_iconst (v := 1) hx hb dMO_statement_18 (by decide) ?_
    refine V_lald (j := 1) (v := S.2 50 1) B hw (by decide) rfl (vc_FMO_statement_ix19_1 S x1 x2 x3 x4 x5 hJ) rfl rfl dMO_statement_19 ?_
    refine V_lge (tgt := 166) B dMO_statement_20 dMO_statement_21 (by decide) (fun c2 => ?_) (fun c2 => ?_)
    · have hF := hF.trans (if_pos c2)
      exact hexit _ _ _ x4 x5 hF hw (lv_sub hl [0, 1, 2, 3, 4, 5] rfl)
    · have hF := hF.trans (if_neg c2)
      refine lv_iconst (v := 0) hx hb dMO_statement_24 (by decide) ?_
      refine lv_istore (lv' := [(6, .int 0), (0, .ref (ad 49)), (1, .int x1), (2, .int x2), (3, .int x3), (4, .int x4), (5, .int x5)]) hx hb dMO_statement_25 hl (by decide) rfl (fun ls hl => ?_)
      refine LPMO_statement_27 l hi B hr hlk hA 300 S x1 x2 x3 x4 x5 0 _ _ _ (vc_FMO_statement_inv027_25 S x1 x2 x3 x4 x5 hJ c2) (vc_FMO_statement_mu027_26 S x1 x2 x3 x4 x5 hJ c2) hw (lv_sub hl [1, 2, 3, 4, 5, 6, 0] rfl) (fun v hq => hret v (by rw [hq, Sum.elim_inl] at hF; exact hF)) (fun H locs ls y24_4 y24_6 hq24 hw hl => ?_)
      rw [hq24, Sum.elim_inr] at hF; try dsimp only at hF
      refine lv_iinc (v := x5 + 1) (lv' := [(5, .int (x5 + 1)), (0, .ref (ad 49)), (1, .int x1), (2, .int x2), (3, .int x3), (4, .int y24_4), (6, .int y24_6)]) hx hb dMO_statement_160 hl (k := 5) rfl rfl (by decide) rfl (fun ls hl => ?_)
      refine lv_goto (tgt := 11) hx hb dMO_statement_163 (by decide) ?_
      exact ih S x1 x2 x3 y24_4 (x5 + 1) _ _ _ (vc_FMO_statement_inv11_27 S x1 x2 x3 x4 x5 hJ c2 y24_4 y24_6 hq24) (Nat.lt_of_lt_of_le (vc_FMO_statement_mu11_28 S x1 x2 x3 x4 x5 hJ c2 y24_4 y24_6 hq24) (Nat.le_of_lt_succ hmu)) hw (lv_sub hl [1, 2, 3, 4, 5, 0] rfl) (fun v h => hret v (hF.trans h)) (fun H locs ls y4 y5 h hw hl => hexit H locs ls y4 y5 (hF.trans h) hw hl)
theorem cw_FMO_statement {R : Room} {cells slots : Nat} (h1 : 2 ≤ R.frames) (h2 : 48 ≤ R.locals) (h3 : cells ≤ R.cells) (h4 : slots ≤ R.slots) : Cw R cells slots yMO_statement bMO_statement 8 (some .int) ({ frames := 1, cells := 0, slots := 0, locals := 21 } : Room) 3 := ⟨wm_465, wm_426, by decide +kernel, ⟨rfl, rfl, h1, h2⟩, h3, h4⟩
set_option maxHeartbeats 4000000 in
set_option maxRecDepth 100000 in
theorem M_FMO_statement (l : Launch) {ad : Nat → Nat} {cI cL : ClassId} {dC : Nat → ClassId} {dI : Nat → Nat → Nat} (hi : adI ad) (S : hS) (x1 : Int32) (x2 : Int32) (x3 : Int32) (hp : wfM S) : Mt l ad cI cL dC dI yMO_statement bMO_statement 8 (some .int) ({ frames := 1, cells := 0, slots := 0, locals := 21 } : Room) [.ref (ad 49), .int x1, .int x2, .int x3] S (pI (FMO_statement S x1 x2 x3).1 (FMO_statement S x1 x2 x3).2) := by
  refine Mt_of (own := RMO) hi (by decide) rfl (Nat.le_of_ble_eq_true rfl) ?_
  intro p e s m args below meth c ls B hr hlk hw hl
  obtain ⟨hx, hb, -, hown, hts, -, -⟩ := id B
  have hA : ∀ q, AA ad s.heap.size q → AA ad s.heap.size q := fun _ h => h
  have hl : lv_has ls 8 [(0, .ref (ad 49)), (1, .int x1), (2, .int x2), (3, .int x3)] := hl
  have hF := FMO_statement_e S x1 x2 x3
  refine lv_aload_n hx hb dMO_statement_0 rfl (lv_at hl 0 rfl) ?_
  refine lv_iconst (v := 0) hx hb dMO_statement_1 (by decide) ?_
  refine V_putI (ty := .int) B hw (by decide) rfl rfl hin_MO tyMO_ok nmMO 4 (by decide) rfl wm_242 rfl (by decide +kernel) rfl rfl dMO_statement_2 (fun H locs hw => ?_)
  refine lv_iconst (v := 0) hx hb dMO_statement_5 (by decide) ?_
  refine lv_istore (lv' := [(4, .int 0), (0, .ref (ad 49)), (1, .int x1), (2, .int x2), (3, .int x3)]) hx hb dMO_statement_6 hl (by decide) rfl (fun ls hl => ?_)
  refine lv_iconst (v := 0) hx hb dMO_statement_8 (by decide) ?_
  refine lv_istore (lv' := [(5, .int 0), (4, .int 0), (0, .ref (ad 49)), (1, .int x1), (2, .int x2), (3, .int x3)]) hx hb dMO_statement_9 hl (by decide) rfl (fun ls hl => ?_)
  refine LPMO_statement_11 l hi B hr hlk hA 300 (sI S 49 4 0) x1 x2 x3 0 0 _ _ _ (vc_FMO_statement_inv011_30 S x1 x2 x3 hp) (vc_FMO_statement_mu011_31 S x1 x2 x3 hp) hw (lv_sub hl [2, 3, 4, 5, 1, 0] rfl) (fun v hq => by rw [hq, Sum.elim_inl] at hF; exact pI_of hF) (fun H locs ls y29_4 y29_5 hq29 hw hl => ?_)
  rw [hq29, Sum.elim_inr] at hF; try dsimp only at hF
  refine lv_iconst (v := (-1)) hx hb dMO_statement_166 (by decide) ?_
  exact V_iret B hr hlk hw (pI_of hF) dMO_statement_167
set_option maxHeartbeats 4000000 in
set_option maxRecDepth 100000 in
theorem LPMO_tax_26 (l : Launch) {ad : Nat → Nat} {cI cL : ClassId} {dC : Nat → ClassId} {dI : Nat → Nat → Nat} (hi : adI ad) {p : Program} {e : Env} {s : State} {m : MethodId} {args : Array Value} {below : List Frame} {meth : Method} {c : Code} {A : Nat → Prop} {post : Option Value → hS → Prop} (B : Bs p s m args c RMO bMO_tax 8 cI cL dC dI) (hr : meth.sig.returnType = (some .long)) (hlk : meth.locks = false) (hA : ∀ q, AA ad s.heap.size q → A q) : ∀ (n : Nat) (S : hS) (x1 : Int32) (x2 : Int64) (x4 : Int32) (x5 : Int32) (H : Heap) (locs : List Loc) (ls : Array Slot), wfM S ∧ bt x5 6 ∧ rg x4 40 → ((6 - x5.toInt).toNat) < n → Wd ad cI cL dC dI A s.heap S H locs → lv_has ls 8 [(0, .ref (ad 49)), (1, .int x1), (2, .long x2), (4, .int x4), (5, .int x5)] → (∀ (H : Heap) (locs : List Loc) (ls : Array Slot) (y2 : Int64) (y5 : Int32), LMO_tax_26 n S x1 x2 x4 x5 = (y2, y5) → Wd ad cI cL dC dI A s.heap S H locs → lv_has ls 8 [(0, .ref (ad 49)), (1, .int x1), (2, .long y2), (4, .int x4), (5, .int y5)] → W p l e ({ frames := 0, cells := 0, slots := 0, locals := 0 } : Room) s m args below meth c H locs 0 0 (MQ below (QcW ad cI cL dC dI post A) args s 0 0 A) (F0 m 153 ls [])) → W p l e ({ frames := 0, cells := 0, slots := 0, locals := 0 } : Room) s m args below meth c H locs 0 0 (MQ below (QcW ad cI cL dC dI post A) args s 0 0 A) (F0 m 26 ls []) := by
  intro n
  obtain ⟨hx, hb, -, hown, hts, -, -⟩ := id B
  induction n with
  | zero => exact fun S x1 x2 x4 x5 H locs ls _ hmu => absurd hmu (Nat.not_lt_zero _)
  | succ n ih =>
    intro S x1 x2 x4 x5 H locs ls hJ hmu hw hl hexit
    have hF := LMO_tax_26_s n S x1 x2 x4 x5
    refine lv_iload hx hb dMO_tax_26 (lv_at hl 4 rfl) ?_
    refine lv_i2l hx hb dMO_tax_28 rfl ?_
    refine lv_aload_n hx hb dMO_tax_29 rfl (lv_at hl 0 rfl) ?_
    refine V_get B hw (v := .ref (ad 50)) (by decide) rfl rfl hin_MO 0 (by decide) rfl wm_234 rfl dMO_tax_30 ?_
    refine lv_sipush (v := 260) hx hb dMO_tax_33 (by decide) ?_
    refine lv_iload hx hb dMO_tax_36 (lv_at hl 3 rfl) ?_
    refine lv_iadd hx hb dMO_tax_38 ?_
    refine V_lald (j := (260 + x4).toNatClampNeg) (v := S.2 50 ((260 + x4).toNatClampNeg)) B hw (by decide) rfl (vc_FMO_tax_ix39_3 S x1 x2 x4 x5 hJ) rfl rfl dMO_tax_39 ?_
    refine V_lge (tgt := 153) B dMO_tax_40 dMO_tax_41 (by decide) (fun c4 => ?_) (fun c4 => ?_)
    · have hF := hF.trans (if_pos c4)
      exact hexit _ _ _ x2 x5 hF hw (lv_sub hl [0, 1, 2, 3, 4] rfl)
    · have hF := hF.trans (if_neg c4)
      refine lv_bipush (v := 6) hx hb dMO_tax_44 (by decide) ?_
      refine lv_iload hx hb dMO_tax_46 (lv_at hl 3 rfl) ?_
      refine lv_imul hx hb dMO_tax_48 ?_
      refine lv_iload hx hb dMO_tax_49 (lv_at hl 4 rfl) ?_
      refine lv_iadd hx hb dMO_tax_51 ?_
      refine lv_istore (lv' := [(6, .int ((6 * x4) + x5)), (0, .ref (ad 49)), (1, .int x1), (2, .long x2), (4, .int x4), (5, .int x5)]) hx hb dMO_tax_52 hl (by decide) rfl (fun ls hl => ?_)
      refine lv_aload_n hx hb dMO_tax_54 rfl (lv_at hl 1 rfl) ?_
      refine V_get B hw (v := .ref (ad 50)) (by decide) rfl rfl hin_MO 0 (by decide) rfl wm_234 rfl dMO_tax_55 ?_
      refine lv_sipush (v := 140) hx hb dMO_tax_58 (by decide) ?_
      refine lv_iload hx hb dMO_tax_61 (lv_at hl 4 rfl) ?_
      refine lv_iadd hx hb dMO_tax_63 ?_
      refine V_lald (j := (140 + x4).toNatClampNeg) (v := S.2 50 ((140 + x4).toNatClampNeg)) B hw (by decide) rfl (vc_FMO_tax_ix64_5 S x1 x2 x4 x5 hJ c4) rfl rfl dMO_tax_64 ?_
      refine lv_lconst (v := 0) hx hb dMO_tax_65 (by decide) ?_
      refine V_lle (tgt := 121) B dMO_tax_66 dMO_tax_67 (by decide) (fun c6 => ?_) (fun c6 => ?_)
      · have hF := hF.trans (if_pos c6)
        refine lv_iconst (v := 0) hx hb dMO_tax_121 (by decide) ?_
        refine lv_istore (lv' := [(7, .int 0), (6, .int ((6 * x4) + x5)), (0, .ref (ad 49)), (1, .int x1), (2, .long x2), (4, .int x4), (5, .int x5)]) hx hb dMO_tax_122 hl (by decide) rfl (fun ls hl => ?_)
        refine lv_lload_n hx hb dMO_tax_124 rfl (lv_at hl 4 rfl) ?_
        refine lv_iload hx hb dMO_tax_125 (lv_at hl 0 rfl) ?_
        refine lv_if_eq (tgt := 144) hx hb dMO_tax_127 (by decide) (fun c => ?_) (fun c => absurd (by decide) c)
        refine lv_lconst (v := 0) hx hb dMO_tax_144 (by decide) ?_
        refine lv_ladd hx hb dMO_tax_145 ?_
        refine lv_lstore_n (lv' := [(2, .long (x2 + 0)), (7, .int 0), (6, .int ((6 * x4) + x5)), (0, .ref (ad 49)), (1, .int x1), (4, .int x4), (5, .int x5)]) hx hb dMO_tax_146 rfl hl (by decide) rfl (fun ls hl => ?_)
        refine lv_iinc (v := x5 + 1) (lv' := [(5, .int (x5 + 1)), (2, .long (x2 + 0)), (7, .int 0), (6, .int ((6 * x4) + x5)), (0, .ref (ad 49)), (1, .int x1), (4, .int x4)]) hx hb dMO_tax_147 hl (k := 6) rfl rfl (by decide) rfl (fun ls hl => ?_)
        refine lv_goto (tgt := 26) hx hb dMO_tax_150 (by decide) ?_
        exact ih S x1 (x2 + 0) x4 (x5 + 1) _ _ _ (vc_FMO_tax_inv26_7 S x1 x2 x4 x5 hJ c4 c6) (Nat.lt_of_lt_of_le (vc_FMO_tax_mu26_8 S x1 x2 x4 x5 hJ c4 c6) (Nat.le_of_lt_succ hmu)) hw (lv_sub hl [4, 5, 1, 6, 0] rfl) (fun H locs ls y2 y5 h hw hl => hexit H locs ls y2 y5 (hF.trans h) hw hl)
      · have hF := hF.trans (if_neg c6)
        refine lv_aload_n hx hb dMO_tax_70 rfl (lv_at hl 1 rfl) ?_
        refine V_get B hw (v := .ref (ad 50)) (by decide) rfl rfl hin_MO 0 (by decide) rfl wm_234 rfl dMO_tax_71 ?_
        refine lv_bipush (v := 100) hx hb dMO_tax_74 (by decide) ?_
        refine lv_iload hx hb dMO_tax_76 (lv_at hl 4 rfl) ?_
        refine lv_iadd hx hb dMO_tax_78 ?_
        refine V_lald (j := (100 + x4).toNatClampNeg) (v := S.2 50 ((100 + x4).toNatClampNeg)) B hw (by decide) rfl (vc_FMO_tax_ix79_9 S x1 x2 x4 x5 hJ c4 c6) rfl rfl dMO_tax_79 ?_
        refine lv_ldc2 (v := 30) hx hb hown (hts _ wm_241) dMO_tax_80 ?_
        refine lv_ldiv hx hb dMO_tax_83 (by decide) ?_
        refine lv_iload_n hx hb dMO_tax_84 rfl (lv_at hl 2 rfl) ?_
        refine lv_i2l hx hb dMO_tax_85 rfl ?_
        refine V_lne (tgt := 121) B dMO_tax_86 dMO_tax_87 (by decide) (fun c10 => ?_) (fun c10 => ?_)
        · have hF := hF.trans (if_neg c10)
          refine lv_iconst (v := 0) hx hb dMO_tax_121 (by decide) ?_
          refine lv_istore (lv' := [(7, .int 0), (6, .int ((6 * x4) + x5)), (0, .ref (ad 49)), (1, .int x1), (2, .long x2), (4, .int x4), (5, .int x5)]) hx hb dMO_tax_122 hl (by decide) rfl (fun ls hl => ?_)
          refine lv_lload_n hx hb dMO_tax_124 rfl (lv_at hl 4 rfl) ?_
          refine lv_iload hx hb dMO_tax_125 (lv_at hl 0 rfl) ?_
          refine lv_if_eq (tgt := 144) hx hb dMO_tax_127 (by decide) (fun c => ?_) (fun c => absurd (by decide) c)
          refine lv_lconst (v := 0) hx hb dMO_tax_144 (by decide) ?_
          refine lv_ladd hx hb dMO_tax_145 ?_
          refine lv_lstore_n (lv' := [(2, .long (x2 + 0)), (7, .int 0), (6, .int ((6 * x4) + x5)), (0, .ref (ad 49)), (1, .int x1), (4, .int x4), (5, .int x5)]) hx hb dMO_tax_146 rfl hl (by decide) rfl (fun ls hl => ?_)
          refine lv_iinc (v := x5 + 1) (lv' := [(5, .int (x5 + 1)), (2, .long (x2 + 0)), (7, .int 0), (6, .int ((6 * x4) + x5)), (0, .ref (ad 49)), (1, .int x1), (4, .int x4)]) hx hb dMO_tax_147 hl (k := 6) rfl rfl (by decide) rfl (fun ls hl => ?_)
          refine lv_goto (tgt := 26) hx hb dMO_tax_150 (by decide) ?_
          exact ih S x1 (x2 + 0) x4 (x5 + 1) _ _ _ (vc_FMO_tax_inv26_11 S x1 x2 x4 x5 hJ c4 c6 c10) (Nat.lt_of_lt_of_le (vc_FMO_tax_mu26_12 S x1 x2 x4 x5 hJ c4 c6 c10) (Nat.le_of_lt_succ hmu)) hw (lv_sub hl [4, 5, 1, 6, 0] rfl) (fun H locs ls y2 y5 h hw hl => hexit H locs ls y2 y5 (hF.trans h) hw hl)
        · have hF := hF.trans (if_pos c10)
          refine lv_aload_n hx hb dMO_tax_90 rfl (lv_at hl 1 rfl) ?_
          refine V_get B hw (v := .ref (ad 50)) (by decide) rfl rfl hin_MO 0 (by decide) rfl wm_234 rfl dMO_tax_91 ?_
          refine lv_bipush (v := 10) hx hb dMO_tax_94 (by decide) ?_
          refine lv_aload_n hx hb dMO_tax_96 rfl (lv_at hl 1 rfl) ?_
          refine V_get B hw (v := .ref (ad 50)) (by decide) rfl rfl hin_MO 0 (by decide) rfl wm_234 rfl dMO_tax_97 ?_
          refine lv_sipush (v := 300) hx hb dMO_tax_100 (by decide) ?_
          refine lv_iload hx hb dMO_tax_103 (lv_at hl 0 rfl) ?_
          refine lv_iadd hx hb dMO_tax_105 ?_
          refine V_lald (j := (300 + ((6 * x4) + x5)).toNatClampNeg) (v := S.2 50 ((300 + ((6 * x4) + x5)).toNatClampNeg)) B hw (by decide) rfl (vc_FMO_tax_ix106_13 S x1 x2 x4 x5 hJ c4 c6 c10) rfl rfl dMO_tax_106 ?_
          refine lv_l2i hx hb dMO_tax_107 rfl ?_
          refine lv_iadd hx hb dMO_tax_108 ?_
          refine V_lald (j := (10 + ((S.2 50 ((300 + ((6 * x4) + x5)).toNatClampNeg)).toInt32)).toNatClampNeg) (v := S.2 50 ((10 + ((S.2 50 ((300 + ((6 * x4) + x5)).toNatClampNeg)).toInt32)).toNatClampNeg)) B hw (by decide) rfl (vc_FMO_tax_ix109_14 S x1 x2 x4 x5 hJ c4 c6 c10) rfl rfl dMO_tax_109 ?_
          refine lv_ldc2 (v := 2) hx hb hown (hts _ wm_307) dMO_tax_110 ?_
          refine V_lne (tgt := 121) B dMO_tax_113 dMO_tax_114 (by decide) (fun c15 => ?_) (fun c15 => ?_)
          · have hF := hF.trans (if_neg c15)
            refine lv_iconst (v := 0) hx hb dMO_tax_121 (by decide) ?_
            refine lv_istore (lv' := [(7, .int 0), (6, .int ((6 * x4) + x5)), (0, .ref (ad 49)), (1, .int x1), (2, .long x2), (4, .int x4), (5, .int x5)]) hx hb dMO_tax_122 hl (by decide) rfl (fun ls hl => ?_)
            refine lv_lload_n hx hb dMO_tax_124 rfl (lv_at hl 4 rfl) ?_
            refine lv_iload hx hb dMO_tax_125 (lv_at hl 0 rfl) ?_
            refine lv_if_eq (tgt := 144) hx hb dMO_tax_127 (by decide) (fun c => ?_) (fun c => absurd (by decide) c)
            refine lv_lconst (v := 0) hx hb dMO_tax_144 (by decide) ?_
            refine lv_ladd hx hb dMO_tax_145 ?_
            refine lv_lstore_n (lv' := [(2, .long (x2 + 0)), (7, .int 0), (6, .int ((6 * x4) + x5)), (0, .ref (ad 49)), (1, .int x1), (4, .int x4), (5, .int x5)]) hx hb dMO_tax_146 rfl hl (by decide) rfl (fun ls hl => ?_)
            refine lv_iinc (v := x5 + 1) (lv' := [(5, .int (x5 + 1)), (2, .long (x2 + 0)), (7, .int 0), (6, .int ((6 * x4) + x5)), (0, .ref (ad 49)), (1, .int x1), (4, .int x4)]) hx hb dMO_tax_147 hl (k := 6) rfl rfl (by decide) rfl (fun ls hl => ?_)
            refine lv_goto (tgt := 26) hx hb dMO_tax_150 (by decide) ?_
            exact ih S x1 (x2 + 0) x4 (x5 + 1) _ _ _ (vc_FMO_tax_inv26_16 S x1 x2 x4 x5 hJ c4 c6 c10 c15) (Nat.lt_of_lt_of_le (vc_FMO_tax_mu26_17 S x1 x2 x4 x5 hJ c4 c6 c10 c15) (Nat.le_of_lt_succ hmu)) hw (lv_sub hl [4, 5, 1, 6, 0] rfl) (fun H locs ls y2 y5 h hw hl => hexit H locs ls y2 y5 (hF.trans h) hw hl)
          · have hF := hF.trans (if_pos c15)
            refine lv_iconst (v := 1) hx hb dMO_tax_117 (by decide) ?_
            refine lv_goto (tgt := 122) hx hb dMO_tax_118 (by decide) ?_
            refine lv_istore (lv' := [(7, .int 1), (6, .int ((6 * x4) + x5)), (0, .ref (ad 49)), (1, .int x1), (2, .long x2), (4, .int x4), (5, .int x5)]) hx hb dMO_tax_122 hl (by decide) rfl (fun ls hl => ?_)
            refine lv_lload_n hx hb dMO_tax_124 rfl (lv_at hl 4 rfl) ?_
            refine lv_iload hx hb dMO_tax_125 (lv_at hl 0 rfl) ?_
            refine lv_if_eq (tgt := 144) hx hb dMO_tax_127 (by decide) (fun c => absurd c (by decide)) (fun c => ?_)
            refine lv_aload_n hx hb dMO_tax_130 rfl (lv_at hl 2 rfl) ?_
            refine V_get B hw (v := .ref (ad 50)) (by decide) rfl rfl hin_MO 0 (by decide) rfl wm_234 rfl dMO_tax_131 ?_
            refine lv_sipush (v := 540) hx hb dMO_tax_134 (by decide) ?_
            refine lv_iload hx hb dMO_tax_137 (lv_at hl 1 rfl) ?_
            refine lv_iadd hx hb dMO_tax_139 ?_
            refine V_lald (j := (540 + ((6 * x4) + x5)).toNatClampNeg) (v := S.2 50 ((540 + ((6 * x4) + x5)).toNatClampNeg)) B hw (by decide) rfl (vc_FMO_tax_ix140_18 S x1 x2 x4 x5 hJ c4 c6 c10 c15) rfl rfl dMO_tax_140 ?_
            refine lv_goto (tgt := 145) hx hb dMO_tax_141 (by decide) ?_
            refine lv_ladd hx hb dMO_tax_145 ?_
            refine lv_lstore_n (lv' := [(2, .long (x2 + (S.2 50 ((540 + ((6 * x4) + x5)).toNatClampNeg)))), (7, .int 1), (6, .int ((6 * x4) + x5)), (0, .ref (ad 49)), (1, .int x1), (4, .int x4), (5, .int x5)]) hx hb dMO_tax_146 rfl hl (by decide) rfl (fun ls hl => ?_)
            refine lv_iinc (v := x5 + 1) (lv' := [(5, .int (x5 + 1)), (2, .long (x2 + (S.2 50 ((540 + ((6 * x4) + x5)).toNatClampNeg)))), (7, .int 1), (6, .int ((6 * x4) + x5)), (0, .ref (ad 49)), (1, .int x1), (4, .int x4)]) hx hb dMO_tax_147 hl (k := 6) rfl rfl (by decide) rfl (fun ls hl => ?_)
            refine lv_goto (tgt := 26) hx hb dMO_tax_150 (by decide) ?_
            exact ih S x1 (x2 + (S.2 50 ((540 + ((6 * x4) + x5)).toNatClampNeg))) x4 (x5 + 1) _ _ _ (vc_FMO_tax_inv26_19 S x1 x2 x4 x5 hJ c4 c6 c10 c15) (Nat.lt_of_lt_of_le (vc_FMO_tax_mu26_20 S x1 x2 x4 x5 hJ c4 c6 c10 c15) (Nat.le_of_lt_succ hmu)) hw (lv_sub hl [4, 5, 1, 6, 0] rfl) (fun H locs ls y2 y5 h hw hl => hexit H locs ls y2 y5 (hF.trans h) hw hl)
set_option maxHeartbeats 4000000 in
set_option maxRecDepth 100000 in
theorem LPMO_tax_10 (l : Launch) {ad : Nat → Nat} {cI cL : ClassId} {dC : Nat → ClassId} {dI : Nat → Nat → Nat} (hi : adI ad) {p : Program} {e : Env} {s : State} {m : MethodId} {args : Array Value} {below : List Frame} {meth : Method} {c : Code} {A : Nat → Prop} {post : Option Value → hS → Prop} (B : Bs p s m args c RMO bMO_tax 8 cI cL dC dI) (hr : meth.sig.returnType = (some .long)) (hlk : meth.locks = false) (hA : ∀ q, AA ad s.heap.size q → A q) : ∀ (n : Nat) (S : hS) (x1 : Int32) (x2 : Int64) (x4 : Int32) (H : Heap) (locs : List Loc) (ls : Array Slot), wfM S ∧ bt x4 40 → ((40 - x4.toInt).toNat) < n → Wd ad cI cL dC dI A s.heap S H locs → lv_has ls 8 [(0, .ref (ad 49)), (1, .int x1), (2, .long x2), (4, .int x4)] → (∀ (H : Heap) (locs : List Loc) (ls : Array Slot) (y2 : Int64) (y4 : Int32), LMO_tax_10 n S x1 x2 x4 = (y2, y4) → Wd ad cI cL dC dI A s.heap S H locs → lv_has ls 8 [(0, .ref (ad 49)), (1, .int x1), (2, .long y2), (4, .int y4)] → W p l e ({ frames := 0, cells := 0, slots := 0, locals := 0 } : Room) s m args below meth c H locs 0 0 (MQ below (QcW ad cI cL dC dI post A) args s 0 0 A) (F0 m 159 ls [])) → W p l e ({ frames := 0, cells := 0, slots := 0, locals := 0 } : Room) s m args below meth c H locs 0 0 (MQ below (QcW ad cI cL dC dI post A) args s 0 0 A) (F0 m 10 ls []) := by
  intro n
  obtain ⟨hx, hb, -, hown, hts, -, -⟩ := id B
  induction n with
  | zero => exact fun S x1 x2 x4 H locs ls _ hmu => absurd hmu (Nat.not_lt_zero _)
  | succ n ih =>
    intro S x1 x2 x4 H locs ls hJ hmu hw hl hexit
    have hF := LMO_tax_10_s n S x1 x2 x4
    refine lv_iload hx hb dMO_tax_10 (lv_at hl 3 rfl) ?_
    refine lv_i2l hx hb dMO_tax_12 rfl ?_
    refine lv_aload_n hx hb dMO_tax_13 rfl (lv_at hl 0 rfl) ?_
    refine V_get B hw (v := .ref (ad 50)) (by decide) rfl rfl hin_MO 0 (by decide) rfl wm_234 rfl dMO_tax_14 ?_
    refine lv_iconst (v := 1) hx hb dMO_tax_17 (by decide) ?_
    refine V_lald (j := 1) (v := S.2 50 1) B hw (by decide) rfl (vc_FMO_tax_ix18_1 S x1 x2 x4 hJ) rfl rfl dMO_tax_18 ?_
    refine V_lge (tgt := 159) B dMO_tax_19 dMO_tax_20 (by decide) (fun c2 => ?_) (fun c2 => ?_)
    · have hF := hF.trans (if_pos c2)
      exact hexit _ _ _ x2 x4 hF hw (lv_sub hl [0, 1, 2, 3] rfl)
    · have hF := hF.trans (if_neg c2)
      refine lv_iconst (v := 0) hx hb dMO_tax_23 (by decide) ?_
      refine lv_istore (lv' := [(5, .int 0), (0, .ref (ad 49)), (1, .int x1), (2, .long x2), (4, .int x4)]) hx hb dMO_tax_24 hl (by decide) rfl (fun ls hl => ?_)
      refine LPMO_tax_26 l hi B hr hlk hA 300 S x1 x2 x4 0 _ _ _ (vc_FMO_tax_inv026_22 S x1 x2 x4 hJ c2) (vc_FMO_tax_mu026_23 S x1 x2 x4 hJ c2) hw (lv_sub hl [1, 2, 3, 4, 0] rfl) (fun H locs ls y21_2 y21_5 hq21 hw hl => ?_)
      rw [hq21] at hF; try dsimp only at hF
      refine lv_iinc (v := x4 + 1) (lv' := [(4, .int (x4 + 1)), (0, .ref (ad 49)), (1, .int x1), (2, .long y21_2), (5, .int y21_5)]) hx hb dMO_tax_153 hl (k := 3) rfl rfl (by decide) rfl (fun ls hl => ?_)
      refine lv_goto (tgt := 10) hx hb dMO_tax_156 (by decide) ?_
      exact ih S x1 y21_2 (x4 + 1) _ _ _ (vc_FMO_tax_inv10_24 S x1 x2 x4 hJ c2 y21_2 y21_5 hq21) (Nat.lt_of_lt_of_le (vc_FMO_tax_mu10_25 S x1 x2 x4 hJ c2 y21_2 y21_5 hq21) (Nat.le_of_lt_succ hmu)) hw (lv_sub hl [1, 2, 3, 0] rfl) (fun H locs ls y2 y4 h hw hl => hexit H locs ls y2 y4 (hF.trans h) hw hl)
theorem cw_FMO_tax {R : Room} {cells slots : Nat} (h1 : 1 ≤ R.frames) (h2 : 27 ≤ R.locals) (h3 : cells ≤ R.cells) (h4 : slots ≤ R.slots) : Cw R cells slots yMO_tax bMO_tax 8 (some .long) ({ frames := 0, cells := 0, slots := 0, locals := 0 } : Room) 1 := ⟨wm_466, wm_426, by decide +kernel, ⟨rfl, rfl, h1, h2⟩, h3, h4⟩
set_option maxHeartbeats 4000000 in
set_option maxRecDepth 100000 in
theorem M_FMO_tax (l : Launch) {ad : Nat → Nat} {cI cL : ClassId} {dC : Nat → ClassId} {dI : Nat → Nat → Nat} (hi : adI ad) (S : hS) (x1 : Int32) (hp : wfM S) : Mt l ad cI cL dC dI yMO_tax bMO_tax 8 (some .long) ({ frames := 0, cells := 0, slots := 0, locals := 0 } : Room) [.ref (ad 49), .int x1] S (pL (FMO_tax S x1).1 (FMO_tax S x1).2) := by
  refine Mt_of (own := RMO) hi (by decide) rfl (Nat.le_of_ble_eq_true rfl) ?_
  intro p e s m args below meth c ls B hr hlk hw hl
  obtain ⟨hx, hb, -, hown, hts, -, -⟩ := id B
  have hA : ∀ q, AA ad s.heap.size q → AA ad s.heap.size q := fun _ h => h
  have hl : lv_has ls 8 [(0, .ref (ad 49)), (1, .int x1)] := hl
  have hF := FMO_tax_e S x1
  refine lv_aload_n hx hb dMO_tax_0 rfl (lv_at hl 0 rfl) ?_
  refine lv_iconst (v := 0) hx hb dMO_tax_1 (by decide) ?_
  refine V_putI (ty := .int) B hw (by decide) rfl rfl hin_MO tyMO_ok nmMO 4 (by decide) rfl wm_242 rfl (by decide +kernel) rfl rfl dMO_tax_2 (fun H locs hw => ?_)
  refine lv_lconst (v := 0) hx hb dMO_tax_5 (by decide) ?_
  refine lv_lstore_n (lv' := [(2, .long 0), (0, .ref (ad 49)), (1, .int x1)]) hx hb dMO_tax_6 rfl hl (by decide) rfl (fun ls hl => ?_)
  refine lv_iconst (v := 0) hx hb dMO_tax_7 (by decide) ?_
  refine lv_istore (lv' := [(4, .int 0), (2, .long 0), (0, .ref (ad 49)), (1, .int x1)]) hx hb dMO_tax_8 hl (by decide) rfl (fun ls hl => ?_)
  refine LPMO_tax_10 l hi B hr hlk hA 300 (sI S 49 4 0) x1 0 0 _ _ _ (vc_FMO_tax_inv010_27 S x1 hp) (vc_FMO_tax_mu010_28 S x1 hp) hw (lv_sub hl [2, 3, 1, 0] rfl) (fun H locs ls y26_2 y26_4 hq26 hw hl => ?_)
  rw [hq26] at hF; try dsimp only at hF
  refine lv_lload_n hx hb dMO_tax_159 rfl (lv_at hl 2 rfl) ?_
  refine lv_lconst (v := 0) hx hb dMO_tax_160 (by decide) ?_
  refine V_lge (tgt := 178) B dMO_tax_161 dMO_tax_162 (by decide) (fun c29 => ?_) (fun c29 => ?_)
  · have hF := hF.trans (if_pos c29)
    refine lv_lconst (v := 0) hx hb dMO_tax_178 (by decide) ?_
    exact V_lret B hr hlk hw (pL_of hF) dMO_tax_179
  · have hF := hF.trans (if_neg c29)
    refine lv_ldc2 (v := 19) hx hb hown (hts _ wm_309) dMO_tax_165 ?_
    refine lv_lload_n hx hb dMO_tax_168 rfl (lv_at hl 2 rfl) ?_
    refine lv_lneg hx hb dMO_tax_169 ?_
    refine lv_lmul hx hb dMO_tax_170 ?_
    refine lv_ldc2 (v := 100) hx hb hown (hts _ wm_308) dMO_tax_171 ?_
    refine lv_ldiv hx hb dMO_tax_174 (by decide) ?_
    refine lv_goto (tgt := 179) hx hb dMO_tax_175 (by decide) ?_
    exact V_lret B hr hlk hw (pL_of hF) dMO_tax_179
