set_option maxHeartbeats 4000000 in
set_option maxRecDepth 100000 in
theorem LPJO_clearItems_17 (l : Launch) {ad : Nat → Nat} {cI cL : ClassId} {dC : Nat → ClassId} {dI : Nat → Nat → Nat} (hi : adI ad) {p : Program} {e : Env} {s : State} {m : MethodId} {args : Array Value} {below : List Frame} {meth : Method} {c : Code} {A : Nat → Prop} {post : Option Value → hS → Prop} (B : Bs p s m args c RJO bJO_clearItems 5 cI cL dC dI) (hr : meth.sig.returnType = none) (hlk : meth.locks = false) (hA : ∀ q, AA ad s.heap.size q → A q) : ∀ (n : Nat) (S : hS) (x1 : Int32) (x2 : Int32) (x3 : Int32) (x4 : Int32) (H : Heap) (locs : List Loc) (ls : Array Slot), wfC S ∧ lp x4 x3 → ((x3.toInt - x4.toInt).toNat) < n → Wd ad cI cL dC dI A s.heap S H locs → lv_has ls 5 [(0, .ref (ad 10)), (1, .int x1), (2, .int x2), (3, .int x3), (4, .int x4)] → (∀ (H : Heap) (locs : List Loc) (ls : Array Slot) (y4 : Int32) (S' : hS), LJO_clearItems_17 n S x1 x2 x3 x4 = (y4, S') → Wd ad cI cL dC dI A s.heap S' H locs → lv_has ls 5 [(0, .ref (ad 10)), (1, .int x1), (2, .int x2), (3, .int x3), (4, .int y4)] → W p l e ({ frames := 0, cells := 0, slots := 0, locals := 0 } : Room) s m args below meth c H locs 0 0 (MQ below (QcW ad cI cL dC dI post A) args s 0 0 A) (F0 m 51 ls [])) → W p l e ({ frames := 0, cells := 0, slots := 0, locals := 0 } : Room) s m args below meth c H locs 0 0 (MQ below (QcW ad cI cL dC dI post A) args s 0 0 A) (F0 m 17 ls []) := by
  intro n
  obtain ⟨hx, hb, -, hown, hts, -, -⟩ := id B
  induction n with
  | zero => exact fun S x1 x2 x3 x4 H locs ls _ hmu => absurd hmu (Nat.not_lt_zero _)
  | succ n ih =>
    intro S x1 x2 x3 x4 H locs ls hJ hmu hw hl hexit
    have hF := LJO_clearItems_17_s n S x1 x2 x3 x4
    refine lv_iload hx hb dJO_clearItems_17 (lv_at hl 4 rfl) ?_
    refine lv_iload_n hx hb dJO_clearItems_19 rfl (lv_at hl 3 rfl) ?_
    refine lv_icmp_ge (tgt := 51) hx hb dJO_clearItems_20 (by decide) (fun c2 => ?_) (fun c2 => ?_)
    · have hF := hF.trans (if_pos c2)
      exact hexit _ _ _ x4 S hF hw (lv_sub hl [0, 1, 2, 3, 4] rfl)
    · have hF := hF.trans (if_neg c2)
      refine lv_aload_n hx hb dJO_clearItems_23 rfl (lv_at hl 0 rfl) ?_
      refine V_get B hw (v := .ref (ad 17)) (by decide) rfl rfl hin_JO 7 (by decide) rfl wm_44 rfl dJO_clearItems_24 ?_
      refine lv_iload hx hb dJO_clearItems_27 (lv_at hl 4 rfl) ?_
      refine V_lald (j := x4.toNatClampNeg) (v := S.2 17 x4.toNatClampNeg) B hw (by decide) rfl (vc_FJO_clearItems_ix29_3 S x1 x2 x3 x4 hJ c2) rfl rfl dJO_clearItems_29 ?_
      refine lv_ldc2 (v := (-1)) hx hb hown (hts _ wm_45) dJO_clearItems_30 ?_
      refine V_leq (tgt := 45) B dJO_clearItems_33 dJO_clearItems_34 (by decide) (fun c4 => ?_) (fun c4 => ?_)
      · have hF := hF.trans (if_pos c4)
        refine lv_iinc (v := x4 + 1) (lv' := [(4, .int (x4 + 1)), (0, .ref (ad 10)), (1, .int x1), (2, .int x2), (3, .int x3)]) hx hb dJO_clearItems_45 hl (k := 4) rfl rfl (by decide) rfl (fun ls hl => ?_)
        refine lv_goto (tgt := 17) hx hb dJO_clearItems_48 (by decide) ?_
        exact ih S x1 x2 x3 (x4 + 1) _ _ _ (vc_FJO_clearItems_inv17_5 S x1 x2 x3 x4 hJ c2 c4) (Nat.lt_of_lt_of_le (vc_FJO_clearItems_mu17_6 S x1 x2 x3 x4 hJ c2 c4) (Nat.le_of_lt_succ hmu)) hw (lv_sub hl [1, 2, 3, 4, 0] rfl) (fun H locs ls y4 S' h hw hl => hexit H locs ls y4 S' (hF.trans h) hw hl)
      · have hF := hF.trans (if_neg c4)
        refine lv_aload_n hx hb dJO_clearItems_37 rfl (lv_at hl 0 rfl) ?_
        refine V_get B hw (v := .ref (ad 17)) (by decide) rfl rfl hin_JO 7 (by decide) rfl wm_44 rfl dJO_clearItems_38 ?_
        refine lv_iload hx hb dJO_clearItems_41 (lv_at hl 4 rfl) ?_
        refine lv_lconst (v := 0) hx hb dJO_clearItems_43 (by decide) ?_
        refine V_last (j := x4.toNatClampNeg) B hw (by decide) rfl (vc_FJO_clearItems_ix44_7 S x1 x2 x3 x4 hJ c2 c4) rfl dJO_clearItems_44 (fun H locs hw => ?_)
        refine lv_iinc (v := x4 + 1) (lv' := [(4, .int (x4 + 1)), (0, .ref (ad 10)), (1, .int x1), (2, .int x2), (3, .int x3)]) hx hb dJO_clearItems_45 hl (k := 4) rfl rfl (by decide) rfl (fun ls hl => ?_)
        refine lv_goto (tgt := 17) hx hb dJO_clearItems_48 (by decide) ?_
        exact ih (sL S 17 x4.toNatClampNeg 0) x1 x2 x3 (x4 + 1) _ _ _ (vc_FJO_clearItems_inv17_8 S x1 x2 x3 x4 hJ c2 c4) (Nat.lt_of_lt_of_le (vc_FJO_clearItems_mu17_9 S x1 x2 x3 x4 hJ c2 c4) (Nat.le_of_lt_succ hmu)) hw (lv_sub hl [1, 2, 3, 4, 0] rfl) (fun H locs ls y4 S' h hw hl => hexit H locs ls y4 S' (hF.trans h) hw hl)
theorem cw_FJO_clearItems {R : Room} {cells slots : Nat} (h1 : 1 ≤ R.frames) (h2 : 24 ≤ R.locals) (h3 : cells ≤ R.cells) (h4 : slots ≤ R.slots) : Cw R cells slots yJO_clearItems bJO_clearItems 5 none ({ frames := 0, cells := 0, slots := 0, locals := 0 } : Room) 1 := ⟨wm_413, wm_358, by decide +kernel, ⟨rfl, rfl, h1, h2⟩, h3, h4⟩
set_option maxHeartbeats 4000000 in
set_option maxRecDepth 100000 in
theorem M_FJO_clearItems (l : Launch) {ad : Nat → Nat} {cI cL : ClassId} {dC : Nat → ClassId} {dI : Nat → Nat → Nat} (hi : adI ad) (S : hS) (x1 : Int32) (hp : wfC S ∧ rg x1 40) : Mt l ad cI cL dC dI yJO_clearItems bJO_clearItems 5 none ({ frames := 0, cells := 0, slots := 0, locals := 0 } : Room) [.ref (ad 10), .int x1] S (pV (FJO_clearItems S x1)) := by
  refine Mt_of (own := RJO) hi (by decide) rfl (Nat.le_of_ble_eq_true rfl) ?_
  intro p e s m args below meth c ls B hr hlk hw hl
  obtain ⟨hx, hb, -, hown, hts, -, -⟩ := id B
  have hA : ∀ q, AA ad s.heap.size q → AA ad s.heap.size q := fun _ h => h
  have hl : lv_has ls 5 [(0, .ref (ad 10)), (1, .int x1)] := hl
  have hF := FJO_clearItems_e S x1
  refine lv_iload_n hx hb dJO_clearItems_0 rfl (lv_at hl 1 rfl) ?_
  refine lv_bipush (v := 6) hx hb dJO_clearItems_1 (by decide) ?_
  refine lv_imul hx hb dJO_clearItems_3 ?_
  refine lv_istore_n (lv' := [(2, .int (x1 * 6)), (0, .ref (ad 10)), (1, .int x1)]) hx hb dJO_clearItems_4 rfl hl (by decide) rfl (fun ls hl => ?_)
  refine lv_iload_n hx hb dJO_clearItems_5 rfl (lv_at hl 0 rfl) ?_
  refine lv_aload_n hx hb dJO_clearItems_6 rfl (lv_at hl 1 rfl) ?_
  refine V_get B hw (v := .ref (ad 13)) (by decide) rfl rfl hin_JO 3 (by decide) rfl wm_29 rfl dJO_clearItems_7 ?_
  refine lv_iload_n hx hb dJO_clearItems_10 rfl (lv_at hl 2 rfl) ?_
  refine V_iald (j := x1.toNatClampNeg) (v := S.1 13 x1.toNatClampNeg) B hw (by decide) rfl (vc_FJO_clearItems_ix11_1 S x1 hp) rfl rfl dJO_clearItems_11 ?_
  refine lv_iadd hx hb dJO_clearItems_12 ?_
  refine lv_istore_n (lv' := [(3, .int ((x1 * 6) + (S.1 13 x1.toNatClampNeg))), (2, .int (x1 * 6)), (0, .ref (ad 10)), (1, .int x1)]) hx hb dJO_clearItems_13 rfl hl (by decide) rfl (fun ls hl => ?_)
  refine lv_iload_n hx hb dJO_clearItems_14 rfl (lv_at hl 1 rfl) ?_
  refine lv_istore (lv' := [(4, .int (x1 * 6)), (3, .int ((x1 * 6) + (S.1 13 x1.toNatClampNeg))), (2, .int (x1 * 6)), (0, .ref (ad 10)), (1, .int x1)]) hx hb dJO_clearItems_15 hl (by decide) rfl (fun ls hl => ?_)
  refine LPJO_clearItems_17 l hi B hr hlk hA 300 S x1 (x1 * 6) ((x1 * 6) + (S.1 13 x1.toNatClampNeg)) (x1 * 6) _ _ _ (vc_FJO_clearItems_inv017_11 S x1 hp) (vc_FJO_clearItems_mu017_12 S x1 hp) hw (lv_sub hl [3, 4, 2, 1, 0] rfl) (fun H locs ls y10_4 S10 hq10 hw hl => ?_)
  rw [hq10] at hF; try dsimp only at hF
  exact V_vret B hr hlk hw (pV_of hF) dJO_clearItems_51
theorem cw_FHL_reverse {R : Room} {cells slots : Nat} (h1 : 3 ≤ R.frames) (h2 : 75 ≤ R.locals) (h3 : cells ≤ R.cells) (h4 : slots ≤ R.slots) : Cw R cells slots yHL_reverse bHL_reverse 6 (some .int) ({ frames := 2, cells := 0, slots := 0, locals := 50 } : Room) 2 := ⟨wm_414, wm_353, by decide +kernel, ⟨rfl, rfl, h1, h2⟩, h3, h4⟩
set_option maxHeartbeats 4000000 in
set_option maxRecDepth 100000 in
theorem M_FHL_reverse (l : Launch) {ad : Nat → Nat} {cI cL : ClassId} {dC : Nat → ClassId} {dI : Nat → Nat → Nat} (hi : adI ad) (S : hS) (x1 : Int32) (x2 : Int64) (hp : wfC S) : Mt l ad cI cL dC dI yHL_reverse bHL_reverse 6 (some .int) ({ frames := 2, cells := 0, slots := 0, locals := 50 } : Room) [.ref (ad 0), .int x1, .long x2] S (pI (FHL_reverse S x1 x2).1 (FHL_reverse S x1 x2).2) := by
  refine Mt_of (own := RHL) hi (by decide) rfl (Nat.le_of_ble_eq_true rfl) ?_
  intro p e s m args below meth c ls B hr hlk hw hl
  obtain ⟨hx, hb, -, hown, hts, -, -⟩ := id B
  have hA : ∀ q, AA ad s.heap.size q → AA ad s.heap.size q := fun _ h => h
  have hl : lv_has ls 6 [(0, .ref (ad 0)), (1, .int x1), (2, .long x2)] := hl
  have hF := FHL_reverse_e S x1 x2
  refine lv_aload_n hx hb dHL_reverse_0 rfl (lv_at hl 0 rfl) ?_
  refine V_get B hw (v := .ref (ad 1)) (by decide) rfl rfl hin_HL 0 (by decide) rfl wm_0 rfl dHL_reverse_1 ?_
  refine V_getN B hw (v := .ref (ad 10)) (by decide) rfl rfl hin_BO 1 (by decide) rfl wn_22 rfl dHL_reverse_4 ?_
  refine lv_astore (lv' := [(4, .ref (ad 10)), (0, .ref (ad 0)), (1, .int x1), (2, .long x2)]) hx hb dHL_reverse_7 hl (by decide) rfl (fun ls hl => ?_)
  refine lv_aload hx hb dHL_reverse_9 (lv_at hl 0 rfl) ?_
  refine lv_iload_n hx hb dHL_reverse_11 rfl (lv_at hl 2 rfl) ?_
  refine V_callVN (rest := []) B hi hw hA hl.1 (M_FJO_isReversible l hi S x1 (vc_FHL_reverse_pre12_1 S x1 x2 hp)) (cw_FJO_isReversible (Nat.le_of_ble_eq_true rfl) (Nat.le_of_ble_eq_true rfl) (Nat.zero_le _) (Nat.zero_le _)) (by decide) rfl rfl wn_199 wm_200 wm_201 rfl (Nat.le_of_ble_eq_true rfl) dHL_reverse_12 (kI (fun H locs hw => ?_))
  refine lv_if_eq (tgt := 33) hx hb dHL_reverse_15 (by decide) (fun c2 => ?_) (fun c2 => ?_)
  · have hF := hF.trans (if_pos c2)
    refine lv_iconst (v := (-1)) hx hb dHL_reverse_33 (by decide) ?_
    exact V_iret B hr hlk hw (pI_of hF) dHL_reverse_34
  · have hF := hF.trans (if_neg c2)
    refine lv_lload_n hx hb dHL_reverse_18 rfl (lv_at hl 3 rfl) ?_
    refine V_callS (rest := []) B hi hw hA hl.1 (M_FHL_isDay l hi S x2) (cw_FHL_isDay (Nat.le_of_ble_eq_true rfl) (Nat.le_of_ble_eq_true rfl) (Nat.zero_le _) (Nat.zero_le _)) wm_68 wm_16 rfl (Nat.le_of_ble_eq_true rfl) dHL_reverse_19 (kI (fun H locs hw => ?_))
    refine lv_if_eq (tgt := 33) hx hb dHL_reverse_22 (by decide) (fun c3 => ?_) (fun c3 => ?_)
    · have hF := hF.trans (if_pos c3)
      refine lv_iconst (v := (-1)) hx hb dHL_reverse_33 (by decide) ?_
      exact V_iret B hr hlk hw (pI_of hF) dHL_reverse_34
    · have hF := hF.trans (if_neg c3)
      refine lv_aload hx hb dHL_reverse_25 (lv_at hl 0 rfl) ?_
      refine V_callVN (rest := []) B hi hw hA hl.1 (M_FJO_isFull l hi S (vc_FHL_reverse_pre27_4 S x1 x2 hp c2 c3)) (cw_FJO_isFull (Nat.le_of_ble_eq_true rfl) (Nat.le_of_ble_eq_true rfl) (Nat.zero_le _) (Nat.zero_le _)) (by decide) rfl rfl wn_78 wm_25 wm_26 rfl (Nat.le_of_ble_eq_true rfl) dHL_reverse_27 (kI (fun H locs hw => ?_))
      refine lv_if_eq (tgt := 35) hx hb dHL_reverse_30 (by decide) (fun c5 => ?_) (fun c5 => ?_)
      · have hF := hF.trans (if_pos c5)
        refine lv_aload hx hb dHL_reverse_35 (lv_at hl 0 rfl) ?_
        refine lv_lload_n hx hb dHL_reverse_37 rfl (lv_at hl 3 rfl) ?_
        refine lv_l2i hx hb dHL_reverse_38 rfl ?_
        refine lv_iconst (v := 3) hx hb dHL_reverse_39 (by decide) ?_
        rcases hq7 : FJO_add S x2.toInt32 3 with ⟨v7, S7⟩
        rw [hq7] at hF; try dsimp only at hF
        refine V_callVN (post := pI v7 S7) (rest := []) B hi hw hA hl.1 (by have h := M_FJO_add (cI := cI) (cL := cL) (dC := dC) (dI := dI) l hi S x2.toInt32 3 (vc_FHL_reverse_pre40_6 S x1 x2 hp c2 c3 c5); rw [hq7] at h; exact h) (cw_FJO_add (Nat.le_of_ble_eq_true rfl) (Nat.le_of_ble_eq_true rfl) (Nat.zero_le _) (Nat.zero_le _)) (by decide) rfl rfl wn_31 wm_32 wm_33 rfl (Nat.le_of_ble_eq_true rfl) dHL_reverse_40 (kI (fun H locs hw => ?_))
        refine lv_istore (lv' := [(5, .int v7), (4, .ref (ad 10)), (0, .ref (ad 0)), (1, .int x1), (2, .long x2)]) hx hb dHL_reverse_43 hl (by decide) rfl (fun ls hl => ?_)
        refine lv_aload hx hb dHL_reverse_45 (lv_at hl 1 rfl) ?_
        refine lv_iload_n hx hb dHL_reverse_47 rfl (lv_at hl 3 rfl) ?_
        refine lv_iload hx hb dHL_reverse_48 (lv_at hl 0 rfl) ?_
        refine V_callVN (rest := []) B hi hw hA hl.1 (M_FJO_turnRows l hi S7 x1 v7 (vc_FHL_reverse_pre50_8 S x1 x2 hp c2 c3 c5 v7 S7 hq7)) (cw_FJO_turnRows (Nat.le_of_ble_eq_true rfl) (Nat.le_of_ble_eq_true rfl) (Nat.zero_le _) (Nat.zero_le _)) (by decide) rfl rfl wn_203 wm_204 wm_205 rfl (Nat.le_of_ble_eq_true rfl) dHL_reverse_50 (kV (fun H locs hw => ?_))
        refine lv_aload hx hb dHL_reverse_53 (lv_at hl 1 rfl) ?_
        refine lv_iload_n hx hb dHL_reverse_55 rfl (lv_at hl 3 rfl) ?_
        refine V_callVN (rest := []) B hi hw hA hl.1 (M_FJO_clearItems l hi (FJO_turnRows S7 x1 v7) x1 (vc_FHL_reverse_pre56_9 S x1 x2 hp c2 c3 c5 v7 S7 hq7)) (cw_FJO_clearItems (Nat.le_of_ble_eq_true rfl) (Nat.le_of_ble_eq_true rfl) (Nat.zero_le _) (Nat.zero_le _)) (by decide) rfl rfl wn_206 wm_207 wm_208 rfl (Nat.le_of_ble_eq_true rfl) dHL_reverse_56 (kV (fun H locs hw => ?_))
        refine lv_aload hx hb dHL_reverse_59 (lv_at hl 1 rfl) ?_
        refine V_getN B hw (v := .ref (ad 12)) (by decide) rfl rfl hin_JO 2 (by decide) rfl wn_53 rfl dHL_reverse_61 ?_
        refine lv_iload_n hx hb dHL_reverse_64 rfl (lv_at hl 3 rfl) ?_
        refine lv_iconst (v := 4) hx hb dHL_reverse_65 (by decide) ?_
        refine V_iast (j := x1.toNatClampNeg) B hw (by decide) rfl (vc_FHL_reverse_ix66_10 S x1 x2 hp c2 c3 c5 v7 S7 hq7) rfl dHL_reverse_66 (fun H locs hw => ?_)
        refine lv_iload hx hb dHL_reverse_67 (lv_at hl 0 rfl) ?_
        exact V_iret B hr hlk hw (pI_of hF) dHL_reverse_69
      · have hF := hF.trans (if_neg c5)
        refine lv_iconst (v := (-1)) hx hb dHL_reverse_33 (by decide) ?_
        exact V_iret B hr hlk hw (pI_of hF) dHL_reverse_34
set_option maxHeartbeats 4000000 in
set_option maxRecDepth 100000 in
theorem LPJO_centDays_14 (l : Launch) {ad : Nat → Nat} {cI cL : ClassId} {dC : Nat → ClassId} {dI : Nat → Nat → Nat} (hi : adI ad) {p : Program} {e : Env} {s : State} {m : MethodId} {args : Array Value} {below : List Frame} {meth : Method} {c : Code} {A : Nat → Prop} {post : Option Value → hS → Prop} (B : Bs p s m args c RJO bJO_centDays 8 cI cL dC dI) (hr : meth.sig.returnType = (some .long)) (hlk : meth.locks = false) (hA : ∀ q, AA ad s.heap.size q → A q) : ∀ (n : Nat) (S : hS) (x1 : Int32) (x2 : Int32) (x3 : Int64) (x5 : Int32) (x6 : Int32) (H : Heap) (locs : List Loc) (ls : Array Slot), wfC S ∧ lp x6 x5 → ((x5.toInt - x6.toInt).toNat) < n → Wd ad cI cL dC dI A s.heap S H locs → lv_has ls 8 [(0, .ref (ad 10)), (1, .int x1), (2, .int x2), (3, .long x3), (5, .int x5), (6, .int x6)] → (∀ (H : Heap) (locs : List Loc) (ls : Array Slot) (y3 : Int64) (y6 : Int32), LJO_centDays_14 n S x1 x2 x3 x5 x6 = (y3, y6) → Wd ad cI cL dC dI A s.heap S H locs → lv_has ls 8 [(0, .ref (ad 10)), (1, .int x1), (2, .int x2), (3, .long y3), (5, .int x5), (6, .int y6)] → W p l e ({ frames := 2, cells := 0, slots := 0, locals := 35 } : Room) s m args below meth c H locs 0 0 (MQ below (QcW ad cI cL dC dI post A) args s 0 0 A) (F0 m 61 ls [])) → W p l e ({ frames := 2, cells := 0, slots := 0, locals := 35 } : Room) s m args below meth c H locs 0 0 (MQ below (QcW ad cI cL dC dI post A) args s 0 0 A) (F0 m 14 ls []) := by
  intro n
  obtain ⟨hx, hb, -, hown, hts, -, -⟩ := id B
  induction n with
  | zero => exact fun S x1 x2 x3 x5 x6 H locs ls _ hmu => absurd hmu (Nat.not_lt_zero _)
  | succ n ih =>
    intro S x1 x2 x3 x5 x6 H locs ls hJ hmu hw hl hexit
    have hF := LJO_centDays_14_s n S x1 x2 x3 x5 x6
    refine lv_iload hx hb dJO_centDays_14 (lv_at hl 5 rfl) ?_
    refine lv_iload hx hb dJO_centDays_16 (lv_at hl 4 rfl) ?_
    refine lv_icmp_ge (tgt := 61) hx hb dJO_centDays_18 (by decide) (fun c1 => ?_) (fun c1 => ?_)
    · have hF := hF.trans (if_pos c1)
      exact hexit _ _ _ x3 x6 hF hw (lv_sub hl [0, 1, 2, 3, 4, 5] rfl)
    · have hF := hF.trans (if_neg c1)
      refine lv_aload_n hx hb dJO_centDays_21 rfl (lv_at hl 0 rfl) ?_
      refine lv_iload hx hb dJO_centDays_22 (lv_at hl 5 rfl) ?_
      refine lv_iload_n hx hb dJO_centDays_24 rfl (lv_at hl 1 rfl) ?_
      refine V_callV (rest := []) B hi hw hA hl.1 (M_FJO_itemAt l hi S x6 x1 (vc_FJO_centDays_pre25_2 S x1 x2 x3 x5 x6 hJ c1)) (cw_FJO_itemAt (Nat.le_of_ble_eq_true rfl) (Nat.le_of_ble_eq_true rfl) (Nat.zero_le _) (Nat.zero_le _)) (by decide) rfl rfl wm_80 wm_81 wm_82 rfl (Nat.le_of_ble_eq_true rfl) dJO_centDays_25 (kI (fun H locs hw => ?_))
      refine lv_istore (lv' := [(7, .int (FJO_itemAt S x6 x1)), (0, .ref (ad 10)), (1, .int x1), (2, .int x2), (3, .long x3), (5, .int x5), (6, .int x6)]) hx hb dJO_centDays_28 hl (by decide) rfl (fun ls hl => ?_)
      refine lv_iload hx hb dJO_centDays_30 (lv_at hl 0 rfl) ?_
      refine lv_iconst (v := (-1)) hx hb dJO_centDays_32 (by decide) ?_
      refine lv_icmp_eq (tgt := 55) hx hb dJO_centDays_33 (by decide) (fun c3 => ?_) (fun c3 => ?_)
      · have hF := hF.trans (if_pos c3)
        refine lv_iinc (v := x6 + 1) (lv' := [(6, .int (x6 + 1)), (7, .int (FJO_itemAt S x6 x1)), (0, .ref (ad 10)), (1, .int x1), (2, .int x2), (3, .long x3), (5, .int x5)]) hx hb dJO_centDays_55 hl (k := 6) rfl rfl (by decide) rfl (fun ls hl => ?_)
        refine lv_goto (tgt := 14) hx hb dJO_centDays_58 (by decide) ?_
        exact ih S x1 x2 x3 x5 (x6 + 1) _ _ _ (vc_FJO_centDays_inv14_4 S x1 x2 x3 x5 x6 hJ c1 c3) (Nat.lt_of_lt_of_le (vc_FJO_centDays_mu14_5 S x1 x2 x3 x5 x6 hJ c1 c3) (Nat.le_of_lt_succ hmu)) hw (lv_sub hl [2, 3, 4, 5, 6, 0] rfl) (fun H locs ls y3 y6 h hw hl => hexit H locs ls y3 y6 (hF.trans h) hw hl)
      · have hF := hF.trans (if_neg c3)
        refine lv_lload_n hx hb dJO_centDays_36 rfl (lv_at hl 4 rfl) ?_
        refine lv_aload_n hx hb dJO_centDays_37 rfl (lv_at hl 1 rfl) ?_
        refine V_get B hw (v := .ref (ad 17)) (by decide) rfl rfl hin_JO 7 (by decide) rfl wm_44 rfl dJO_centDays_38 ?_
        refine lv_iload hx hb dJO_centDays_41 (lv_at hl 0 rfl) ?_
        refine V_lald (j := (FJO_itemAt S x6 x1).toNatClampNeg) (v := S.2 17 ((FJO_itemAt S x6 x1).toNatClampNeg)) B hw (by decide) rfl (vc_FJO_centDays_ix43_6 S x1 x2 x3 x5 x6 hJ c1 c3) rfl rfl dJO_centDays_43 ?_
        refine lv_aload_n hx hb dJO_centDays_44 rfl (lv_at hl 1 rfl) ?_
        refine lv_iload hx hb dJO_centDays_45 (lv_at hl 0 rfl) ?_
        refine lv_iload_n hx hb dJO_centDays_47 rfl (lv_at hl 3 rfl) ?_
        refine V_callV (rest := [.long (S.2 17 ((FJO_itemAt S x6 x1).toNatClampNeg)), .long x3]) B hi hw hA hl.1 (M_FJO_daysLate l hi S (FJO_itemAt S x6 x1) x2 (vc_FJO_centDays_pre48_7 S x1 x2 x3 x5 x6 hJ c1 c3)) (cw_FJO_daysLate (Nat.le_of_ble_eq_true rfl) (Nat.le_of_ble_eq_true rfl) (Nat.zero_le _) (Nat.zero_le _)) (by decide) rfl rfl wm_114 wm_115 wm_116 rfl (Nat.le_of_ble_eq_true rfl) dJO_centDays_48 (kI (fun H locs hw => ?_))
        refine lv_i2l hx hb dJO_centDays_51 rfl ?_
        refine lv_lmul hx hb dJO_centDays_52 ?_
        refine lv_ladd hx hb dJO_centDays_53 ?_
        refine lv_lstore_n (lv' := [(3, .long (x3 + ((S.2 17 ((FJO_itemAt S x6 x1).toNatClampNeg)) * ((FJO_daysLate S (FJO_itemAt S x6 x1) x2).toInt64)))), (7, .int (FJO_itemAt S x6 x1)), (0, .ref (ad 10)), (1, .int x1), (2, .int x2), (5, .int x5), (6, .int x6)]) hx hb dJO_centDays_54 rfl hl (by decide) rfl (fun ls hl => ?_)
        refine lv_iinc (v := x6 + 1) (lv' := [(6, .int (x6 + 1)), (3, .long (x3 + ((S.2 17 ((FJO_itemAt S x6 x1).toNatClampNeg)) * ((FJO_daysLate S (FJO_itemAt S x6 x1) x2).toInt64)))), (7, .int (FJO_itemAt S x6 x1)), (0, .ref (ad 10)), (1, .int x1), (2, .int x2), (5, .int x5)]) hx hb dJO_centDays_55 hl (k := 6) rfl rfl (by decide) rfl (fun ls hl => ?_)
        refine lv_goto (tgt := 14) hx hb dJO_centDays_58 (by decide) ?_
        exact ih S x1 x2 (x3 + ((S.2 17 ((FJO_itemAt S x6 x1).toNatClampNeg)) * ((FJO_daysLate S (FJO_itemAt S x6 x1) x2).toInt64))) x5 (x6 + 1) _ _ _ (vc_FJO_centDays_inv14_8 S x1 x2 x3 x5 x6 hJ c1 c3) (Nat.lt_of_lt_of_le (vc_FJO_centDays_mu14_9 S x1 x2 x3 x5 x6 hJ c1 c3) (Nat.le_of_lt_succ hmu)) hw (lv_sub hl [3, 4, 5, 1, 6, 0] rfl) (fun H locs ls y3 y6 h hw hl => hexit H locs ls y3 y6 (hF.trans h) hw hl)
theorem cw_FJO_centDays {R : Room} {cells slots : Nat} (h1 : 3 ≤ R.frames) (h2 : 62 ≤ R.locals) (h3 : cells ≤ R.cells) (h4 : slots ≤ R.slots) : Cw R cells slots yJO_centDays bJO_centDays 8 (some .long) ({ frames := 2, cells := 0, slots := 0, locals := 35 } : Room) 2 := ⟨wm_415, wm_358, by decide +kernel, ⟨rfl, rfl, h1, h2⟩, h3, h4⟩
set_option maxHeartbeats 4000000 in
set_option maxRecDepth 100000 in
theorem M_FJO_centDays (l : Launch) {ad : Nat → Nat} {cI cL : ClassId} {dC : Nat → ClassId} {dI : Nat → Nat → Nat} (hi : adI ad) (S : hS) (x1 : Int32) (x2 : Int32) (hp : wfC S) : Mt l ad cI cL dC dI yJO_centDays bJO_centDays 8 (some .long) ({ frames := 2, cells := 0, slots := 0, locals := 35 } : Room) [.ref (ad 10), .int x1, .int x2] S (pL (FJO_centDays S x1 x2) S) := by
  refine Mt_of (own := RJO) hi (by decide) rfl (Nat.le_of_ble_eq_true rfl) ?_
  intro p e s m args below meth c ls B hr hlk hw hl
  obtain ⟨hx, hb, -, hown, hts, -, -⟩ := id B
  have hA : ∀ q, AA ad s.heap.size q → AA ad s.heap.size q := fun _ h => h
  have hl : lv_has ls 8 [(0, .ref (ad 10)), (1, .int x1), (2, .int x2)] := hl
  have hF := FJO_centDays_e S x1 x2
  refine lv_lconst (v := 0) hx hb dJO_centDays_0 (by decide) ?_
  refine lv_lstore_n (lv' := [(3, .long 0), (0, .ref (ad 10)), (1, .int x1), (2, .int x2)]) hx hb dJO_centDays_1 rfl hl (by decide) rfl (fun ls hl => ?_)
  refine lv_aload_n hx hb dJO_centDays_2 rfl (lv_at hl 1 rfl) ?_
  refine V_get B hw (v := .int (S.1 10 0)) (by decide) rfl rfl hin_JO 0 (by decide) rfl wm_23 rfl dJO_centDays_3 ?_
  refine lv_bipush (v := 6) hx hb dJO_centDays_6 (by decide) ?_
  refine lv_imul hx hb dJO_centDays_8 ?_
  refine lv_istore (lv' := [(5, .int ((S.1 10 0) * 6)), (3, .long 0), (0, .ref (ad 10)), (1, .int x1), (2, .int x2)]) hx hb dJO_centDays_9 hl (by decide) rfl (fun ls hl => ?_)
  refine lv_iconst (v := 0) hx hb dJO_centDays_11 (by decide) ?_
  refine lv_istore (lv' := [(6, .int 0), (5, .int ((S.1 10 0) * 6)), (3, .long 0), (0, .ref (ad 10)), (1, .int x1), (2, .int x2)]) hx hb dJO_centDays_12 hl (by decide) rfl (fun ls hl => ?_)
  refine LPJO_centDays_14 l hi B hr hlk hA 300 S x1 x2 0 ((S.1 10 0) * 6) 0 _ _ _ (vc_FJO_centDays_inv014_11 S x1 x2 hp) (vc_FJO_centDays_mu014_12 S x1 x2 hp) hw (lv_sub hl [3, 4, 5, 2, 1, 0] rfl) (fun H locs ls y10_3 y10_6 hq10 hw hl => ?_)
  rw [hq10] at hF; try dsimp only at hF
  refine lv_lload_n hx hb dJO_centDays_61 rfl (lv_at hl 3 rfl) ?_
  exact V_lret B hr hlk hw (pL_r hF) dJO_centDays_62
theorem cw_FHL_interest {R : Room} {cells slots : Nat} (h1 : 4 ≤ R.frames) (h2 : 90 ≤ R.locals) (h3 : cells ≤ R.cells) (h4 : slots ≤ R.slots) : Cw R cells slots yHL_interest bHL_interest 9 (some .long) ({ frames := 3, cells := 0, slots := 0, locals := 62 } : Room) 3 := ⟨wm_416, wm_353, by decide +kernel, ⟨rfl, rfl, h1, h2⟩, h3, h4⟩
set_option maxHeartbeats 4000000 in
set_option maxRecDepth 100000 in
theorem M_FHL_interest (l : Launch) {ad : Nat → Nat} {cI cL : ClassId} {dC : Nat → ClassId} {dI : Nat → Nat → Nat} (hi : adI ad) (S : hS) (x1 : Int32) (x2 : Int64) (x4 : Int32) (hp : wfC S) : Mt l ad cI cL dC dI yHL_interest bHL_interest 9 (some .long) ({ frames := 3, cells := 0, slots := 0, locals := 62 } : Room) [.ref (ad 0), .int x1, .long x2, .int x4] S (pL (FHL_interest S x1 x2 x4) S) := by
  refine Mt_of (own := RHL) hi (by decide) rfl (Nat.le_of_ble_eq_true rfl) ?_
  intro p e s m args below meth c ls B hr hlk hw hl
  obtain ⟨hx, hb, -, hown, hts, -, -⟩ := id B
  have hA : ∀ q, AA ad s.heap.size q → AA ad s.heap.size q := fun _ h => h
  have hl : lv_has ls 9 [(0, .ref (ad 0)), (1, .int x1), (2, .long x2), (4, .int x4)] := hl
  have hF := FHL_interest_e S x1 x2 x4
  refine lv_aload_n hx hb dHL_interest_0 rfl (lv_at hl 0 rfl) ?_
  refine V_get B hw (v := .ref (ad 1)) (by decide) rfl rfl hin_HL 0 (by decide) rfl wm_0 rfl dHL_interest_1 ?_
  refine V_getN B hw (v := .ref (ad 2)) (by decide) rfl rfl hin_BO 0 (by decide) rfl wn_1 rfl dHL_interest_4 ?_
  refine lv_iload_n hx hb dHL_interest_7 rfl (lv_at hl 1 rfl) ?_
  refine V_callVN (rest := []) B hi hw hA hl.1 (M_FAC_hasHousehold l hi S x1 (vc_FHL_interest_pre8_1 S x1 x2 x4 hp)) (cw_FAC_hasHousehold (Nat.le_of_ble_eq_true rfl) (Nat.le_of_ble_eq_true rfl) (Nat.zero_le _) (Nat.zero_le _)) (by decide) rfl rfl wn_79 wm_61 wm_62 rfl (Nat.le_of_ble_eq_true rfl) dHL_interest_8 (kI (fun H locs hw => ?_))
  refine lv_if_eq (tgt := 32) hx hb dHL_interest_11 (by decide) (fun c2 => ?_) (fun c2 => ?_)
  · have hF := hF.trans (if_pos c2)
    refine lv_ldc2 (v := (-1)) hx hb hown (hts _ wm_105) dHL_interest_32 ?_
    exact V_lret B hr hlk hw (pL_r hF) dHL_interest_35
  · have hF := hF.trans (if_neg c2)
    refine lv_lload_n hx hb dHL_interest_14 rfl (lv_at hl 2 rfl) ?_
    refine V_callS (rest := []) B hi hw hA hl.1 (M_FHL_isDay l hi S x2) (cw_FHL_isDay (Nat.le_of_ble_eq_true rfl) (Nat.le_of_ble_eq_true rfl) (Nat.zero_le _) (Nat.zero_le _)) wm_68 wm_16 rfl (Nat.le_of_ble_eq_true rfl) dHL_interest_15 (kI (fun H locs hw => ?_))
    refine lv_if_eq (tgt := 32) hx hb dHL_interest_18 (by decide) (fun c3 => ?_) (fun c3 => ?_)
    · have hF := hF.trans (if_pos c3)
      refine lv_ldc2 (v := (-1)) hx hb hown (hts _ wm_105) dHL_interest_32 ?_
      exact V_lret B hr hlk hw (pL_r hF) dHL_interest_35
    · have hF := hF.trans (if_neg c3)
      refine lv_iload hx hb dHL_interest_21 (lv_at hl 3 rfl) ?_
      refine lv_if_lt (tgt := 32) hx hb dHL_interest_23 (by decide) (fun c4 => ?_) (fun c4 => ?_)
      · have hF := hF.trans (if_pos c4)
        refine lv_ldc2 (v := (-1)) hx hb hown (hts _ wm_105) dHL_interest_32 ?_
        exact V_lret B hr hlk hw (pL_r hF) dHL_interest_35
      · have hF := hF.trans (if_neg c4)
        refine lv_iload hx hb dHL_interest_26 (lv_at hl 3 rfl) ?_
        refine lv_iconst (v := 2) hx hb dHL_interest_28 (by decide) ?_
        refine lv_icmp_le (tgt := 36) hx hb dHL_interest_29 (by decide) (fun c5 => ?_) (fun c5 => ?_)
        · have hF := hF.trans (if_pos c5)
          refine lv_aload_n hx hb dHL_interest_36 rfl (lv_at hl 0 rfl) ?_
          refine V_get B hw (v := .ref (ad 1)) (by decide) rfl rfl hin_HL 0 (by decide) rfl wm_0 rfl dHL_interest_37 ?_
          refine V_getN B hw (v := .ref (ad 10)) (by decide) rfl rfl hin_BO 1 (by decide) rfl wn_22 rfl dHL_interest_40 ?_
          refine lv_iload_n hx hb dHL_interest_43 rfl (lv_at hl 1 rfl) ?_
          refine lv_lload_n hx hb dHL_interest_44 rfl (lv_at hl 2 rfl) ?_
          refine lv_l2i hx hb dHL_interest_45 rfl ?_
          refine V_callVN (rest := []) B hi hw hA hl.1 (M_FJO_centDays l hi S x1 x2.toInt32 (vc_FHL_interest_pre46_6 S x1 x2 x4 hp c2 c3 c4 c5)) (cw_FJO_centDays (Nat.le_of_ble_eq_true rfl) (Nat.le_of_ble_eq_true rfl) (Nat.zero_le _) (Nat.zero_le _)) (by decide) rfl rfl wn_209 wm_210 wm_211 rfl (Nat.le_of_ble_eq_true rfl) dHL_interest_46 (kL (fun H locs hw => ?_))
          refine lv_aload_n hx hb dHL_interest_49 rfl (lv_at hl 0 rfl) ?_
          refine V_get B hw (v := .ref (ad 1)) (by decide) rfl rfl hin_HL 0 (by decide) rfl wm_0 rfl dHL_interest_50 ?_
          refine V_getN B hw (v := .long (S.2 1 6)) (by decide) rfl rfl hin_BO 6 (by decide) rfl wn_212 rfl dHL_interest_53 ?_
          refine lv_lmul hx hb dHL_interest_56 ?_
          refine lv_lstore (lv' := [(5, .long ((FJO_centDays S x1 x2.toInt32) * (S.2 1 6))), (0, .ref (ad 0)), (1, .int x1), (2, .long x2), (4, .int x4)]) hx hb dHL_interest_57 hl (by decide) rfl (fun ls hl => ?_)
          refine lv_lconst (v := 1) hx hb dHL_interest_59 (by decide) ?_
          refine lv_ldc2 (v := 360) hx hb hown (hts _ wm_213) dHL_interest_60 ?_
          refine lv_aload_n hx hb dHL_interest_63 rfl (lv_at hl 1 rfl) ?_
          refine V_get B hw (v := .ref (ad 1)) (by decide) rfl rfl hin_HL 0 (by decide) rfl wm_0 rfl dHL_interest_64 ?_
          refine V_getN B hw (v := .long (S.2 1 7)) (by decide) rfl rfl hin_BO 7 (by decide) rfl wn_214 rfl dHL_interest_67 ?_
          refine lv_lmul hx hb dHL_interest_70 ?_
          refine va_mmax_long hx hb (B.2.2.1.trans hl.1.symm) hown (hts _ wm_161) (hts _ wm_162) (hts _ wm_85) (hts _ wm_163) (Nat.le_of_ble_eq_true rfl) (Nat.le_of_ble_eq_true rfl) (Nat.zero_le _) (Nat.zero_le _) dHL_interest_71 ?_
          refine lv_lstore (lv' := [(7, .long (if (360 * (S.2 1 7)) < 1 then 1 else (360 * (S.2 1 7)))), (5, .long ((FJO_centDays S x1 x2.toInt32) * (S.2 1 6))), (0, .ref (ad 0)), (1, .int x1), (2, .long x2), (4, .int x4)]) hx hb dHL_interest_74 hl (by decide) rfl (fun ls hl => ?_)
          refine lv_iload hx hb dHL_interest_76 (lv_at hl 5 rfl) ?_
          refine lv_iconst (v := 2) hx hb dHL_interest_78 (by decide) ?_
          refine lv_icmp_ne (tgt := 99) hx hb dHL_interest_79 (by decide) (fun c7 => ?_) (fun c7 => ?_)
          · have hF := hF.trans (if_neg c7)
            refine lv_lload hx hb dHL_interest_99 (lv_at hl 1 rfl) ?_
            refine lv_lload hx hb dHL_interest_101 (lv_at hl 0 rfl) ?_
            refine lv_iload hx hb dHL_interest_103 (lv_at hl 5 rfl) ?_
            refine V_callS (rest := []) B hi hw hA hl.1 (M_FHL_inLowestTerms l hi S ((FJO_centDays S x1 x2.toInt32) * (S.2 1 6)) (if (360 * (S.2 1 7)) < 1 then 1 else (360 * (S.2 1 7))) x4) (cw_FHL_inLowestTerms (Nat.le_of_ble_eq_true rfl) (Nat.le_of_ble_eq_true rfl) (Nat.zero_le _) (Nat.zero_le _)) wm_164 wm_165 rfl (Nat.le_of_ble_eq_true rfl) dHL_interest_105 (kL (fun H locs hw => ?_))
            exact V_lret B hr hlk hw (pL_r hF) dHL_interest_108
          · have hF := hF.trans (if_pos c7)
            refine lv_ldc2 (v := 2) hx hb hown (hts _ wm_215) dHL_interest_82 ?_
            refine lv_lload hx hb dHL_interest_85 (lv_at hl 1 rfl) ?_
            refine lv_lmul hx hb dHL_interest_87 ?_
            refine lv_lload hx hb dHL_interest_88 (lv_at hl 0 rfl) ?_
            refine lv_ladd hx hb dHL_interest_90 ?_
            refine lv_ldc2 (v := 2) hx hb hown (hts _ wm_215) dHL_interest_91 ?_
            refine lv_lload hx hb dHL_interest_94 (lv_at hl 0 rfl) ?_
            refine lv_lmul hx hb dHL_interest_96 ?_
            refine lv_ldiv hx hb dHL_interest_97 (vc_FHL_interest_nz97_8 S x1 x2 x4 hp c2 c3 c4 c5 c7) ?_
            exact V_lret B hr hlk hw (pL_r hF) dHL_interest_98
        · have hF := hF.trans (if_neg c5)
          refine lv_ldc2 (v := (-1)) hx hb hown (hts _ wm_105) dHL_interest_32 ?_
          exact V_lret B hr hlk hw (pL_r hF) dHL_interest_35
theorem cw_FHL_rate {R : Room} {cells slots : Nat} (h1 : 1 ≤ R.frames) (h2 : 24 ≤ R.locals) (h3 : cells ≤ R.cells) (h4 : slots ≤ R.slots) : Cw R cells slots yHL_rate bHL_rate 5 (some .boolean) ({ frames := 0, cells := 0, slots := 0, locals := 0 } : Room) 2 := ⟨wm_417, wm_353, by decide +kernel, ⟨rfl, rfl, h1, h2⟩, h3, h4⟩
set_option maxHeartbeats 4000000 in
set_option maxRecDepth 100000 in
theorem M_FHL_rate (l : Launch) {ad : Nat → Nat} {cI cL : ClassId} {dC : Nat → ClassId} {dI : Nat → Nat → Nat} (hi : adI ad) (S : hS) (x1 : Int64) (x3 : Int64) (hp : wfC S) : Mt l ad cI cL dC dI yHL_rate bHL_rate 5 (some .boolean) ({ frames := 0, cells := 0, slots := 0, locals := 0 } : Room) [.ref (ad 0), .long x1, .long x3] S (pI (FHL_rate S x1 x3).1 (FHL_rate S x1 x3).2) := by
  refine Mt_of (own := RHL) hi (by decide) rfl (Nat.le_of_ble_eq_true rfl) ?_
  intro p e s m args below meth c ls B hr hlk hw hl
  obtain ⟨hx, hb, -, hown, hts, -, -⟩ := id B
  have hA : ∀ q, AA ad s.heap.size q → AA ad s.heap.size q := fun _ h => h
  have hl : lv_has ls 5 [(0, .ref (ad 0)), (1, .long x1), (3, .long x3)] := hl
  have hF := FHL_rate_e S x1 x3
  refine lv_lload_n hx hb dHL_rate_0 rfl (lv_at hl 1 rfl) ?_
  refine lv_lconst (v := 0) hx hb dHL_rate_1 (by decide) ?_
  refine V_llt (tgt := 28) B dHL_rate_2 dHL_rate_3 (by decide) (fun c1 => ?_) (fun c1 => ?_)
  · have hF := hF.trans (if_pos c1)
    refine lv_iconst (v := 0) hx hb dHL_rate_28 (by decide) ?_
    exact V_zret B hr hlk hw (by decide) (pI_of hF) dHL_rate_29
  · have hF := hF.trans (if_neg c1)
    refine lv_lload_n hx hb dHL_rate_6 rfl (lv_at hl 1 rfl) ?_
    refine lv_ldc2 (v := 100) hx hb hown (hts _ wm_216) dHL_rate_7 ?_
    refine V_lgt (tgt := 28) B dHL_rate_10 dHL_rate_11 (by decide) (fun c2 => ?_) (fun c2 => ?_)
    · have hF := hF.trans (if_pos c2)
      refine lv_iconst (v := 0) hx hb dHL_rate_28 (by decide) ?_
      exact V_zret B hr hlk hw (by decide) (pI_of hF) dHL_rate_29
    · have hF := hF.trans (if_neg c2)
      refine lv_lload_n hx hb dHL_rate_14 rfl (lv_at hl 2 rfl) ?_
      refine lv_lconst (v := 1) hx hb dHL_rate_15 (by decide) ?_
      refine V_llt (tgt := 28) B dHL_rate_16 dHL_rate_17 (by decide) (fun c3 => ?_) (fun c3 => ?_)
      · have hF := hF.trans (if_pos c3)
        refine lv_iconst (v := 0) hx hb dHL_rate_28 (by decide) ?_
        exact V_zret B hr hlk hw (by decide) (pI_of hF) dHL_rate_29
      · have hF := hF.trans (if_neg c3)
        refine lv_lload_n hx hb dHL_rate_20 rfl (lv_at hl 2 rfl) ?_
        refine lv_ldc2 (v := 100) hx hb hown (hts _ wm_216) dHL_rate_21 ?_
        refine V_lle (tgt := 30) B dHL_rate_24 dHL_rate_25 (by decide) (fun c4 => ?_) (fun c4 => ?_)
        · have hF := hF.trans (if_pos c4)
          refine lv_aload_n hx hb dHL_rate_30 rfl (lv_at hl 0 rfl) ?_
          refine V_get B hw (v := .ref (ad 1)) (by decide) rfl rfl hin_HL 0 (by decide) rfl wm_0 rfl dHL_rate_31 ?_
          refine lv_lload_n hx hb dHL_rate_34 rfl (lv_at hl 1 rfl) ?_
          refine V_putNL (ty := .long) B hw (by decide) rfl rfl hin_BO tyBO_ok nmBO 6 (by decide) rfl wn_212 rfl (by decide +kernel) rfl rfl dHL_rate_35 (fun H locs hw => ?_)
          refine lv_aload_n hx hb dHL_rate_38 rfl (lv_at hl 0 rfl) ?_
          refine V_get B hw (v := .ref (ad 1)) (by decide) rfl rfl hin_HL 0 (by decide) rfl wm_0 rfl dHL_rate_39 ?_
          refine lv_lload_n hx hb dHL_rate_42 rfl (lv_at hl 2 rfl) ?_
          refine V_putNL (ty := .long) B hw (by decide) rfl rfl hin_BO tyBO_ok nmBO 7 (by decide) rfl wn_214 rfl (by decide +kernel) rfl rfl dHL_rate_43 (fun H locs hw => ?_)
          refine lv_iconst (v := 1) hx hb dHL_rate_46 (by decide) ?_
          exact V_zret B hr hlk hw (by decide) (pI_of hF) dHL_rate_47
        · have hF := hF.trans (if_neg c4)
          refine lv_iconst (v := 0) hx hb dHL_rate_28 (by decide) ?_
          exact V_zret B hr hlk hw (by decide) (pI_of hF) dHL_rate_29
theorem cw_FJO_isPostedRowIn {R : Room} {cells slots : Nat} (h1 : 2 ≤ R.frames) (h2 : 46 ≤ R.locals) (h3 : cells ≤ R.cells) (h4 : slots ≤ R.slots) : Cw R cells slots yJO_isPostedRowIn bJO_isPostedRowIn 4 (some .boolean) ({ frames := 1, cells := 0, slots := 0, locals := 23 } : Room) 3 := ⟨wm_418, wm_358, by decide +kernel, ⟨rfl, rfl, h1, h2⟩, h3, h4⟩
set_option maxHeartbeats 4000000 in
set_option maxRecDepth 100000 in
theorem M_FJO_isPostedRowIn (l : Launch) {ad : Nat → Nat} {cI cL : ClassId} {dC : Nat → ClassId} {dI : Nat → Nat → Nat} (hi : adI ad) (S : hS) (x1 : Int32) (x2 : Int32) (x3 : Int32) (hp : wfC S ∧ rg x1 240) : Mt l ad cI cL dC dI yJO_isPostedRowIn bJO_isPostedRowIn 4 (some .boolean) ({ frames := 1, cells := 0, slots := 0, locals := 23 } : Room) [.ref (ad 10), .int x1, .int x2, .int x3] S (pI (FJO_isPostedRowIn S x1 x2 x3) S) := by
  refine Mt_of (own := RJO) hi (by decide) rfl (Nat.le_of_ble_eq_true rfl) ?_
  intro p e s m args below meth c ls B hr hlk hw hl
  obtain ⟨hx, hb, -, hown, hts, -, -⟩ := id B
  have hA : ∀ q, AA ad s.heap.size q → AA ad s.heap.size q := fun _ h => h
  have hl : lv_has ls 4 [(0, .ref (ad 10)), (1, .int x1), (2, .int x2), (3, .int x3)] := hl
  have hF := FJO_isPostedRowIn_e S x1 x2 x3
  refine lv_aload_n hx hb dJO_isPostedRowIn_0 rfl (lv_at hl 0 rfl) ?_
  refine V_get B hw (v := .ref (ad 11)) (by decide) rfl rfl hin_JO 1 (by decide) rfl wm_27 rfl dJO_isPostedRowIn_1 ?_
  refine lv_iload_n hx hb dJO_isPostedRowIn_4 rfl (lv_at hl 1 rfl) ?_
  refine lv_bipush (v := 6) hx hb dJO_isPostedRowIn_5 (by decide) ?_
  refine lv_idiv hx hb dJO_isPostedRowIn_7 (by decide) ?_
  refine V_iald (j := (x1 / 6).toNatClampNeg) (v := S.1 11 ((x1 / 6).toNatClampNeg)) B hw (by decide) rfl (vc_FJO_isPostedRowIn_ix8_1 S x1 x2 x3 hp) rfl rfl dJO_isPostedRowIn_8 ?_
  refine lv_bipush (v := 30) hx hb dJO_isPostedRowIn_9 (by decide) ?_
  refine lv_idiv hx hb dJO_isPostedRowIn_11 (by decide) ?_
  refine lv_iload_n hx hb dJO_isPostedRowIn_12 rfl (lv_at hl 3 rfl) ?_
  refine lv_icmp_ne (tgt := 29) hx hb dJO_isPostedRowIn_13 (by decide) (fun c2 => ?_) (fun c2 => ?_)
  · have hF := hF.trans (if_neg c2)
    refine lv_iconst (v := 0) hx hb dJO_isPostedRowIn_29 (by decide) ?_
    exact V_zret B hr hlk hw (by decide) (pI_r hF) dJO_isPostedRowIn_30
  · have hF := hF.trans (if_pos c2)
    refine lv_aload_n hx hb dJO_isPostedRowIn_16 rfl (lv_at hl 0 rfl) ?_
    refine lv_iload_n hx hb dJO_isPostedRowIn_17 rfl (lv_at hl 1 rfl) ?_
    refine lv_iload_n hx hb dJO_isPostedRowIn_18 rfl (lv_at hl 2 rfl) ?_
    refine V_callV (rest := []) B hi hw hA hl.1 (M_FJO_isPostedRow l hi S x1 x2 (vc_FJO_isPostedRowIn_pre19_3 S x1 x2 x3 hp c2)) (cw_FJO_isPostedRow (Nat.le_of_ble_eq_true rfl) (Nat.le_of_ble_eq_true rfl) (Nat.zero_le _) (Nat.zero_le _)) (by decide) rfl rfl wm_69 wm_70 wm_71 rfl (Nat.le_of_ble_eq_true rfl) dJO_isPostedRowIn_19 (kI (fun H locs hw => ?_))
    refine lv_if_eq (tgt := 29) hx hb dJO_isPostedRowIn_22 (by decide) (fun c4 => ?_) (fun c4 => ?_)
    · have hF := hF.trans (if_pos c4)
      refine lv_iconst (v := 0) hx hb dJO_isPostedRowIn_29 (by decide) ?_
      exact V_zret B hr hlk hw (by decide) (pI_r hF) dJO_isPostedRowIn_30
    · have hF := hF.trans (if_neg c4)
      refine lv_iconst (v := 1) hx hb dJO_isPostedRowIn_25 (by decide) ?_
      refine lv_goto (tgt := 30) hx hb dJO_isPostedRowIn_26 (by decide) ?_
      exact V_zret B hr hlk hw (by decide) (pI_r hF) dJO_isPostedRowIn_30
set_option maxHeartbeats 4000000 in
set_option maxRecDepth 100000 in
theorem LPJO_toldRow_15 (l : Launch) {ad : Nat → Nat} {cI cL : ClassId} {dC : Nat → ClassId} {dI : Nat → Nat → Nat} (hi : adI ad) {p : Program} {e : Env} {s : State} {m : MethodId} {args : Array Value} {below : List Frame} {meth : Method} {c : Code} {A : Nat → Prop} {post : Option Value → hS → Prop} (B : Bs p s m args c RJO bJO_toldRow 7 cI cL dC dI) (hr : meth.sig.returnType = (some .int)) (hlk : meth.locks = false) (hA : ∀ q, AA ad s.heap.size q → A q) : ∀ (n : Nat) (S : hS) (x1 : Int32) (x2 : Int32) (x3 : Int32) (x4 : Int32) (x5 : Int32) (x6 : Int32) (H : Heap) (locs : List Loc) (ls : Array Slot), wfC S ∧ lp x6 x5 → ((x5.toInt - x6.toInt).toNat) < n → Wd ad cI cL dC dI A s.heap S H locs → lv_has ls 7 [(0, .ref (ad 10)), (1, .int x1), (2, .int x2), (3, .int x3), (4, .int x4), (5, .int x5), (6, .int x6)] → (∀ (v : Int32), LJO_toldRow_15 n S x1 x2 x3 x4 x5 x6 = .inl v → post (some (.int v)) S) → (∀ (H : Heap) (locs : List Loc) (ls : Array Slot) (y4 : Int32) (y6 : Int32), LJO_toldRow_15 n S x1 x2 x3 x4 x5 x6 = .inr (y4, y6) → Wd ad cI cL dC dI A s.heap S H locs → lv_has ls 7 [(0, .ref (ad 10)), (1, .int x1), (2, .int x2), (3, .int x3), (4, .int y4), (5, .int x5), (6, .int y6)] → W p l e ({ frames := 2, cells := 0, slots := 0, locals := 46 } : Room) s m args below meth c H locs 0 0 (MQ below (QcW ad cI cL dC dI post A) args s 0 0 A) (F0 m 54 ls [])) → W p l e ({ frames := 2, cells := 0, slots := 0, locals := 46 } : Room) s m args below meth c H locs 0 0 (MQ below (QcW ad cI cL dC dI post A) args s 0 0 A) (F0 m 15 ls []) := by
  intro n
  obtain ⟨hx, hb, -, hown, hts, -, -⟩ := id B
  induction n with
  | zero => exact fun S x1 x2 x3 x4 x5 x6 H locs ls _ hmu => absurd hmu (Nat.not_lt_zero _)
  | succ n ih =>
    intro S x1 x2 x3 x4 x5 x6 H locs ls hJ hmu hw hl hret hexit
    have hF := LJO_toldRow_15_s n S x1 x2 x3 x4 x5 x6
    refine lv_iload hx hb dJO_toldRow_15 (lv_at hl 6 rfl) ?_
    refine lv_iload hx hb dJO_toldRow_17 (lv_at hl 5 rfl) ?_
    refine lv_icmp_ge (tgt := 54) hx hb dJO_toldRow_19 (by decide) (fun c1 => ?_) (fun c1 => ?_)
    · have hF := hF.trans (if_pos c1)
      exact hexit _ _ _ x4 x6 hF hw (lv_sub hl [0, 1, 2, 3, 4, 5, 6] rfl)
    · have hF := hF.trans (if_neg c1)
      refine lv_aload_n hx hb dJO_toldRow_22 rfl (lv_at hl 0 rfl) ?_
      refine lv_iload hx hb dJO_toldRow_23 (lv_at hl 6 rfl) ?_
      refine lv_iload_n hx hb dJO_toldRow_25 rfl (lv_at hl 1 rfl) ?_
      refine lv_iload_n hx hb dJO_toldRow_26 rfl (lv_at hl 2 rfl) ?_
      refine V_callV (rest := []) B hi hw hA hl.1 (M_FJO_isPostedRowIn l hi S x6 x1 x2 (vc_FJO_toldRow_pre27_2 S x1 x2 x3 x4 x5 x6 hJ c1)) (cw_FJO_isPostedRowIn (Nat.le_of_ble_eq_true rfl) (Nat.le_of_ble_eq_true rfl) (Nat.zero_le _) (Nat.zero_le _)) (by decide) rfl rfl wm_217 wm_218 wm_219 rfl (Nat.le_of_ble_eq_true rfl) dJO_toldRow_27 (kI (fun H locs hw => ?_))
      refine lv_if_eq (tgt := 48) hx hb dJO_toldRow_30 (by decide) (fun c3 => ?_) (fun c3 => ?_)
      · have hF := hF.trans (if_pos c3)
        refine lv_iinc (v := x6 + 1) (lv' := [(6, .int (x6 + 1)), (0, .ref (ad 10)), (1, .int x1), (2, .int x2), (3, .int x3), (4, .int x4), (5, .int x5)]) hx hb dJO_toldRow_48 hl (k := 6) rfl rfl (by decide) rfl (fun ls hl => ?_)
        refine lv_goto (tgt := 15) hx hb dJO_toldRow_51 (by decide) ?_
        exact ih S x1 x2 x3 x4 x5 (x6 + 1) _ _ _ (vc_FJO_toldRow_inv15_4 S x1 x2 x3 x4 x5 x6 hJ c1 c3) (Nat.lt_of_lt_of_le (vc_FJO_toldRow_mu15_5 S x1 x2 x3 x4 x5 x6 hJ c1 c3) (Nat.le_of_lt_succ hmu)) hw (lv_sub hl [1, 2, 3, 4, 5, 6, 0] rfl) (fun v h => hret v (hF.trans h)) (fun H locs ls y4 y6 h hw hl => hexit H locs ls y4 y6 (hF.trans h) hw hl)
      · have hF := hF.trans (if_neg c3)
        refine lv_iload hx hb dJO_toldRow_33 (lv_at hl 4 rfl) ?_
        refine lv_iload_n hx hb dJO_toldRow_35 rfl (lv_at hl 3 rfl) ?_
        refine lv_icmp_ne (tgt := 45) hx hb dJO_toldRow_36 (by decide) (fun c6 => ?_) (fun c6 => ?_)
        · have hF := hF.trans (if_neg c6)
          refine lv_iinc (v := x4 + 1) (lv' := [(4, .int (x4 + 1)), (0, .ref (ad 10)), (1, .int x1), (2, .int x2), (3, .int x3), (5, .int x5), (6, .int x6)]) hx hb dJO_toldRow_45 hl (k := 4) rfl rfl (by decide) rfl (fun ls hl => ?_)
          refine lv_iinc (v := x6 + 1) (lv' := [(6, .int (x6 + 1)), (4, .int (x4 + 1)), (0, .ref (ad 10)), (1, .int x1), (2, .int x2), (3, .int x3), (5, .int x5)]) hx hb dJO_toldRow_48 hl (k := 6) rfl rfl (by decide) rfl (fun ls hl => ?_)
          refine lv_goto (tgt := 15) hx hb dJO_toldRow_51 (by decide) ?_
          exact ih S x1 x2 x3 (x4 + 1) x5 (x6 + 1) _ _ _ (vc_FJO_toldRow_inv15_7 S x1 x2 x3 x4 x5 x6 hJ c1 c3 c6) (Nat.lt_of_lt_of_le (vc_FJO_toldRow_mu15_8 S x1 x2 x3 x4 x5 x6 hJ c1 c3 c6) (Nat.le_of_lt_succ hmu)) hw (lv_sub hl [2, 3, 4, 5, 1, 6, 0] rfl) (fun v h => hret v (hF.trans h)) (fun H locs ls y4 y6 h hw hl => hexit H locs ls y4 y6 (hF.trans h) hw hl)
        · have hF := hF.trans (if_pos c6)
          refine lv_iload hx hb dJO_toldRow_39 (lv_at hl 6 rfl) ?_
          refine V_callS (rest := []) B hi hw hA hl.1 (M_FJO_told l hi S x6) (cw_FJO_told (Nat.le_of_ble_eq_true rfl) (Nat.le_of_ble_eq_true rfl) (Nat.zero_le _) (Nat.zero_le _)) wm_106 wm_107 rfl (Nat.le_of_ble_eq_true rfl) dJO_toldRow_41 (kI (fun H locs hw => ?_))
          exact V_iret B hr hlk hw (hret _ hF) dJO_toldRow_44
theorem cw_FJO_toldRow {R : Room} {cells slots : Nat} (h1 : 3 ≤ R.frames) (h2 : 72 ≤ R.locals) (h3 : cells ≤ R.cells) (h4 : slots ≤ R.slots) : Cw R cells slots yJO_toldRow bJO_toldRow 7 (some .int) ({ frames := 2, cells := 0, slots := 0, locals := 46 } : Room) 3 := ⟨wm_419, wm_358, by decide +kernel, ⟨rfl, rfl, h1, h2⟩, h3, h4⟩
set_option maxHeartbeats 4000000 in
set_option maxRecDepth 100000 in
theorem M_FJO_toldRow (l : Launch) {ad : Nat → Nat} {cI cL : ClassId} {dC : Nat → ClassId} {dI : Nat → Nat → Nat} (hi : adI ad) (S : hS) (x1 : Int32) (x2 : Int32) (x3 : Int32) (hp : wfC S) : Mt l ad cI cL dC dI yJO_toldRow bJO_toldRow 7 (some .int) ({ frames := 2, cells := 0, slots := 0, locals := 46 } : Room) [.ref (ad 10), .int x1, .int x2, .int x3] S (pI (FJO_toldRow S x1 x2 x3) S) := by
  refine Mt_of (own := RJO) hi (by decide) rfl (Nat.le_of_ble_eq_true rfl) ?_
  intro p e s m args below meth c ls B hr hlk hw hl
  obtain ⟨hx, hb, -, hown, hts, -, -⟩ := id B
  have hA : ∀ q, AA ad s.heap.size q → AA ad s.heap.size q := fun _ h => h
  have hl : lv_has ls 7 [(0, .ref (ad 10)), (1, .int x1), (2, .int x2), (3, .int x3)] := hl
  have hF := FJO_toldRow_e S x1 x2 x3
  refine lv_iconst (v := 0) hx hb dJO_toldRow_0 (by decide) ?_
  refine lv_istore (lv' := [(4, .int 0), (0, .ref (ad 10)), (1, .int x1), (2, .int x2), (3, .int x3)]) hx hb dJO_toldRow_1 hl (by decide) rfl (fun ls hl => ?_)
  refine lv_aload_n hx hb dJO_toldRow_3 rfl (lv_at hl 1 rfl) ?_
  refine V_get B hw (v := .int (S.1 10 0)) (by decide) rfl rfl hin_JO 0 (by decide) rfl wm_23 rfl dJO_toldRow_4 ?_
  refine lv_bipush (v := 6) hx hb dJO_toldRow_7 (by decide) ?_
  refine lv_imul hx hb dJO_toldRow_9 ?_
  refine lv_istore (lv' := [(5, .int ((S.1 10 0) * 6)), (4, .int 0), (0, .ref (ad 10)), (1, .int x1), (2, .int x2), (3, .int x3)]) hx hb dJO_toldRow_10 hl (by decide) rfl (fun ls hl => ?_)
  refine lv_iconst (v := 0) hx hb dJO_toldRow_12 (by decide) ?_
  refine lv_istore (lv' := [(6, .int 0), (5, .int ((S.1 10 0) * 6)), (4, .int 0), (0, .ref (ad 10)), (1, .int x1), (2, .int x2), (3, .int x3)]) hx hb dJO_toldRow_13 hl (by decide) rfl (fun ls hl => ?_)
  refine LPJO_toldRow_15 l hi B hr hlk hA 300 S x1 x2 x3 0 ((S.1 10 0) * 6) 0 _ _ _ (vc_FJO_toldRow_inv015_10 S x1 x2 x3 hp) (vc_FJO_toldRow_mu015_11 S x1 x2 x3 hp) hw (lv_sub hl [3, 4, 5, 6, 2, 1, 0] rfl) (fun v hq => by rw [hq, Sum.elim_inl] at hF; exact pI_r hF) (fun H locs ls y9_4 y9_6 hq9 hw hl => ?_)
  rw [hq9, Sum.elim_inr] at hF; try dsimp only at hF
  refine lv_iconst (v := (-1)) hx hb dJO_toldRow_54 (by decide) ?_
  exact V_iret B hr hlk hw (pI_r hF) dJO_toldRow_55
theorem cw_FHL_statement {R : Room} {cells slots : Nat} (h1 : 4 ≤ R.frames) (h2 : 95 ≤ R.locals) (h3 : cells ≤ R.cells) (h4 : slots ≤ R.slots) : Cw R cells slots yHL_statement bHL_statement 4 (some .int) ({ frames := 3, cells := 0, slots := 0, locals := 72 } : Room) 3 := ⟨wm_420, wm_353, by decide +kernel, ⟨rfl, rfl, h1, h2⟩, h3, h4⟩
set_option maxHeartbeats 4000000 in
set_option maxRecDepth 100000 in
theorem M_FHL_statement (l : Launch) {ad : Nat → Nat} {cI cL : ClassId} {dC : Nat → ClassId} {dI : Nat → Nat → Nat} (hi : adI ad) (S : hS) (x1 : Int32) (x2 : Int32) (x3 : Int32) (hp : wfC S) : Mt l ad cI cL dC dI yHL_statement bHL_statement 4 (some .int) ({ frames := 3, cells := 0, slots := 0, locals := 72 } : Room) [.ref (ad 0), .int x1, .int x2, .int x3] S (pI (FHL_statement S x1 x2 x3) S) := by
  refine Mt_of (own := RHL) hi (by decide) rfl (Nat.le_of_ble_eq_true rfl) ?_
  intro p e s m args below meth c ls B hr hlk hw hl
  obtain ⟨hx, hb, -, hown, hts, -, -⟩ := id B
  have hA : ∀ q, AA ad s.heap.size q → AA ad s.heap.size q := fun _ h => h
  have hl : lv_has ls 4 [(0, .ref (ad 0)), (1, .int x1), (2, .int x2), (3, .int x3)] := hl
  have hF := FHL_statement_e S x1 x2 x3
  refine lv_aload_n hx hb dHL_statement_0 rfl (lv_at hl 0 rfl) ?_
  refine V_get B hw (v := .ref (ad 1)) (by decide) rfl rfl hin_HL 0 (by decide) rfl wm_0 rfl dHL_statement_1 ?_
  refine V_getN B hw (v := .ref (ad 2)) (by decide) rfl rfl hin_BO 0 (by decide) rfl wn_1 rfl dHL_statement_4 ?_
  refine lv_iload_n hx hb dHL_statement_7 rfl (lv_at hl 1 rfl) ?_
  refine V_callVN (rest := []) B hi hw hA hl.1 (M_FAC_has l hi S x1 (vc_FHL_statement_pre8_1 S x1 x2 x3 hp)) (cw_FAC_has (Nat.le_of_ble_eq_true rfl) (Nat.le_of_ble_eq_true rfl) (Nat.zero_le _) (Nat.zero_le _)) (by decide) rfl rfl wn_37 wm_38 wm_39 rfl (Nat.le_of_ble_eq_true rfl) dHL_statement_8 (kI (fun H locs hw => ?_))
  refine lv_if_eq (tgt := 21) hx hb dHL_statement_11 (by decide) (fun c2 => ?_) (fun c2 => ?_)
  · have hF := hF.trans (if_pos c2)
    refine lv_iconst (v := (-1)) hx hb dHL_statement_21 (by decide) ?_
    exact V_iret B hr hlk hw (pI_r hF) dHL_statement_22
  · have hF := hF.trans (if_neg c2)
    refine lv_iload_n hx hb dHL_statement_14 rfl (lv_at hl 2 rfl) ?_
    refine V_callS (rest := []) B hi hw hA hl.1 (M_FHL_isMonth l hi S x2) (cw_FHL_isMonth (Nat.le_of_ble_eq_true rfl) (Nat.le_of_ble_eq_true rfl) (Nat.zero_le _) (Nat.zero_le _)) wm_152 wm_153 rfl (Nat.le_of_ble_eq_true rfl) dHL_statement_15 (kI (fun H locs hw => ?_))
    refine lv_if_ne (tgt := 23) hx hb dHL_statement_18 (by decide) (fun c3 => ?_) (fun c3 => ?_)
    · have hF := hF.trans (if_neg c3)
      refine lv_aload_n hx hb dHL_statement_23 rfl (lv_at hl 0 rfl) ?_
      refine V_get B hw (v := .ref (ad 1)) (by decide) rfl rfl hin_HL 0 (by decide) rfl wm_0 rfl dHL_statement_24 ?_
      refine V_getN B hw (v := .ref (ad 10)) (by decide) rfl rfl hin_BO 1 (by decide) rfl wn_22 rfl dHL_statement_27 ?_
      refine lv_iload_n hx hb dHL_statement_30 rfl (lv_at hl 1 rfl) ?_
      refine lv_iload_n hx hb dHL_statement_31 rfl (lv_at hl 2 rfl) ?_
      refine lv_iload_n hx hb dHL_statement_32 rfl (lv_at hl 3 rfl) ?_
      refine V_callVN (rest := []) B hi hw hA hl.1 (M_FJO_toldRow l hi S x1 x2 x3 (vc_FHL_statement_pre33_4 S x1 x2 x3 hp c2 c3)) (cw_FJO_toldRow (Nat.le_of_ble_eq_true rfl) (Nat.le_of_ble_eq_true rfl) (Nat.zero_le _) (Nat.zero_le _)) (by decide) rfl rfl wn_220 wm_221 wm_222 rfl (Nat.le_of_ble_eq_true rfl) dHL_statement_33 (kI (fun H locs hw => ?_))
      exact V_iret B hr hlk hw (pI_r hF) dHL_statement_36
    · have hF := hF.trans (if_pos c3)
      refine lv_iconst (v := (-1)) hx hb dHL_statement_21 (by decide) ?_
      exact V_iret B hr hlk hw (pI_r hF) dHL_statement_22
set_option maxHeartbeats 4000000 in
set_option maxRecDepth 100000 in
theorem LPJO_sumIn_14 (l : Launch) {ad : Nat → Nat} {cI cL : ClassId} {dC : Nat → ClassId} {dI : Nat → Nat → Nat} (hi : adI ad) {p : Program} {e : Env} {s : State} {m : MethodId} {args : Array Value} {below : List Frame} {meth : Method} {c : Code} {A : Nat → Prop} {post : Option Value → hS → Prop} (B : Bs p s m args c RJO bJO_sumIn 7 cI cL dC dI) (hr : meth.sig.returnType = (some .long)) (hlk : meth.locks = false) (hA : ∀ q, AA ad s.heap.size q → A q) : ∀ (n : Nat) (S : hS) (x1 : Int32) (x2 : Int32) (x3 : Int64) (x5 : Int32) (x6 : Int32) (H : Heap) (locs : List Loc) (ls : Array Slot), wfC S ∧ lp x6 x5 → ((x5.toInt - x6.toInt).toNat) < n → Wd ad cI cL dC dI A s.heap S H locs → lv_has ls 7 [(0, .ref (ad 10)), (1, .int x1), (2, .int x2), (3, .long x3), (5, .int x5), (6, .int x6)] → (∀ (H : Heap) (locs : List Loc) (ls : Array Slot) (y3 : Int64) (y6 : Int32), LJO_sumIn_14 n S x1 x2 x3 x5 x6 = (y3, y6) → Wd ad cI cL dC dI A s.heap S H locs → lv_has ls 7 [(0, .ref (ad 10)), (1, .int x1), (2, .int x2), (3, .long y3), (5, .int x5), (6, .int y6)] → W p l e ({ frames := 2, cells := 0, slots := 0, locals := 46 } : Room) s m args below meth c H locs 0 0 (MQ below (QcW ad cI cL dC dI post A) args s 0 0 A) (F0 m 48 ls [])) → W p l e ({ frames := 2, cells := 0, slots := 0, locals := 46 } : Room) s m args below meth c H locs 0 0 (MQ below (QcW ad cI cL dC dI post A) args s 0 0 A) (F0 m 14 ls []) := by
  intro n
  obtain ⟨hx, hb, -, hown, hts, -, -⟩ := id B
  induction n with
  | zero => exact fun S x1 x2 x3 x5 x6 H locs ls _ hmu => absurd hmu (Nat.not_lt_zero _)
  | succ n ih =>
    intro S x1 x2 x3 x5 x6 H locs ls hJ hmu hw hl hexit
    have hF := LJO_sumIn_14_s n S x1 x2 x3 x5 x6
    refine lv_iload hx hb dJO_sumIn_14 (lv_at hl 5 rfl) ?_
    refine lv_iload hx hb dJO_sumIn_16 (lv_at hl 4 rfl) ?_
    refine lv_icmp_ge (tgt := 48) hx hb dJO_sumIn_18 (by decide) (fun c1 => ?_) (fun c1 => ?_)
    · have hF := hF.trans (if_pos c1)
      exact hexit _ _ _ x3 x6 hF hw (lv_sub hl [0, 1, 2, 3, 4, 5] rfl)
    · have hF := hF.trans (if_neg c1)
      refine lv_aload_n hx hb dJO_sumIn_21 rfl (lv_at hl 0 rfl) ?_
      refine lv_iload hx hb dJO_sumIn_22 (lv_at hl 5 rfl) ?_
      refine lv_iload_n hx hb dJO_sumIn_24 rfl (lv_at hl 1 rfl) ?_
      refine lv_iload_n hx hb dJO_sumIn_25 rfl (lv_at hl 2 rfl) ?_
      refine V_callV (rest := []) B hi hw hA hl.1 (M_FJO_isPostedRowIn l hi S x6 x1 x2 (vc_FJO_sumIn_pre26_2 S x1 x2 x3 x5 x6 hJ c1)) (cw_FJO_isPostedRowIn (Nat.le_of_ble_eq_true rfl) (Nat.le_of_ble_eq_true rfl) (Nat.zero_le _) (Nat.zero_le _)) (by decide) rfl rfl wm_217 wm_218 wm_219 rfl (Nat.le_of_ble_eq_true rfl) dJO_sumIn_26 (kI (fun H locs hw => ?_))
      refine lv_if_eq (tgt := 42) hx hb dJO_sumIn_29 (by decide) (fun c3 => ?_) (fun c3 => ?_)
      · have hF := hF.trans (if_pos c3)
        refine lv_iinc (v := x6 + 1) (lv' := [(6, .int (x6 + 1)), (0, .ref (ad 10)), (1, .int x1), (2, .int x2), (3, .long x3), (5, .int x5)]) hx hb dJO_sumIn_42 hl (k := 5) rfl rfl (by decide) rfl (fun ls hl => ?_)
        refine lv_goto (tgt := 14) hx hb dJO_sumIn_45 (by decide) ?_
        exact ih S x1 x2 x3 x5 (x6 + 1) _ _ _ (vc_FJO_sumIn_inv14_4 S x1 x2 x3 x5 x6 hJ c1 c3) (Nat.lt_of_lt_of_le (vc_FJO_sumIn_mu14_5 S x1 x2 x3 x5 x6 hJ c1 c3) (Nat.le_of_lt_succ hmu)) hw (lv_sub hl [1, 2, 3, 4, 5, 0] rfl) (fun H locs ls y3 y6 h hw hl => hexit H locs ls y3 y6 (hF.trans h) hw hl)
      · have hF := hF.trans (if_neg c3)
        refine lv_lload_n hx hb dJO_sumIn_32 rfl (lv_at hl 3 rfl) ?_
        refine lv_aload_n hx hb dJO_sumIn_33 rfl (lv_at hl 0 rfl) ?_
        refine V_get B hw (v := .ref (ad 16)) (by decide) rfl rfl hin_JO 6 (by decide) rfl wm_43 rfl dJO_sumIn_34 ?_
        refine lv_iload hx hb dJO_sumIn_37 (lv_at hl 5 rfl) ?_
        refine V_lald (j := x6.toNatClampNeg) (v := S.2 16 x6.toNatClampNeg) B hw (by decide) rfl (vc_FJO_sumIn_ix39_6 S x1 x2 x3 x5 x6 hJ c1 c3) rfl rfl dJO_sumIn_39 ?_
        refine lv_ladd hx hb dJO_sumIn_40 ?_
        refine lv_lstore_n (lv' := [(3, .long (x3 + (S.2 16 x6.toNatClampNeg))), (0, .ref (ad 10)), (1, .int x1), (2, .int x2), (5, .int x5), (6, .int x6)]) hx hb dJO_sumIn_41 rfl hl (by decide) rfl (fun ls hl => ?_)
        refine lv_iinc (v := x6 + 1) (lv' := [(6, .int (x6 + 1)), (3, .long (x3 + (S.2 16 x6.toNatClampNeg))), (0, .ref (ad 10)), (1, .int x1), (2, .int x2), (5, .int x5)]) hx hb dJO_sumIn_42 hl (k := 5) rfl rfl (by decide) rfl (fun ls hl => ?_)
        refine lv_goto (tgt := 14) hx hb dJO_sumIn_45 (by decide) ?_
        exact ih S x1 x2 (x3 + (S.2 16 x6.toNatClampNeg)) x5 (x6 + 1) _ _ _ (vc_FJO_sumIn_inv14_7 S x1 x2 x3 x5 x6 hJ c1 c3) (Nat.lt_of_lt_of_le (vc_FJO_sumIn_mu14_8 S x1 x2 x3 x5 x6 hJ c1 c3) (Nat.le_of_lt_succ hmu)) hw (lv_sub hl [2, 3, 4, 1, 5, 0] rfl) (fun H locs ls y3 y6 h hw hl => hexit H locs ls y3 y6 (hF.trans h) hw hl)
theorem cw_FJO_sumIn {R : Room} {cells slots : Nat} (h1 : 3 ≤ R.frames) (h2 : 72 ≤ R.locals) (h3 : cells ≤ R.cells) (h4 : slots ≤ R.slots) : Cw R cells slots yJO_sumIn bJO_sumIn 7 (some .long) ({ frames := 2, cells := 0, slots := 0, locals := 46 } : Room) 2 := ⟨wm_421, wm_358, by decide +kernel, ⟨rfl, rfl, h1, h2⟩, h3, h4⟩
set_option maxHeartbeats 4000000 in
set_option maxRecDepth 100000 in
theorem M_FJO_sumIn (l : Launch) {ad : Nat → Nat} {cI cL : ClassId} {dC : Nat → ClassId} {dI : Nat → Nat → Nat} (hi : adI ad) (S : hS) (x1 : Int32) (x2 : Int32) (hp : wfC S) : Mt l ad cI cL dC dI yJO_sumIn bJO_sumIn 7 (some .long) ({ frames := 2, cells := 0, slots := 0, locals := 46 } : Room) [.ref (ad 10), .int x1, .int x2] S (pL (FJO_sumIn S x1 x2) S) := by
  refine Mt_of (own := RJO) hi (by decide) rfl (Nat.le_of_ble_eq_true rfl) ?_
  intro p e s m args below meth c ls B hr hlk hw hl
  obtain ⟨hx, hb, -, hown, hts, -, -⟩ := id B
  have hA : ∀ q, AA ad s.heap.size q → AA ad s.heap.size q := fun _ h => h
  have hl : lv_has ls 7 [(0, .ref (ad 10)), (1, .int x1), (2, .int x2)] := hl
  have hF := FJO_sumIn_e S x1 x2
  refine lv_lconst (v := 0) hx hb dJO_sumIn_0 (by decide) ?_
  refine lv_lstore_n (lv' := [(3, .long 0), (0, .ref (ad 10)), (1, .int x1), (2, .int x2)]) hx hb dJO_sumIn_1 rfl hl (by decide) rfl (fun ls hl => ?_)
  refine lv_aload_n hx hb dJO_sumIn_2 rfl (lv_at hl 1 rfl) ?_
  refine V_get B hw (v := .int (S.1 10 0)) (by decide) rfl rfl hin_JO 0 (by decide) rfl wm_23 rfl dJO_sumIn_3 ?_
  refine lv_bipush (v := 6) hx hb dJO_sumIn_6 (by decide) ?_
  refine lv_imul hx hb dJO_sumIn_8 ?_
  refine lv_istore (lv' := [(5, .int ((S.1 10 0) * 6)), (3, .long 0), (0, .ref (ad 10)), (1, .int x1), (2, .int x2)]) hx hb dJO_sumIn_9 hl (by decide) rfl (fun ls hl => ?_)
  refine lv_iconst (v := 0) hx hb dJO_sumIn_11 (by decide) ?_
  refine lv_istore (lv' := [(6, .int 0), (5, .int ((S.1 10 0) * 6)), (3, .long 0), (0, .ref (ad 10)), (1, .int x1), (2, .int x2)]) hx hb dJO_sumIn_12 hl (by decide) rfl (fun ls hl => ?_)
  refine LPJO_sumIn_14 l hi B hr hlk hA 300 S x1 x2 0 ((S.1 10 0) * 6) 0 _ _ _ (vc_FJO_sumIn_inv014_10 S x1 x2 hp) (vc_FJO_sumIn_mu014_11 S x1 x2 hp) hw (lv_sub hl [3, 4, 5, 2, 1, 0] rfl) (fun H locs ls y9_3 y9_6 hq9 hw hl => ?_)
  rw [hq9] at hF; try dsimp only at hF
  refine lv_lload_n hx hb dJO_sumIn_48 rfl (lv_at hl 3 rfl) ?_
  exact V_lret B hr hlk hw (pL_r hF) dJO_sumIn_49
set_option maxHeartbeats 4000000 in
set_option maxRecDepth 100000 in
theorem LPBO_incomeOf_5 (l : Launch) {ad : Nat → Nat} {cI cL : ClassId} {dC : Nat → ClassId} {dI : Nat → Nat → Nat} (hi : adI ad) {p : Program} {e : Env} {s : State} {m : MethodId} {args : Array Value} {below : List Frame} {meth : Method} {c : Code} {A : Nat → Prop} {post : Option Value → hS → Prop} (B : Bs p s m args c RBO bBO_incomeOf 5 cI cL dC dI) (hr : meth.sig.returnType = (some .long)) (hlk : meth.locks = false) (hA : ∀ q, AA ad s.heap.size q → A q) : ∀ (n : Nat) (S : hS) (x1 : Int32) (x2 : Int64) (x4 : Int32) (H : Heap) (locs : List Loc) (ls : Array Slot), wfC S ∧ 0 ≤ x4.toInt → (((S.1 2 0).toInt - x4.toInt).toNat) < n → Wd ad cI cL dC dI A s.heap S H locs → lv_has ls 5 [(0, .ref (ad 1)), (1, .int x1), (2, .long x2), (4, .int x4)] → (∀ (H : Heap) (locs : List Loc) (ls : Array Slot) (y2 : Int64) (y4 : Int32), LBO_incomeOf_5 n S x1 x2 x4 = (y2, y4) → Wd ad cI cL dC dI A s.heap S H locs → lv_has ls 5 [(0, .ref (ad 1)), (1, .int x1), (2, .long y2), (4, .int y4)] → W p l e ({ frames := 3, cells := 0, slots := 0, locals := 72 } : Room) s m args below meth c H locs 0 0 (MQ below (QcW ad cI cL dC dI post A) args s 0 0 A) (F0 m 50 ls [])) → W p l e ({ frames := 3, cells := 0, slots := 0, locals := 72 } : Room) s m args below meth c H locs 0 0 (MQ below (QcW ad cI cL dC dI post A) args s 0 0 A) (F0 m 5 ls []) := by
  intro n
  obtain ⟨hx, hb, -, hown, hts, -, -⟩ := id B
  induction n with
  | zero => exact fun S x1 x2 x4 H locs ls _ hmu => absurd hmu (Nat.not_lt_zero _)
  | succ n ih =>
    intro S x1 x2 x4 H locs ls hJ hmu hw hl hexit
    have hF := LBO_incomeOf_5_s n S x1 x2 x4
    refine lv_iload hx hb dBO_incomeOf_5 (lv_at hl 3 rfl) ?_
    refine lv_aload_n hx hb dBO_incomeOf_7 rfl (lv_at hl 0 rfl) ?_
    refine V_get B hw (v := .ref (ad 2)) (by decide) rfl rfl hin_BO 0 (by decide) rfl wm_57 rfl dBO_incomeOf_8 ?_
    refine V_getN B hw (v := .int (S.1 2 0)) (by decide) rfl rfl hin_AC 0 (by decide) rfl wn_223 rfl dBO_incomeOf_11 ?_
    refine lv_icmp_ge (tgt := 50) hx hb dBO_incomeOf_14 (by decide) (fun c1 => ?_) (fun c1 => ?_)
    · have hF := hF.trans (if_pos c1)
      exact hexit _ _ _ x2 x4 hF hw (lv_sub hl [0, 1, 2, 3] rfl)
    · have hF := hF.trans (if_neg c1)
      refine lv_aload_n hx hb dBO_incomeOf_17 rfl (lv_at hl 0 rfl) ?_
      refine V_get B hw (v := .ref (ad 2)) (by decide) rfl rfl hin_BO 0 (by decide) rfl wm_57 rfl dBO_incomeOf_18 ?_
      refine V_getN B hw (v := .ref (ad 3)) (by decide) rfl rfl hin_AC 1 (by decide) rfl wn_224 rfl dBO_incomeOf_21 ?_
      refine lv_iload hx hb dBO_incomeOf_24 (lv_at hl 3 rfl) ?_
      refine V_iald (j := x4.toNatClampNeg) (v := S.1 3 x4.toNatClampNeg) B hw (by decide) rfl (vc_FBO_incomeOf_ix26_2 S x1 x2 x4 hJ c1) rfl rfl dBO_incomeOf_26 ?_
      refine lv_iconst (v := 2) hx hb dBO_incomeOf_27 (by decide) ?_
      refine lv_icmp_ne (tgt := 44) hx hb dBO_incomeOf_28 (by decide) (fun c3 => ?_) (fun c3 => ?_)
      · have hF := hF.trans (if_neg c3)
        refine lv_iinc (v := x4 + 1) (lv' := [(4, .int (x4 + 1)), (0, .ref (ad 1)), (1, .int x1), (2, .long x2)]) hx hb dBO_incomeOf_44 hl (k := 3) rfl rfl (by decide) rfl (fun ls hl => ?_)
        refine lv_goto (tgt := 5) hx hb dBO_incomeOf_47 (by decide) ?_
        exact ih S x1 x2 (x4 + 1) _ _ _ (vc_FBO_incomeOf_inv5_4 S x1 x2 x4 hJ c1 c3) (Nat.lt_of_lt_of_le (vc_FBO_incomeOf_mu5_5 S x1 x2 x4 hJ c1 c3) (Nat.le_of_lt_succ hmu)) hw (lv_sub hl [1, 2, 3, 0] rfl) (fun H locs ls y2 y4 h hw hl => hexit H locs ls y2 y4 (hF.trans h) hw hl)
      · have hF := hF.trans (if_pos c3)
        refine lv_lload_n hx hb dBO_incomeOf_31 rfl (lv_at hl 2 rfl) ?_
        refine lv_aload_n hx hb dBO_incomeOf_32 rfl (lv_at hl 0 rfl) ?_
        refine V_get B hw (v := .ref (ad 10)) (by decide) rfl rfl hin_BO 1 (by decide) rfl wm_54 rfl dBO_incomeOf_33 ?_
        refine lv_iload hx hb dBO_incomeOf_36 (lv_at hl 3 rfl) ?_
        refine lv_iload_n hx hb dBO_incomeOf_38 rfl (lv_at hl 1 rfl) ?_
        refine V_callVN (rest := [.long x2]) B hi hw hA hl.1 (M_FJO_sumIn l hi S x4 x1 (vc_FBO_incomeOf_pre39_6 S x1 x2 x4 hJ c1 c3)) (cw_FJO_sumIn (Nat.le_of_ble_eq_true rfl) (Nat.le_of_ble_eq_true rfl) (Nat.zero_le _) (Nat.zero_le _)) (by decide) rfl rfl wn_225 wm_226 wm_227 rfl (Nat.le_of_ble_eq_true rfl) dBO_incomeOf_39 (kL (fun H locs hw => ?_))
        refine lv_ladd hx hb dBO_incomeOf_42 ?_
        refine lv_lstore_n (lv' := [(2, .long (x2 + (FJO_sumIn S x4 x1))), (0, .ref (ad 1)), (1, .int x1), (4, .int x4)]) hx hb dBO_incomeOf_43 rfl hl (by decide) rfl (fun ls hl => ?_)
        refine lv_iinc (v := x4 + 1) (lv' := [(4, .int (x4 + 1)), (2, .long (x2 + (FJO_sumIn S x4 x1))), (0, .ref (ad 1)), (1, .int x1)]) hx hb dBO_incomeOf_44 hl (k := 3) rfl rfl (by decide) rfl (fun ls hl => ?_)
        refine lv_goto (tgt := 5) hx hb dBO_incomeOf_47 (by decide) ?_
        exact ih S x1 (x2 + (FJO_sumIn S x4 x1)) (x4 + 1) _ _ _ (vc_FBO_incomeOf_inv5_7 S x1 x2 x4 hJ c1 c3) (Nat.lt_of_lt_of_le (vc_FBO_incomeOf_mu5_8 S x1 x2 x4 hJ c1 c3) (Nat.le_of_lt_succ hmu)) hw (lv_sub hl [2, 3, 1, 0] rfl) (fun H locs ls y2 y4 h hw hl => hexit H locs ls y2 y4 (hF.trans h) hw hl)
theorem cw_FBO_incomeOf {R : Room} {cells slots : Nat} (h1 : 4 ≤ R.frames) (h2 : 96 ≤ R.locals) (h3 : cells ≤ R.cells) (h4 : slots ≤ R.slots) : Cw R cells slots yBO_incomeOf bBO_incomeOf 5 (some .long) ({ frames := 3, cells := 0, slots := 0, locals := 72 } : Room) 1 := ⟨wm_422, wm_356, by decide +kernel, ⟨rfl, rfl, h1, h2⟩, h3, h4⟩
set_option maxHeartbeats 4000000 in
set_option maxRecDepth 100000 in
theorem M_FBO_incomeOf (l : Launch) {ad : Nat → Nat} {cI cL : ClassId} {dC : Nat → ClassId} {dI : Nat → Nat → Nat} (hi : adI ad) (S : hS) (x1 : Int32) (hp : wfC S) : Mt l ad cI cL dC dI yBO_incomeOf bBO_incomeOf 5 (some .long) ({ frames := 3, cells := 0, slots := 0, locals := 72 } : Room) [.ref (ad 1), .int x1] S (pL (FBO_incomeOf S x1) S) := by
  refine Mt_of (own := RBO) hi (by decide) rfl (Nat.le_of_ble_eq_true rfl) ?_
  intro p e s m args below meth c ls B hr hlk hw hl
  obtain ⟨hx, hb, -, hown, hts, -, -⟩ := id B
  have hA : ∀ q, AA ad s.heap.size q → AA ad s.heap.size q := fun _ h => h
  have hl : lv_has ls 5 [(0, .ref (ad 1)), (1, .int x1)] := hl
  have hF := FBO_incomeOf_e S x1
  refine lv_lconst (v := 0) hx hb dBO_incomeOf_0 (by decide) ?_
  refine lv_lstore_n (lv' := [(2, .long 0), (0, .ref (ad 1)), (1, .int x1)]) hx hb dBO_incomeOf_1 rfl hl (by decide) rfl (fun ls hl => ?_)
  refine lv_iconst (v := 0) hx hb dBO_incomeOf_2 (by decide) ?_
  refine lv_istore (lv' := [(4, .int 0), (2, .long 0), (0, .ref (ad 1)), (1, .int x1)]) hx hb dBO_incomeOf_3 hl (by decide) rfl (fun ls hl => ?_)
  refine LPBO_incomeOf_5 l hi B hr hlk hA 300 S x1 0 0 _ _ _ (vc_FBO_incomeOf_inv05_10 S x1 hp) (vc_FBO_incomeOf_mu05_11 S x1 hp) hw (lv_sub hl [2, 3, 1, 0] rfl) (fun H locs ls y9_2 y9_4 hq9 hw hl => ?_)
  rw [hq9] at hF; try dsimp only at hF
  refine lv_lload_n hx hb dBO_incomeOf_50 rfl (lv_at hl 2 rfl) ?_
  exact V_lret B hr hlk hw (pL_r hF) dBO_incomeOf_51
theorem cw_FHL_tax {R : Room} {cells slots : Nat} (h1 : 5 ≤ R.frames) (h2 : 119 ≤ R.locals) (h3 : cells ≤ R.cells) (h4 : slots ≤ R.slots) : Cw R cells slots yHL_tax bHL_tax 4 (some .long) ({ frames := 4, cells := 0, slots := 0, locals := 96 } : Room) 1 := ⟨wm_423, wm_353, by decide +kernel, ⟨rfl, rfl, h1, h2⟩, h3, h4⟩
set_option maxHeartbeats 4000000 in
set_option maxRecDepth 100000 in
theorem M_FHL_tax (l : Launch) {ad : Nat → Nat} {cI cL : ClassId} {dC : Nat → ClassId} {dI : Nat → Nat → Nat} (hi : adI ad) (S : hS) (x1 : Int32) (hp : wfC S) : Mt l ad cI cL dC dI yHL_tax bHL_tax 4 (some .long) ({ frames := 4, cells := 0, slots := 0, locals := 96 } : Room) [.ref (ad 0), .int x1] S (pL (FHL_tax S x1) S) := by
  refine Mt_of (own := RHL) hi (by decide) rfl (Nat.le_of_ble_eq_true rfl) ?_
  intro p e s m args below meth c ls B hr hlk hw hl
  obtain ⟨hx, hb, -, hown, hts, -, -⟩ := id B
  have hA : ∀ q, AA ad s.heap.size q → AA ad s.heap.size q := fun _ h => h
  have hl : lv_has ls 4 [(0, .ref (ad 0)), (1, .int x1)] := hl
  have hF := FHL_tax_e S x1
  refine lv_iload_n hx hb dHL_tax_0 rfl (lv_at hl 1 rfl) ?_
  refine V_callS (rest := []) B hi hw hA hl.1 (M_FHL_isMonth l hi S x1) (cw_FHL_isMonth (Nat.le_of_ble_eq_true rfl) (Nat.le_of_ble_eq_true rfl) (Nat.zero_le _) (Nat.zero_le _)) wm_152 wm_153 rfl (Nat.le_of_ble_eq_true rfl) dHL_tax_1 (kI (fun H locs hw => ?_))
  refine lv_if_ne (tgt := 9) hx hb dHL_tax_4 (by decide) (fun c1 => ?_) (fun c1 => ?_)
  · have hF := hF.trans (if_neg c1)
    refine lv_aload_n hx hb dHL_tax_9 rfl (lv_at hl 0 rfl) ?_
    refine V_get B hw (v := .ref (ad 1)) (by decide) rfl rfl hin_HL 0 (by decide) rfl wm_0 rfl dHL_tax_10 ?_
    refine lv_iload_n hx hb dHL_tax_13 rfl (lv_at hl 1 rfl) ?_
    refine V_callVN (rest := []) B hi hw hA hl.1 (M_FBO_incomeOf l hi S x1 (vc_FHL_tax_pre14_2 S x1 hp c1)) (cw_FBO_incomeOf (Nat.le_of_ble_eq_true rfl) (Nat.le_of_ble_eq_true rfl) (Nat.zero_le _) (Nat.zero_le _)) (by decide) rfl rfl wn_228 wm_229 wm_230 rfl (Nat.le_of_ble_eq_true rfl) dHL_tax_14 (kL (fun H locs hw => ?_))
    refine lv_lneg hx hb dHL_tax_17 ?_
    refine lv_lstore_n (lv' := [(2, .long (-(FBO_incomeOf S x1))), (0, .ref (ad 0)), (1, .int x1)]) hx hb dHL_tax_18 rfl hl (by decide) rfl (fun ls hl => ?_)
    refine lv_lload_n hx hb dHL_tax_19 rfl (lv_at hl 0 rfl) ?_
    refine lv_lconst (v := 0) hx hb dHL_tax_20 (by decide) ?_
    refine V_lgt (tgt := 29) B dHL_tax_21 dHL_tax_22 (by decide) (fun c3 => ?_) (fun c3 => ?_)
    · have hF := hF.trans (if_pos c3)
      refine lv_lload_n hx hb dHL_tax_29 rfl (lv_at hl 0 rfl) ?_
      refine lv_ldc2 (v := 19) hx hb hown (hts _ wm_231) dHL_tax_30 ?_
      refine lv_lmul hx hb dHL_tax_33 ?_
      refine lv_ldc2 (v := 100) hx hb hown (hts _ wm_216) dHL_tax_34 ?_
      refine lv_ldiv hx hb dHL_tax_37 (by decide) ?_
      exact V_lret B hr hlk hw (pL_r hF) dHL_tax_38
    · have hF := hF.trans (if_neg c3)
      refine lv_lconst (v := 0) hx hb dHL_tax_25 (by decide) ?_
      refine lv_goto (tgt := 38) hx hb dHL_tax_26 (by decide) ?_
      exact V_lret B hr hlk hw (pL_r hF) dHL_tax_38
  · have hF := hF.trans (if_pos c1)
    refine lv_lconst (v := 0) hx hb dHL_tax_7 (by decide) ?_
    exact V_lret B hr hlk hw (pL_r hF) dHL_tax_8
theorem cw_FHL_found {R : Room} {cells slots : Nat} (h1 : 1 ≤ R.frames) (h2 : 21 ≤ R.locals) (h3 : cells ≤ R.cells) (h4 : slots ≤ R.slots) : Cw R cells slots yHL_found bHL_found 2 (some .long) ({ frames := 0, cells := 0, slots := 0, locals := 0 } : Room) 1 := ⟨wm_424, wm_353, by decide +kernel, ⟨rfl, rfl, h1, h2⟩, h3, h4⟩
set_option maxHeartbeats 4000000 in
set_option maxRecDepth 100000 in
theorem M_FHL_found (l : Launch) {ad : Nat → Nat} {cI cL : ClassId} {dC : Nat → ClassId} {dI : Nat → Nat → Nat} (hi : adI ad) (S : hS) (x1 : Int32) (hp : wfC S) : Mt l ad cI cL dC dI yHL_found bHL_found 2 (some .long) ({ frames := 0, cells := 0, slots := 0, locals := 0 } : Room) [.ref (ad 0), .int x1] S (pL (FHL_found S x1) S) := by
  refine Mt_of (own := RHL) hi (by decide) rfl (Nat.le_of_ble_eq_true rfl) ?_
  intro p e s m args below meth c ls B hr hlk hw hl
  obtain ⟨hx, hb, -, hown, hts, -, -⟩ := id B
  have hA : ∀ q, AA ad s.heap.size q → AA ad s.heap.size q := fun _ h => h
  have hl : lv_has ls 2 [(0, .ref (ad 0)), (1, .int x1)] := hl
  have hF := FHL_found_e S x1
  refine lv_iload_n hx hb dHL_found_0 rfl (lv_at hl 1 rfl) ?_
  refine lv_if_lt (tgt := 15) hx hb dHL_found_1 (by decide) (fun c1 => ?_) (fun c1 => ?_)
  · have hF := hF.trans (if_pos c1)
    refine lv_ldc2 (v := (-1)) hx hb hown (hts _ wm_105) dHL_found_15 ?_
    refine lv_goto (tgt := 30) hx hb dHL_found_18 (by decide) ?_
    exact V_lret B hr hlk hw (pL_r hF) dHL_found_30
  · have hF := hF.trans (if_neg c1)
    refine lv_iload_n hx hb dHL_found_4 rfl (lv_at hl 1 rfl) ?_
    refine lv_aload_n hx hb dHL_found_5 rfl (lv_at hl 0 rfl) ?_
    refine V_get B hw (v := .ref (ad 1)) (by decide) rfl rfl hin_HL 0 (by decide) rfl wm_0 rfl dHL_found_6 ?_
    refine V_getN B hw (v := .int (S.1 1 4)) (by decide) rfl rfl hin_BO 4 (by decide) rfl wn_232 rfl dHL_found_9 ?_
    refine lv_icmp_lt (tgt := 21) hx hb dHL_found_12 (by decide) (fun c2 => ?_) (fun c2 => ?_)
    · have hF := hF.trans (if_pos c2)
      refine lv_aload_n hx hb dHL_found_21 rfl (lv_at hl 0 rfl) ?_
      refine V_get B hw (v := .ref (ad 1)) (by decide) rfl rfl hin_HL 0 (by decide) rfl wm_0 rfl dHL_found_22 ?_
      refine V_getN B hw (v := .ref (ad 24)) (by decide) rfl rfl hin_BO 3 (by decide) rfl wn_233 rfl dHL_found_25 ?_
      refine lv_iload_n hx hb dHL_found_28 rfl (lv_at hl 1 rfl) ?_
      refine V_lald (j := x1.toNatClampNeg) (v := S.2 24 x1.toNatClampNeg) B hw (by decide) rfl (vc_FHL_found_ix29_3 S x1 hp c1 c2) rfl rfl dHL_found_29 ?_
      exact V_lret B hr hlk hw (pL_r hF) dHL_found_30
    · have hF := hF.trans (if_neg c2)
      refine lv_ldc2 (v := (-1)) hx hb hown (hts _ wm_105) dHL_found_15 ?_
      refine lv_goto (tgt := 30) hx hb dHL_found_18 (by decide) ?_
      exact V_lret B hr hlk hw (pL_r hF) dHL_found_30
theorem cw_FMO_isIn {R : Room} {cells slots : Nat} (h1 : 1 ≤ R.frames) (h2 : 25 ≤ R.locals) (h3 : cells ≤ R.cells) (h4 : slots ≤ R.slots) : Cw R cells slots yMO_isIn bMO_isIn 6 (some .boolean) ({ frames := 0, cells := 0, slots := 0, locals := 0 } : Room) 3 := ⟨wm_425, wm_426, by decide +kernel, ⟨rfl, rfl, h1, h2⟩, h3, h4⟩
set_option maxHeartbeats 4000000 in
set_option maxRecDepth 100000 in
theorem M_FMO_isIn (l : Launch) {ad : Nat → Nat} {cI cL : ClassId} {dC : Nat → ClassId} {dI : Nat → Nat → Nat} (hi : adI ad) (S : hS) (x0 : Int64) (x2 : Int64) (x4 : Int64) : Mt l ad cI cL dC dI yMO_isIn bMO_isIn 6 (some .boolean) ({ frames := 0, cells := 0, slots := 0, locals := 0 } : Room) [.long x0, .long x2, .long x4] S (pI (FMO_isIn S x0 x2 x4) S) := by
  refine Mt_of (own := RMO) hi (by decide) rfl (Nat.le_of_ble_eq_true rfl) ?_
  intro p e s m args below meth c ls B hr hlk hw hl
  obtain ⟨hx, hb, -, hown, hts, -, -⟩ := id B
  have hA : ∀ q, AA ad s.heap.size q → AA ad s.heap.size q := fun _ h => h
  have hl : lv_has ls 6 [(0, .long x0), (2, .long x2), (4, .long x4)] := hl
  have hF := FMO_isIn_e S x0 x2 x4
  refine lv_lload_n hx hb dMO_isIn_0 rfl (lv_at hl 0 rfl) ?_
  refine lv_lload_n hx hb dMO_isIn_1 rfl (lv_at hl 1 rfl) ?_
  refine V_llt (tgt := 17) B dMO_isIn_2 dMO_isIn_3 (by decide) (fun c1 => ?_) (fun c1 => ?_)
  · have hF := hF.trans (if_pos c1)
    refine lv_iconst (v := 0) hx hb dMO_isIn_17 (by decide) ?_
    exact V_zret B hr hlk hw (by decide) (pI_r hF) dMO_isIn_18
  · have hF := hF.trans (if_neg c1)
    refine lv_lload_n hx hb dMO_isIn_6 rfl (lv_at hl 0 rfl) ?_
    refine lv_lload hx hb dMO_isIn_7 (lv_at hl 2 rfl) ?_
    refine V_lgt (tgt := 17) B dMO_isIn_9 dMO_isIn_10 (by decide) (fun c2 => ?_) (fun c2 => ?_)
    · have hF := hF.trans (if_pos c2)
      refine lv_iconst (v := 0) hx hb dMO_isIn_17 (by decide) ?_
      exact V_zret B hr hlk hw (by decide) (pI_r hF) dMO_isIn_18
    · have hF := hF.trans (if_neg c2)
      refine lv_iconst (v := 1) hx hb dMO_isIn_13 (by decide) ?_
      refine lv_goto (tgt := 18) hx hb dMO_isIn_14 (by decide) ?_
      exact V_zret B hr hlk hw (by decide) (pI_r hF) dMO_isIn_18
theorem cw_FMO_isAccount {R : Room} {cells slots : Nat} (h1 : 1 ≤ R.frames) (h2 : 21 ≤ R.locals) (h3 : cells ≤ R.cells) (h4 : slots ≤ R.slots) : Cw R cells slots yMO_isAccount bMO_isAccount 2 (some .boolean) ({ frames := 0, cells := 0, slots := 0, locals := 0 } : Room) 1 := ⟨wm_427, wm_426, by decide +kernel, ⟨rfl, rfl, h1, h2⟩, h3, h4⟩
set_option maxHeartbeats 4000000 in
set_option maxRecDepth 100000 in
theorem M_FMO_isAccount (l : Launch) {ad : Nat → Nat} {cI cL : ClassId} {dC : Nat → ClassId} {dI : Nat → Nat → Nat} (hi : adI ad) (S : hS) (x1 : Int32) (hp : wfM S) : Mt l ad cI cL dC dI yMO_isAccount bMO_isAccount 2 (some .boolean) ({ frames := 0, cells := 0, slots := 0, locals := 0 } : Room) [.ref (ad 49), .int x1] S (pI (FMO_isAccount S x1) S) := by
  refine Mt_of (own := RMO) hi (by decide) rfl (Nat.le_of_ble_eq_true rfl) ?_
  intro p e s m args below meth c ls B hr hlk hw hl
  obtain ⟨hx, hb, -, hown, hts, -, -⟩ := id B
  have hA : ∀ q, AA ad s.heap.size q → AA ad s.heap.size q := fun _ h => h
  have hl : lv_has ls 2 [(0, .ref (ad 49)), (1, .int x1)] := hl
  have hF := FMO_isAccount_e S x1
  refine lv_iload_n hx hb dMO_isAccount_0 rfl (lv_at hl 1 rfl) ?_
  refine lv_if_lt (tgt := 20) hx hb dMO_isAccount_1 (by decide) (fun c1 => ?_) (fun c1 => ?_)
  · have hF := hF.trans (if_pos c1)
    refine lv_iconst (v := 0) hx hb dMO_isAccount_20 (by decide) ?_
    exact V_zret B hr hlk hw (by decide) (pI_r hF) dMO_isAccount_21
  · have hF := hF.trans (if_neg c1)
    refine lv_iload_n hx hb dMO_isAccount_4 rfl (lv_at hl 1 rfl) ?_
    refine lv_i2l hx hb dMO_isAccount_5 rfl ?_
    refine lv_aload_n hx hb dMO_isAccount_6 rfl (lv_at hl 0 rfl) ?_
    refine V_get B hw (v := .ref (ad 50)) (by decide) rfl rfl hin_MO 0 (by decide) rfl wm_234 rfl dMO_isAccount_7 ?_
    refine lv_iconst (v := 0) hx hb dMO_isAccount_10 (by decide) ?_
    refine V_lald (j := 0) (v := S.2 50 0) B hw (by decide) rfl (vc_FMO_isAccount_ix11_2 S x1 hp c1) rfl rfl dMO_isAccount_11 ?_
    refine V_lge (tgt := 20) B dMO_isAccount_12 dMO_isAccount_13 (by decide) (fun c3 => ?_) (fun c3 => ?_)
    · have hF := hF.trans (if_pos c3)
      refine lv_iconst (v := 0) hx hb dMO_isAccount_20 (by decide) ?_
      exact V_zret B hr hlk hw (by decide) (pI_r hF) dMO_isAccount_21
    · have hF := hF.trans (if_neg c3)
      refine lv_iconst (v := 1) hx hb dMO_isAccount_16 (by decide) ?_
      refine lv_goto (tgt := 21) hx hb dMO_isAccount_17 (by decide) ?_
      exact V_zret B hr hlk hw (by decide) (pI_r hF) dMO_isAccount_21
theorem cw_FMO_isHousehold {R : Room} {cells slots : Nat} (h1 : 2 ≤ R.frames) (h2 : 42 ≤ R.locals) (h3 : cells ≤ R.cells) (h4 : slots ≤ R.slots) : Cw R cells slots yMO_isHousehold bMO_isHousehold 2 (some .boolean) ({ frames := 1, cells := 0, slots := 0, locals := 21 } : Room) 1 := ⟨wm_428, wm_426, by decide +kernel, ⟨rfl, rfl, h1, h2⟩, h3, h4⟩
set_option maxHeartbeats 4000000 in
set_option maxRecDepth 100000 in
theorem M_FMO_isHousehold (l : Launch) {ad : Nat → Nat} {cI cL : ClassId} {dC : Nat → ClassId} {dI : Nat → Nat → Nat} (hi : adI ad) (S : hS) (x1 : Int32) (hp : wfM S) : Mt l ad cI cL dC dI yMO_isHousehold bMO_isHousehold 2 (some .boolean) ({ frames := 1, cells := 0, slots := 0, locals := 21 } : Room) [.ref (ad 49), .int x1] S (pI (FMO_isHousehold S x1) S) := by
  refine Mt_of (own := RMO) hi (by decide) rfl (Nat.le_of_ble_eq_true rfl) ?_
  intro p e s m args below meth c ls B hr hlk hw hl
  obtain ⟨hx, hb, -, hown, hts, -, -⟩ := id B
  have hA : ∀ q, AA ad s.heap.size q → AA ad s.heap.size q := fun _ h => h
  have hl : lv_has ls 2 [(0, .ref (ad 49)), (1, .int x1)] := hl
  have hF := FMO_isHousehold_e S x1
  refine lv_aload_n hx hb dMO_isHousehold_0 rfl (lv_at hl 0 rfl) ?_
  refine lv_iload_n hx hb dMO_isHousehold_1 rfl (lv_at hl 1 rfl) ?_
  refine V_callV (rest := []) B hi hw hA hl.1 (M_FMO_isAccount l hi S x1 (vc_FMO_isHousehold_pre2_1 S x1 hp)) (cw_FMO_isAccount (Nat.le_of_ble_eq_true rfl) (Nat.le_of_ble_eq_true rfl) (Nat.zero_le _) (Nat.zero_le _)) (by decide) rfl rfl wm_235 wm_236 wm_237 rfl (Nat.le_of_ble_eq_true rfl) dMO_isHousehold_2 (kI (fun H locs hw => ?_))
  refine lv_if_eq (tgt := 26) hx hb dMO_isHousehold_5 (by decide) (fun c2 => ?_) (fun c2 => ?_)
  · have hF := hF.trans (if_pos c2)
    refine lv_iconst (v := 0) hx hb dMO_isHousehold_26 (by decide) ?_
    exact V_zret B hr hlk hw (by decide) (pI_r hF) dMO_isHousehold_27
  · have hF := hF.trans (if_neg c2)
    refine lv_aload_n hx hb dMO_isHousehold_8 rfl (lv_at hl 0 rfl) ?_
    refine V_get B hw (v := .ref (ad 50)) (by decide) rfl rfl hin_MO 0 (by decide) rfl wm_234 rfl dMO_isHousehold_9 ?_
    refine lv_bipush (v := 10) hx hb dMO_isHousehold_12 (by decide) ?_
    refine lv_iload_n hx hb dMO_isHousehold_14 rfl (lv_at hl 1 rfl) ?_
    refine lv_iadd hx hb dMO_isHousehold_15 ?_
    refine V_lald (j := (10 + x1).toNatClampNeg) (v := S.2 50 ((10 + x1).toNatClampNeg)) B hw (by decide) rfl (vc_FMO_isHousehold_ix16_3 S x1 hp c2) rfl rfl dMO_isHousehold_16 ?_
    refine lv_lconst (v := 1) hx hb dMO_isHousehold_17 (by decide) ?_
    refine V_lne (tgt := 26) B dMO_isHousehold_18 dMO_isHousehold_19 (by decide) (fun c4 => ?_) (fun c4 => ?_)
    · have hF := hF.trans (if_neg c4)
      refine lv_iconst (v := 0) hx hb dMO_isHousehold_26 (by decide) ?_
      exact V_zret B hr hlk hw (by decide) (pI_r hF) dMO_isHousehold_27
    · have hF := hF.trans (if_pos c4)
      refine lv_iconst (v := 1) hx hb dMO_isHousehold_22 (by decide) ?_
      refine lv_goto (tgt := 27) hx hb dMO_isHousehold_23 (by decide) ?_
      exact V_zret B hr hlk hw (by decide) (pI_r hF) dMO_isHousehold_27
theorem cw_FMO_isEntry {R : Room} {cells slots : Nat} (h1 : 1 ≤ R.frames) (h2 : 21 ≤ R.locals) (h3 : cells ≤ R.cells) (h4 : slots ≤ R.slots) : Cw R cells slots yMO_isEntry bMO_isEntry 2 (some .boolean) ({ frames := 0, cells := 0, slots := 0, locals := 0 } : Room) 1 := ⟨wm_429, wm_426, by decide +kernel, ⟨rfl, rfl, h1, h2⟩, h3, h4⟩
set_option maxHeartbeats 4000000 in
set_option maxRecDepth 100000 in
theorem M_FMO_isEntry (l : Launch) {ad : Nat → Nat} {cI cL : ClassId} {dC : Nat → ClassId} {dI : Nat → Nat → Nat} (hi : adI ad) (S : hS) (x1 : Int32) (hp : wfM S) : Mt l ad cI cL dC dI yMO_isEntry bMO_isEntry 2 (some .boolean) ({ frames := 0, cells := 0, slots := 0, locals := 0 } : Room) [.ref (ad 49), .int x1] S (pI (FMO_isEntry S x1) S) := by
  refine Mt_of (own := RMO) hi (by decide) rfl (Nat.le_of_ble_eq_true rfl) ?_
  intro p e s m args below meth c ls B hr hlk hw hl
  obtain ⟨hx, hb, -, hown, hts, -, -⟩ := id B
  have hA : ∀ q, AA ad s.heap.size q → AA ad s.heap.size q := fun _ h => h
  have hl : lv_has ls 2 [(0, .ref (ad 49)), (1, .int x1)] := hl
  have hF := FMO_isEntry_e S x1
  refine lv_iload_n hx hb dMO_isEntry_0 rfl (lv_at hl 1 rfl) ?_
  refine lv_if_lt (tgt := 20) hx hb dMO_isEntry_1 (by decide) (fun c1 => ?_) (fun c1 => ?_)
  · have hF := hF.trans (if_pos c1)
    refine lv_iconst (v := 0) hx hb dMO_isEntry_20 (by decide) ?_
    exact V_zret B hr hlk hw (by decide) (pI_r hF) dMO_isEntry_21
  · have hF := hF.trans (if_neg c1)
    refine lv_iload_n hx hb dMO_isEntry_4 rfl (lv_at hl 1 rfl) ?_
    refine lv_i2l hx hb dMO_isEntry_5 rfl ?_
    refine lv_aload_n hx hb dMO_isEntry_6 rfl (lv_at hl 0 rfl) ?_
    refine V_get B hw (v := .ref (ad 50)) (by decide) rfl rfl hin_MO 0 (by decide) rfl wm_234 rfl dMO_isEntry_7 ?_
    refine lv_iconst (v := 1) hx hb dMO_isEntry_10 (by decide) ?_
    refine V_lald (j := 1) (v := S.2 50 1) B hw (by decide) rfl (vc_FMO_isEntry_ix11_2 S x1 hp c1) rfl rfl dMO_isEntry_11 ?_
    refine V_lge (tgt := 20) B dMO_isEntry_12 dMO_isEntry_13 (by decide) (fun c3 => ?_) (fun c3 => ?_)
    · have hF := hF.trans (if_pos c3)
      refine lv_iconst (v := 0) hx hb dMO_isEntry_20 (by decide) ?_
      exact V_zret B hr hlk hw (by decide) (pI_r hF) dMO_isEntry_21
    · have hF := hF.trans (if_neg c3)
      refine lv_iconst (v := 1) hx hb dMO_isEntry_16 (by decide) ?_
      refine lv_goto (tgt := 21) hx hb dMO_isEntry_17 (by decide) ?_
      exact V_zret B hr hlk hw (by decide) (pI_r hF) dMO_isEntry_21
