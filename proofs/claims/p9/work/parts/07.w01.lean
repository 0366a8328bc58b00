set_option maxHeartbeats 4000000 in
set_option maxRecDepth 100000 in
theorem LPJO_sumUntil_14 (l : Launch) {ad : Nat → Nat} {cI cL : ClassId} {dC : Nat → ClassId} {dI : Nat → Nat → Nat} (hi : adI ad) {p : Program} {e : Env} {s : State} {m : MethodId} {args : Array Value} {below : List Frame} {meth : Method} {c : Code} {A : Nat → Prop} {post : Option Value → hS → Prop} (B : Bs p s m args c RJO bJO_sumUntil 7 cI cL dC dI) (hr : meth.sig.returnType = (some .long)) (hlk : meth.locks = false) (hA : ∀ q, AA ad s.heap.size q → A q) : ∀ (n : Nat) (S : hS) (x1 : Int32) (x2 : Int32) (x3 : Int64) (x5 : Int32) (x6 : Int32) (H : Heap) (locs : List Loc) (ls : Array Slot), wfC S ∧ lp x6 x5 → ((x5.toInt - x6.toInt).toNat) < n → Wd ad cI cL dC dI A s.heap S H locs → lv_has ls 7 [(0, .ref (ad 10)), (1, .int x1), (2, .int x2), (3, .long x3), (5, .int x5), (6, .int x6)] → (∀ (H : Heap) (locs : List Loc) (ls : Array Slot) (y3 : Int64) (y6 : Int32), LJO_sumUntil_14 n S x1 x2 x3 x5 x6 = (y3, y6) → Wd ad cI cL dC dI A s.heap S H locs → lv_has ls 7 [(0, .ref (ad 10)), (1, .int x1), (2, .int x2), (3, .long y3), (5, .int x5), (6, .int y6)] → W p l e ({ frames := 1, cells := 0, slots := 0, locals := 23 } : Room) s m args below meth c H locs 0 0 (MQ below (QcW ad cI cL dC dI post A) args s 0 0 A) (F0 m 61 ls [])) → W p l e ({ frames := 1, cells := 0, slots := 0, locals := 23 } : Room) s m args below meth c H locs 0 0 (MQ below (QcW ad cI cL dC dI post A) args s 0 0 A) (F0 m 14 ls []) := by
  intro n
  obtain ⟨hx, hb, -, hown, hts, -, -⟩ := id B
  induction n with
  | zero => exact fun S x1 x2 x3 x5 x6 H locs ls _ hmu => absurd hmu (Nat.not_lt_zero _)
  | succ n ih =>
    intro S x1 x2 x3 x5 x6 H locs ls hJ hmu hw hl hexit
    have hF := LJO_sumUntil_14_s n S x1 x2 x3 x5 x6
    refine lv_iload hx hb dJO_sumUntil_14 (lv_at hl 5 rfl) ?_
    refine lv_iload hx hb dJO_sumUntil_16 (lv_at hl 4 rfl) ?_
    refine lv_icmp_ge (tgt := 61) hx hb dJO_sumUntil_18 (by decide) (fun c1 => ?_) (fun c1 => ?_)
    · have hF := hF.trans (if_pos c1)
      exact hexit _ _ _ x3 x6 hF hw (lv_sub hl [0, 1, 2, 3, 4, 5] rfl)
    · have hF := hF.trans (if_neg c1)
      refine lv_aload_n hx hb dJO_sumUntil_21 rfl (lv_at hl 0 rfl) ?_
      refine V_get B hw (v := .ref (ad 11)) (by decide) rfl rfl hin_JO 1 (by decide) rfl wm_27 rfl dJO_sumUntil_22 ?_
      refine lv_iload hx hb dJO_sumUntil_25 (lv_at hl 5 rfl) ?_
      refine lv_bipush (v := 6) hx hb dJO_sumUntil_27 (by decide) ?_
      refine lv_idiv hx hb dJO_sumUntil_29 (by decide) ?_
      refine V_iald (j := (x6 / 6).toNatClampNeg) (v := S.1 11 ((x6 / 6).toNatClampNeg)) B hw (by decide) rfl (vc_FJO_sumUntil_ix30_2 S x1 x2 x3 x5 x6 hJ c1) rfl rfl dJO_sumUntil_30 ?_
      refine lv_iload_n hx hb dJO_sumUntil_31 rfl (lv_at hl 2 rfl) ?_
      refine lv_icmp_gt (tgt := 55) hx hb dJO_sumUntil_32 (by decide) (fun c3 => ?_) (fun c3 => ?_)
      · have hF := hF.trans (if_pos c3)
        refine lv_iinc (v := x6 + 1) (lv' := [(6, .int (x6 + 1)), (0, .ref (ad 10)), (1, .int x1), (2, .int x2), (3, .long x3), (5, .int x5)]) hx hb dJO_sumUntil_55 hl (k := 5) rfl rfl (by decide) rfl (fun ls hl => ?_)
        refine lv_goto (tgt := 14) hx hb dJO_sumUntil_58 (by decide) ?_
        exact ih S x1 x2 x3 x5 (x6 + 1) _ _ _ (vc_FJO_sumUntil_inv14_4 S x1 x2 x3 x5 x6 hJ c1 c3) (Nat.lt_of_lt_of_le (vc_FJO_sumUntil_mu14_5 S x1 x2 x3 x5 x6 hJ c1 c3) (Nat.le_of_lt_succ hmu)) hw (lv_sub hl [1, 2, 3, 4, 5, 0] rfl) (fun H locs ls y3 y6 h hw hl => hexit H locs ls y3 y6 (hF.trans h) hw hl)
      · have hF := hF.trans (if_neg c3)
        refine lv_aload_n hx hb dJO_sumUntil_35 rfl (lv_at hl 0 rfl) ?_
        refine lv_iload hx hb dJO_sumUntil_36 (lv_at hl 5 rfl) ?_
        refine lv_iload_n hx hb dJO_sumUntil_38 rfl (lv_at hl 1 rfl) ?_
        refine V_callV (rest := []) B hi hw hA hl.1 (M_FJO_isPostedRow l hi S x6 x1 (vc_FJO_sumUntil_pre39_6 S x1 x2 x3 x5 x6 hJ c1 c3)) (cw_FJO_isPostedRow (Nat.le_of_ble_eq_true rfl) (Nat.le_of_ble_eq_true rfl) (Nat.zero_le _) (Nat.zero_le _)) (by decide) rfl rfl wm_69 wm_70 wm_71 rfl (Nat.le_of_ble_eq_true rfl) dJO_sumUntil_39 (kI (fun H locs hw => ?_))
        refine lv_if_eq (tgt := 55) hx hb dJO_sumUntil_42 (by decide) (fun c7 => ?_) (fun c7 => ?_)
        · have hF := hF.trans (if_pos c7)
          refine lv_iinc (v := x6 + 1) (lv' := [(6, .int (x6 + 1)), (0, .ref (ad 10)), (1, .int x1), (2, .int x2), (3, .long x3), (5, .int x5)]) hx hb dJO_sumUntil_55 hl (k := 5) rfl rfl (by decide) rfl (fun ls hl => ?_)
          refine lv_goto (tgt := 14) hx hb dJO_sumUntil_58 (by decide) ?_
          exact ih S x1 x2 x3 x5 (x6 + 1) _ _ _ (vc_FJO_sumUntil_inv14_8 S x1 x2 x3 x5 x6 hJ c1 c3 c7) (Nat.lt_of_lt_of_le (vc_FJO_sumUntil_mu14_9 S x1 x2 x3 x5 x6 hJ c1 c3 c7) (Nat.le_of_lt_succ hmu)) hw (lv_sub hl [1, 2, 3, 4, 5, 0] rfl) (fun H locs ls y3 y6 h hw hl => hexit H locs ls y3 y6 (hF.trans h) hw hl)
        · have hF := hF.trans (if_neg c7)
          refine lv_lload_n hx hb dJO_sumUntil_45 rfl (lv_at hl 3 rfl) ?_
          refine lv_aload_n hx hb dJO_sumUntil_46 rfl (lv_at hl 0 rfl) ?_
          refine V_get B hw (v := .ref (ad 16)) (by decide) rfl rfl hin_JO 6 (by decide) rfl wm_43 rfl dJO_sumUntil_47 ?_
          refine lv_iload hx hb dJO_sumUntil_50 (lv_at hl 5 rfl) ?_
          refine V_lald (j := x6.toNatClampNeg) (v := S.2 16 x6.toNatClampNeg) B hw (by decide) rfl (vc_FJO_sumUntil_ix52_10 S x1 x2 x3 x5 x6 hJ c1 c3 c7) rfl rfl dJO_sumUntil_52 ?_
          refine lv_ladd hx hb dJO_sumUntil_53 ?_
          refine lv_lstore_n (lv' := [(3, .long (x3 + (S.2 16 x6.toNatClampNeg))), (0, .ref (ad 10)), (1, .int x1), (2, .int x2), (5, .int x5), (6, .int x6)]) hx hb dJO_sumUntil_54 rfl hl (by decide) rfl (fun ls hl => ?_)
          refine lv_iinc (v := x6 + 1) (lv' := [(6, .int (x6 + 1)), (3, .long (x3 + (S.2 16 x6.toNatClampNeg))), (0, .ref (ad 10)), (1, .int x1), (2, .int x2), (5, .int x5)]) hx hb dJO_sumUntil_55 hl (k := 5) rfl rfl (by decide) rfl (fun ls hl => ?_)
          refine lv_goto (tgt := 14) hx hb dJO_sumUntil_58 (by decide) ?_
          exact ih S x1 x2 (x3 + (S.2 16 x6.toNatClampNeg)) x5 (x6 + 1) _ _ _ (vc_FJO_sumUntil_inv14_11 S x1 x2 x3 x5 x6 hJ c1 c3 c7) (Nat.lt_of_lt_of_le (vc_FJO_sumUntil_mu14_12 S x1 x2 x3 x5 x6 hJ c1 c3 c7) (Nat.le_of_lt_succ hmu)) hw (lv_sub hl [2, 3, 4, 1, 5, 0] rfl) (fun H locs ls y3 y6 h hw hl => hexit H locs ls y3 y6 (hF.trans h) hw hl)
theorem cw_FJO_sumUntil {R : Room} {cells slots : Nat} (h1 : 2 ≤ R.frames) (h2 : 49 ≤ R.locals) (h3 : cells ≤ R.cells) (h4 : slots ≤ R.slots) : Cw R cells slots yJO_sumUntil bJO_sumUntil 7 (some .long) ({ frames := 1, cells := 0, slots := 0, locals := 23 } : Room) 2 := ⟨wm_370, wm_358, by decide +kernel, ⟨rfl, rfl, h1, h2⟩, h3, h4⟩
set_option maxHeartbeats 4000000 in
set_option maxRecDepth 100000 in
theorem M_FJO_sumUntil (l : Launch) {ad : Nat → Nat} {cI cL : ClassId} {dC : Nat → ClassId} {dI : Nat → Nat → Nat} (hi : adI ad) (S : hS) (x1 : Int32) (x2 : Int32) (hp : wfC S) : Mt l ad cI cL dC dI yJO_sumUntil bJO_sumUntil 7 (some .long) ({ frames := 1, cells := 0, slots := 0, locals := 23 } : Room) [.ref (ad 10), .int x1, .int x2] S (pL (FJO_sumUntil S x1 x2) S) := by
  refine Mt_of (own := RJO) hi (by decide) rfl (Nat.le_of_ble_eq_true rfl) ?_
  intro p e s m args below meth c ls B hr hlk hw hl
  obtain ⟨hx, hb, -, hown, hts, -, -⟩ := id B
  have hA : ∀ q, AA ad s.heap.size q → AA ad s.heap.size q := fun _ h => h
  have hl : lv_has ls 7 [(0, .ref (ad 10)), (1, .int x1), (2, .int x2)] := hl
  have hF := FJO_sumUntil_e S x1 x2
  refine lv_lconst (v := 0) hx hb dJO_sumUntil_0 (by decide) ?_
  refine lv_lstore_n (lv' := [(3, .long 0), (0, .ref (ad 10)), (1, .int x1), (2, .int x2)]) hx hb dJO_sumUntil_1 rfl hl (by decide) rfl (fun ls hl => ?_)
  refine lv_aload_n hx hb dJO_sumUntil_2 rfl (lv_at hl 1 rfl) ?_
  refine V_get B hw (v := .int (S.1 10 0)) (by decide) rfl rfl hin_JO 0 (by decide) rfl wm_23 rfl dJO_sumUntil_3 ?_
  refine lv_bipush (v := 6) hx hb dJO_sumUntil_6 (by decide) ?_
  refine lv_imul hx hb dJO_sumUntil_8 ?_
  refine lv_istore (lv' := [(5, .int ((S.1 10 0) * 6)), (3, .long 0), (0, .ref (ad 10)), (1, .int x1), (2, .int x2)]) hx hb dJO_sumUntil_9 hl (by decide) rfl (fun ls hl => ?_)
  refine lv_iconst (v := 0) hx hb dJO_sumUntil_11 (by decide) ?_
  refine lv_istore (lv' := [(6, .int 0), (5, .int ((S.1 10 0) * 6)), (3, .long 0), (0, .ref (ad 10)), (1, .int x1), (2, .int x2)]) hx hb dJO_sumUntil_12 hl (by decide) rfl (fun ls hl => ?_)
  refine LPJO_sumUntil_14 l hi B hr hlk hA 300 S x1 x2 0 ((S.1 10 0) * 6) 0 _ _ _ (vc_FJO_sumUntil_inv014_14 S x1 x2 hp) (vc_FJO_sumUntil_mu014_15 S x1 x2 hp) hw (lv_sub hl [3, 4, 5, 2, 1, 0] rfl) (fun H locs ls y13_3 y13_6 hq13 hw hl => ?_)
  rw [hq13] at hF; try dsimp only at hF
  refine lv_lload_n hx hb dJO_sumUntil_61 rfl (lv_at hl 3 rfl) ?_
  exact V_lret B hr hlk hw (pL_r hF) dJO_sumUntil_62
theorem cw_FHL_balance {R : Room} {cells slots : Nat} (h1 : 3 ≤ R.frames) (h2 : 72 ≤ R.locals) (h3 : cells ≤ R.cells) (h4 : slots ≤ R.slots) : Cw R cells slots yHL_balance bHL_balance 4 (some .long) ({ frames := 2, cells := 0, slots := 0, locals := 49 } : Room) 2 := ⟨wm_371, wm_353, by decide +kernel, ⟨rfl, rfl, h1, h2⟩, h3, h4⟩
set_option maxHeartbeats 4000000 in
set_option maxRecDepth 100000 in
theorem M_FHL_balance (l : Launch) {ad : Nat → Nat} {cI cL : ClassId} {dC : Nat → ClassId} {dI : Nat → Nat → Nat} (hi : adI ad) (S : hS) (x1 : Int32) (x2 : Int64) (hp : wfC S) : Mt l ad cI cL dC dI yHL_balance bHL_balance 4 (some .long) ({ frames := 2, cells := 0, slots := 0, locals := 49 } : Room) [.ref (ad 0), .int x1, .long x2] S (pL (FHL_balance S x1 x2) S) := by
  refine Mt_of (own := RHL) hi (by decide) rfl (Nat.le_of_ble_eq_true rfl) ?_
  intro p e s m args below meth c ls B hr hlk hw hl
  obtain ⟨hx, hb, -, hown, hts, -, -⟩ := id B
  have hA : ∀ q, AA ad s.heap.size q → AA ad s.heap.size q := fun _ h => h
  have hl : lv_has ls 4 [(0, .ref (ad 0)), (1, .int x1), (2, .long x2)] := hl
  have hF := FHL_balance_e S x1 x2
  refine lv_aload_n hx hb dHL_balance_0 rfl (lv_at hl 0 rfl) ?_
  refine V_get B hw (v := .ref (ad 1)) (by decide) rfl rfl hin_HL 0 (by decide) rfl wm_0 rfl dHL_balance_1 ?_
  refine V_getN B hw (v := .ref (ad 2)) (by decide) rfl rfl hin_BO 0 (by decide) rfl wn_1 rfl dHL_balance_4 ?_
  refine lv_iload_n hx hb dHL_balance_7 rfl (lv_at hl 1 rfl) ?_
  refine V_callVN (rest := []) B hi hw hA hl.1 (M_FAC_has l hi S x1 (vc_FHL_balance_pre8_1 S x1 x2 hp)) (cw_FAC_has (Nat.le_of_ble_eq_true rfl) (Nat.le_of_ble_eq_true rfl) (Nat.zero_le _) (Nat.zero_le _)) (by decide) rfl rfl wn_37 wm_38 wm_39 rfl (Nat.le_of_ble_eq_true rfl) dHL_balance_8 (kI (fun H locs hw => ?_))
  refine lv_if_eq (tgt := 21) hx hb dHL_balance_11 (by decide) (fun c2 => ?_) (fun c2 => ?_)
  · have hF := hF.trans (if_pos c2)
    refine lv_lconst (v := 0) hx hb dHL_balance_21 (by decide) ?_
    exact V_lret B hr hlk hw (pL_r hF) dHL_balance_22
  · have hF := hF.trans (if_neg c2)
    refine lv_lload_n hx hb dHL_balance_14 rfl (lv_at hl 2 rfl) ?_
    refine V_callS (rest := []) B hi hw hA hl.1 (M_FHL_isDay l hi S x2) (cw_FHL_isDay (Nat.le_of_ble_eq_true rfl) (Nat.le_of_ble_eq_true rfl) (Nat.zero_le _) (Nat.zero_le _)) wm_68 wm_16 rfl (Nat.le_of_ble_eq_true rfl) dHL_balance_15 (kI (fun H locs hw => ?_))
    refine lv_if_ne (tgt := 23) hx hb dHL_balance_18 (by decide) (fun c3 => ?_) (fun c3 => ?_)
    · have hF := hF.trans (if_neg c3)
      refine lv_aload_n hx hb dHL_balance_23 rfl (lv_at hl 0 rfl) ?_
      refine V_get B hw (v := .ref (ad 1)) (by decide) rfl rfl hin_HL 0 (by decide) rfl wm_0 rfl dHL_balance_24 ?_
      refine V_getN B hw (v := .ref (ad 10)) (by decide) rfl rfl hin_BO 1 (by decide) rfl wn_22 rfl dHL_balance_27 ?_
      refine lv_iload_n hx hb dHL_balance_30 rfl (lv_at hl 1 rfl) ?_
      refine lv_lload_n hx hb dHL_balance_31 rfl (lv_at hl 2 rfl) ?_
      refine lv_l2i hx hb dHL_balance_32 rfl ?_
      refine V_callVN (rest := []) B hi hw hA hl.1 (M_FJO_sumUntil l hi S x1 x2.toInt32 (vc_FHL_balance_pre33_4 S x1 x2 hp c2 c3)) (cw_FJO_sumUntil (Nat.le_of_ble_eq_true rfl) (Nat.le_of_ble_eq_true rfl) (Nat.zero_le _) (Nat.zero_le _)) (by decide) rfl rfl wn_72 wm_73 wm_74 rfl (Nat.le_of_ble_eq_true rfl) dHL_balance_33 (kL (fun H locs hw => ?_))
      exact V_lret B hr hlk hw (pL_r hF) dHL_balance_36
    · have hF := hF.trans (if_pos c3)
      refine lv_lconst (v := 0) hx hb dHL_balance_21 (by decide) ?_
      exact V_lret B hr hlk hw (pL_r hF) dHL_balance_22
set_option maxHeartbeats 4000000 in
set_option maxRecDepth 100000 in
theorem LPAC_firstCash_2 (l : Launch) {ad : Nat → Nat} {cI cL : ClassId} {dC : Nat → ClassId} {dI : Nat → Nat → Nat} (hi : adI ad) {p : Program} {e : Env} {s : State} {m : MethodId} {args : Array Value} {below : List Frame} {meth : Method} {c : Code} {A : Nat → Prop} {post : Option Value → hS → Prop} (B : Bs p s m args c RAC bAC_firstCash 2 cI cL dC dI) (hr : meth.sig.returnType = (some .int)) (hlk : meth.locks = false) (hA : ∀ q, AA ad s.heap.size q → A q) : ∀ (n : Nat) (S : hS) (x1 : Int32) (H : Heap) (locs : List Loc) (ls : Array Slot), wfC S ∧ 0 ≤ x1.toInt → (((S.1 2 0).toInt - x1.toInt).toNat) < n → Wd ad cI cL dC dI A s.heap S H locs → lv_has ls 2 [(0, .ref (ad 2)), (1, .int x1)] → (∀ (v : Int32), LAC_firstCash_2 n S x1 = .inl v → post (some (.int v)) S) → (∀ (H : Heap) (locs : List Loc) (ls : Array Slot) (y1 : Int32), LAC_firstCash_2 n S x1 = .inr y1 → Wd ad cI cL dC dI A s.heap S H locs → lv_has ls 2 [(0, .ref (ad 2)), (1, .int y1)] → W p l e ({ frames := 0, cells := 0, slots := 0, locals := 0 } : Room) s m args below meth c H locs 0 0 (MQ below (QcW ad cI cL dC dI post A) args s 0 0 A) (F0 m 27 ls [])) → W p l e ({ frames := 0, cells := 0, slots := 0, locals := 0 } : Room) s m args below meth c H locs 0 0 (MQ below (QcW ad cI cL dC dI post A) args s 0 0 A) (F0 m 2 ls []) := by
  intro n
  obtain ⟨hx, hb, -, hown, hts, -, -⟩ := id B
  induction n with
  | zero => exact fun S x1 H locs ls _ hmu => absurd hmu (Nat.not_lt_zero _)
  | succ n ih =>
    intro S x1 H locs ls hJ hmu hw hl hret hexit
    have hF := LAC_firstCash_2_s n S x1
    refine lv_iload_n hx hb dAC_firstCash_2 rfl (lv_at hl 1 rfl) ?_
    refine lv_aload_n hx hb dAC_firstCash_3 rfl (lv_at hl 0 rfl) ?_
    refine V_get B hw (v := .int (S.1 2 0)) (by decide) rfl rfl hin_AC 0 (by decide) rfl wm_2 rfl dAC_firstCash_4 ?_
    refine lv_icmp_ge (tgt := 27) hx hb dAC_firstCash_7 (by decide) (fun c1 => ?_) (fun c1 => ?_)
    · have hF := hF.trans (if_pos c1)
      exact hexit _ _ _ x1 hF hw (lv_sub hl [0, 1] rfl)
    · have hF := hF.trans (if_neg c1)
      refine lv_aload_n hx hb dAC_firstCash_10 rfl (lv_at hl 0 rfl) ?_
      refine V_get B hw (v := .ref (ad 3)) (by decide) rfl rfl hin_AC 1 (by decide) rfl wm_3 rfl dAC_firstCash_11 ?_
      refine lv_iload_n hx hb dAC_firstCash_14 rfl (lv_at hl 1 rfl) ?_
      refine V_iald (j := x1.toNatClampNeg) (v := S.1 3 x1.toNatClampNeg) B hw (by decide) rfl (vc_FAC_firstCash_ix15_2 S x1 hJ c1) rfl rfl dAC_firstCash_15 ?_
      refine lv_if_ne (tgt := 21) hx hb dAC_firstCash_16 (by decide) (fun c3 => ?_) (fun c3 => ?_)
      · have hF := hF.trans (if_neg c3)
        refine lv_iinc (v := x1 + 1) (lv' := [(1, .int (x1 + 1)), (0, .ref (ad 2))]) hx hb dAC_firstCash_21 hl (k := 1) rfl rfl (by decide) rfl (fun ls hl => ?_)
        refine lv_goto (tgt := 2) hx hb dAC_firstCash_24 (by decide) ?_
        exact ih S (x1 + 1) _ _ _ (vc_FAC_firstCash_inv2_4 S x1 hJ c1 c3) (Nat.lt_of_lt_of_le (vc_FAC_firstCash_mu2_5 S x1 hJ c1 c3) (Nat.le_of_lt_succ hmu)) hw (lv_sub hl [1, 0] rfl) (fun v h => hret v (hF.trans h)) (fun H locs ls y1 h hw hl => hexit H locs ls y1 (hF.trans h) hw hl)
      · have hF := hF.trans (if_pos c3)
        refine lv_iload_n hx hb dAC_firstCash_19 rfl (lv_at hl 1 rfl) ?_
        exact V_iret B hr hlk hw (hret _ hF) dAC_firstCash_20
theorem cw_FAC_firstCash {R : Room} {cells slots : Nat} (h1 : 1 ≤ R.frames) (h2 : 21 ≤ R.locals) (h3 : cells ≤ R.cells) (h4 : slots ≤ R.slots) : Cw R cells slots yAC_firstCash bAC_firstCash 2 (some .int) ({ frames := 0, cells := 0, slots := 0, locals := 0 } : Room) 0 := ⟨wm_372, wm_351, by decide +kernel, ⟨rfl, rfl, h1, h2⟩, h3, h4⟩
set_option maxHeartbeats 4000000 in
set_option maxRecDepth 100000 in
theorem M_FAC_firstCash (l : Launch) {ad : Nat → Nat} {cI cL : ClassId} {dC : Nat → ClassId} {dI : Nat → Nat → Nat} (hi : adI ad) (S : hS)  (hp : wfC S) : Mt l ad cI cL dC dI yAC_firstCash bAC_firstCash 2 (some .int) ({ frames := 0, cells := 0, slots := 0, locals := 0 } : Room) [.ref (ad 2)] S (pI (FAC_firstCash S) S) := by
  refine Mt_of (own := RAC) hi (by decide) rfl (Nat.le_of_ble_eq_true rfl) ?_
  intro p e s m args below meth c ls B hr hlk hw hl
  obtain ⟨hx, hb, -, hown, hts, -, -⟩ := id B
  have hA : ∀ q, AA ad s.heap.size q → AA ad s.heap.size q := fun _ h => h
  have hl : lv_has ls 2 [(0, .ref (ad 2))] := hl
  have hF := FAC_firstCash_e S 
  refine lv_iconst (v := 0) hx hb dAC_firstCash_0 (by decide) ?_
  refine lv_istore_n (lv' := [(1, .int 0), (0, .ref (ad 2))]) hx hb dAC_firstCash_1 rfl hl (by decide) rfl (fun ls hl => ?_)
  refine LPAC_firstCash_2 l hi B hr hlk hA 300 S 0 _ _ _ (vc_FAC_firstCash_inv02_7 S hp) (vc_FAC_firstCash_mu02_8 S hp) hw (lv_sub hl [1, 0] rfl) (fun v hq => by rw [hq, Sum.elim_inl] at hF; exact pI_r hF) (fun H locs ls y6_1 hq6 hw hl => ?_)
  rw [hq6, Sum.elim_inr] at hF; try dsimp only at hF
  refine lv_iconst (v := (-1)) hx hb dAC_firstCash_27 (by decide) ?_
  exact V_iret B hr hlk hw (pI_r hF) dAC_firstCash_28
theorem cw_FJO_itemAt {R : Room} {cells slots : Nat} (h1 : 1 ≤ R.frames) (h2 : 25 ≤ R.locals) (h3 : cells ≤ R.cells) (h4 : slots ≤ R.slots) : Cw R cells slots yJO_itemAt bJO_itemAt 6 (some .int) ({ frames := 0, cells := 0, slots := 0, locals := 0 } : Room) 2 := ⟨wm_373, wm_358, by decide +kernel, ⟨rfl, rfl, h1, h2⟩, h3, h4⟩
set_option maxHeartbeats 4000000 in
set_option maxRecDepth 100000 in
theorem M_FJO_itemAt (l : Launch) {ad : Nat → Nat} {cI cL : ClassId} {dC : Nat → ClassId} {dI : Nat → Nat → Nat} (hi : adI ad) (S : hS) (x1 : Int32) (x2 : Int32) (hp : wfC S ∧ rg x1 240) : Mt l ad cI cL dC dI yJO_itemAt bJO_itemAt 6 (some .int) ({ frames := 0, cells := 0, slots := 0, locals := 0 } : Room) [.ref (ad 10), .int x1, .int x2] S (pI (FJO_itemAt S x1 x2) S) := by
  refine Mt_of (own := RJO) hi (by decide) rfl (Nat.le_of_ble_eq_true rfl) ?_
  intro p e s m args below meth c ls B hr hlk hw hl
  obtain ⟨hx, hb, -, hown, hts, -, -⟩ := id B
  have hA : ∀ q, AA ad s.heap.size q → AA ad s.heap.size q := fun _ h => h
  have hl : lv_has ls 6 [(0, .ref (ad 10)), (1, .int x1), (2, .int x2)] := hl
  have hF := FJO_itemAt_e S x1 x2
  refine lv_aload_n hx hb dJO_itemAt_0 rfl (lv_at hl 0 rfl) ?_
  refine V_get B hw (v := .ref (ad 14)) (by decide) rfl rfl hin_JO 4 (by decide) rfl wm_30 rfl dJO_itemAt_1 ?_
  refine lv_iload_n hx hb dJO_itemAt_4 rfl (lv_at hl 1 rfl) ?_
  refine lv_bipush (v := 6) hx hb dJO_itemAt_5 (by decide) ?_
  refine lv_idiv hx hb dJO_itemAt_7 (by decide) ?_
  refine V_iald (j := (x1 / 6).toNatClampNeg) (v := S.1 14 ((x1 / 6).toNatClampNeg)) B hw (by decide) rfl (vc_FJO_itemAt_ix8_1 S x1 x2 hp) rfl rfl dJO_itemAt_8 ?_
  refine lv_istore_n (lv' := [(3, .int (S.1 14 ((x1 / 6).toNatClampNeg))), (0, .ref (ad 10)), (1, .int x1), (2, .int x2)]) hx hb dJO_itemAt_9 rfl hl (by decide) rfl (fun ls hl => ?_)
  refine lv_iload_n hx hb dJO_itemAt_10 rfl (lv_at hl 2 rfl) ?_
  refine lv_bipush (v := 6) hx hb dJO_itemAt_11 (by decide) ?_
  refine lv_irem hx hb dJO_itemAt_13 (by decide) ?_
  refine lv_istore (lv' := [(4, .int (x1 - x1 / 6 * 6)), (3, .int (S.1 14 ((x1 / 6).toNatClampNeg))), (0, .ref (ad 10)), (1, .int x1), (2, .int x2)]) hx hb dJO_itemAt_14 hl (by decide) rfl (fun ls hl => ?_)
  refine lv_iload_n hx hb dJO_itemAt_16 rfl (lv_at hl 1 rfl) ?_
  refine lv_bipush (v := 6) hx hb dJO_itemAt_17 (by decide) ?_
  refine lv_imul hx hb dJO_itemAt_19 ?_
  refine lv_iload hx hb dJO_itemAt_20 (lv_at hl 0 rfl) ?_
  refine lv_iadd hx hb dJO_itemAt_22 ?_
  refine lv_istore (lv' := [(5, .int (((S.1 14 ((x1 / 6).toNatClampNeg)) * 6) + (x1 - x1 / 6 * 6))), (4, .int (x1 - x1 / 6 * 6)), (3, .int (S.1 14 ((x1 / 6).toNatClampNeg))), (0, .ref (ad 10)), (1, .int x1), (2, .int x2)]) hx hb dJO_itemAt_23 hl (by decide) rfl (fun ls hl => ?_)
  refine lv_iload hx hb dJO_itemAt_25 (lv_at hl 1 rfl) ?_
  refine lv_aload_n hx hb dJO_itemAt_27 rfl (lv_at hl 3 rfl) ?_
  refine V_get B hw (v := .ref (ad 13)) (by decide) rfl rfl hin_JO 3 (by decide) rfl wm_29 rfl dJO_itemAt_28 ?_
  refine lv_iload_n hx hb dJO_itemAt_31 rfl (lv_at hl 2 rfl) ?_
  refine V_iald (j := (S.1 14 ((x1 / 6).toNatClampNeg)).toNatClampNeg) (v := S.1 13 ((S.1 14 ((x1 / 6).toNatClampNeg)).toNatClampNeg)) B hw (by decide) rfl (vc_FJO_itemAt_ix32_2 S x1 x2 hp) rfl rfl dJO_itemAt_32 ?_
  refine lv_icmp_ge (tgt := 47) hx hb dJO_itemAt_33 (by decide) (fun c3 => ?_) (fun c3 => ?_)
  · have hF := hF.trans (if_pos c3)
    refine lv_iconst (v := (-1)) hx hb dJO_itemAt_47 (by decide) ?_
    exact V_iret B hr hlk hw (pI_r hF) dJO_itemAt_48
  · have hF := hF.trans (if_neg c3)
    refine lv_aload_n hx hb dJO_itemAt_36 rfl (lv_at hl 3 rfl) ?_
    refine V_get B hw (v := .ref (ad 15)) (by decide) rfl rfl hin_JO 5 (by decide) rfl wm_42 rfl dJO_itemAt_37 ?_
    refine lv_iload hx hb dJO_itemAt_40 (lv_at hl 0 rfl) ?_
    refine V_iald (j := (((S.1 14 ((x1 / 6).toNatClampNeg)) * 6) + (x1 - x1 / 6 * 6)).toNatClampNeg) (v := S.1 15 ((((S.1 14 ((x1 / 6).toNatClampNeg)) * 6) + (x1 - x1 / 6 * 6)).toNatClampNeg)) B hw (by decide) rfl (vc_FJO_itemAt_ix42_4 S x1 x2 hp c3) rfl rfl dJO_itemAt_42 ?_
    refine lv_iload_n hx hb dJO_itemAt_43 rfl (lv_at hl 5 rfl) ?_
    refine lv_icmp_eq (tgt := 49) hx hb dJO_itemAt_44 (by decide) (fun c5 => ?_) (fun c5 => ?_)
    · have hF := hF.trans (if_pos c5)
      refine lv_aload_n hx hb dJO_itemAt_49 rfl (lv_at hl 3 rfl) ?_
      refine V_get B hw (v := .ref (ad 17)) (by decide) rfl rfl hin_JO 7 (by decide) rfl wm_44 rfl dJO_itemAt_50 ?_
      refine lv_iload hx hb dJO_itemAt_53 (lv_at hl 0 rfl) ?_
      refine V_lald (j := (((S.1 14 ((x1 / 6).toNatClampNeg)) * 6) + (x1 - x1 / 6 * 6)).toNatClampNeg) (v := S.2 17 ((((S.1 14 ((x1 / 6).toNatClampNeg)) * 6) + (x1 - x1 / 6 * 6)).toNatClampNeg)) B hw (by decide) rfl (vc_FJO_itemAt_ix55_6 S x1 x2 hp c3 c5) rfl rfl dJO_itemAt_55 ?_
      refine lv_ldc2 (v := (-1)) hx hb hown (hts _ wm_45) dJO_itemAt_56 ?_
      refine V_lne (tgt := 67) B dJO_itemAt_59 dJO_itemAt_60 (by decide) (fun c7 => ?_) (fun c7 => ?_)
      · have hF := hF.trans (if_neg c7)
        refine lv_iload hx hb dJO_itemAt_67 (lv_at hl 0 rfl) ?_
        exact V_iret B hr hlk hw (pI_r hF) dJO_itemAt_69
      · have hF := hF.trans (if_pos c7)
        refine lv_iconst (v := (-1)) hx hb dJO_itemAt_63 (by decide) ?_
        refine lv_goto (tgt := 69) hx hb dJO_itemAt_64 (by decide) ?_
        exact V_iret B hr hlk hw (pI_r hF) dJO_itemAt_69
    · have hF := hF.trans (if_neg c5)
      refine lv_iconst (v := (-1)) hx hb dJO_itemAt_47 (by decide) ?_
      exact V_iret B hr hlk hw (pI_r hF) dJO_itemAt_48
theorem cw_FJO_keepGift {R : Room} {cells slots : Nat} (h1 : 1 ≤ R.frames) (h2 : 22 ≤ R.locals) (h3 : cells ≤ R.cells) (h4 : slots ≤ R.slots) : Cw R cells slots yJO_keepGift bJO_keepGift 3 none ({ frames := 0, cells := 0, slots := 0, locals := 0 } : Room) 2 := ⟨wm_374, wm_358, by decide +kernel, ⟨rfl, rfl, h1, h2⟩, h3, h4⟩
set_option maxHeartbeats 4000000 in
set_option maxRecDepth 100000 in
theorem M_FJO_keepGift (l : Launch) {ad : Nat → Nat} {cI cL : ClassId} {dC : Nat → ClassId} {dI : Nat → Nat → Nat} (hi : adI ad) (S : hS) (x1 : Int32) (x2 : Int32) (hp : wfC S) : Mt l ad cI cL dC dI yJO_keepGift bJO_keepGift 3 none ({ frames := 0, cells := 0, slots := 0, locals := 0 } : Room) [.ref (ad 10), .int x1, .int x2] S (pV (FJO_keepGift S x1 x2)) := by
  refine Mt_of (own := RJO) hi (by decide) rfl (Nat.le_of_ble_eq_true rfl) ?_
  intro p e s m args below meth c ls B hr hlk hw hl
  obtain ⟨hx, hb, -, hown, hts, -, -⟩ := id B
  have hA : ∀ q, AA ad s.heap.size q → AA ad s.heap.size q := fun _ h => h
  have hl : lv_has ls 3 [(0, .ref (ad 10)), (1, .int x1), (2, .int x2)] := hl
  have hF := FJO_keepGift_e S x1 x2
  refine lv_aload_n hx hb dJO_keepGift_0 rfl (lv_at hl 0 rfl) ?_
  refine V_get B hw (v := .int (S.1 10 8)) (by decide) rfl rfl hin_JO 8 (by decide) rfl wm_87 rfl dJO_keepGift_1 ?_
  refine lv_sipush (v := 280) hx hb dJO_keepGift_4 (by decide) ?_
  refine lv_icmp_ge (tgt := 40) hx hb dJO_keepGift_7 (by decide) (fun c1 => ?_) (fun c1 => ?_)
  · have hF := hF.trans (if_pos c1)
    exact V_vret B hr hlk hw (pV_of hF) dJO_keepGift_40
  · have hF := hF.trans (if_neg c1)
    refine lv_aload_n hx hb dJO_keepGift_10 rfl (lv_at hl 0 rfl) ?_
    refine V_get B hw (v := .ref (ad 18)) (by decide) rfl rfl hin_JO 9 (by decide) rfl wm_88 rfl dJO_keepGift_11 ?_
    refine lv_aload_n hx hb dJO_keepGift_14 rfl (lv_at hl 0 rfl) ?_
    refine V_get B hw (v := .int (S.1 10 8)) (by decide) rfl rfl hin_JO 8 (by decide) rfl wm_87 rfl dJO_keepGift_15 ?_
    refine lv_iload_n hx hb dJO_keepGift_18 rfl (lv_at hl 1 rfl) ?_
    refine V_iast (j := (S.1 10 8).toNatClampNeg) B hw (by decide) rfl (vc_FJO_keepGift_ix19_2 S x1 x2 hp c1) rfl dJO_keepGift_19 (fun H locs hw => ?_)
    refine lv_aload_n hx hb dJO_keepGift_20 rfl (lv_at hl 0 rfl) ?_
    refine V_get B hw (v := .ref (ad 19)) (by decide) rfl rfl hin_JO 10 (by decide) rfl wm_89 rfl dJO_keepGift_21 ?_
    refine lv_aload_n hx hb dJO_keepGift_24 rfl (lv_at hl 0 rfl) ?_
    refine V_get B hw (v := .int (S.1 10 8)) (by decide) rfl rfl hin_JO 8 (by decide) rfl wm_87 rfl dJO_keepGift_25 ?_
    refine lv_iload_n hx hb dJO_keepGift_28 rfl (lv_at hl 2 rfl) ?_
    refine V_iast (j := (S.1 10 8).toNatClampNeg) B hw (by decide) rfl (vc_FJO_keepGift_ix29_3 S x1 x2 hp c1) rfl dJO_keepGift_29 (fun H locs hw => ?_)
    refine lv_aload_n hx hb dJO_keepGift_30 rfl (lv_at hl 0 rfl) ?_
    refine lv_dup hx hb dJO_keepGift_31 rfl ?_
    refine V_get B hw (v := .int (S.1 10 8)) (by decide) rfl rfl hin_JO 8 (by decide) rfl wm_87 rfl dJO_keepGift_32 ?_
    refine lv_iconst (v := 1) hx hb dJO_keepGift_35 (by decide) ?_
    refine lv_iadd hx hb dJO_keepGift_36 ?_
    refine V_putI (ty := .int) B hw (by decide) rfl rfl hin_JO tyJO_ok nmJO 8 (by decide) rfl wm_87 rfl (by decide +kernel) rfl rfl dJO_keepGift_37 (fun H locs hw => ?_)
    exact V_vret B hr hlk hw (pV_of hF) dJO_keepGift_40
set_option maxHeartbeats 4000000 in
set_option maxRecDepth 100000 in
theorem LPJO_payItems_15 (l : Launch) {ad : Nat → Nat} {cI cL : ClassId} {dC : Nat → ClassId} {dI : Nat → Nat → Nat} (hi : adI ad) {p : Program} {e : Env} {s : State} {m : MethodId} {args : Array Value} {below : List Frame} {meth : Method} {c : Code} {A : Nat → Prop} {post : Option Value → hS → Prop} (B : Bs p s m args c RJO bJO_payItems 12 cI cL dC dI) (hr : meth.sig.returnType = none) (hlk : meth.locks = false) (hA : ∀ q, AA ad s.heap.size q → A q) : ∀ (n : Nat) (S : hS) (x1 : Int32) (x2 : Int32) (x3 : Int64) (x5 : Int64) (x7 : Int32) (x8 : Int32) (H : Heap) (locs : List Loc) (ls : Array Slot), wfC S ∧ lp x8 x7 → ((x7.toInt - x8.toInt).toNat) < n → Wd ad cI cL dC dI A s.heap S H locs → lv_has ls 12 [(0, .ref (ad 10)), (1, .int x1), (2, .int x2), (3, .long x3), (5, .long x5), (7, .int x7), (8, .int x8)] → (∀ (H : Heap) (locs : List Loc) (ls : Array Slot) (y5 : Int64) (y8 : Int32) (S' : hS), LJO_payItems_15 n S x1 x2 x3 x5 x7 x8 = (y5, y8, S') → Wd ad cI cL dC dI A s.heap S' H locs → lv_has ls 12 [(0, .ref (ad 10)), (1, .int x1), (2, .int x2), (3, .long x3), (5, .long y5), (7, .int x7), (8, .int y8)] → W p l e ({ frames := 1, cells := 0, slots := 0, locals := 25 } : Room) s m args below meth c H locs 0 0 (MQ below (QcW ad cI cL dC dI post A) args s 0 0 A) (F0 m 102 ls [])) → W p l e ({ frames := 1, cells := 0, slots := 0, locals := 25 } : Room) s m args below meth c H locs 0 0 (MQ below (QcW ad cI cL dC dI post A) args s 0 0 A) (F0 m 15 ls []) := by
  intro n
  obtain ⟨hx, hb, -, hown, hts, -, -⟩ := id B
  induction n with
  | zero => exact fun S x1 x2 x3 x5 x7 x8 H locs ls _ hmu => absurd hmu (Nat.not_lt_zero _)
  | succ n ih =>
    intro S x1 x2 x3 x5 x7 x8 H locs ls hJ hmu hw hl hexit
    have hF := LJO_payItems_15_s n S x1 x2 x3 x5 x7 x8
    refine lv_iload hx hb dJO_payItems_15 (lv_at hl 6 rfl) ?_
    refine lv_iload hx hb dJO_payItems_17 (lv_at hl 5 rfl) ?_
    refine lv_icmp_ge (tgt := 102) hx hb dJO_payItems_19 (by decide) (fun c1 => ?_) (fun c1 => ?_)
    · have hF := hF.trans (if_pos c1)
      exact hexit _ _ _ x5 x8 S hF hw (lv_sub hl [0, 1, 2, 3, 4, 5, 6] rfl)
    · have hF := hF.trans (if_neg c1)
      refine lv_lload hx hb dJO_payItems_22 (lv_at hl 4 rfl) ?_
      refine lv_lconst (v := 0) hx hb dJO_payItems_24 (by decide) ?_
      refine V_lle (tgt := 102) B dJO_payItems_25 dJO_payItems_26 (by decide) (fun c2 => ?_) (fun c2 => ?_)
      · have hF := hF.trans (if_pos c2)
        exact hexit _ _ _ x5 x8 S hF hw (lv_sub hl [0, 1, 2, 3, 4, 5, 6] rfl)
      · have hF := hF.trans (if_neg c2)
        refine lv_aload_n hx hb dJO_payItems_29 rfl (lv_at hl 0 rfl) ?_
        refine lv_iload hx hb dJO_payItems_30 (lv_at hl 6 rfl) ?_
        refine lv_iload_n hx hb dJO_payItems_32 rfl (lv_at hl 2 rfl) ?_
        refine V_callV (rest := []) B hi hw hA hl.1 (M_FJO_itemAt l hi S x8 x2 (vc_FJO_payItems_pre33_3 S x1 x2 x3 x5 x7 x8 hJ c1 c2)) (cw_FJO_itemAt (Nat.le_of_ble_eq_true rfl) (Nat.le_of_ble_eq_true rfl) (Nat.zero_le _) (Nat.zero_le _)) (by decide) rfl rfl wm_80 wm_81 wm_82 rfl (Nat.le_of_ble_eq_true rfl) dJO_payItems_33 (kI (fun H locs hw => ?_))
        refine lv_istore (lv' := [(9, .int (FJO_itemAt S x8 x2)), (0, .ref (ad 10)), (1, .int x1), (2, .int x2), (3, .long x3), (5, .long x5), (7, .int x7), (8, .int x8)]) hx hb dJO_payItems_36 hl (by decide) rfl (fun ls hl => ?_)
        refine lv_iload hx hb dJO_payItems_38 (lv_at hl 0 rfl) ?_
        refine lv_iconst (v := (-1)) hx hb dJO_payItems_40 (by decide) ?_
        refine lv_icmp_eq (tgt := 96) hx hb dJO_payItems_41 (by decide) (fun c4 => ?_) (fun c4 => ?_)
        · have hF := hF.trans (if_pos c4)
          refine lv_iinc (v := x8 + 1) (lv' := [(8, .int (x8 + 1)), (9, .int (FJO_itemAt S x8 x2)), (0, .ref (ad 10)), (1, .int x1), (2, .int x2), (3, .long x3), (5, .long x5), (7, .int x7)]) hx hb dJO_payItems_96 hl (k := 7) rfl rfl (by decide) rfl (fun ls hl => ?_)
          refine lv_goto (tgt := 15) hx hb dJO_payItems_99 (by decide) ?_
          exact ih S x1 x2 x3 x5 x7 (x8 + 1) _ _ _ (vc_FJO_payItems_inv15_5 S x1 x2 x3 x5 x7 x8 hJ c1 c2 c4) (Nat.lt_of_lt_of_le (vc_FJO_payItems_mu15_6 S x1 x2 x3 x5 x7 x8 hJ c1 c2 c4) (Nat.le_of_lt_succ hmu)) hw (lv_sub hl [2, 3, 4, 5, 6, 7, 0] rfl) (fun H locs ls y5 y8 S' h hw hl => hexit H locs ls y5 y8 S' (hF.trans h) hw hl)
        · have hF := hF.trans (if_neg c4)
          refine lv_aload_n hx hb dJO_payItems_44 rfl (lv_at hl 1 rfl) ?_
          refine V_get B hw (v := .ref (ad 17)) (by decide) rfl rfl hin_JO 7 (by decide) rfl wm_44 rfl dJO_payItems_45 ?_
          refine lv_iload hx hb dJO_payItems_48 (lv_at hl 0 rfl) ?_
          refine V_lald (j := (FJO_itemAt S x8 x2).toNatClampNeg) (v := S.2 17 ((FJO_itemAt S x8 x2).toNatClampNeg)) B hw (by decide) rfl (vc_FJO_payItems_ix50_7 S x1 x2 x3 x5 x7 x8 hJ c1 c2 c4) rfl rfl dJO_payItems_50 ?_
          refine lv_lconst (v := 0) hx hb dJO_payItems_51 (by decide) ?_
          refine V_lle (tgt := 96) B dJO_payItems_52 dJO_payItems_53 (by decide) (fun c8 => ?_) (fun c8 => ?_)
          · have hF := hF.trans (if_pos c8)
            refine lv_iinc (v := x8 + 1) (lv' := [(8, .int (x8 + 1)), (9, .int (FJO_itemAt S x8 x2)), (0, .ref (ad 10)), (1, .int x1), (2, .int x2), (3, .long x3), (5, .long x5), (7, .int x7)]) hx hb dJO_payItems_96 hl (k := 7) rfl rfl (by decide) rfl (fun ls hl => ?_)
            refine lv_goto (tgt := 15) hx hb dJO_payItems_99 (by decide) ?_
            exact ih S x1 x2 x3 x5 x7 (x8 + 1) _ _ _ (vc_FJO_payItems_inv15_9 S x1 x2 x3 x5 x7 x8 hJ c1 c2 c4 c8) (Nat.lt_of_lt_of_le (vc_FJO_payItems_mu15_10 S x1 x2 x3 x5 x7 x8 hJ c1 c2 c4 c8) (Nat.le_of_lt_succ hmu)) hw (lv_sub hl [2, 3, 4, 5, 6, 7, 0] rfl) (fun H locs ls y5 y8 S' h hw hl => hexit H locs ls y5 y8 S' (hF.trans h) hw hl)
          · have hF := hF.trans (if_neg c8)
            refine lv_lload hx hb dJO_payItems_56 (lv_at hl 5 rfl) ?_
            refine lv_aload_n hx hb dJO_payItems_58 rfl (lv_at hl 1 rfl) ?_
            refine V_get B hw (v := .ref (ad 17)) (by decide) rfl rfl hin_JO 7 (by decide) rfl wm_44 rfl dJO_payItems_59 ?_
            refine lv_iload hx hb dJO_payItems_62 (lv_at hl 0 rfl) ?_
            refine V_lald (j := (FJO_itemAt S x8 x2).toNatClampNeg) (v := S.2 17 ((FJO_itemAt S x8 x2).toNatClampNeg)) B hw (by decide) rfl (vc_FJO_payItems_ix64_11 S x1 x2 x3 x5 x7 x8 hJ c1 c2 c4 c8) rfl rfl dJO_payItems_64 ?_
            refine va_mmin_long hx hb (B.2.2.1.trans hl.1.symm) hown (hts _ wm_83) (hts _ wm_84) (hts _ wm_85) (hts _ wm_86) (Nat.le_of_ble_eq_true rfl) (Nat.le_of_ble_eq_true rfl) (Nat.zero_le _) (Nat.zero_le _) dJO_payItems_65 ?_
            refine lv_lstore (lv' := [(10, .long (if (S.2 17 ((FJO_itemAt S x8 x2).toNatClampNeg)) < x5 then (S.2 17 ((FJO_itemAt S x8 x2).toNatClampNeg)) else x5)), (9, .int (FJO_itemAt S x8 x2)), (0, .ref (ad 10)), (1, .int x1), (2, .int x2), (3, .long x3), (5, .long x5), (7, .int x7), (8, .int x8)]) hx hb dJO_payItems_68 hl (by decide) rfl (fun ls hl => ?_)
            refine lv_aload_n hx hb dJO_payItems_70 rfl (lv_at hl 2 rfl) ?_
            refine V_get B hw (v := .ref (ad 17)) (by decide) rfl rfl hin_JO 7 (by decide) rfl wm_44 rfl dJO_payItems_71 ?_
            refine lv_iload hx hb dJO_payItems_74 (lv_at hl 1 rfl) ?_
            refine lv_dup2_11 hx hb dJO_payItems_76 rfl rfl ?_
            refine V_lald (j := (FJO_itemAt S x8 x2).toNatClampNeg) (v := S.2 17 ((FJO_itemAt S x8 x2).toNatClampNeg)) B hw (by decide) rfl (vc_FJO_payItems_ix77_12 S x1 x2 x3 x5 x7 x8 hJ c1 c2 c4 c8) rfl rfl dJO_payItems_77 ?_
            refine lv_lload hx hb dJO_payItems_78 (lv_at hl 0 rfl) ?_
            refine lv_lsub hx hb dJO_payItems_80 ?_
            refine V_last (j := (FJO_itemAt S x8 x2).toNatClampNeg) B hw (by decide) rfl (vc_FJO_payItems_ix81_13 S x1 x2 x3 x5 x7 x8 hJ c1 c2 c4 c8) rfl dJO_payItems_81 (fun H locs hw => ?_)
            refine lv_lload hx hb dJO_payItems_82 (lv_at hl 6 rfl) ?_
            refine lv_lload hx hb dJO_payItems_84 (lv_at hl 0 rfl) ?_
            refine lv_lsub hx hb dJO_payItems_86 ?_
            refine lv_lstore (lv' := [(5, .long (x5 - (if (S.2 17 ((FJO_itemAt S x8 x2).toNatClampNeg)) < x5 then (S.2 17 ((FJO_itemAt S x8 x2).toNatClampNeg)) else x5))), (10, .long (if (S.2 17 ((FJO_itemAt S x8 x2).toNatClampNeg)) < x5 then (S.2 17 ((FJO_itemAt S x8 x2).toNatClampNeg)) else x5)), (9, .int (FJO_itemAt S x8 x2)), (0, .ref (ad 10)), (1, .int x1), (2, .int x2), (3, .long x3), (7, .int x7), (8, .int x8)]) hx hb dJO_payItems_87 hl (by decide) rfl (fun ls hl => ?_)
            refine lv_aload_n hx hb dJO_payItems_89 rfl (lv_at hl 3 rfl) ?_
            refine lv_iload_n hx hb dJO_payItems_90 rfl (lv_at hl 4 rfl) ?_
            refine lv_iload hx hb dJO_payItems_91 (lv_at hl 2 rfl) ?_
            refine V_callV (rest := []) B hi hw hA hl.1 (M_FJO_keepGift l hi (sL S 17 ((FJO_itemAt S x8 x2).toNatClampNeg) ((S.2 17 ((FJO_itemAt S x8 x2).toNatClampNeg)) - (if (S.2 17 ((FJO_itemAt S x8 x2).toNatClampNeg)) < x5 then (S.2 17 ((FJO_itemAt S x8 x2).toNatClampNeg)) else x5))) x1 (FJO_itemAt S x8 x2) (vc_FJO_payItems_pre93_14 S x1 x2 x3 x5 x7 x8 hJ c1 c2 c4 c8)) (cw_FJO_keepGift (Nat.le_of_ble_eq_true rfl) (Nat.le_of_ble_eq_true rfl) (Nat.zero_le _) (Nat.zero_le _)) (by decide) rfl rfl wm_90 wm_91 wm_92 rfl (Nat.le_of_ble_eq_true rfl) dJO_payItems_93 (kV (fun H locs hw => ?_))
            refine lv_iinc (v := x8 + 1) (lv' := [(8, .int (x8 + 1)), (5, .long (x5 - (if (S.2 17 ((FJO_itemAt S x8 x2).toNatClampNeg)) < x5 then (S.2 17 ((FJO_itemAt S x8 x2).toNatClampNeg)) else x5))), (10, .long (if (S.2 17 ((FJO_itemAt S x8 x2).toNatClampNeg)) < x5 then (S.2 17 ((FJO_itemAt S x8 x2).toNatClampNeg)) else x5)), (9, .int (FJO_itemAt S x8 x2)), (0, .ref (ad 10)), (1, .int x1), (2, .int x2), (3, .long x3), (7, .int x7)]) hx hb dJO_payItems_96 hl (k := 8) rfl rfl (by decide) rfl (fun ls hl => ?_)
            refine lv_goto (tgt := 15) hx hb dJO_payItems_99 (by decide) ?_
            exact ih (FJO_keepGift (sL S 17 ((FJO_itemAt S x8 x2).toNatClampNeg) ((S.2 17 ((FJO_itemAt S x8 x2).toNatClampNeg)) - (if (S.2 17 ((FJO_itemAt S x8 x2).toNatClampNeg)) < x5 then (S.2 17 ((FJO_itemAt S x8 x2).toNatClampNeg)) else x5))) x1 (FJO_itemAt S x8 x2)) x1 x2 x3 (x5 - (if (S.2 17 ((FJO_itemAt S x8 x2).toNatClampNeg)) < x5 then (S.2 17 ((FJO_itemAt S x8 x2).toNatClampNeg)) else x5)) x7 (x8 + 1) _ _ _ (vc_FJO_payItems_inv15_15 S x1 x2 x3 x5 x7 x8 hJ c1 c2 c4 c8) (Nat.lt_of_lt_of_le (vc_FJO_payItems_mu15_16 S x1 x2 x3 x5 x7 x8 hJ c1 c2 c4 c8) (Nat.le_of_lt_succ hmu)) hw (lv_sub hl [4, 5, 6, 7, 1, 8, 0] rfl) (fun H locs ls y5 y8 S' h hw hl => hexit H locs ls y5 y8 S' (hF.trans h) hw hl)
theorem cw_FJO_payItems {R : Room} {cells slots : Nat} (h1 : 2 ≤ R.frames) (h2 : 56 ≤ R.locals) (h3 : cells ≤ R.cells) (h4 : slots ≤ R.slots) : Cw R cells slots yJO_payItems bJO_payItems 12 none ({ frames := 1, cells := 0, slots := 0, locals := 25 } : Room) 3 := ⟨wm_375, wm_358, by decide +kernel, ⟨rfl, rfl, h1, h2⟩, h3, h4⟩
set_option maxHeartbeats 4000000 in
set_option maxRecDepth 100000 in
theorem M_FJO_payItems (l : Launch) {ad : Nat → Nat} {cI cL : ClassId} {dC : Nat → ClassId} {dI : Nat → Nat → Nat} (hi : adI ad) (S : hS) (x1 : Int32) (x2 : Int32) (x3 : Int64) (hp : wfC S) : Mt l ad cI cL dC dI yJO_payItems bJO_payItems 12 none ({ frames := 1, cells := 0, slots := 0, locals := 25 } : Room) [.ref (ad 10), .int x1, .int x2, .long x3] S (pV (FJO_payItems S x1 x2 x3)) := by
  refine Mt_of (own := RJO) hi (by decide) rfl (Nat.le_of_ble_eq_true rfl) ?_
  intro p e s m args below meth c ls B hr hlk hw hl
  obtain ⟨hx, hb, -, hown, hts, -, -⟩ := id B
  have hA : ∀ q, AA ad s.heap.size q → AA ad s.heap.size q := fun _ h => h
  have hl : lv_has ls 12 [(0, .ref (ad 10)), (1, .int x1), (2, .int x2), (3, .long x3)] := hl
  have hF := FJO_payItems_e S x1 x2 x3
  refine lv_lload_n hx hb dJO_payItems_0 rfl (lv_at hl 3 rfl) ?_
  refine lv_lstore (lv' := [(5, .long x3), (0, .ref (ad 10)), (1, .int x1), (2, .int x2), (3, .long x3)]) hx hb dJO_payItems_1 hl (by decide) rfl (fun ls hl => ?_)
  refine lv_aload_n hx hb dJO_payItems_3 rfl (lv_at hl 1 rfl) ?_
  refine V_get B hw (v := .int (S.1 10 0)) (by decide) rfl rfl hin_JO 0 (by decide) rfl wm_23 rfl dJO_payItems_4 ?_
  refine lv_bipush (v := 6) hx hb dJO_payItems_7 (by decide) ?_
  refine lv_imul hx hb dJO_payItems_9 ?_
  refine lv_istore (lv' := [(7, .int ((S.1 10 0) * 6)), (5, .long x3), (0, .ref (ad 10)), (1, .int x1), (2, .int x2), (3, .long x3)]) hx hb dJO_payItems_10 hl (by decide) rfl (fun ls hl => ?_)
  refine lv_iconst (v := 0) hx hb dJO_payItems_12 (by decide) ?_
  refine lv_istore (lv' := [(8, .int 0), (7, .int ((S.1 10 0) * 6)), (5, .long x3), (0, .ref (ad 10)), (1, .int x1), (2, .int x2), (3, .long x3)]) hx hb dJO_payItems_13 hl (by decide) rfl (fun ls hl => ?_)
  refine LPJO_payItems_15 l hi B hr hlk hA 300 S x1 x2 x3 x3 ((S.1 10 0) * 6) 0 _ _ _ (vc_FJO_payItems_inv015_18 S x1 x2 x3 hp) (vc_FJO_payItems_mu015_19 S x1 x2 x3 hp) hw (lv_sub hl [3, 4, 5, 6, 2, 1, 0] rfl) (fun H locs ls y17_5 y17_8 S17 hq17 hw hl => ?_)
  rw [hq17] at hF; try dsimp only at hF
  exact V_vret B hr hlk hw (pV_of hF) dJO_payItems_102
theorem cw_FBO_keepFound {R : Room} {cells slots : Nat} (h1 : 1 ≤ R.frames) (h2 : 22 ≤ R.locals) (h3 : cells ≤ R.cells) (h4 : slots ≤ R.slots) : Cw R cells slots yBO_keepFound bBO_keepFound 3 none ({ frames := 0, cells := 0, slots := 0, locals := 0 } : Room) 1 := ⟨wm_376, wm_356, by decide +kernel, ⟨rfl, rfl, h1, h2⟩, h3, h4⟩
set_option maxHeartbeats 4000000 in
set_option maxRecDepth 100000 in
theorem M_FBO_keepFound (l : Launch) {ad : Nat → Nat} {cI cL : ClassId} {dC : Nat → ClassId} {dI : Nat → Nat → Nat} (hi : adI ad) (S : hS) (x1 : Int64) (hp : wfC S) : Mt l ad cI cL dC dI yBO_keepFound bBO_keepFound 3 none ({ frames := 0, cells := 0, slots := 0, locals := 0 } : Room) [.ref (ad 1), .long x1] S (pV (FBO_keepFound S x1)) := by
  refine Mt_of (own := RBO) hi (by decide) rfl (Nat.le_of_ble_eq_true rfl) ?_
  intro p e s m args below meth c ls B hr hlk hw hl
  obtain ⟨hx, hb, -, hown, hts, -, -⟩ := id B
  have hA : ∀ q, AA ad s.heap.size q → AA ad s.heap.size q := fun _ h => h
  have hl : lv_has ls 3 [(0, .ref (ad 1)), (1, .long x1)] := hl
  have hF := FBO_keepFound_e S x1
  refine lv_aload_n hx hb dBO_keepFound_0 rfl (lv_at hl 0 rfl) ?_
  refine V_get B hw (v := .int (S.1 1 4)) (by decide) rfl rfl hin_BO 4 (by decide) rfl wm_96 rfl dBO_keepFound_1 ?_
  refine lv_bipush (v := 20) hx hb dBO_keepFound_4 (by decide) ?_
  refine lv_icmp_ge (tgt := 29) hx hb dBO_keepFound_6 (by decide) (fun c1 => ?_) (fun c1 => ?_)
  · have hF := hF.trans (if_pos c1)
    exact V_vret B hr hlk hw (pV_of hF) dBO_keepFound_29
  · have hF := hF.trans (if_neg c1)
    refine lv_aload_n hx hb dBO_keepFound_9 rfl (lv_at hl 0 rfl) ?_
    refine V_get B hw (v := .ref (ad 24)) (by decide) rfl rfl hin_BO 3 (by decide) rfl wm_97 rfl dBO_keepFound_10 ?_
    refine lv_aload_n hx hb dBO_keepFound_13 rfl (lv_at hl 0 rfl) ?_
    refine V_get B hw (v := .int (S.1 1 4)) (by decide) rfl rfl hin_BO 4 (by decide) rfl wm_96 rfl dBO_keepFound_14 ?_
    refine lv_lload_n hx hb dBO_keepFound_17 rfl (lv_at hl 1 rfl) ?_
    refine V_last (j := (S.1 1 4).toNatClampNeg) B hw (by decide) rfl (vc_FBO_keepFound_ix18_2 S x1 hp c1) rfl dBO_keepFound_18 (fun H locs hw => ?_)
    refine lv_aload_n hx hb dBO_keepFound_19 rfl (lv_at hl 0 rfl) ?_
    refine lv_dup hx hb dBO_keepFound_20 rfl ?_
    refine V_get B hw (v := .int (S.1 1 4)) (by decide) rfl rfl hin_BO 4 (by decide) rfl wm_96 rfl dBO_keepFound_21 ?_
    refine lv_iconst (v := 1) hx hb dBO_keepFound_24 (by decide) ?_
    refine lv_iadd hx hb dBO_keepFound_25 ?_
    refine V_putI (ty := .int) B hw (by decide) rfl rfl hin_BO tyBO_ok nmBO 4 (by decide) rfl wm_96 rfl (by decide +kernel) rfl rfl dBO_keepFound_26 (fun H locs hw => ?_)
    exact V_vret B hr hlk hw (pV_of hF) dBO_keepFound_29
theorem cw_FHL_payment {R : Room} {cells slots : Nat} (h1 : 3 ≤ R.frames) (h2 : 83 ≤ R.locals) (h3 : cells ≤ R.cells) (h4 : slots ≤ R.slots) : Cw R cells slots yHL_payment bHL_payment 8 (some .int) ({ frames := 2, cells := 0, slots := 0, locals := 56 } : Room) 3 := ⟨wm_377, wm_353, by decide +kernel, ⟨rfl, rfl, h1, h2⟩, h3, h4⟩
set_option maxHeartbeats 4000000 in
set_option maxRecDepth 100000 in
theorem M_FHL_payment (l : Launch) {ad : Nat → Nat} {cI cL : ClassId} {dC : Nat → ClassId} {dI : Nat → Nat → Nat} (hi : adI ad) (S : hS) (x1 : Int32) (x2 : Int64) (x4 : Int64) (hp : wfC S) : Mt l ad cI cL dC dI yHL_payment bHL_payment 8 (some .int) ({ frames := 2, cells := 0, slots := 0, locals := 56 } : Room) [.ref (ad 0), .int x1, .long x2, .long x4] S (pI (FHL_payment S x1 x2 x4).1 (FHL_payment S x1 x2 x4).2) := by
  refine Mt_of (own := RHL) hi (by decide) rfl (Nat.le_of_ble_eq_true rfl) ?_
  intro p e s m args below meth c ls B hr hlk hw hl
  obtain ⟨hx, hb, -, hown, hts, -, -⟩ := id B
  have hA : ∀ q, AA ad s.heap.size q → AA ad s.heap.size q := fun _ h => h
  have hl : lv_has ls 8 [(0, .ref (ad 0)), (1, .int x1), (2, .long x2), (4, .long x4)] := hl
  have hF := FHL_payment_e S x1 x2 x4
  refine lv_aload_n hx hb dHL_payment_0 rfl (lv_at hl 0 rfl) ?_
  refine V_get B hw (v := .ref (ad 1)) (by decide) rfl rfl hin_HL 0 (by decide) rfl wm_0 rfl dHL_payment_1 ?_
  refine V_getN B hw (v := .ref (ad 2)) (by decide) rfl rfl hin_BO 0 (by decide) rfl wn_1 rfl dHL_payment_4 ?_
  refine V_callVN (rest := []) B hi hw hA hl.1 (M_FAC_firstCash l hi S (vc_FHL_payment_pre7_1 S x1 x2 x4 hp)) (cw_FAC_firstCash (Nat.le_of_ble_eq_true rfl) (Nat.le_of_ble_eq_true rfl) (Nat.zero_le _) (Nat.zero_le _)) (by decide) rfl rfl wn_75 wm_76 wm_77 rfl (Nat.le_of_ble_eq_true rfl) dHL_payment_7 (kI (fun H locs hw => ?_))
  refine lv_istore (lv' := [(6, .int (FAC_firstCash S)), (0, .ref (ad 0)), (1, .int x1), (2, .long x2), (4, .long x4)]) hx hb dHL_payment_10 hl (by decide) rfl (fun ls hl => ?_)
  refine lv_lload_n hx hb dHL_payment_12 rfl (lv_at hl 3 rfl) ?_
  refine lv_lconst (v := 1) hx hb dHL_payment_13 (by decide) ?_
  refine V_llt (tgt := 38) B dHL_payment_14 dHL_payment_15 (by decide) (fun c2 => ?_) (fun c2 => ?_)
  · have hF := hF.trans (if_pos c2)
    refine lv_iconst (v := (-1)) hx hb dHL_payment_38 (by decide) ?_
    exact V_iret B hr hlk hw (pI_of hF) dHL_payment_39
  · have hF := hF.trans (if_neg c2)
    refine lv_lload_n hx hb dHL_payment_18 rfl (lv_at hl 3 rfl) ?_
    refine lv_ldc2 (v := 100000000) hx hb hown (hts _ wm_41) dHL_payment_19 ?_
    refine V_lgt (tgt := 38) B dHL_payment_22 dHL_payment_23 (by decide) (fun c3 => ?_) (fun c3 => ?_)
    · have hF := hF.trans (if_pos c3)
      refine lv_iconst (v := (-1)) hx hb dHL_payment_38 (by decide) ?_
      exact V_iret B hr hlk hw (pI_of hF) dHL_payment_39
    · have hF := hF.trans (if_neg c3)
      refine lv_aload_n hx hb dHL_payment_26 rfl (lv_at hl 1 rfl) ?_
      refine V_get B hw (v := .ref (ad 1)) (by decide) rfl rfl hin_HL 0 (by decide) rfl wm_0 rfl dHL_payment_27 ?_
      refine lv_lload hx hb dHL_payment_30 (lv_at hl 4 rfl) ?_
      refine V_callVN (rest := []) B hi hw hA hl.1 (M_FBO_isUnclosedDay l hi S x4 (vc_FHL_payment_pre32_4 S x1 x2 x4 hp c2 c3)) (cw_FBO_isUnclosedDay (Nat.le_of_ble_eq_true rfl) (Nat.le_of_ble_eq_true rfl) (Nat.zero_le _) (Nat.zero_le _)) (by decide) rfl rfl wn_19 wm_20 wm_21 rfl (Nat.le_of_ble_eq_true rfl) dHL_payment_32 (kI (fun H locs hw => ?_))
      refine lv_if_ne (tgt := 40) hx hb dHL_payment_35 (by decide) (fun c5 => ?_) (fun c5 => ?_)
      · have hF := hF.trans (if_neg c5)
        refine lv_iload hx hb dHL_payment_40 (lv_at hl 0 rfl) ?_
        refine lv_iconst (v := (-1)) hx hb dHL_payment_42 (by decide) ?_
        refine lv_icmp_eq (tgt := 59) hx hb dHL_payment_43 (by decide) (fun c6 => ?_) (fun c6 => ?_)
        · have hF := hF.trans (if_pos c6)
          refine lv_iconst (v := (-1)) hx hb dHL_payment_59 (by decide) ?_
          exact V_iret B hr hlk hw (pI_of hF) dHL_payment_60
        · have hF := hF.trans (if_neg c6)
          refine lv_aload_n hx hb dHL_payment_46 rfl (lv_at hl 1 rfl) ?_
          refine V_get B hw (v := .ref (ad 1)) (by decide) rfl rfl hin_HL 0 (by decide) rfl wm_0 rfl dHL_payment_47 ?_
          refine V_getN B hw (v := .ref (ad 10)) (by decide) rfl rfl hin_BO 1 (by decide) rfl wn_22 rfl dHL_payment_50 ?_
          refine V_callVN (rest := []) B hi hw hA hl.1 (M_FJO_isFull l hi S (vc_FHL_payment_pre53_7 S x1 x2 x4 hp c2 c3 c5 c6)) (cw_FJO_isFull (Nat.le_of_ble_eq_true rfl) (Nat.le_of_ble_eq_true rfl) (Nat.zero_le _) (Nat.zero_le _)) (by decide) rfl rfl wn_78 wm_25 wm_26 rfl (Nat.le_of_ble_eq_true rfl) dHL_payment_53 (kI (fun H locs hw => ?_))
          refine lv_if_eq (tgt := 61) hx hb dHL_payment_56 (by decide) (fun c8 => ?_) (fun c8 => ?_)
          · have hF := hF.trans (if_pos c8)
            refine lv_aload_n hx hb dHL_payment_61 rfl (lv_at hl 1 rfl) ?_
            refine V_get B hw (v := .ref (ad 1)) (by decide) rfl rfl hin_HL 0 (by decide) rfl wm_0 rfl dHL_payment_62 ?_
            refine V_getN B hw (v := .ref (ad 2)) (by decide) rfl rfl hin_BO 0 (by decide) rfl wn_1 rfl dHL_payment_65 ?_
            refine lv_iload_n hx hb dHL_payment_68 rfl (lv_at hl 2 rfl) ?_
            refine V_callVN (rest := []) B hi hw hA hl.1 (M_FAC_hasHousehold l hi S x1 (vc_FHL_payment_pre69_9 S x1 x2 x4 hp c2 c3 c5 c6 c8)) (cw_FAC_hasHousehold (Nat.le_of_ble_eq_true rfl) (Nat.le_of_ble_eq_true rfl) (Nat.zero_le _) (Nat.zero_le _)) (by decide) rfl rfl wn_79 wm_61 wm_62 rfl (Nat.le_of_ble_eq_true rfl) dHL_payment_69 (kI (fun H locs hw => ?_))
            refine lv_if_ne (tgt := 85) hx hb dHL_payment_72 (by decide) (fun c10 => ?_) (fun c10 => ?_)
            · have hF := hF.trans (if_neg c10)
              refine lv_aload_n hx hb dHL_payment_85 rfl (lv_at hl 1 rfl) ?_
              refine V_get B hw (v := .ref (ad 1)) (by decide) rfl rfl hin_HL 0 (by decide) rfl wm_0 rfl dHL_payment_86 ?_
              refine V_getN B hw (v := .ref (ad 10)) (by decide) rfl rfl hin_BO 1 (by decide) rfl wn_22 rfl dHL_payment_89 ?_
              refine lv_lload hx hb dHL_payment_92 (lv_at hl 4 rfl) ?_
              refine lv_l2i hx hb dHL_payment_94 rfl ?_
              refine lv_iconst (v := 2) hx hb dHL_payment_95 (by decide) ?_
              rcases hq12 : FJO_add S x4.toInt32 2 with ⟨v12, S12⟩
              rw [hq12] at hF; try dsimp only at hF
              refine V_callVN (post := pI v12 S12) (rest := []) B hi hw hA hl.1 (by have h := M_FJO_add (cI := cI) (cL := cL) (dC := dC) (dI := dI) l hi S x4.toInt32 2 (vc_FHL_payment_pre96_11 S x1 x2 x4 hp c2 c3 c5 c6 c8 c10); rw [hq12] at h; exact h) (cw_FJO_add (Nat.le_of_ble_eq_true rfl) (Nat.le_of_ble_eq_true rfl) (Nat.zero_le _) (Nat.zero_le _)) (by decide) rfl rfl wn_31 wm_32 wm_33 rfl (Nat.le_of_ble_eq_true rfl) dHL_payment_96 (kI (fun H locs hw => ?_))
              refine lv_istore (lv' := [(7, .int v12), (6, .int (FAC_firstCash S)), (0, .ref (ad 0)), (1, .int x1), (2, .long x2), (4, .long x4)]) hx hb dHL_payment_99 hl (by decide) rfl (fun ls hl => ?_)
              refine lv_aload_n hx hb dHL_payment_101 rfl (lv_at hl 2 rfl) ?_
              refine V_get B hw (v := .ref (ad 1)) (by decide) rfl rfl hin_HL 0 (by decide) rfl wm_0 rfl dHL_payment_102 ?_
              refine V_getN B hw (v := .ref (ad 10)) (by decide) rfl rfl hin_BO 1 (by decide) rfl wn_22 rfl dHL_payment_105 ?_
              refine lv_iload hx hb dHL_payment_108 (lv_at hl 0 rfl) ?_
              refine lv_iload hx hb dHL_payment_110 (lv_at hl 1 rfl) ?_
              refine lv_lload_n hx hb dHL_payment_112 rfl (lv_at hl 4 rfl) ?_
              rcases hq14 : FJO_addRow S12 v12 (FAC_firstCash S) x2 with ⟨v14, S14⟩
              rw [hq14] at hF; try dsimp only at hF
              refine V_callVN (post := pI v14 S14) (rest := []) B hi hw hA hl.1 (by have h := M_FJO_addRow (cI := cI) (cL := cL) (dC := dC) (dI := dI) l hi S12 v12 (FAC_firstCash S) x2 (vc_FHL_payment_pre113_13 S x1 x2 x4 hp c2 c3 c5 c6 c8 c10 v12 S12 hq12); rw [hq14] at h; exact h) (cw_FJO_addRow (Nat.le_of_ble_eq_true rfl) (Nat.le_of_ble_eq_true rfl) (Nat.zero_le _) (Nat.zero_le _)) (by decide) rfl rfl wn_46 wm_47 wm_48 rfl (Nat.le_of_ble_eq_true rfl) dHL_payment_113 (kI (fun H locs hw => ?_))
              refine lv_pop hx hb dHL_payment_116 rfl ?_
              refine lv_aload_n hx hb dHL_payment_117 rfl (lv_at hl 2 rfl) ?_
              refine V_get B hw (v := .ref (ad 1)) (by decide) rfl rfl hin_HL 0 (by decide) rfl wm_0 rfl dHL_payment_118 ?_
              refine V_getN B hw (v := .ref (ad 10)) (by decide) rfl rfl hin_BO 1 (by decide) rfl wn_22 rfl dHL_payment_121 ?_
              refine lv_iload hx hb dHL_payment_124 (lv_at hl 0 rfl) ?_
              refine lv_iload_n hx hb dHL_payment_126 rfl (lv_at hl 3 rfl) ?_
              refine lv_lload_n hx hb dHL_payment_127 rfl (lv_at hl 4 rfl) ?_
              refine lv_lneg hx hb dHL_payment_128 ?_
              rcases hq16 : FJO_addRow S14 v12 x1 (-x2) with ⟨v16, S16⟩
              rw [hq16] at hF; try dsimp only at hF
              refine V_callVN (post := pI v16 S16) (rest := []) B hi hw hA hl.1 (by have h := M_FJO_addRow (cI := cI) (cL := cL) (dC := dC) (dI := dI) l hi S14 v12 x1 (-x2) (vc_FHL_payment_pre129_15 S x1 x2 x4 hp c2 c3 c5 c6 c8 c10 v12 S12 hq12 v14 S14 hq14); rw [hq16] at h; exact h) (cw_FJO_addRow (Nat.le_of_ble_eq_true rfl) (Nat.le_of_ble_eq_true rfl) (Nat.zero_le _) (Nat.zero_le _)) (by decide) rfl rfl wn_46 wm_47 wm_48 rfl (Nat.le_of_ble_eq_true rfl) dHL_payment_129 (kI (fun H locs hw => ?_))
              refine lv_pop hx hb dHL_payment_132 rfl ?_
              refine lv_aload_n hx hb dHL_payment_133 rfl (lv_at hl 2 rfl) ?_
              refine V_get B hw (v := .ref (ad 1)) (by decide) rfl rfl hin_HL 0 (by decide) rfl wm_0 rfl dHL_payment_134 ?_
              refine V_getN B hw (v := .ref (ad 10)) (by decide) rfl rfl hin_BO 1 (by decide) rfl wn_22 rfl dHL_payment_137 ?_
              refine lv_iload hx hb dHL_payment_140 (lv_at hl 0 rfl) ?_
              refine lv_iload_n hx hb dHL_payment_142 rfl (lv_at hl 3 rfl) ?_
              refine lv_lload_n hx hb dHL_payment_143 rfl (lv_at hl 4 rfl) ?_
              refine V_callVN (rest := []) B hi hw hA hl.1 (M_FJO_payItems l hi S16 v12 x1 x2 (vc_FHL_payment_pre144_17 S x1 x2 x4 hp c2 c3 c5 c6 c8 c10 v12 S12 hq12 v14 S14 hq14 v16 S16 hq16)) (cw_FJO_payItems (Nat.le_of_ble_eq_true rfl) (Nat.le_of_ble_eq_true rfl) (Nat.zero_le _) (Nat.zero_le _)) (by decide) rfl rfl wn_93 wm_94 wm_95 rfl (Nat.le_of_ble_eq_true rfl) dHL_payment_144 (kV (fun H locs hw => ?_))
              refine lv_iload hx hb dHL_payment_147 (lv_at hl 0 rfl) ?_
              exact V_iret B hr hlk hw (pI_of hF) dHL_payment_149
            · have hF := hF.trans (if_pos c10)
              refine lv_aload_n hx hb dHL_payment_75 rfl (lv_at hl 1 rfl) ?_
              refine V_get B hw (v := .ref (ad 1)) (by decide) rfl rfl hin_HL 0 (by decide) rfl wm_0 rfl dHL_payment_76 ?_
              refine lv_lload_n hx hb dHL_payment_79 rfl (lv_at hl 3 rfl) ?_
              refine V_callVN (rest := []) B hi hw hA hl.1 (M_FBO_keepFound l hi S x2 (vc_FHL_payment_pre80_18 S x1 x2 x4 hp c2 c3 c5 c6 c8 c10)) (cw_FBO_keepFound (Nat.le_of_ble_eq_true rfl) (Nat.le_of_ble_eq_true rfl) (Nat.zero_le _) (Nat.zero_le _)) (by decide) rfl rfl wn_98 wm_99 wm_100 rfl (Nat.le_of_ble_eq_true rfl) dHL_payment_80 (kV (fun H locs hw => ?_))
              refine lv_iconst (v := (-1)) hx hb dHL_payment_83 (by decide) ?_
              exact V_iret B hr hlk hw (pI_of hF) dHL_payment_84
          · have hF := hF.trans (if_neg c8)
            refine lv_iconst (v := (-1)) hx hb dHL_payment_59 (by decide) ?_
            exact V_iret B hr hlk hw (pI_of hF) dHL_payment_60
      · have hF := hF.trans (if_pos c5)
        refine lv_iconst (v := (-1)) hx hb dHL_payment_38 (by decide) ?_
        exact V_iret B hr hlk hw (pI_of hF) dHL_payment_39
set_option maxHeartbeats 4000000 in
set_option maxRecDepth 100000 in
theorem LPJO_itemOf_14 (l : Launch) {ad : Nat → Nat} {cI cL : ClassId} {dC : Nat → ClassId} {dI : Nat → Nat → Nat} (hi : adI ad) {p : Program} {e : Env} {s : State} {m : MethodId} {args : Array Value} {below : List Frame} {meth : Method} {c : Code} {A : Nat → Prop} {post : Option Value → hS → Prop} (B : Bs p s m args c RJO bJO_itemOf 7 cI cL dC dI) (hr : meth.sig.returnType = (some .int)) (hlk : meth.locks = false) (hA : ∀ q, AA ad s.heap.size q → A q) : ∀ (n : Nat) (S : hS) (x1 : Int32) (x2 : Int32) (x3 : Int32) (x4 : Int32) (x5 : Int32) (H : Heap) (locs : List Loc) (ls : Array Slot), wfC S ∧ lp x5 x4 → ((x4.toInt - x5.toInt).toNat) < n → Wd ad cI cL dC dI A s.heap S H locs → lv_has ls 7 [(0, .ref (ad 10)), (1, .int x1), (2, .int x2), (3, .int x3), (4, .int x4), (5, .int x5)] → (∀ (v : Int32), LJO_itemOf_14 n S x1 x2 x3 x4 x5 = .inl v → post (some (.int v)) S) → (∀ (H : Heap) (locs : List Loc) (ls : Array Slot) (y3 : Int32) (y5 : Int32), LJO_itemOf_14 n S x1 x2 x3 x4 x5 = .inr (y3, y5) → Wd ad cI cL dC dI A s.heap S H locs → lv_has ls 7 [(0, .ref (ad 10)), (1, .int x1), (2, .int x2), (3, .int y3), (4, .int x4), (5, .int y5)] → W p l e ({ frames := 1, cells := 0, slots := 0, locals := 25 } : Room) s m args below meth c H locs 0 0 (MQ below (QcW ad cI cL dC dI post A) args s 0 0 A) (F0 m 53 ls [])) → W p l e ({ frames := 1, cells := 0, slots := 0, locals := 25 } : Room) s m args below meth c H locs 0 0 (MQ below (QcW ad cI cL dC dI post A) args s 0 0 A) (F0 m 14 ls []) := by
  intro n
  obtain ⟨hx, hb, -, hown, hts, -, -⟩ := id B
  induction n with
  | zero => exact fun S x1 x2 x3 x4 x5 H locs ls _ hmu => absurd hmu (Nat.not_lt_zero _)
  | succ n ih =>
    intro S x1 x2 x3 x4 x5 H locs ls hJ hmu hw hl hret hexit
    have hF := LJO_itemOf_14_s n S x1 x2 x3 x4 x5
    refine lv_iload hx hb dJO_itemOf_14 (lv_at hl 5 rfl) ?_
    refine lv_iload hx hb dJO_itemOf_16 (lv_at hl 4 rfl) ?_
    refine lv_icmp_ge (tgt := 53) hx hb dJO_itemOf_18 (by decide) (fun c1 => ?_) (fun c1 => ?_)
    · have hF := hF.trans (if_pos c1)
      exact hexit _ _ _ x3 x5 hF hw (lv_sub hl [0, 1, 2, 3, 4, 5] rfl)
    · have hF := hF.trans (if_neg c1)
      refine lv_aload_n hx hb dJO_itemOf_21 rfl (lv_at hl 0 rfl) ?_
      refine lv_iload hx hb dJO_itemOf_22 (lv_at hl 5 rfl) ?_
      refine lv_iload_n hx hb dJO_itemOf_24 rfl (lv_at hl 1 rfl) ?_
      refine V_callV (rest := []) B hi hw hA hl.1 (M_FJO_itemAt l hi S x5 x1 (vc_FJO_itemOf_pre25_2 S x1 x2 x3 x4 x5 hJ c1)) (cw_FJO_itemAt (Nat.le_of_ble_eq_true rfl) (Nat.le_of_ble_eq_true rfl) (Nat.zero_le _) (Nat.zero_le _)) (by decide) rfl rfl wm_80 wm_81 wm_82 rfl (Nat.le_of_ble_eq_true rfl) dJO_itemOf_25 (kI (fun H locs hw => ?_))
      refine lv_istore (lv' := [(6, .int (FJO_itemAt S x5 x1)), (0, .ref (ad 10)), (1, .int x1), (2, .int x2), (3, .int x3), (4, .int x4), (5, .int x5)]) hx hb dJO_itemOf_28 hl (by decide) rfl (fun ls hl => ?_)
      refine lv_iload hx hb dJO_itemOf_30 (lv_at hl 0 rfl) ?_
      refine lv_iconst (v := (-1)) hx hb dJO_itemOf_32 (by decide) ?_
      refine lv_icmp_eq (tgt := 47) hx hb dJO_itemOf_33 (by decide) (fun c3 => ?_) (fun c3 => ?_)
      · have hF := hF.trans (if_pos c3)
        refine lv_iinc (v := x5 + 1) (lv' := [(5, .int (x5 + 1)), (6, .int (FJO_itemAt S x5 x1)), (0, .ref (ad 10)), (1, .int x1), (2, .int x2), (3, .int x3), (4, .int x4)]) hx hb dJO_itemOf_47 hl (k := 6) rfl rfl (by decide) rfl (fun ls hl => ?_)
        refine lv_goto (tgt := 14) hx hb dJO_itemOf_50 (by decide) ?_
        exact ih S x1 x2 x3 x4 (x5 + 1) _ _ _ (vc_FJO_itemOf_inv14_4 S x1 x2 x3 x4 x5 hJ c1 c3) (Nat.lt_of_lt_of_le (vc_FJO_itemOf_mu14_5 S x1 x2 x3 x4 x5 hJ c1 c3) (Nat.le_of_lt_succ hmu)) hw (lv_sub hl [2, 3, 4, 5, 6, 0] rfl) (fun v h => hret v (hF.trans h)) (fun H locs ls y3 y5 h hw hl => hexit H locs ls y3 y5 (hF.trans h) hw hl)
      · have hF := hF.trans (if_neg c3)
        refine lv_iload_n hx hb dJO_itemOf_36 rfl (lv_at hl 4 rfl) ?_
        refine lv_iload_n hx hb dJO_itemOf_37 rfl (lv_at hl 3 rfl) ?_
        refine lv_icmp_ne (tgt := 44) hx hb dJO_itemOf_38 (by decide) (fun c6 => ?_) (fun c6 => ?_)
        · have hF := hF.trans (if_neg c6)
          refine lv_iinc (v := x3 + 1) (lv' := [(3, .int (x3 + 1)), (6, .int (FJO_itemAt S x5 x1)), (0, .ref (ad 10)), (1, .int x1), (2, .int x2), (4, .int x4), (5, .int x5)]) hx hb dJO_itemOf_44 hl (k := 4) rfl rfl (by decide) rfl (fun ls hl => ?_)
          refine lv_iinc (v := x5 + 1) (lv' := [(5, .int (x5 + 1)), (3, .int (x3 + 1)), (6, .int (FJO_itemAt S x5 x1)), (0, .ref (ad 10)), (1, .int x1), (2, .int x2), (4, .int x4)]) hx hb dJO_itemOf_47 hl (k := 6) rfl rfl (by decide) rfl (fun ls hl => ?_)
          refine lv_goto (tgt := 14) hx hb dJO_itemOf_50 (by decide) ?_
          exact ih S x1 x2 (x3 + 1) x4 (x5 + 1) _ _ _ (vc_FJO_itemOf_inv14_7 S x1 x2 x3 x4 x5 hJ c1 c3 c6) (Nat.lt_of_lt_of_le (vc_FJO_itemOf_mu14_8 S x1 x2 x3 x4 x5 hJ c1 c3 c6) (Nat.le_of_lt_succ hmu)) hw (lv_sub hl [3, 4, 5, 1, 6, 0] rfl) (fun v h => hret v (hF.trans h)) (fun H locs ls y3 y5 h hw hl => hexit H locs ls y3 y5 (hF.trans h) hw hl)
        · have hF := hF.trans (if_pos c6)
          refine lv_iload hx hb dJO_itemOf_41 (lv_at hl 0 rfl) ?_
          exact V_iret B hr hlk hw (hret _ hF) dJO_itemOf_43
theorem cw_FJO_itemOf {R : Room} {cells slots : Nat} (h1 : 2 ≤ R.frames) (h2 : 51 ≤ R.locals) (h3 : cells ≤ R.cells) (h4 : slots ≤ R.slots) : Cw R cells slots yJO_itemOf bJO_itemOf 7 (some .int) ({ frames := 1, cells := 0, slots := 0, locals := 25 } : Room) 2 := ⟨wm_378, wm_358, by decide +kernel, ⟨rfl, rfl, h1, h2⟩, h3, h4⟩
set_option maxHeartbeats 4000000 in
set_option maxRecDepth 100000 in
theorem M_FJO_itemOf (l : Launch) {ad : Nat → Nat} {cI cL : ClassId} {dC : Nat → ClassId} {dI : Nat → Nat → Nat} (hi : adI ad) (S : hS) (x1 : Int32) (x2 : Int32) (hp : wfC S) : Mt l ad cI cL dC dI yJO_itemOf bJO_itemOf 7 (some .int) ({ frames := 1, cells := 0, slots := 0, locals := 25 } : Room) [.ref (ad 10), .int x1, .int x2] S (pI (FJO_itemOf S x1 x2) S) := by
  refine Mt_of (own := RJO) hi (by decide) rfl (Nat.le_of_ble_eq_true rfl) ?_
  intro p e s m args below meth c ls B hr hlk hw hl
  obtain ⟨hx, hb, -, hown, hts, -, -⟩ := id B
  have hA : ∀ q, AA ad s.heap.size q → AA ad s.heap.size q := fun _ h => h
  have hl : lv_has ls 7 [(0, .ref (ad 10)), (1, .int x1), (2, .int x2)] := hl
  have hF := FJO_itemOf_e S x1 x2
  refine lv_iconst (v := 0) hx hb dJO_itemOf_0 (by decide) ?_
  refine lv_istore_n (lv' := [(3, .int 0), (0, .ref (ad 10)), (1, .int x1), (2, .int x2)]) hx hb dJO_itemOf_1 rfl hl (by decide) rfl (fun ls hl => ?_)
  refine lv_aload_n hx hb dJO_itemOf_2 rfl (lv_at hl 1 rfl) ?_
  refine V_get B hw (v := .int (S.1 10 0)) (by decide) rfl rfl hin_JO 0 (by decide) rfl wm_23 rfl dJO_itemOf_3 ?_
  refine lv_bipush (v := 6) hx hb dJO_itemOf_6 (by decide) ?_
  refine lv_imul hx hb dJO_itemOf_8 ?_
  refine lv_istore (lv' := [(4, .int ((S.1 10 0) * 6)), (3, .int 0), (0, .ref (ad 10)), (1, .int x1), (2, .int x2)]) hx hb dJO_itemOf_9 hl (by decide) rfl (fun ls hl => ?_)
  refine lv_iconst (v := 0) hx hb dJO_itemOf_11 (by decide) ?_
  refine lv_istore (lv' := [(5, .int 0), (4, .int ((S.1 10 0) * 6)), (3, .int 0), (0, .ref (ad 10)), (1, .int x1), (2, .int x2)]) hx hb dJO_itemOf_12 hl (by decide) rfl (fun ls hl => ?_)
  refine LPJO_itemOf_14 l hi B hr hlk hA 300 S x1 x2 0 ((S.1 10 0) * 6) 0 _ _ _ (vc_FJO_itemOf_inv014_10 S x1 x2 hp) (vc_FJO_itemOf_mu014_11 S x1 x2 hp) hw (lv_sub hl [3, 4, 5, 2, 1, 0] rfl) (fun v hq => by rw [hq, Sum.elim_inl] at hF; exact pI_r hF) (fun H locs ls y9_3 y9_5 hq9 hw hl => ?_)
  rw [hq9, Sum.elim_inr] at hF; try dsimp only at hF
  refine lv_iconst (v := (-1)) hx hb dJO_itemOf_53 (by decide) ?_
  exact V_iret B hr hlk hw (pI_r hF) dJO_itemOf_54
theorem cw_FHL_item {R : Room} {cells slots : Nat} (h1 : 3 ≤ R.frames) (h2 : 74 ≤ R.locals) (h3 : cells ≤ R.cells) (h4 : slots ≤ R.slots) : Cw R cells slots yHL_item bHL_item 4 (some .long) ({ frames := 2, cells := 0, slots := 0, locals := 51 } : Room) 2 := ⟨wm_379, wm_353, by decide +kernel, ⟨rfl, rfl, h1, h2⟩, h3, h4⟩
set_option maxHeartbeats 4000000 in
set_option maxRecDepth 100000 in
theorem M_FHL_item (l : Launch) {ad : Nat → Nat} {cI cL : ClassId} {dC : Nat → ClassId} {dI : Nat → Nat → Nat} (hi : adI ad) (S : hS) (x1 : Int32) (x2 : Int32) (hp : wfC S) : Mt l ad cI cL dC dI yHL_item bHL_item 4 (some .long) ({ frames := 2, cells := 0, slots := 0, locals := 51 } : Room) [.ref (ad 0), .int x1, .int x2] S (pL (FHL_item S x1 x2) S) := by
  refine Mt_of (own := RHL) hi (by decide) rfl (Nat.le_of_ble_eq_true rfl) ?_
  intro p e s m args below meth c ls B hr hlk hw hl
  obtain ⟨hx, hb, -, hown, hts, -, -⟩ := id B
  have hA : ∀ q, AA ad s.heap.size q → AA ad s.heap.size q := fun _ h => h
  have hl : lv_has ls 4 [(0, .ref (ad 0)), (1, .int x1), (2, .int x2)] := hl
  have hF := FHL_item_e S x1 x2
  refine lv_aload_n hx hb dHL_item_0 rfl (lv_at hl 0 rfl) ?_
  refine V_get B hw (v := .ref (ad 1)) (by decide) rfl rfl hin_HL 0 (by decide) rfl wm_0 rfl dHL_item_1 ?_
  refine V_getN B hw (v := .ref (ad 2)) (by decide) rfl rfl hin_BO 0 (by decide) rfl wn_1 rfl dHL_item_4 ?_
  refine lv_iload_n hx hb dHL_item_7 rfl (lv_at hl 1 rfl) ?_
  refine V_callVN (rest := []) B hi hw hA hl.1 (M_FAC_hasHousehold l hi S x1 (vc_FHL_item_pre8_1 S x1 x2 hp)) (cw_FAC_hasHousehold (Nat.le_of_ble_eq_true rfl) (Nat.le_of_ble_eq_true rfl) (Nat.zero_le _) (Nat.zero_le _)) (by decide) rfl rfl wn_79 wm_61 wm_62 rfl (Nat.le_of_ble_eq_true rfl) dHL_item_8 (kI (fun H locs hw => ?_))
  refine lv_if_ne (tgt := 18) hx hb dHL_item_11 (by decide) (fun c2 => ?_) (fun c2 => ?_)
  · have hF := hF.trans (if_neg c2)
    refine lv_aload_n hx hb dHL_item_18 rfl (lv_at hl 0 rfl) ?_
    refine V_get B hw (v := .ref (ad 1)) (by decide) rfl rfl hin_HL 0 (by decide) rfl wm_0 rfl dHL_item_19 ?_
    refine V_getN B hw (v := .ref (ad 10)) (by decide) rfl rfl hin_BO 1 (by decide) rfl wn_22 rfl dHL_item_22 ?_
    refine lv_iload_n hx hb dHL_item_25 rfl (lv_at hl 1 rfl) ?_
    refine lv_iload_n hx hb dHL_item_26 rfl (lv_at hl 2 rfl) ?_
    refine V_callVN (rest := []) B hi hw hA hl.1 (M_FJO_itemOf l hi S x1 x2 (vc_FHL_item_pre27_3 S x1 x2 hp c2)) (cw_FJO_itemOf (Nat.le_of_ble_eq_true rfl) (Nat.le_of_ble_eq_true rfl) (Nat.zero_le _) (Nat.zero_le _)) (by decide) rfl rfl wn_101 wm_102 wm_103 rfl (Nat.le_of_ble_eq_true rfl) dHL_item_27 (kI (fun H locs hw => ?_))
    refine lv_istore_n (lv' := [(3, .int (FJO_itemOf S x1 x2)), (0, .ref (ad 0)), (1, .int x1), (2, .int x2)]) hx hb dHL_item_30 rfl hl (by decide) rfl (fun ls hl => ?_)
    refine lv_iload_n hx hb dHL_item_31 rfl (lv_at hl 0 rfl) ?_
    refine lv_iconst (v := (-1)) hx hb dHL_item_32 (by decide) ?_
    refine lv_icmp_ne (tgt := 42) hx hb dHL_item_33 (by decide) (fun c4 => ?_) (fun c4 => ?_)
    · have hF := hF.trans (if_neg c4)
      refine lv_aload_n hx hb dHL_item_42 rfl (lv_at hl 1 rfl) ?_
      refine V_get B hw (v := .ref (ad 1)) (by decide) rfl rfl hin_HL 0 (by decide) rfl wm_0 rfl dHL_item_43 ?_
      refine V_getN B hw (v := .ref (ad 10)) (by decide) rfl rfl hin_BO 1 (by decide) rfl wn_22 rfl dHL_item_46 ?_
      refine V_getN B hw (v := .ref (ad 17)) (by decide) rfl rfl hin_JO 7 (by decide) rfl wn_104 rfl dHL_item_49 ?_
      refine lv_iload_n hx hb dHL_item_52 rfl (lv_at hl 0 rfl) ?_
      refine V_lald (j := (FJO_itemOf S x1 x2).toNatClampNeg) (v := S.2 17 ((FJO_itemOf S x1 x2).toNatClampNeg)) B hw (by decide) rfl (vc_FHL_item_ix53_5 S x1 x2 hp c2 c4) rfl rfl dHL_item_53 ?_
      exact V_lret B hr hlk hw (pL_r hF) dHL_item_54
    · have hF := hF.trans (if_pos c4)
      refine lv_ldc2 (v := (-1)) hx hb hown (hts _ wm_105) dHL_item_36 ?_
      refine lv_goto (tgt := 54) hx hb dHL_item_39 (by decide) ?_
      exact V_lret B hr hlk hw (pL_r hF) dHL_item_54
  · have hF := hF.trans (if_pos c2)
    refine lv_ldc2 (v := (-1)) hx hb hown (hts _ wm_105) dHL_item_14 ?_
    exact V_lret B hr hlk hw (pL_r hF) dHL_item_17
theorem cw_FJO_told {R : Room} {cells slots : Nat} (h1 : 1 ≤ R.frames) (h2 : 20 ≤ R.locals) (h3 : cells ≤ R.cells) (h4 : slots ≤ R.slots) : Cw R cells slots yJO_told bJO_told 1 (some .int) ({ frames := 0, cells := 0, slots := 0, locals := 0 } : Room) 1 := ⟨wm_380, wm_358, by decide +kernel, ⟨rfl, rfl, h1, h2⟩, h3, h4⟩
set_option maxHeartbeats 4000000 in
set_option maxRecDepth 100000 in
theorem M_FJO_told (l : Launch) {ad : Nat → Nat} {cI cL : ClassId} {dC : Nat → ClassId} {dI : Nat → Nat → Nat} (hi : adI ad) (S : hS) (x0 : Int32) : Mt l ad cI cL dC dI yJO_told bJO_told 1 (some .int) ({ frames := 0, cells := 0, slots := 0, locals := 0 } : Room) [.int x0] S (pI (FJO_told S x0) S) := by
  refine Mt_of (own := RJO) hi (by decide) rfl (Nat.le_of_ble_eq_true rfl) ?_
  intro p e s m args below meth c ls B hr hlk hw hl
  obtain ⟨hx, hb, -, hown, hts, -, -⟩ := id B
  have hA : ∀ q, AA ad s.heap.size q → AA ad s.heap.size q := fun _ h => h
  have hl : lv_has ls 1 [(0, .int x0)] := hl
  have hF := FJO_told_e S x0
  refine lv_iload_n hx hb dJO_told_0 rfl (lv_at hl 0 rfl) ?_
  refine lv_bipush (v := 6) hx hb dJO_told_1 (by decide) ?_
  refine lv_idiv hx hb dJO_told_3 (by decide) ?_
  refine lv_bipush (v := 10) hx hb dJO_told_4 (by decide) ?_
  refine lv_imul hx hb dJO_told_6 ?_
  refine lv_iload_n hx hb dJO_told_7 rfl (lv_at hl 0 rfl) ?_
  refine lv_bipush (v := 6) hx hb dJO_told_8 (by decide) ?_
  refine lv_irem hx hb dJO_told_10 (by decide) ?_
  refine lv_iadd hx hb dJO_told_11 ?_
  exact V_iret B hr hlk hw (pI_r hF) dJO_told_12
set_option maxHeartbeats 4000000 in
set_option maxRecDepth 100000 in
theorem LPJO_toldGift_5 (l : Launch) {ad : Nat → Nat} {cI cL : ClassId} {dC : Nat → ClassId} {dI : Nat → Nat → Nat} (hi : adI ad) {p : Program} {e : Env} {s : State} {m : MethodId} {args : Array Value} {below : List Frame} {meth : Method} {c : Code} {A : Nat → Prop} {post : Option Value → hS → Prop} (B : Bs p s m args c RJO bJO_toldGift 5 cI cL dC dI) (hr : meth.sig.returnType = (some .int)) (hlk : meth.locks = false) (hA : ∀ q, AA ad s.heap.size q → A q) : ∀ (n : Nat) (S : hS) (x1 : Int32) (x2 : Int32) (x3 : Int32) (x4 : Int32) (H : Heap) (locs : List Loc) (ls : Array Slot), wfC S ∧ 0 ≤ x4.toInt → (((S.1 10 8).toInt - x4.toInt).toNat) < n → Wd ad cI cL dC dI A s.heap S H locs → lv_has ls 5 [(0, .ref (ad 10)), (1, .int x1), (2, .int x2), (3, .int x3), (4, .int x4)] → (∀ (v : Int32), LJO_toldGift_5 n S x1 x2 x3 x4 = .inl v → post (some (.int v)) S) → (∀ (H : Heap) (locs : List Loc) (ls : Array Slot) (y3 : Int32) (y4 : Int32), LJO_toldGift_5 n S x1 x2 x3 x4 = .inr (y3, y4) → Wd ad cI cL dC dI A s.heap S H locs → lv_has ls 5 [(0, .ref (ad 10)), (1, .int x1), (2, .int x2), (3, .int y3), (4, .int y4)] → W p l e ({ frames := 1, cells := 0, slots := 0, locals := 20 } : Room) s m args below meth c H locs 0 0 (MQ below (QcW ad cI cL dC dI post A) args s 0 0 A) (F0 m 50 ls [])) → W p l e ({ frames := 1, cells := 0, slots := 0, locals := 20 } : Room) s m args below meth c H locs 0 0 (MQ below (QcW ad cI cL dC dI post A) args s 0 0 A) (F0 m 5 ls []) := by
  intro n
  obtain ⟨hx, hb, -, hown, hts, -, -⟩ := id B
  induction n with
  | zero => exact fun S x1 x2 x3 x4 H locs ls _ hmu => absurd hmu (Nat.not_lt_zero _)
  | succ n ih =>
    intro S x1 x2 x3 x4 H locs ls hJ hmu hw hl hret hexit
    have hF := LJO_toldGift_5_s n S x1 x2 x3 x4
    refine lv_iload hx hb dJO_toldGift_5 (lv_at hl 4 rfl) ?_
    refine lv_aload_n hx hb dJO_toldGift_7 rfl (lv_at hl 0 rfl) ?_
    refine V_get B hw (v := .int (S.1 10 8)) (by decide) rfl rfl hin_JO 8 (by decide) rfl wm_87 rfl dJO_toldGift_8 ?_
    refine lv_icmp_ge (tgt := 50) hx hb dJO_toldGift_11 (by decide) (fun c1 => ?_) (fun c1 => ?_)
    · have hF := hF.trans (if_pos c1)
      exact hexit _ _ _ x3 x4 hF hw (lv_sub hl [0, 1, 2, 3, 4] rfl)
    · have hF := hF.trans (if_neg c1)
      refine lv_aload_n hx hb dJO_toldGift_14 rfl (lv_at hl 0 rfl) ?_
      refine V_get B hw (v := .ref (ad 18)) (by decide) rfl rfl hin_JO 9 (by decide) rfl wm_88 rfl dJO_toldGift_15 ?_
      refine lv_iload hx hb dJO_toldGift_18 (lv_at hl 4 rfl) ?_
      refine V_iald (j := x4.toNatClampNeg) (v := S.1 18 x4.toNatClampNeg) B hw (by decide) rfl (vc_FJO_toldGift_ix20_2 S x1 x2 x3 x4 hJ c1) rfl rfl dJO_toldGift_20 ?_
      refine lv_iload_n hx hb dJO_toldGift_21 rfl (lv_at hl 1 rfl) ?_
      refine lv_icmp_ne (tgt := 44) hx hb dJO_toldGift_22 (by decide) (fun c3 => ?_) (fun c3 => ?_)
      · have hF := hF.trans (if_neg c3)
        refine lv_iinc (v := x4 + 1) (lv' := [(4, .int (x4 + 1)), (0, .ref (ad 10)), (1, .int x1), (2, .int x2), (3, .int x3)]) hx hb dJO_toldGift_44 hl (k := 4) rfl rfl (by decide) rfl (fun ls hl => ?_)
        refine lv_goto (tgt := 5) hx hb dJO_toldGift_47 (by decide) ?_
        exact ih S x1 x2 x3 (x4 + 1) _ _ _ (vc_FJO_toldGift_inv5_4 S x1 x2 x3 x4 hJ c1 c3) (Nat.lt_of_lt_of_le (vc_FJO_toldGift_mu5_5 S x1 x2 x3 x4 hJ c1 c3) (Nat.le_of_lt_succ hmu)) hw (lv_sub hl [1, 2, 3, 4, 0] rfl) (fun v h => hret v (hF.trans h)) (fun H locs ls y3 y4 h hw hl => hexit H locs ls y3 y4 (hF.trans h) hw hl)
      · have hF := hF.trans (if_pos c3)
        refine lv_iload_n hx hb dJO_toldGift_25 rfl (lv_at hl 3 rfl) ?_
        refine lv_iload_n hx hb dJO_toldGift_26 rfl (lv_at hl 2 rfl) ?_
        refine lv_icmp_ne (tgt := 41) hx hb dJO_toldGift_27 (by decide) (fun c6 => ?_) (fun c6 => ?_)
        · have hF := hF.trans (if_neg c6)
          refine lv_iinc (v := x3 + 1) (lv' := [(3, .int (x3 + 1)), (0, .ref (ad 10)), (1, .int x1), (2, .int x2), (4, .int x4)]) hx hb dJO_toldGift_41 hl (k := 3) rfl rfl (by decide) rfl (fun ls hl => ?_)
          refine lv_iinc (v := x4 + 1) (lv' := [(4, .int (x4 + 1)), (3, .int (x3 + 1)), (0, .ref (ad 10)), (1, .int x1), (2, .int x2)]) hx hb dJO_toldGift_44 hl (k := 4) rfl rfl (by decide) rfl (fun ls hl => ?_)
          refine lv_goto (tgt := 5) hx hb dJO_toldGift_47 (by decide) ?_
          exact ih S x1 x2 (x3 + 1) (x4 + 1) _ _ _ (vc_FJO_toldGift_inv5_7 S x1 x2 x3 x4 hJ c1 c3 c6) (Nat.lt_of_lt_of_le (vc_FJO_toldGift_mu5_8 S x1 x2 x3 x4 hJ c1 c3 c6) (Nat.le_of_lt_succ hmu)) hw (lv_sub hl [2, 3, 4, 1, 0] rfl) (fun v h => hret v (hF.trans h)) (fun H locs ls y3 y4 h hw hl => hexit H locs ls y3 y4 (hF.trans h) hw hl)
        · have hF := hF.trans (if_pos c6)
          refine lv_aload_n hx hb dJO_toldGift_30 rfl (lv_at hl 0 rfl) ?_
          refine V_get B hw (v := .ref (ad 19)) (by decide) rfl rfl hin_JO 10 (by decide) rfl wm_89 rfl dJO_toldGift_31 ?_
          refine lv_iload hx hb dJO_toldGift_34 (lv_at hl 4 rfl) ?_
          refine V_iald (j := x4.toNatClampNeg) (v := S.1 19 x4.toNatClampNeg) B hw (by decide) rfl (vc_FJO_toldGift_ix36_9 S x1 x2 x3 x4 hJ c1 c3 c6) rfl rfl dJO_toldGift_36 ?_
          refine V_callS (rest := []) B hi hw hA hl.1 (M_FJO_told l hi S (S.1 19 x4.toNatClampNeg)) (cw_FJO_told (Nat.le_of_ble_eq_true rfl) (Nat.le_of_ble_eq_true rfl) (Nat.zero_le _) (Nat.zero_le _)) wm_106 wm_107 rfl (Nat.le_of_ble_eq_true rfl) dJO_toldGift_37 (kI (fun H locs hw => ?_))
          exact V_iret B hr hlk hw (hret _ hF) dJO_toldGift_40
theorem cw_FJO_toldGift {R : Room} {cells slots : Nat} (h1 : 2 ≤ R.frames) (h2 : 44 ≤ R.locals) (h3 : cells ≤ R.cells) (h4 : slots ≤ R.slots) : Cw R cells slots yJO_toldGift bJO_toldGift 5 (some .int) ({ frames := 1, cells := 0, slots := 0, locals := 20 } : Room) 2 := ⟨wm_381, wm_358, by decide +kernel, ⟨rfl, rfl, h1, h2⟩, h3, h4⟩
set_option maxHeartbeats 4000000 in
set_option maxRecDepth 100000 in
theorem M_FJO_toldGift (l : Launch) {ad : Nat → Nat} {cI cL : ClassId} {dC : Nat → ClassId} {dI : Nat → Nat → Nat} (hi : adI ad) (S : hS) (x1 : Int32) (x2 : Int32) (hp : wfC S) : Mt l ad cI cL dC dI yJO_toldGift bJO_toldGift 5 (some .int) ({ frames := 1, cells := 0, slots := 0, locals := 20 } : Room) [.ref (ad 10), .int x1, .int x2] S (pI (FJO_toldGift S x1 x2) S) := by
  refine Mt_of (own := RJO) hi (by decide) rfl (Nat.le_of_ble_eq_true rfl) ?_
  intro p e s m args below meth c ls B hr hlk hw hl
  obtain ⟨hx, hb, -, hown, hts, -, -⟩ := id B
  have hA : ∀ q, AA ad s.heap.size q → AA ad s.heap.size q := fun _ h => h
  have hl : lv_has ls 5 [(0, .ref (ad 10)), (1, .int x1), (2, .int x2)] := hl
  have hF := FJO_toldGift_e S x1 x2
  refine lv_iconst (v := 0) hx hb dJO_toldGift_0 (by decide) ?_
  refine lv_istore_n (lv' := [(3, .int 0), (0, .ref (ad 10)), (1, .int x1), (2, .int x2)]) hx hb dJO_toldGift_1 rfl hl (by decide) rfl (fun ls hl => ?_)
  refine lv_iconst (v := 0) hx hb dJO_toldGift_2 (by decide) ?_
  refine lv_istore (lv' := [(4, .int 0), (3, .int 0), (0, .ref (ad 10)), (1, .int x1), (2, .int x2)]) hx hb dJO_toldGift_3 hl (by decide) rfl (fun ls hl => ?_)
  refine LPJO_toldGift_5 l hi B hr hlk hA 300 S x1 x2 0 0 _ _ _ (vc_FJO_toldGift_inv05_11 S x1 x2 hp) (vc_FJO_toldGift_mu05_12 S x1 x2 hp) hw (lv_sub hl [2, 3, 4, 1, 0] rfl) (fun v hq => by rw [hq, Sum.elim_inl] at hF; exact pI_r hF) (fun H locs ls y10_3 y10_4 hq10 hw hl => ?_)
  rw [hq10, Sum.elim_inr] at hF; try dsimp only at hF
  refine lv_iconst (v := (-1)) hx hb dJO_toldGift_50 (by decide) ?_
  exact V_iret B hr hlk hw (pI_r hF) dJO_toldGift_51
theorem cw_FHL_opened {R : Room} {cells slots : Nat} (h1 : 3 ≤ R.frames) (h2 : 66 ≤ R.locals) (h3 : cells ≤ R.cells) (h4 : slots ≤ R.slots) : Cw R cells slots yHL_opened bHL_opened 3 (some .int) ({ frames := 2, cells := 0, slots := 0, locals := 44 } : Room) 2 := ⟨wm_382, wm_353, by decide +kernel, ⟨rfl, rfl, h1, h2⟩, h3, h4⟩
set_option maxHeartbeats 4000000 in
set_option maxRecDepth 100000 in
theorem M_FHL_opened (l : Launch) {ad : Nat → Nat} {cI cL : ClassId} {dC : Nat → ClassId} {dI : Nat → Nat → Nat} (hi : adI ad) (S : hS) (x1 : Int32) (x2 : Int32) (hp : wfC S) : Mt l ad cI cL dC dI yHL_opened bHL_opened 3 (some .int) ({ frames := 2, cells := 0, slots := 0, locals := 44 } : Room) [.ref (ad 0), .int x1, .int x2] S (pI (FHL_opened S x1 x2) S) := by
  refine Mt_of (own := RHL) hi (by decide) rfl (Nat.le_of_ble_eq_true rfl) ?_
  intro p e s m args below meth c ls B hr hlk hw hl
  obtain ⟨hx, hb, -, hown, hts, -, -⟩ := id B
  have hA : ∀ q, AA ad s.heap.size q → AA ad s.heap.size q := fun _ h => h
  have hl : lv_has ls 3 [(0, .ref (ad 0)), (1, .int x1), (2, .int x2)] := hl
  have hF := FHL_opened_e S x1 x2
  refine lv_aload_n hx hb dHL_opened_0 rfl (lv_at hl 0 rfl) ?_
  refine V_get B hw (v := .ref (ad 1)) (by decide) rfl rfl hin_HL 0 (by decide) rfl wm_0 rfl dHL_opened_1 ?_
  refine V_getN B hw (v := .ref (ad 10)) (by decide) rfl rfl hin_BO 1 (by decide) rfl wn_22 rfl dHL_opened_4 ?_
  refine lv_iload_n hx hb dHL_opened_7 rfl (lv_at hl 1 rfl) ?_
  refine lv_iload_n hx hb dHL_opened_8 rfl (lv_at hl 2 rfl) ?_
  refine V_callVN (rest := []) B hi hw hA hl.1 (M_FJO_toldGift l hi S x1 x2 (vc_FHL_opened_pre9_1 S x1 x2 hp)) (cw_FJO_toldGift (Nat.le_of_ble_eq_true rfl) (Nat.le_of_ble_eq_true rfl) (Nat.zero_le _) (Nat.zero_le _)) (by decide) rfl rfl wn_108 wm_109 wm_110 rfl (Nat.le_of_ble_eq_true rfl) dHL_opened_9 (kI (fun H locs hw => ?_))
  exact V_iret B hr hlk hw (pI_r hF) dHL_opened_12
theorem cw_FJO_daysLate {R : Room} {cells slots : Nat} (h1 : 2 ≤ R.frames) (h2 : 35 ≤ R.locals) (h3 : cells ≤ R.cells) (h4 : slots ≤ R.slots) : Cw R cells slots yJO_daysLate bJO_daysLate 3 (some .int) ({ frames := 1, cells := 0, slots := 0, locals := 13 } : Room) 2 := ⟨wm_383, wm_358, by decide +kernel, ⟨rfl, rfl, h1, h2⟩, h3, h4⟩
set_option maxHeartbeats 4000000 in
set_option maxRecDepth 100000 in
theorem M_FJO_daysLate (l : Launch) {ad : Nat → Nat} {cI cL : ClassId} {dC : Nat → ClassId} {dI : Nat → Nat → Nat} (hi : adI ad) (S : hS) (x1 : Int32) (x2 : Int32) (hp : wfC S ∧ rg x1 240) : Mt l ad cI cL dC dI yJO_daysLate bJO_daysLate 3 (some .int) ({ frames := 1, cells := 0, slots := 0, locals := 13 } : Room) [.ref (ad 10), .int x1, .int x2] S (pI (FJO_daysLate S x1 x2) S) := by
  refine Mt_of (own := RJO) hi (by decide) rfl (Nat.le_of_ble_eq_true rfl) ?_
  intro p e s m args below meth c ls B hr hlk hw hl
  obtain ⟨hx, hb, -, hown, hts, -, -⟩ := id B
  have hA : ∀ q, AA ad s.heap.size q → AA ad s.heap.size q := fun _ h => h
  have hl : lv_has ls 3 [(0, .ref (ad 10)), (1, .int x1), (2, .int x2)] := hl
  have hF := FJO_daysLate_e S x1 x2
  refine lv_iconst (v := 0) hx hb dJO_daysLate_0 (by decide) ?_
  refine lv_iload_n hx hb dJO_daysLate_1 rfl (lv_at hl 2 rfl) ?_
  refine lv_aload_n hx hb dJO_daysLate_2 rfl (lv_at hl 0 rfl) ?_
  refine V_get B hw (v := .ref (ad 11)) (by decide) rfl rfl hin_JO 1 (by decide) rfl wm_27 rfl dJO_daysLate_3 ?_
  refine lv_iload_n hx hb dJO_daysLate_6 rfl (lv_at hl 1 rfl) ?_
  refine lv_bipush (v := 6) hx hb dJO_daysLate_7 (by decide) ?_
  refine lv_idiv hx hb dJO_daysLate_9 (by decide) ?_
  refine V_iald (j := (x1 / 6).toNatClampNeg) (v := S.1 11 ((x1 / 6).toNatClampNeg)) B hw (by decide) rfl (vc_FJO_daysLate_ix10_1 S x1 x2 hp) rfl rfl dJO_daysLate_10 ?_
  refine lv_isub hx hb dJO_daysLate_11 ?_
  refine lv_bipush (v := 30) hx hb dJO_daysLate_12 (by decide) ?_
  refine lv_isub hx hb dJO_daysLate_14 ?_
  refine va_mmax hx hb (B.2.2.1.trans hl.1.symm) hown (hts _ wm_111) (hts _ wm_112) (hts _ wm_85) (hts _ wm_113) (Nat.le_of_ble_eq_true rfl) (Nat.le_of_ble_eq_true rfl) (Nat.zero_le _) (Nat.zero_le _) dJO_daysLate_15 ?_
  exact V_iret B hr hlk hw (pI_r hF) dJO_daysLate_18
set_option maxHeartbeats 4000000 in
set_option maxRecDepth 100000 in
theorem LPJO_isOverdue_11 (l : Launch) {ad : Nat → Nat} {cI cL : ClassId} {dC : Nat → ClassId} {dI : Nat → Nat → Nat} (hi : adI ad) {p : Program} {e : Env} {s : State} {m : MethodId} {args : Array Value} {below : List Frame} {meth : Method} {c : Code} {A : Nat → Prop} {post : Option Value → hS → Prop} (B : Bs p s m args c RJO bJO_isOverdue 6 cI cL dC dI) (hr : meth.sig.returnType = (some .boolean)) (hlk : meth.locks = false) (hA : ∀ q, AA ad s.heap.size q → A q) : ∀ (n : Nat) (S : hS) (x1 : Int32) (x2 : Int32) (x3 : Int32) (x4 : Int32) (H : Heap) (locs : List Loc) (ls : Array Slot), wfC S ∧ lp x4 x3 → ((x3.toInt - x4.toInt).toNat) < n → Wd ad cI cL dC dI A s.heap S H locs → lv_has ls 6 [(0, .ref (ad 10)), (1, .int x1), (2, .int x2), (3, .int x3), (4, .int x4)] → (∀ (v : Int32), LJO_isOverdue_11 n S x1 x2 x3 x4 = .inl v → post (some (.int v)) S) → (∀ (H : Heap) (locs : List Loc) (ls : Array Slot) (y4 : Int32), LJO_isOverdue_11 n S x1 x2 x3 x4 = .inr y4 → Wd ad cI cL dC dI A s.heap S H locs → lv_has ls 6 [(0, .ref (ad 10)), (1, .int x1), (2, .int x2), (3, .int x3), (4, .int y4)] → W p l e ({ frames := 2, cells := 0, slots := 0, locals := 35 } : Room) s m args below meth c H locs 0 0 (MQ below (QcW ad cI cL dC dI post A) args s 0 0 A) (F0 m 62 ls [])) → W p l e ({ frames := 2, cells := 0, slots := 0, locals := 35 } : Room) s m args below meth c H locs 0 0 (MQ below (QcW ad cI cL dC dI post A) args s 0 0 A) (F0 m 11 ls []) := by
  intro n
  obtain ⟨hx, hb, -, hown, hts, -, -⟩ := id B
  induction n with
  | zero => exact fun S x1 x2 x3 x4 H locs ls _ hmu => absurd hmu (Nat.not_lt_zero _)
  | succ n ih =>
    intro S x1 x2 x3 x4 H locs ls hJ hmu hw hl hret hexit
    have hF := LJO_isOverdue_11_s n S x1 x2 x3 x4
    refine lv_iload hx hb dJO_isOverdue_11 (lv_at hl 4 rfl) ?_
    refine lv_iload_n hx hb dJO_isOverdue_13 rfl (lv_at hl 3 rfl) ?_
    refine lv_icmp_ge (tgt := 62) hx hb dJO_isOverdue_14 (by decide) (fun c1 => ?_) (fun c1 => ?_)
    · have hF := hF.trans (if_pos c1)
      exact hexit _ _ _ x4 hF hw (lv_sub hl [0, 1, 2, 3, 4] rfl)
    · have hF := hF.trans (if_neg c1)
      refine lv_aload_n hx hb dJO_isOverdue_17 rfl (lv_at hl 0 rfl) ?_
      refine lv_iload hx hb dJO_isOverdue_18 (lv_at hl 4 rfl) ?_
      refine lv_iload_n hx hb dJO_isOverdue_20 rfl (lv_at hl 1 rfl) ?_
      refine V_callV (rest := []) B hi hw hA hl.1 (M_FJO_itemAt l hi S x4 x1 (vc_FJO_isOverdue_pre21_2 S x1 x2 x3 x4 hJ c1)) (cw_FJO_itemAt (Nat.le_of_ble_eq_true rfl) (Nat.le_of_ble_eq_true rfl) (Nat.zero_le _) (Nat.zero_le _)) (by decide) rfl rfl wm_80 wm_81 wm_82 rfl (Nat.le_of_ble_eq_true rfl) dJO_isOverdue_21 (kI (fun H locs hw => ?_))
      refine lv_istore (lv' := [(5, .int (FJO_itemAt S x4 x1)), (0, .ref (ad 10)), (1, .int x1), (2, .int x2), (3, .int x3), (4, .int x4)]) hx hb dJO_isOverdue_24 hl (by decide) rfl (fun ls hl => ?_)
      refine lv_iload hx hb dJO_isOverdue_26 (lv_at hl 0 rfl) ?_
      refine lv_iconst (v := (-1)) hx hb dJO_isOverdue_28 (by decide) ?_
      refine lv_icmp_eq (tgt := 56) hx hb dJO_isOverdue_29 (by decide) (fun c3 => ?_) (fun c3 => ?_)
      · have hF := hF.trans (if_pos c3)
        refine lv_iinc (v := x4 + 1) (lv' := [(4, .int (x4 + 1)), (5, .int (FJO_itemAt S x4 x1)), (0, .ref (ad 10)), (1, .int x1), (2, .int x2), (3, .int x3)]) hx hb dJO_isOverdue_56 hl (k := 5) rfl rfl (by decide) rfl (fun ls hl => ?_)
        refine lv_goto (tgt := 11) hx hb dJO_isOverdue_59 (by decide) ?_
        exact ih S x1 x2 x3 (x4 + 1) _ _ _ (vc_FJO_isOverdue_inv11_4 S x1 x2 x3 x4 hJ c1 c3) (Nat.lt_of_lt_of_le (vc_FJO_isOverdue_mu11_5 S x1 x2 x3 x4 hJ c1 c3) (Nat.le_of_lt_succ hmu)) hw (lv_sub hl [2, 3, 4, 5, 0] rfl) (fun v h => hret v (hF.trans h)) (fun H locs ls y4 h hw hl => hexit H locs ls y4 (hF.trans h) hw hl)
      · have hF := hF.trans (if_neg c3)
        refine lv_aload_n hx hb dJO_isOverdue_32 rfl (lv_at hl 1 rfl) ?_
        refine V_get B hw (v := .ref (ad 17)) (by decide) rfl rfl hin_JO 7 (by decide) rfl wm_44 rfl dJO_isOverdue_33 ?_
        refine lv_iload hx hb dJO_isOverdue_36 (lv_at hl 0 rfl) ?_
        refine V_lald (j := (FJO_itemAt S x4 x1).toNatClampNeg) (v := S.2 17 ((FJO_itemAt S x4 x1).toNatClampNeg)) B hw (by decide) rfl (vc_FJO_isOverdue_ix38_6 S x1 x2 x3 x4 hJ c1 c3) rfl rfl dJO_isOverdue_38 ?_
        refine lv_lconst (v := 0) hx hb dJO_isOverdue_39 (by decide) ?_
        refine V_lle (tgt := 56) B dJO_isOverdue_40 dJO_isOverdue_41 (by decide) (fun c7 => ?_) (fun c7 => ?_)
        · have hF := hF.trans (if_pos c7)
          refine lv_iinc (v := x4 + 1) (lv' := [(4, .int (x4 + 1)), (5, .int (FJO_itemAt S x4 x1)), (0, .ref (ad 10)), (1, .int x1), (2, .int x2), (3, .int x3)]) hx hb dJO_isOverdue_56 hl (k := 5) rfl rfl (by decide) rfl (fun ls hl => ?_)
          refine lv_goto (tgt := 11) hx hb dJO_isOverdue_59 (by decide) ?_
          exact ih S x1 x2 x3 (x4 + 1) _ _ _ (vc_FJO_isOverdue_inv11_8 S x1 x2 x3 x4 hJ c1 c3 c7) (Nat.lt_of_lt_of_le (vc_FJO_isOverdue_mu11_9 S x1 x2 x3 x4 hJ c1 c3 c7) (Nat.le_of_lt_succ hmu)) hw (lv_sub hl [2, 3, 4, 5, 0] rfl) (fun v h => hret v (hF.trans h)) (fun H locs ls y4 h hw hl => hexit H locs ls y4 (hF.trans h) hw hl)
        · have hF := hF.trans (if_neg c7)
          refine lv_aload_n hx hb dJO_isOverdue_44 rfl (lv_at hl 1 rfl) ?_
          refine lv_iload hx hb dJO_isOverdue_45 (lv_at hl 0 rfl) ?_
          refine lv_iload_n hx hb dJO_isOverdue_47 rfl (lv_at hl 3 rfl) ?_
          refine V_callV (rest := []) B hi hw hA hl.1 (M_FJO_daysLate l hi S (FJO_itemAt S x4 x1) x2 (vc_FJO_isOverdue_pre48_10 S x1 x2 x3 x4 hJ c1 c3 c7)) (cw_FJO_daysLate (Nat.le_of_ble_eq_true rfl) (Nat.le_of_ble_eq_true rfl) (Nat.zero_le _) (Nat.zero_le _)) (by decide) rfl rfl wm_114 wm_115 wm_116 rfl (Nat.le_of_ble_eq_true rfl) dJO_isOverdue_48 (kI (fun H locs hw => ?_))
          refine lv_if_le (tgt := 56) hx hb dJO_isOverdue_51 (by decide) (fun c11 => ?_) (fun c11 => ?_)
          · have hF := hF.trans (if_pos c11)
            refine lv_iinc (v := x4 + 1) (lv' := [(4, .int (x4 + 1)), (5, .int (FJO_itemAt S x4 x1)), (0, .ref (ad 10)), (1, .int x1), (2, .int x2), (3, .int x3)]) hx hb dJO_isOverdue_56 hl (k := 5) rfl rfl (by decide) rfl (fun ls hl => ?_)
            refine lv_goto (tgt := 11) hx hb dJO_isOverdue_59 (by decide) ?_
            exact ih S x1 x2 x3 (x4 + 1) _ _ _ (vc_FJO_isOverdue_inv11_12 S x1 x2 x3 x4 hJ c1 c3 c7 c11) (Nat.lt_of_lt_of_le (vc_FJO_isOverdue_mu11_13 S x1 x2 x3 x4 hJ c1 c3 c7 c11) (Nat.le_of_lt_succ hmu)) hw (lv_sub hl [2, 3, 4, 5, 0] rfl) (fun v h => hret v (hF.trans h)) (fun H locs ls y4 h hw hl => hexit H locs ls y4 (hF.trans h) hw hl)
          · have hF := hF.trans (if_neg c11)
            refine lv_iconst (v := 1) hx hb dJO_isOverdue_54 (by decide) ?_
            exact V_zret B hr hlk hw (by decide) (hret _ hF) dJO_isOverdue_55
theorem cw_FJO_isOverdue {R : Room} {cells slots : Nat} (h1 : 3 ≤ R.frames) (h2 : 60 ≤ R.locals) (h3 : cells ≤ R.cells) (h4 : slots ≤ R.slots) : Cw R cells slots yJO_isOverdue bJO_isOverdue 6 (some .boolean) ({ frames := 2, cells := 0, slots := 0, locals := 35 } : Room) 2 := ⟨wm_384, wm_358, by decide +kernel, ⟨rfl, rfl, h1, h2⟩, h3, h4⟩
set_option maxHeartbeats 4000000 in
set_option maxRecDepth 100000 in
theorem M_FJO_isOverdue (l : Launch) {ad : Nat → Nat} {cI cL : ClassId} {dC : Nat → ClassId} {dI : Nat → Nat → Nat} (hi : adI ad) (S : hS) (x1 : Int32) (x2 : Int32) (hp : wfC S) : Mt l ad cI cL dC dI yJO_isOverdue bJO_isOverdue 6 (some .boolean) ({ frames := 2, cells := 0, slots := 0, locals := 35 } : Room) [.ref (ad 10), .int x1, .int x2] S (pI (FJO_isOverdue S x1 x2) S) := by
  refine Mt_of (own := RJO) hi (by decide) rfl (Nat.le_of_ble_eq_true rfl) ?_
  intro p e s m args below meth c ls B hr hlk hw hl
  obtain ⟨hx, hb, -, hown, hts, -, -⟩ := id B
  have hA : ∀ q, AA ad s.heap.size q → AA ad s.heap.size q := fun _ h => h
  have hl : lv_has ls 6 [(0, .ref (ad 10)), (1, .int x1), (2, .int x2)] := hl
  have hF := FJO_isOverdue_e S x1 x2
  refine lv_aload_n hx hb dJO_isOverdue_0 rfl (lv_at hl 0 rfl) ?_
  refine V_get B hw (v := .int (S.1 10 0)) (by decide) rfl rfl hin_JO 0 (by decide) rfl wm_23 rfl dJO_isOverdue_1 ?_
  refine lv_bipush (v := 6) hx hb dJO_isOverdue_4 (by decide) ?_
  refine lv_imul hx hb dJO_isOverdue_6 ?_
  refine lv_istore_n (lv' := [(3, .int ((S.1 10 0) * 6)), (0, .ref (ad 10)), (1, .int x1), (2, .int x2)]) hx hb dJO_isOverdue_7 rfl hl (by decide) rfl (fun ls hl => ?_)
  refine lv_iconst (v := 0) hx hb dJO_isOverdue_8 (by decide) ?_
  refine lv_istore (lv' := [(4, .int 0), (3, .int ((S.1 10 0) * 6)), (0, .ref (ad 10)), (1, .int x1), (2, .int x2)]) hx hb dJO_isOverdue_9 hl (by decide) rfl (fun ls hl => ?_)
  refine LPJO_isOverdue_11 l hi B hr hlk hA 300 S x1 x2 ((S.1 10 0) * 6) 0 _ _ _ (vc_FJO_isOverdue_inv011_15 S x1 x2 hp) (vc_FJO_isOverdue_mu011_16 S x1 x2 hp) hw (lv_sub hl [2, 3, 4, 1, 0] rfl) (fun v hq => by rw [hq, Sum.elim_inl] at hF; exact pI_r hF) (fun H locs ls y14_4 hq14 hw hl => ?_)
  rw [hq14, Sum.elim_inr] at hF; try dsimp only at hF
  refine lv_iconst (v := 0) hx hb dJO_isOverdue_62 (by decide) ?_
  exact V_zret B hr hlk hw (by decide) (pI_r hF) dJO_isOverdue_63
