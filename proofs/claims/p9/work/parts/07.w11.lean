theorem cw_FMO_found {R : Room} {cells slots : Nat} (h1 : 1 ≤ R.frames) (h2 : 21 ≤ R.locals) (h3 : cells ≤ R.cells) (h4 : slots ≤ R.slots) : Cw R cells slots yMO_found bMO_found 2 (some .long) ({ frames := 0, cells := 0, slots := 0, locals := 0 } : Room) 1 := ⟨wm_467, wm_426, by decide +kernel, ⟨rfl, rfl, h1, h2⟩, h3, h4⟩
set_option maxHeartbeats 4000000 in
set_option maxRecDepth 100000 in
theorem M_FMO_found (l : Launch) {ad : Nat → Nat} {cI cL : ClassId} {dC : Nat → ClassId} {dI : Nat → Nat → Nat} (hi : adI ad) (S : hS) (x1 : Int32) (hp : wfM S) : Mt l ad cI cL dC dI yMO_found bMO_found 2 (some .long) ({ frames := 0, cells := 0, slots := 0, locals := 0 } : Room) [.ref (ad 49), .int x1] S (pL (FMO_found S x1).1 (FMO_found S x1).2) := by
  refine Mt_of (own := RMO) hi (by decide) rfl (Nat.le_of_ble_eq_true rfl) ?_
  intro p e s m args below meth c ls B hr hlk hw hl
  obtain ⟨hx, hb, -, hown, hts, -, -⟩ := id B
  have hA : ∀ q, AA ad s.heap.size q → AA ad s.heap.size q := fun _ h => h
  have hl : lv_has ls 2 [(0, .ref (ad 49)), (1, .int x1)] := hl
  have hF := FMO_found_e S x1
  refine lv_aload_n hx hb dMO_found_0 rfl (lv_at hl 0 rfl) ?_
  refine lv_iconst (v := 0) hx hb dMO_found_1 (by decide) ?_
  refine V_putI (ty := .int) B hw (by decide) rfl rfl hin_MO tyMO_ok nmMO 4 (by decide) rfl wm_242 rfl (by decide +kernel) rfl rfl dMO_found_2 (fun H locs hw => ?_)
  refine lv_iload_n hx hb dMO_found_5 rfl (lv_at hl 1 rfl) ?_
  refine lv_if_lt (tgt := 34) hx hb dMO_found_6 (by decide) (fun c1 => ?_) (fun c1 => ?_)
  · have hF := hF.trans (if_pos c1)
    refine lv_ldc2 (v := (-1)) hx hb hown (hts _ wm_278) dMO_found_34 ?_
    exact V_lret B hr hlk hw (pL_of hF) dMO_found_37
  · have hF := hF.trans (if_neg c1)
    refine lv_iload_n hx hb dMO_found_9 rfl (lv_at hl 1 rfl) ?_
    refine lv_i2l hx hb dMO_found_10 rfl ?_
    refine lv_aload_n hx hb dMO_found_11 rfl (lv_at hl 0 rfl) ?_
    refine V_get B hw (v := .ref (ad 50)) (by decide) rfl rfl hin_MO 0 (by decide) rfl wm_234 rfl dMO_found_12 ?_
    refine lv_iconst (v := 4) hx hb dMO_found_15 (by decide) ?_
    refine V_lald (j := 4) (v := S.2 50 4) B hw (by decide) rfl (vc_FMO_found_ix16_2 S x1 hp c1) rfl (by first | rfl | simp [sI_1, sI_2, sL_1, sL_2]) dMO_found_16 ?_
    refine V_lge (tgt := 34) B dMO_found_17 dMO_found_18 (by decide) (fun c3 => ?_) (fun c3 => ?_)
    · have hF := hF.trans (if_pos c3)
      refine lv_ldc2 (v := (-1)) hx hb hown (hts _ wm_278) dMO_found_34 ?_
      exact V_lret B hr hlk hw (pL_of hF) dMO_found_37
    · have hF := hF.trans (if_neg c3)
      refine lv_aload_n hx hb dMO_found_21 rfl (lv_at hl 0 rfl) ?_
      refine V_get B hw (v := .ref (ad 50)) (by decide) rfl rfl hin_MO 0 (by decide) rfl wm_234 rfl dMO_found_22 ?_
      refine lv_sipush (v := 1200) hx hb dMO_found_25 (by decide) ?_
      refine lv_iload_n hx hb dMO_found_28 rfl (lv_at hl 1 rfl) ?_
      refine lv_iadd hx hb dMO_found_29 ?_
      refine V_lald (j := (1200 + x1).toNatClampNeg) (v := S.2 50 ((1200 + x1).toNatClampNeg)) B hw (by decide) rfl (vc_FMO_found_ix30_4 S x1 hp c1 c3) rfl (by first | rfl | simp [sI_1, sI_2, sL_1, sL_2]) dMO_found_30 ?_
      refine lv_goto (tgt := 37) hx hb dMO_found_31 (by decide) ?_
      exact V_lret B hr hlk hw (pL_of hF) dMO_found_37
