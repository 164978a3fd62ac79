set_option maxHeartbeats 4000000 in
set_option maxRecDepth 100000 in
theorem m_Ma_floorMod (l : Launch) (D : va_G) (ca : Nat → ClassId) (k : Nat → Nat) (sz : Nat) (ad : Nat → Nat) (z : Int) (n0 : Nat) (hz : -(2 ^ 62) ≤ z ∧ z < 2 ^ 62) (hn0 : 0 < n0) (hn1 : n0 < 2 ^ 62) : Met l y_Ma_floorMod (zw y_Ma_floorMod c_Ma_floorMod 6 (some .long)) { frames := 0, cells := 0, slots := 0, locals := 0 } (va_Pc [.long (Int64.ofInt z), .long (lN n0)] (zPre D (zty ca) k ([]) sz)) (va_Ql (fun x w => x = lN (rz n0 z) ∧ w = []) (zB D (zty ca) ([]) sz) (va_A ([]) sz)) 0 0 (va_A ([]) sz) := by
  refine zOfF (own := "java/lang/Math") (by decide +kernel) rfl (Nat.le_of_ble_eq_true rfl) ?_
  intro p e s m below meth c A ls C0 hr hnm hAe hsz hl hP hD hS
  have hl : lv_has ls 6 [(0, .long (Int64.ofInt z)), (2, .long (lN n0))] := hl
  obtain ⟨hx, hb, hml, hown, ht, hK, hX, hA, hlk⟩ := id C0
  refine lv_lload_n hx hb d_Ma_floorMod_0 rfl (lv_at hl 0 rfl) ?_
  refine lv_lload_n hx hb d_Ma_floorMod_1 rfl (lv_at hl 1 rfl) ?_
  refine lv_lrem hx hb d_Ma_floorMod_2 (zlne (by omega) (by omega)) ?_
  refine ztl (y := Int64.ofInt (z.tmod n0)) (fm_rem hz hn1) ?_
  have hzb := fm_bd hz hn0 hn1
  refine lv_lstore hx hb d_Ma_floorMod_3 hl (by decide) rfl (fun ls hl => ?_)
  have hl : lv_has ls 6 [(4, .long (Int64.ofInt (z.tmod n0))), (0, .long (Int64.ofInt z)), (2, .long (lN n0))] := hl
  refine lv_lload_n hx hb d_Ma_floorMod_5 rfl (lv_at hl 1 rfl) ?_
  refine lv_lload_n hx hb d_Ma_floorMod_6 rfl (lv_at hl 2 rfl) ?_
  refine lv_lxor hx hb d_Ma_floorMod_7 ?_
  refine lv_lconst (v := lN 0) hx hb d_Ma_floorMod_8 rfl ?_
  refine W.lcmp hx hb d_Ma_floorMod_9 ?_
  refine lv_if_ge (tgt := 25) hx hb d_Ma_floorMod_10 (by decide) (fun h1 => ?_) (fun h1 => ?_)
  · skip
    have h1 : (lN 0 ≤ ((Int64.ofInt z) ^^^ (lN n0))) := (lg_cmp_ge _ _).mp h1
    refine lv_lload hx hb d_Ma_floorMod_25 (lv_at hl 0 rfl) ?_
    exact zret_l C0 hr hAe hP hD hS ⟨(by have := fm_p (n := n0) hn0 ((fm_sg hz hn1).mp h1); rw [this]), rfl⟩ d_Ma_floorMod_27
  · skip
    have h1 : ¬ (lN 0 ≤ ((Int64.ofInt z) ^^^ (lN n0))) := fun z => h1 ((lg_cmp_ge _ _).mpr z)
    refine lv_lload hx hb d_Ma_floorMod_13 (lv_at hl 0 rfl) ?_
    refine lv_lconst (v := lN 0) hx hb d_Ma_floorMod_15 rfl ?_
    refine W.lcmp hx hb d_Ma_floorMod_16 ?_
    refine lv_if_eq (tgt := 25) hx hb d_Ma_floorMod_17 (by decide) (fun h2 => ?_) (fun h2 => ?_)
    · skip
      have h2 : (z.tmod n0 = ((0 : Nat) : Int)) := (zc_eq (by omega) (by omega)).mp ((lg_cmp_eq _ _).mp h2)
      refine lv_lload hx hb d_Ma_floorMod_25 (lv_at hl 0 rfl) ?_
      exact zret_l C0 hr hAe hP hD hS ⟨(fm_q hn0 h2), rfl⟩ d_Ma_floorMod_27
    · skip
      have h2 : ¬ (z.tmod n0 = ((0 : Nat) : Int)) := fun z => h2 ((lg_cmp_eq _ _).mpr ((zc_eq (by omega) (by omega)).mpr z))
      refine lv_lload hx hb d_Ma_floorMod_20 (lv_at hl 0 rfl) ?_
      refine lv_lload_n hx hb d_Ma_floorMod_22 rfl (lv_at hl 2 rfl) ?_
      refine lv_ladd hx hb d_Ma_floorMod_23 ?_
      exact zret_l C0 hr hAe hP hD hS ⟨(fm_r hn0 hn1 (fun q => h1 ((fm_sg hz hn1).mpr q)) h2), rfl⟩ d_Ma_floorMod_24
