set_option maxHeartbeats 4000000 in
set_option maxRecDepth 100000 in
theorem m_Mo_name_n (l : Launch) (D : va_G) (ca : Nat → ClassId) (k : Nat → Nat) (sz : Nat) (ad : Nat → Nat) (cd : Nat) (po nu : Nat → Nat) (pt : Nat) (st : Int32) (cy pl bk : Nat) (me : Nat → Nat) (kc : Nat) (ro : Nat → Nat) (en un li tn : Nat) (tx : Nat → Nat) (ia : Int32) (ct : Nat) (md : Nat → Nat) (lb wn : Nat → Int32) (a0 e0 : Nat) (hae : a0 < e0) (he : e0 ≤ 240) (htx : ∀ j, tx j < 127) : Met l y_Mo_name (zw y_Mo_name c_Mo_name 7 (some .long)) { frames := 0, cells := 0, slots := 0, locals := 0 } (va_Pc [.ref (ad 12), .int (nI a0), .int (nI e0), .int (-1)] (zPre D (zty ca) k (wM ad ca cd po nu pt st cy pl bk me kc ro en un li tn tx ia ct md lb wn) sz)) (va_Ql (fun x w => x = lN (nm tx a0 e0 none) ∧ w = wM ad ca cd po nu pt st cy pl bk me kc ro en un li tn tx ia ct md lb wn) (zB D (zty ca) (wM ad ca cd po nu pt st cy pl bk me kc ro en un li tn tx ia ct md lb wn) sz) (va_A (wM ad ca cd po nu pt st cy pl bk me kc ro en un li tn tx ia ct md lb wn) sz)) 0 0 (va_A (wM ad ca cd po nu pt st cy pl bk me kc ro en un li tn tx ia ct md lb wn) sz) := by
  refine zOf (own := "DigitChipModel") (by decide +kernel) rfl (Nat.le_of_ble_eq_true rfl) ?_
  intro p e s m below meth c A ls C0 hr hnm hAe hsz hl hP hD hS
  have hl : lv_has ls 7 [(0, .ref (ad 12)), (1, .int (nI a0)), (2, .int (nI e0)), (3, .int (-1))] := hl
  obtain ⟨hx, hb, hml, hown, ht, hK, hX, hA, hlk⟩ := id C0
  have ht0 := htx a0
  have ht1 := htx (a0 + 1)
  have ht2 := htx (a0 + 1 + 1)
  have ht3 := htx (a0 + 1 + 1 + 1)
  have ht4 := htx (a0 + 1 + 1 + 1 + 1)
  have ht5 := htx (a0 + 1 + 1 + 1 + 1 + 1)
  rcases (show 6 < e0 - a0 ∨ e0 = a0 + 1 ∨ e0 = a0 + 2 ∨ e0 = a0 + 3 ∨ e0 = a0 + 4 ∨ e0 = a0 + 5 ∨ e0 = a0 + 6 by omega) with hb6 | rfl | rfl | rfl | rfl | rfl | rfl
  · skip
    refine lv_iload_n hx hb d_Mo_name_0 rfl (lv_at hl 2 rfl) ?_
    refine lv_iload_n hx hb d_Mo_name_1 rfl (lv_at hl 1 rfl) ?_
    refine lv_isub hx hb d_Mo_name_2 ?_
    refine zti (y := nI (e0 - a0)) (pk_sub (by omega)) ?_
    refine lv_bipush (v := nI 6) hx hb d_Mo_name_3 (by decide) ?_
    refine lv_icmp_le (tgt := 10) hx hb d_Mo_name_5 (by decide) (fun h1 => absurd ((nI_leI (by omega) (by omega)).mp h1) (by omega)) (fun _ => ?_)
    refine lv_lconst (v := lN 0) hx hb d_Mo_name_8 rfl ?_
    exact zret_l C0 hr hAe hP hD hS ⟨by rw [nm_b hb6], rfl⟩ d_Mo_name_9
  · skip
    refine lv_iload_n hx hb d_Mo_name_0 rfl (lv_at hl 2 rfl) ?_
    refine lv_iload_n hx hb d_Mo_name_1 rfl (lv_at hl 1 rfl) ?_
    refine lv_isub hx hb d_Mo_name_2 ?_
    refine zti (y := nI ((a0 + 1) - a0)) (pk_sub (by omega)) ?_
    refine zti (y := nI 1) (congrArg nI (by omega)) ?_
    refine lv_bipush (v := nI 6) hx hb d_Mo_name_3 (by decide) ?_
    refine lv_icmp_le (tgt := 10) hx hb d_Mo_name_5 (by decide) (fun _ => ?_) (fun h2 => absurd (by decide) h2)
    refine lv_lconst (v := lN 0) hx hb d_Mo_name_10 rfl ?_
    refine lv_lstore hx hb d_Mo_name_11 hl (by decide) rfl (fun ls hl => ?_)
    have hl : lv_has ls 7 [(4, .long (lN 0)), (0, .ref (ad 12)), (1, .int (nI a0)), (2, .int (nI (a0 + 1))), (3, .int (-1))] := hl
    refine lv_iload_n hx hb d_Mo_name_13 rfl (lv_at hl 2 rfl) ?_
    refine lv_istore hx hb d_Mo_name_14 hl (by decide) rfl (fun ls hl => ?_)
    have hl : lv_has ls 7 [(6, .int (nI a0)), (4, .long (lN 0)), (0, .ref (ad 12)), (1, .int (nI a0)), (2, .int (nI (a0 + 1))), (3, .int (-1))] := hl
    refine lv_iload hx hb d_Mo_name_16 (lv_at hl 0 rfl) ?_
    refine lv_iload_n hx hb d_Mo_name_18 rfl (lv_at hl 4 rfl) ?_
    refine lv_icmp_ge (tgt := 57) hx hb d_Mo_name_19 (by decide) (fun h3 => absurd ((nI_leI (by omega) (by omega)).mp h3) (by omega)) (fun _ => ?_)
    refine lv_lload hx hb d_Mo_name_22 (lv_at hl 1 rfl) ?_
    refine lv_bipush (v := nI 8) hx hb d_Mo_name_24 (by decide) ?_
    refine lv_lshl (v := lN (0 * 256)) hx hb d_Mo_name_26 zshl8 ?_
    refine lv_iload hx hb d_Mo_name_27 (lv_at hl 0 rfl) ?_
    refine lv_iload_n hx hb d_Mo_name_29 rfl (lv_at hl 3 rfl) ?_
    refine lv_isub hx hb d_Mo_name_30 ?_
    refine zti (y := nI (a0 - a0)) (pk_sub (by omega)) ?_
    refine zti (y := nI 0) (congrArg nI (by omega)) ?_
    refine lv_iload_n hx hb d_Mo_name_31 rfl (lv_at hl 5 rfl) ?_
    refine lv_icmp_ne (tgt := 40) hx hb d_Mo_name_32 (by decide) (fun _ => ?_) (fun h4 => (zm1 (by omega) h4).elim)
    refine lv_aload_n hx hb d_Mo_name_40 rfl (lv_at hl 2 rfl) ?_
    refine va_get (D := D) (ci := 5) (v := .ref (ad 17)) (C := RMo) (T := TMo) (N := 21) hx hb ht inMo hown hK hP 0 rfl rfl 15 (by decide) (ht _ q561) (fun _ h9 => h9) rfl d_Mo_name_41 ?_
    refine lv_iload hx hb d_Mo_name_44 (lv_at hl 0 rfl) ?_
    refine va_cald hx hb hK hP 5 2 rfl rfl (vp_in_nI (n := a0) (by omega) (by decide)) d_Mo_name_46 ?_
    refine zti (y := nI (tx a0)) (nF_at (by omega)) ?_
    refine lv_i2l (v := lN (tx a0)) hx hb d_Mo_name_47 (nI_l (by omega)) ?_
    refine lv_lor hx hb d_Mo_name_48 ?_
    refine ztl (y := lN (0 * 256 + (tx a0))) (zlor (by omega) (by omega)) ?_
    refine lv_lstore hx hb d_Mo_name_49 hl (by decide) rfl (fun ls hl => ?_)
    have hl : lv_has ls 7 [(4, .long (lN (0 * 256 + (tx a0)))), (6, .int (nI a0)), (0, .ref (ad 12)), (1, .int (nI a0)), (2, .int (nI (a0 + 1))), (3, .int (-1))] := hl
    refine lv_iinc (k := 1) (v := nI (a0 + 1)) hx hb d_Mo_name_51 hl rfl (zinc _) (by decide) rfl (fun ls hl => ?_)
    have hl : lv_has ls 7 [(6, .int (nI (a0 + 1))), (4, .long (lN (0 * 256 + (tx a0)))), (0, .ref (ad 12)), (1, .int (nI a0)), (2, .int (nI (a0 + 1))), (3, .int (-1))] := hl
    refine lv_goto (tgt := 16) hx hb d_Mo_name_54 (by decide) ?_
    refine lv_iload hx hb d_Mo_name_16 (lv_at hl 0 rfl) ?_
    refine lv_iload_n hx hb d_Mo_name_18 rfl (lv_at hl 4 rfl) ?_
    refine lv_icmp_ge (tgt := 57) hx hb d_Mo_name_19 (by decide) (fun _ => ?_) (fun h5 => absurd ((nI_leI (by omega) (by omega)).mpr (by omega)) h5)
    refine lv_lload hx hb d_Mo_name_57 (lv_at hl 1 rfl) ?_
    exact zret_l C0 hr hAe hP hD hS ⟨by rw [nm_l (by decide)]; rfl, rfl⟩ d_Mo_name_59
  · skip
    refine lv_iload_n hx hb d_Mo_name_0 rfl (lv_at hl 2 rfl) ?_
    refine lv_iload_n hx hb d_Mo_name_1 rfl (lv_at hl 1 rfl) ?_
    refine lv_isub hx hb d_Mo_name_2 ?_
    refine zti (y := nI ((a0 + 2) - a0)) (pk_sub (by omega)) ?_
    refine zti (y := nI 2) (congrArg nI (by omega)) ?_
    refine lv_bipush (v := nI 6) hx hb d_Mo_name_3 (by decide) ?_
    refine lv_icmp_le (tgt := 10) hx hb d_Mo_name_5 (by decide) (fun _ => ?_) (fun h6 => absurd (by decide) h6)
    refine lv_lconst (v := lN 0) hx hb d_Mo_name_10 rfl ?_
    refine lv_lstore hx hb d_Mo_name_11 hl (by decide) rfl (fun ls hl => ?_)
    have hl : lv_has ls 7 [(4, .long (lN 0)), (0, .ref (ad 12)), (1, .int (nI a0)), (2, .int (nI (a0 + 2))), (3, .int (-1))] := hl
    refine lv_iload_n hx hb d_Mo_name_13 rfl (lv_at hl 2 rfl) ?_
    refine lv_istore hx hb d_Mo_name_14 hl (by decide) rfl (fun ls hl => ?_)
    have hl : lv_has ls 7 [(6, .int (nI a0)), (4, .long (lN 0)), (0, .ref (ad 12)), (1, .int (nI a0)), (2, .int (nI (a0 + 2))), (3, .int (-1))] := hl
    refine lv_iload hx hb d_Mo_name_16 (lv_at hl 0 rfl) ?_
    refine lv_iload_n hx hb d_Mo_name_18 rfl (lv_at hl 4 rfl) ?_
    refine lv_icmp_ge (tgt := 57) hx hb d_Mo_name_19 (by decide) (fun h7 => absurd ((nI_leI (by omega) (by omega)).mp h7) (by omega)) (fun _ => ?_)
    refine lv_lload hx hb d_Mo_name_22 (lv_at hl 1 rfl) ?_
    refine lv_bipush (v := nI 8) hx hb d_Mo_name_24 (by decide) ?_
    refine lv_lshl (v := lN (0 * 256)) hx hb d_Mo_name_26 zshl8 ?_
    refine lv_iload hx hb d_Mo_name_27 (lv_at hl 0 rfl) ?_
    refine lv_iload_n hx hb d_Mo_name_29 rfl (lv_at hl 3 rfl) ?_
    refine lv_isub hx hb d_Mo_name_30 ?_
    refine zti (y := nI (a0 - a0)) (pk_sub (by omega)) ?_
    refine zti (y := nI 0) (congrArg nI (by omega)) ?_
    refine lv_iload_n hx hb d_Mo_name_31 rfl (lv_at hl 5 rfl) ?_
    refine lv_icmp_ne (tgt := 40) hx hb d_Mo_name_32 (by decide) (fun _ => ?_) (fun h8 => (zm1 (by omega) h8).elim)
    refine lv_aload_n hx hb d_Mo_name_40 rfl (lv_at hl 2 rfl) ?_
    refine va_get (D := D) (ci := 5) (v := .ref (ad 17)) (C := RMo) (T := TMo) (N := 21) hx hb ht inMo hown hK hP 0 rfl rfl 15 (by decide) (ht _ q561) (fun _ h9 => h9) rfl d_Mo_name_41 ?_
    refine lv_iload hx hb d_Mo_name_44 (lv_at hl 0 rfl) ?_
    refine va_cald hx hb hK hP 5 2 rfl rfl (vp_in_nI (n := a0) (by omega) (by decide)) d_Mo_name_46 ?_
    refine zti (y := nI (tx a0)) (nF_at (by omega)) ?_
    refine lv_i2l (v := lN (tx a0)) hx hb d_Mo_name_47 (nI_l (by omega)) ?_
    refine lv_lor hx hb d_Mo_name_48 ?_
    refine ztl (y := lN (0 * 256 + (tx a0))) (zlor (by omega) (by omega)) ?_
    refine lv_lstore hx hb d_Mo_name_49 hl (by decide) rfl (fun ls hl => ?_)
    have hl : lv_has ls 7 [(4, .long (lN (0 * 256 + (tx a0)))), (6, .int (nI a0)), (0, .ref (ad 12)), (1, .int (nI a0)), (2, .int (nI (a0 + 2))), (3, .int (-1))] := hl
    refine lv_iinc (k := 1) (v := nI (a0 + 1)) hx hb d_Mo_name_51 hl rfl (zinc _) (by decide) rfl (fun ls hl => ?_)
    have hl : lv_has ls 7 [(6, .int (nI (a0 + 1))), (4, .long (lN (0 * 256 + (tx a0)))), (0, .ref (ad 12)), (1, .int (nI a0)), (2, .int (nI (a0 + 2))), (3, .int (-1))] := hl
    refine lv_goto (tgt := 16) hx hb d_Mo_name_54 (by decide) ?_
    refine lv_iload hx hb d_Mo_name_16 (lv_at hl 0 rfl) ?_
    refine lv_iload_n hx hb d_Mo_name_18 rfl (lv_at hl 4 rfl) ?_
    refine lv_icmp_ge (tgt := 57) hx hb d_Mo_name_19 (by decide) (fun h9 => absurd ((nI_leI (by omega) (by omega)).mp h9) (by omega)) (fun _ => ?_)
    refine lv_lload hx hb d_Mo_name_22 (lv_at hl 1 rfl) ?_
    refine lv_bipush (v := nI 8) hx hb d_Mo_name_24 (by decide) ?_
    refine lv_lshl (v := lN ((0 * 256 + (tx a0)) * 256)) hx hb d_Mo_name_26 zshl8 ?_
    refine lv_iload hx hb d_Mo_name_27 (lv_at hl 0 rfl) ?_
    refine lv_iload_n hx hb d_Mo_name_29 rfl (lv_at hl 3 rfl) ?_
    refine lv_isub hx hb d_Mo_name_30 ?_
    refine zti (y := nI ((a0 + 1) - a0)) (pk_sub (by omega)) ?_
    refine zti (y := nI 1) (congrArg nI (by omega)) ?_
    refine lv_iload_n hx hb d_Mo_name_31 rfl (lv_at hl 5 rfl) ?_
    refine lv_icmp_ne (tgt := 40) hx hb d_Mo_name_32 (by decide) (fun _ => ?_) (fun h10 => (zm1 (by omega) h10).elim)
    refine lv_aload_n hx hb d_Mo_name_40 rfl (lv_at hl 2 rfl) ?_
    refine va_get (D := D) (ci := 5) (v := .ref (ad 17)) (C := RMo) (T := TMo) (N := 21) hx hb ht inMo hown hK hP 0 rfl rfl 15 (by decide) (ht _ q561) (fun _ h9 => h9) rfl d_Mo_name_41 ?_
    refine lv_iload hx hb d_Mo_name_44 (lv_at hl 0 rfl) ?_
    refine va_cald hx hb hK hP 5 2 rfl rfl (vp_in_nI (n := a0 + 1) (by omega) (by decide)) d_Mo_name_46 ?_
    refine zti (y := nI (tx (a0 + 1))) (nF_at (by omega)) ?_
    refine lv_i2l (v := lN (tx (a0 + 1))) hx hb d_Mo_name_47 (nI_l (by omega)) ?_
    refine lv_lor hx hb d_Mo_name_48 ?_
    refine ztl (y := lN ((0 * 256 + (tx a0)) * 256 + (tx (a0 + 1)))) (zlor (by omega) (by omega)) ?_
    refine lv_lstore hx hb d_Mo_name_49 hl (by decide) rfl (fun ls hl => ?_)
    have hl : lv_has ls 7 [(4, .long (lN ((0 * 256 + (tx a0)) * 256 + (tx (a0 + 1))))), (6, .int (nI (a0 + 1))), (0, .ref (ad 12)), (1, .int (nI a0)), (2, .int (nI (a0 + 2))), (3, .int (-1))] := hl
    refine lv_iinc (k := 1) (v := nI ((a0 + 1) + 1)) hx hb d_Mo_name_51 hl rfl (zinc _) (by decide) rfl (fun ls hl => ?_)
    have hl : lv_has ls 7 [(6, .int (nI ((a0 + 1) + 1))), (4, .long (lN ((0 * 256 + (tx a0)) * 256 + (tx (a0 + 1))))), (0, .ref (ad 12)), (1, .int (nI a0)), (2, .int (nI (a0 + 2))), (3, .int (-1))] := hl
    refine lv_goto (tgt := 16) hx hb d_Mo_name_54 (by decide) ?_
    refine lv_iload hx hb d_Mo_name_16 (lv_at hl 0 rfl) ?_
    refine lv_iload_n hx hb d_Mo_name_18 rfl (lv_at hl 4 rfl) ?_
    refine lv_icmp_ge (tgt := 57) hx hb d_Mo_name_19 (by decide) (fun _ => ?_) (fun h11 => absurd ((nI_leI (by omega) (by omega)).mpr (by omega)) h11)
    refine lv_lload hx hb d_Mo_name_57 (lv_at hl 1 rfl) ?_
    exact zret_l C0 hr hAe hP hD hS ⟨by rw [nm_l (by decide)]; rfl, rfl⟩ d_Mo_name_59
  · skip
    refine lv_iload_n hx hb d_Mo_name_0 rfl (lv_at hl 2 rfl) ?_
    refine lv_iload_n hx hb d_Mo_name_1 rfl (lv_at hl 1 rfl) ?_
    refine lv_isub hx hb d_Mo_name_2 ?_
    refine zti (y := nI ((a0 + 3) - a0)) (pk_sub (by omega)) ?_
    refine zti (y := nI 3) (congrArg nI (by omega)) ?_
    refine lv_bipush (v := nI 6) hx hb d_Mo_name_3 (by decide) ?_
    refine lv_icmp_le (tgt := 10) hx hb d_Mo_name_5 (by decide) (fun _ => ?_) (fun h12 => absurd (by decide) h12)
    refine lv_lconst (v := lN 0) hx hb d_Mo_name_10 rfl ?_
    refine lv_lstore hx hb d_Mo_name_11 hl (by decide) rfl (fun ls hl => ?_)
    have hl : lv_has ls 7 [(4, .long (lN 0)), (0, .ref (ad 12)), (1, .int (nI a0)), (2, .int (nI (a0 + 3))), (3, .int (-1))] := hl
    refine lv_iload_n hx hb d_Mo_name_13 rfl (lv_at hl 2 rfl) ?_
    refine lv_istore hx hb d_Mo_name_14 hl (by decide) rfl (fun ls hl => ?_)
    have hl : lv_has ls 7 [(6, .int (nI a0)), (4, .long (lN 0)), (0, .ref (ad 12)), (1, .int (nI a0)), (2, .int (nI (a0 + 3))), (3, .int (-1))] := hl
    refine lv_iload hx hb d_Mo_name_16 (lv_at hl 0 rfl) ?_
    refine lv_iload_n hx hb d_Mo_name_18 rfl (lv_at hl 4 rfl) ?_
    refine lv_icmp_ge (tgt := 57) hx hb d_Mo_name_19 (by decide) (fun h13 => absurd ((nI_leI (by omega) (by omega)).mp h13) (by omega)) (fun _ => ?_)
    refine lv_lload hx hb d_Mo_name_22 (lv_at hl 1 rfl) ?_
    refine lv_bipush (v := nI 8) hx hb d_Mo_name_24 (by decide) ?_
    refine lv_lshl (v := lN (0 * 256)) hx hb d_Mo_name_26 zshl8 ?_
    refine lv_iload hx hb d_Mo_name_27 (lv_at hl 0 rfl) ?_
    refine lv_iload_n hx hb d_Mo_name_29 rfl (lv_at hl 3 rfl) ?_
    refine lv_isub hx hb d_Mo_name_30 ?_
    refine zti (y := nI (a0 - a0)) (pk_sub (by omega)) ?_
    refine zti (y := nI 0) (congrArg nI (by omega)) ?_
    refine lv_iload_n hx hb d_Mo_name_31 rfl (lv_at hl 5 rfl) ?_
    refine lv_icmp_ne (tgt := 40) hx hb d_Mo_name_32 (by decide) (fun _ => ?_) (fun h14 => (zm1 (by omega) h14).elim)
    refine lv_aload_n hx hb d_Mo_name_40 rfl (lv_at hl 2 rfl) ?_
    refine va_get (D := D) (ci := 5) (v := .ref (ad 17)) (C := RMo) (T := TMo) (N := 21) hx hb ht inMo hown hK hP 0 rfl rfl 15 (by decide) (ht _ q561) (fun _ h9 => h9) rfl d_Mo_name_41 ?_
    refine lv_iload hx hb d_Mo_name_44 (lv_at hl 0 rfl) ?_
    refine va_cald hx hb hK hP 5 2 rfl rfl (vp_in_nI (n := a0) (by omega) (by decide)) d_Mo_name_46 ?_
    refine zti (y := nI (tx a0)) (nF_at (by omega)) ?_
    refine lv_i2l (v := lN (tx a0)) hx hb d_Mo_name_47 (nI_l (by omega)) ?_
    refine lv_lor hx hb d_Mo_name_48 ?_
    refine ztl (y := lN (0 * 256 + (tx a0))) (zlor (by omega) (by omega)) ?_
    refine lv_lstore hx hb d_Mo_name_49 hl (by decide) rfl (fun ls hl => ?_)
    have hl : lv_has ls 7 [(4, .long (lN (0 * 256 + (tx a0)))), (6, .int (nI a0)), (0, .ref (ad 12)), (1, .int (nI a0)), (2, .int (nI (a0 + 3))), (3, .int (-1))] := hl
    refine lv_iinc (k := 1) (v := nI (a0 + 1)) hx hb d_Mo_name_51 hl rfl (zinc _) (by decide) rfl (fun ls hl => ?_)
    have hl : lv_has ls 7 [(6, .int (nI (a0 + 1))), (4, .long (lN (0 * 256 + (tx a0)))), (0, .ref (ad 12)), (1, .int (nI a0)), (2, .int (nI (a0 + 3))), (3, .int (-1))] := hl
    refine lv_goto (tgt := 16) hx hb d_Mo_name_54 (by decide) ?_
    refine lv_iload hx hb d_Mo_name_16 (lv_at hl 0 rfl) ?_
    refine lv_iload_n hx hb d_Mo_name_18 rfl (lv_at hl 4 rfl) ?_
    refine lv_icmp_ge (tgt := 57) hx hb d_Mo_name_19 (by decide) (fun h15 => absurd ((nI_leI (by omega) (by omega)).mp h15) (by omega)) (fun _ => ?_)
    refine lv_lload hx hb d_Mo_name_22 (lv_at hl 1 rfl) ?_
    refine lv_bipush (v := nI 8) hx hb d_Mo_name_24 (by decide) ?_
    refine lv_lshl (v := lN ((0 * 256 + (tx a0)) * 256)) hx hb d_Mo_name_26 zshl8 ?_
    refine lv_iload hx hb d_Mo_name_27 (lv_at hl 0 rfl) ?_
    refine lv_iload_n hx hb d_Mo_name_29 rfl (lv_at hl 3 rfl) ?_
    refine lv_isub hx hb d_Mo_name_30 ?_
    refine zti (y := nI ((a0 + 1) - a0)) (pk_sub (by omega)) ?_
    refine zti (y := nI 1) (congrArg nI (by omega)) ?_
    refine lv_iload_n hx hb d_Mo_name_31 rfl (lv_at hl 5 rfl) ?_
    refine lv_icmp_ne (tgt := 40) hx hb d_Mo_name_32 (by decide) (fun _ => ?_) (fun h16 => (zm1 (by omega) h16).elim)
    refine lv_aload_n hx hb d_Mo_name_40 rfl (lv_at hl 2 rfl) ?_
    refine va_get (D := D) (ci := 5) (v := .ref (ad 17)) (C := RMo) (T := TMo) (N := 21) hx hb ht inMo hown hK hP 0 rfl rfl 15 (by decide) (ht _ q561) (fun _ h9 => h9) rfl d_Mo_name_41 ?_
    refine lv_iload hx hb d_Mo_name_44 (lv_at hl 0 rfl) ?_
    refine va_cald hx hb hK hP 5 2 rfl rfl (vp_in_nI (n := a0 + 1) (by omega) (by decide)) d_Mo_name_46 ?_
    refine zti (y := nI (tx (a0 + 1))) (nF_at (by omega)) ?_
    refine lv_i2l (v := lN (tx (a0 + 1))) hx hb d_Mo_name_47 (nI_l (by omega)) ?_
    refine lv_lor hx hb d_Mo_name_48 ?_
    refine ztl (y := lN ((0 * 256 + (tx a0)) * 256 + (tx (a0 + 1)))) (zlor (by omega) (by omega)) ?_
    refine lv_lstore hx hb d_Mo_name_49 hl (by decide) rfl (fun ls hl => ?_)
    have hl : lv_has ls 7 [(4, .long (lN ((0 * 256 + (tx a0)) * 256 + (tx (a0 + 1))))), (6, .int (nI (a0 + 1))), (0, .ref (ad 12)), (1, .int (nI a0)), (2, .int (nI (a0 + 3))), (3, .int (-1))] := hl
    refine lv_iinc (k := 1) (v := nI ((a0 + 1) + 1)) hx hb d_Mo_name_51 hl rfl (zinc _) (by decide) rfl (fun ls hl => ?_)
    have hl : lv_has ls 7 [(6, .int (nI ((a0 + 1) + 1))), (4, .long (lN ((0 * 256 + (tx a0)) * 256 + (tx (a0 + 1))))), (0, .ref (ad 12)), (1, .int (nI a0)), (2, .int (nI (a0 + 3))), (3, .int (-1))] := hl
    refine lv_goto (tgt := 16) hx hb d_Mo_name_54 (by decide) ?_
    refine lv_iload hx hb d_Mo_name_16 (lv_at hl 0 rfl) ?_
    refine lv_iload_n hx hb d_Mo_name_18 rfl (lv_at hl 4 rfl) ?_
    refine lv_icmp_ge (tgt := 57) hx hb d_Mo_name_19 (by decide) (fun h17 => absurd ((nI_leI (by omega) (by omega)).mp h17) (by omega)) (fun _ => ?_)
    refine lv_lload hx hb d_Mo_name_22 (lv_at hl 1 rfl) ?_
    refine lv_bipush (v := nI 8) hx hb d_Mo_name_24 (by decide) ?_
    refine lv_lshl (v := lN (((0 * 256 + (tx a0)) * 256 + (tx (a0 + 1))) * 256)) hx hb d_Mo_name_26 zshl8 ?_
    refine lv_iload hx hb d_Mo_name_27 (lv_at hl 0 rfl) ?_
    refine lv_iload_n hx hb d_Mo_name_29 rfl (lv_at hl 3 rfl) ?_
    refine lv_isub hx hb d_Mo_name_30 ?_
    refine zti (y := nI (((a0 + 1) + 1) - a0)) (pk_sub (by omega)) ?_
    refine zti (y := nI 2) (congrArg nI (by omega)) ?_
    refine lv_iload_n hx hb d_Mo_name_31 rfl (lv_at hl 5 rfl) ?_
    refine lv_icmp_ne (tgt := 40) hx hb d_Mo_name_32 (by decide) (fun _ => ?_) (fun h18 => (zm1 (by omega) h18).elim)
    refine lv_aload_n hx hb d_Mo_name_40 rfl (lv_at hl 2 rfl) ?_
    refine va_get (D := D) (ci := 5) (v := .ref (ad 17)) (C := RMo) (T := TMo) (N := 21) hx hb ht inMo hown hK hP 0 rfl rfl 15 (by decide) (ht _ q561) (fun _ h9 => h9) rfl d_Mo_name_41 ?_
    refine lv_iload hx hb d_Mo_name_44 (lv_at hl 0 rfl) ?_
    refine va_cald hx hb hK hP 5 2 rfl rfl (vp_in_nI (n := (a0 + 1) + 1) (by omega) (by decide)) d_Mo_name_46 ?_
    refine zti (y := nI (tx ((a0 + 1) + 1))) (nF_at (by omega)) ?_
    refine lv_i2l (v := lN (tx ((a0 + 1) + 1))) hx hb d_Mo_name_47 (nI_l (by omega)) ?_
    refine lv_lor hx hb d_Mo_name_48 ?_
    refine ztl (y := lN (((0 * 256 + (tx a0)) * 256 + (tx (a0 + 1))) * 256 + (tx ((a0 + 1) + 1)))) (zlor (by omega) (by omega)) ?_
    refine lv_lstore hx hb d_Mo_name_49 hl (by decide) rfl (fun ls hl => ?_)
    have hl : lv_has ls 7 [(4, .long (lN (((0 * 256 + (tx a0)) * 256 + (tx (a0 + 1))) * 256 + (tx ((a0 + 1) + 1))))), (6, .int (nI ((a0 + 1) + 1))), (0, .ref (ad 12)), (1, .int (nI a0)), (2, .int (nI (a0 + 3))), (3, .int (-1))] := hl
    refine lv_iinc (k := 1) (v := nI (((a0 + 1) + 1) + 1)) hx hb d_Mo_name_51 hl rfl (zinc _) (by decide) rfl (fun ls hl => ?_)
    have hl : lv_has ls 7 [(6, .int (nI (((a0 + 1) + 1) + 1))), (4, .long (lN (((0 * 256 + (tx a0)) * 256 + (tx (a0 + 1))) * 256 + (tx ((a0 + 1) + 1))))), (0, .ref (ad 12)), (1, .int (nI a0)), (2, .int (nI (a0 + 3))), (3, .int (-1))] := hl
    refine lv_goto (tgt := 16) hx hb d_Mo_name_54 (by decide) ?_
    refine lv_iload hx hb d_Mo_name_16 (lv_at hl 0 rfl) ?_
    refine lv_iload_n hx hb d_Mo_name_18 rfl (lv_at hl 4 rfl) ?_
    refine lv_icmp_ge (tgt := 57) hx hb d_Mo_name_19 (by decide) (fun _ => ?_) (fun h19 => absurd ((nI_leI (by omega) (by omega)).mpr (by omega)) h19)
    refine lv_lload hx hb d_Mo_name_57 (lv_at hl 1 rfl) ?_
    exact zret_l C0 hr hAe hP hD hS ⟨by rw [nm_l (by decide)]; rfl, rfl⟩ d_Mo_name_59
  · skip
    refine lv_iload_n hx hb d_Mo_name_0 rfl (lv_at hl 2 rfl) ?_
    refine lv_iload_n hx hb d_Mo_name_1 rfl (lv_at hl 1 rfl) ?_
    refine lv_isub hx hb d_Mo_name_2 ?_
    refine zti (y := nI ((a0 + 4) - a0)) (pk_sub (by omega)) ?_
    refine zti (y := nI 4) (congrArg nI (by omega)) ?_
    refine lv_bipush (v := nI 6) hx hb d_Mo_name_3 (by decide) ?_
    refine lv_icmp_le (tgt := 10) hx hb d_Mo_name_5 (by decide) (fun _ => ?_) (fun h20 => absurd (by decide) h20)
    refine lv_lconst (v := lN 0) hx hb d_Mo_name_10 rfl ?_
    refine lv_lstore hx hb d_Mo_name_11 hl (by decide) rfl (fun ls hl => ?_)
    have hl : lv_has ls 7 [(4, .long (lN 0)), (0, .ref (ad 12)), (1, .int (nI a0)), (2, .int (nI (a0 + 4))), (3, .int (-1))] := hl
    refine lv_iload_n hx hb d_Mo_name_13 rfl (lv_at hl 2 rfl) ?_
    refine lv_istore hx hb d_Mo_name_14 hl (by decide) rfl (fun ls hl => ?_)
    have hl : lv_has ls 7 [(6, .int (nI a0)), (4, .long (lN 0)), (0, .ref (ad 12)), (1, .int (nI a0)), (2, .int (nI (a0 + 4))), (3, .int (-1))] := hl
    refine lv_iload hx hb d_Mo_name_16 (lv_at hl 0 rfl) ?_
    refine lv_iload_n hx hb d_Mo_name_18 rfl (lv_at hl 4 rfl) ?_
    refine lv_icmp_ge (tgt := 57) hx hb d_Mo_name_19 (by decide) (fun h21 => absurd ((nI_leI (by omega) (by omega)).mp h21) (by omega)) (fun _ => ?_)
    refine lv_lload hx hb d_Mo_name_22 (lv_at hl 1 rfl) ?_
    refine lv_bipush (v := nI 8) hx hb d_Mo_name_24 (by decide) ?_
    refine lv_lshl (v := lN (0 * 256)) hx hb d_Mo_name_26 zshl8 ?_
    refine lv_iload hx hb d_Mo_name_27 (lv_at hl 0 rfl) ?_
    refine lv_iload_n hx hb d_Mo_name_29 rfl (lv_at hl 3 rfl) ?_
    refine lv_isub hx hb d_Mo_name_30 ?_
    refine zti (y := nI (a0 - a0)) (pk_sub (by omega)) ?_
    refine zti (y := nI 0) (congrArg nI (by omega)) ?_
    refine lv_iload_n hx hb d_Mo_name_31 rfl (lv_at hl 5 rfl) ?_
    refine lv_icmp_ne (tgt := 40) hx hb d_Mo_name_32 (by decide) (fun _ => ?_) (fun h22 => (zm1 (by omega) h22).elim)
    refine lv_aload_n hx hb d_Mo_name_40 rfl (lv_at hl 2 rfl) ?_
    refine va_get (D := D) (ci := 5) (v := .ref (ad 17)) (C := RMo) (T := TMo) (N := 21) hx hb ht inMo hown hK hP 0 rfl rfl 15 (by decide) (ht _ q561) (fun _ h9 => h9) rfl d_Mo_name_41 ?_
    refine lv_iload hx hb d_Mo_name_44 (lv_at hl 0 rfl) ?_
    refine va_cald hx hb hK hP 5 2 rfl rfl (vp_in_nI (n := a0) (by omega) (by decide)) d_Mo_name_46 ?_
    refine zti (y := nI (tx a0)) (nF_at (by omega)) ?_
    refine lv_i2l (v := lN (tx a0)) hx hb d_Mo_name_47 (nI_l (by omega)) ?_
    refine lv_lor hx hb d_Mo_name_48 ?_
    refine ztl (y := lN (0 * 256 + (tx a0))) (zlor (by omega) (by omega)) ?_
    refine lv_lstore hx hb d_Mo_name_49 hl (by decide) rfl (fun ls hl => ?_)
    have hl : lv_has ls 7 [(4, .long (lN (0 * 256 + (tx a0)))), (6, .int (nI a0)), (0, .ref (ad 12)), (1, .int (nI a0)), (2, .int (nI (a0 + 4))), (3, .int (-1))] := hl
    refine lv_iinc (k := 1) (v := nI (a0 + 1)) hx hb d_Mo_name_51 hl rfl (zinc _) (by decide) rfl (fun ls hl => ?_)
    have hl : lv_has ls 7 [(6, .int (nI (a0 + 1))), (4, .long (lN (0 * 256 + (tx a0)))), (0, .ref (ad 12)), (1, .int (nI a0)), (2, .int (nI (a0 + 4))), (3, .int (-1))] := hl
    refine lv_goto (tgt := 16) hx hb d_Mo_name_54 (by decide) ?_
    refine lv_iload hx hb d_Mo_name_16 (lv_at hl 0 rfl) ?_
    refine lv_iload_n hx hb d_Mo_name_18 rfl (lv_at hl 4 rfl) ?_
    refine lv_icmp_ge (tgt := 57) hx hb d_Mo_name_19 (by decide) (fun h23 => absurd ((nI_leI (by omega) (by omega)).mp h23) (by omega)) (fun _ => ?_)
    refine lv_lload hx hb d_Mo_name_22 (lv_at hl 1 rfl) ?_
    refine lv_bipush (v := nI 8) hx hb d_Mo_name_24 (by decide) ?_
    refine lv_lshl (v := lN ((0 * 256 + (tx a0)) * 256)) hx hb d_Mo_name_26 zshl8 ?_
    refine lv_iload hx hb d_Mo_name_27 (lv_at hl 0 rfl) ?_
    refine lv_iload_n hx hb d_Mo_name_29 rfl (lv_at hl 3 rfl) ?_
    refine lv_isub hx hb d_Mo_name_30 ?_
    refine zti (y := nI ((a0 + 1) - a0)) (pk_sub (by omega)) ?_
    refine zti (y := nI 1) (congrArg nI (by omega)) ?_
    refine lv_iload_n hx hb d_Mo_name_31 rfl (lv_at hl 5 rfl) ?_
    refine lv_icmp_ne (tgt := 40) hx hb d_Mo_name_32 (by decide) (fun _ => ?_) (fun h24 => (zm1 (by omega) h24).elim)
    refine lv_aload_n hx hb d_Mo_name_40 rfl (lv_at hl 2 rfl) ?_
    refine va_get (D := D) (ci := 5) (v := .ref (ad 17)) (C := RMo) (T := TMo) (N := 21) hx hb ht inMo hown hK hP 0 rfl rfl 15 (by decide) (ht _ q561) (fun _ h9 => h9) rfl d_Mo_name_41 ?_
    refine lv_iload hx hb d_Mo_name_44 (lv_at hl 0 rfl) ?_
    refine va_cald hx hb hK hP 5 2 rfl rfl (vp_in_nI (n := a0 + 1) (by omega) (by decide)) d_Mo_name_46 ?_
    refine zti (y := nI (tx (a0 + 1))) (nF_at (by omega)) ?_
    refine lv_i2l (v := lN (tx (a0 + 1))) hx hb d_Mo_name_47 (nI_l (by omega)) ?_
    refine lv_lor hx hb d_Mo_name_48 ?_
    refine ztl (y := lN ((0 * 256 + (tx a0)) * 256 + (tx (a0 + 1)))) (zlor (by omega) (by omega)) ?_
    refine lv_lstore hx hb d_Mo_name_49 hl (by decide) rfl (fun ls hl => ?_)
    have hl : lv_has ls 7 [(4, .long (lN ((0 * 256 + (tx a0)) * 256 + (tx (a0 + 1))))), (6, .int (nI (a0 + 1))), (0, .ref (ad 12)), (1, .int (nI a0)), (2, .int (nI (a0 + 4))), (3, .int (-1))] := hl
    refine lv_iinc (k := 1) (v := nI ((a0 + 1) + 1)) hx hb d_Mo_name_51 hl rfl (zinc _) (by decide) rfl (fun ls hl => ?_)
    have hl : lv_has ls 7 [(6, .int (nI ((a0 + 1) + 1))), (4, .long (lN ((0 * 256 + (tx a0)) * 256 + (tx (a0 + 1))))), (0, .ref (ad 12)), (1, .int (nI a0)), (2, .int (nI (a0 + 4))), (3, .int (-1))] := hl
    refine lv_goto (tgt := 16) hx hb d_Mo_name_54 (by decide) ?_
    refine lv_iload hx hb d_Mo_name_16 (lv_at hl 0 rfl) ?_
    refine lv_iload_n hx hb d_Mo_name_18 rfl (lv_at hl 4 rfl) ?_
    refine lv_icmp_ge (tgt := 57) hx hb d_Mo_name_19 (by decide) (fun h25 => absurd ((nI_leI (by omega) (by omega)).mp h25) (by omega)) (fun _ => ?_)
    refine lv_lload hx hb d_Mo_name_22 (lv_at hl 1 rfl) ?_
    refine lv_bipush (v := nI 8) hx hb d_Mo_name_24 (by decide) ?_
    refine lv_lshl (v := lN (((0 * 256 + (tx a0)) * 256 + (tx (a0 + 1))) * 256)) hx hb d_Mo_name_26 zshl8 ?_
    refine lv_iload hx hb d_Mo_name_27 (lv_at hl 0 rfl) ?_
    refine lv_iload_n hx hb d_Mo_name_29 rfl (lv_at hl 3 rfl) ?_
    refine lv_isub hx hb d_Mo_name_30 ?_
    refine zti (y := nI (((a0 + 1) + 1) - a0)) (pk_sub (by omega)) ?_
    refine zti (y := nI 2) (congrArg nI (by omega)) ?_
    refine lv_iload_n hx hb d_Mo_name_31 rfl (lv_at hl 5 rfl) ?_
    refine lv_icmp_ne (tgt := 40) hx hb d_Mo_name_32 (by decide) (fun _ => ?_) (fun h26 => (zm1 (by omega) h26).elim)
    refine lv_aload_n hx hb d_Mo_name_40 rfl (lv_at hl 2 rfl) ?_
    refine va_get (D := D) (ci := 5) (v := .ref (ad 17)) (C := RMo) (T := TMo) (N := 21) hx hb ht inMo hown hK hP 0 rfl rfl 15 (by decide) (ht _ q561) (fun _ h9 => h9) rfl d_Mo_name_41 ?_
    refine lv_iload hx hb d_Mo_name_44 (lv_at hl 0 rfl) ?_
    refine va_cald hx hb hK hP 5 2 rfl rfl (vp_in_nI (n := (a0 + 1) + 1) (by omega) (by decide)) d_Mo_name_46 ?_
    refine zti (y := nI (tx ((a0 + 1) + 1))) (nF_at (by omega)) ?_
    refine lv_i2l (v := lN (tx ((a0 + 1) + 1))) hx hb d_Mo_name_47 (nI_l (by omega)) ?_
    refine lv_lor hx hb d_Mo_name_48 ?_
    refine ztl (y := lN (((0 * 256 + (tx a0)) * 256 + (tx (a0 + 1))) * 256 + (tx ((a0 + 1) + 1)))) (zlor (by omega) (by omega)) ?_
    refine lv_lstore hx hb d_Mo_name_49 hl (by decide) rfl (fun ls hl => ?_)
    have hl : lv_has ls 7 [(4, .long (lN (((0 * 256 + (tx a0)) * 256 + (tx (a0 + 1))) * 256 + (tx ((a0 + 1) + 1))))), (6, .int (nI ((a0 + 1) + 1))), (0, .ref (ad 12)), (1, .int (nI a0)), (2, .int (nI (a0 + 4))), (3, .int (-1))] := hl
    refine lv_iinc (k := 1) (v := nI (((a0 + 1) + 1) + 1)) hx hb d_Mo_name_51 hl rfl (zinc _) (by decide) rfl (fun ls hl => ?_)
    have hl : lv_has ls 7 [(6, .int (nI (((a0 + 1) + 1) + 1))), (4, .long (lN (((0 * 256 + (tx a0)) * 256 + (tx (a0 + 1))) * 256 + (tx ((a0 + 1) + 1))))), (0, .ref (ad 12)), (1, .int (nI a0)), (2, .int (nI (a0 + 4))), (3, .int (-1))] := hl
    refine lv_goto (tgt := 16) hx hb d_Mo_name_54 (by decide) ?_
    refine lv_iload hx hb d_Mo_name_16 (lv_at hl 0 rfl) ?_
    refine lv_iload_n hx hb d_Mo_name_18 rfl (lv_at hl 4 rfl) ?_
    refine lv_icmp_ge (tgt := 57) hx hb d_Mo_name_19 (by decide) (fun h27 => absurd ((nI_leI (by omega) (by omega)).mp h27) (by omega)) (fun _ => ?_)
    refine lv_lload hx hb d_Mo_name_22 (lv_at hl 1 rfl) ?_
    refine lv_bipush (v := nI 8) hx hb d_Mo_name_24 (by decide) ?_
    refine lv_lshl (v := lN ((((0 * 256 + (tx a0)) * 256 + (tx (a0 + 1))) * 256 + (tx ((a0 + 1) + 1))) * 256)) hx hb d_Mo_name_26 zshl8 ?_
    refine lv_iload hx hb d_Mo_name_27 (lv_at hl 0 rfl) ?_
    refine lv_iload_n hx hb d_Mo_name_29 rfl (lv_at hl 3 rfl) ?_
    refine lv_isub hx hb d_Mo_name_30 ?_
    refine zti (y := nI ((((a0 + 1) + 1) + 1) - a0)) (pk_sub (by omega)) ?_
    refine zti (y := nI 3) (congrArg nI (by omega)) ?_
    refine lv_iload_n hx hb d_Mo_name_31 rfl (lv_at hl 5 rfl) ?_
    refine lv_icmp_ne (tgt := 40) hx hb d_Mo_name_32 (by decide) (fun _ => ?_) (fun h28 => (zm1 (by omega) h28).elim)
    refine lv_aload_n hx hb d_Mo_name_40 rfl (lv_at hl 2 rfl) ?_
    refine va_get (D := D) (ci := 5) (v := .ref (ad 17)) (C := RMo) (T := TMo) (N := 21) hx hb ht inMo hown hK hP 0 rfl rfl 15 (by decide) (ht _ q561) (fun _ h9 => h9) rfl d_Mo_name_41 ?_
    refine lv_iload hx hb d_Mo_name_44 (lv_at hl 0 rfl) ?_
    refine va_cald hx hb hK hP 5 2 rfl rfl (vp_in_nI (n := ((a0 + 1) + 1) + 1) (by omega) (by decide)) d_Mo_name_46 ?_
    refine zti (y := nI (tx (((a0 + 1) + 1) + 1))) (nF_at (by omega)) ?_
    refine lv_i2l (v := lN (tx (((a0 + 1) + 1) + 1))) hx hb d_Mo_name_47 (nI_l (by omega)) ?_
    refine lv_lor hx hb d_Mo_name_48 ?_
    refine ztl (y := lN ((((0 * 256 + (tx a0)) * 256 + (tx (a0 + 1))) * 256 + (tx ((a0 + 1) + 1))) * 256 + (tx (((a0 + 1) + 1) + 1)))) (zlor (by omega) (by omega)) ?_
    refine lv_lstore hx hb d_Mo_name_49 hl (by decide) rfl (fun ls hl => ?_)
    have hl : lv_has ls 7 [(4, .long (lN ((((0 * 256 + (tx a0)) * 256 + (tx (a0 + 1))) * 256 + (tx ((a0 + 1) + 1))) * 256 + (tx (((a0 + 1) + 1) + 1))))), (6, .int (nI (((a0 + 1) + 1) + 1))), (0, .ref (ad 12)), (1, .int (nI a0)), (2, .int (nI (a0 + 4))), (3, .int (-1))] := hl
    refine lv_iinc (k := 1) (v := nI ((((a0 + 1) + 1) + 1) + 1)) hx hb d_Mo_name_51 hl rfl (zinc _) (by decide) rfl (fun ls hl => ?_)
    have hl : lv_has ls 7 [(6, .int (nI ((((a0 + 1) + 1) + 1) + 1))), (4, .long (lN ((((0 * 256 + (tx a0)) * 256 + (tx (a0 + 1))) * 256 + (tx ((a0 + 1) + 1))) * 256 + (tx (((a0 + 1) + 1) + 1))))), (0, .ref (ad 12)), (1, .int (nI a0)), (2, .int (nI (a0 + 4))), (3, .int (-1))] := hl
    refine lv_goto (tgt := 16) hx hb d_Mo_name_54 (by decide) ?_
    refine lv_iload hx hb d_Mo_name_16 (lv_at hl 0 rfl) ?_
    refine lv_iload_n hx hb d_Mo_name_18 rfl (lv_at hl 4 rfl) ?_
    refine lv_icmp_ge (tgt := 57) hx hb d_Mo_name_19 (by decide) (fun _ => ?_) (fun h29 => absurd ((nI_leI (by omega) (by omega)).mpr (by omega)) h29)
    refine lv_lload hx hb d_Mo_name_57 (lv_at hl 1 rfl) ?_
    exact zret_l C0 hr hAe hP hD hS ⟨by rw [nm_l (by decide)]; rfl, rfl⟩ d_Mo_name_59
  · skip
    refine lv_iload_n hx hb d_Mo_name_0 rfl (lv_at hl 2 rfl) ?_
    refine lv_iload_n hx hb d_Mo_name_1 rfl (lv_at hl 1 rfl) ?_
    refine lv_isub hx hb d_Mo_name_2 ?_
    refine zti (y := nI ((a0 + 5) - a0)) (pk_sub (by omega)) ?_
    refine zti (y := nI 5) (congrArg nI (by omega)) ?_
    refine lv_bipush (v := nI 6) hx hb d_Mo_name_3 (by decide) ?_
    refine lv_icmp_le (tgt := 10) hx hb d_Mo_name_5 (by decide) (fun _ => ?_) (fun h30 => absurd (by decide) h30)
    refine lv_lconst (v := lN 0) hx hb d_Mo_name_10 rfl ?_
    refine lv_lstore hx hb d_Mo_name_11 hl (by decide) rfl (fun ls hl => ?_)
    have hl : lv_has ls 7 [(4, .long (lN 0)), (0, .ref (ad 12)), (1, .int (nI a0)), (2, .int (nI (a0 + 5))), (3, .int (-1))] := hl
    refine lv_iload_n hx hb d_Mo_name_13 rfl (lv_at hl 2 rfl) ?_
    refine lv_istore hx hb d_Mo_name_14 hl (by decide) rfl (fun ls hl => ?_)
    have hl : lv_has ls 7 [(6, .int (nI a0)), (4, .long (lN 0)), (0, .ref (ad 12)), (1, .int (nI a0)), (2, .int (nI (a0 + 5))), (3, .int (-1))] := hl
    refine lv_iload hx hb d_Mo_name_16 (lv_at hl 0 rfl) ?_
    refine lv_iload_n hx hb d_Mo_name_18 rfl (lv_at hl 4 rfl) ?_
    refine lv_icmp_ge (tgt := 57) hx hb d_Mo_name_19 (by decide) (fun h31 => absurd ((nI_leI (by omega) (by omega)).mp h31) (by omega)) (fun _ => ?_)
    refine lv_lload hx hb d_Mo_name_22 (lv_at hl 1 rfl) ?_
    refine lv_bipush (v := nI 8) hx hb d_Mo_name_24 (by decide) ?_
    refine lv_lshl (v := lN (0 * 256)) hx hb d_Mo_name_26 zshl8 ?_
    refine lv_iload hx hb d_Mo_name_27 (lv_at hl 0 rfl) ?_
    refine lv_iload_n hx hb d_Mo_name_29 rfl (lv_at hl 3 rfl) ?_
    refine lv_isub hx hb d_Mo_name_30 ?_
    refine zti (y := nI (a0 - a0)) (pk_sub (by omega)) ?_
    refine zti (y := nI 0) (congrArg nI (by omega)) ?_
    refine lv_iload_n hx hb d_Mo_name_31 rfl (lv_at hl 5 rfl) ?_
    refine lv_icmp_ne (tgt := 40) hx hb d_Mo_name_32 (by decide) (fun _ => ?_) (fun h32 => (zm1 (by omega) h32).elim)
    refine lv_aload_n hx hb d_Mo_name_40 rfl (lv_at hl 2 rfl) ?_
    refine va_get (D := D) (ci := 5) (v := .ref (ad 17)) (C := RMo) (T := TMo) (N := 21) hx hb ht inMo hown hK hP 0 rfl rfl 15 (by decide) (ht _ q561) (fun _ h9 => h9) rfl d_Mo_name_41 ?_
    refine lv_iload hx hb d_Mo_name_44 (lv_at hl 0 rfl) ?_
    refine va_cald hx hb hK hP 5 2 rfl rfl (vp_in_nI (n := a0) (by omega) (by decide)) d_Mo_name_46 ?_
    refine zti (y := nI (tx a0)) (nF_at (by omega)) ?_
    refine lv_i2l (v := lN (tx a0)) hx hb d_Mo_name_47 (nI_l (by omega)) ?_
    refine lv_lor hx hb d_Mo_name_48 ?_
    refine ztl (y := lN (0 * 256 + (tx a0))) (zlor (by omega) (by omega)) ?_
    refine lv_lstore hx hb d_Mo_name_49 hl (by decide) rfl (fun ls hl => ?_)
    have hl : lv_has ls 7 [(4, .long (lN (0 * 256 + (tx a0)))), (6, .int (nI a0)), (0, .ref (ad 12)), (1, .int (nI a0)), (2, .int (nI (a0 + 5))), (3, .int (-1))] := hl
    refine lv_iinc (k := 1) (v := nI (a0 + 1)) hx hb d_Mo_name_51 hl rfl (zinc _) (by decide) rfl (fun ls hl => ?_)
    have hl : lv_has ls 7 [(6, .int (nI (a0 + 1))), (4, .long (lN (0 * 256 + (tx a0)))), (0, .ref (ad 12)), (1, .int (nI a0)), (2, .int (nI (a0 + 5))), (3, .int (-1))] := hl
    refine lv_goto (tgt := 16) hx hb d_Mo_name_54 (by decide) ?_
    refine lv_iload hx hb d_Mo_name_16 (lv_at hl 0 rfl) ?_
    refine lv_iload_n hx hb d_Mo_name_18 rfl (lv_at hl 4 rfl) ?_
    refine lv_icmp_ge (tgt := 57) hx hb d_Mo_name_19 (by decide) (fun h33 => absurd ((nI_leI (by omega) (by omega)).mp h33) (by omega)) (fun _ => ?_)
    refine lv_lload hx hb d_Mo_name_22 (lv_at hl 1 rfl) ?_
    refine lv_bipush (v := nI 8) hx hb d_Mo_name_24 (by decide) ?_
    refine lv_lshl (v := lN ((0 * 256 + (tx a0)) * 256)) hx hb d_Mo_name_26 zshl8 ?_
    refine lv_iload hx hb d_Mo_name_27 (lv_at hl 0 rfl) ?_
    refine lv_iload_n hx hb d_Mo_name_29 rfl (lv_at hl 3 rfl) ?_
    refine lv_isub hx hb d_Mo_name_30 ?_
    refine zti (y := nI ((a0 + 1) - a0)) (pk_sub (by omega)) ?_
    refine zti (y := nI 1) (congrArg nI (by omega)) ?_
    refine lv_iload_n hx hb d_Mo_name_31 rfl (lv_at hl 5 rfl) ?_
    refine lv_icmp_ne (tgt := 40) hx hb d_Mo_name_32 (by decide) (fun _ => ?_) (fun h34 => (zm1 (by omega) h34).elim)
    refine lv_aload_n hx hb d_Mo_name_40 rfl (lv_at hl 2 rfl) ?_
    refine va_get (D := D) (ci := 5) (v := .ref (ad 17)) (C := RMo) (T := TMo) (N := 21) hx hb ht inMo hown hK hP 0 rfl rfl 15 (by decide) (ht _ q561) (fun _ h9 => h9) rfl d_Mo_name_41 ?_
    refine lv_iload hx hb d_Mo_name_44 (lv_at hl 0 rfl) ?_
    refine va_cald hx hb hK hP 5 2 rfl rfl (vp_in_nI (n := a0 + 1) (by omega) (by decide)) d_Mo_name_46 ?_
    refine zti (y := nI (tx (a0 + 1))) (nF_at (by omega)) ?_
    refine lv_i2l (v := lN (tx (a0 + 1))) hx hb d_Mo_name_47 (nI_l (by omega)) ?_
    refine lv_lor hx hb d_Mo_name_48 ?_
    refine ztl (y := lN ((0 * 256 + (tx a0)) * 256 + (tx (a0 + 1)))) (zlor (by omega) (by omega)) ?_
    refine lv_lstore hx hb d_Mo_name_49 hl (by decide) rfl (fun ls hl => ?_)
    have hl : lv_has ls 7 [(4, .long (lN ((0 * 256 + (tx a0)) * 256 + (tx (a0 + 1))))), (6, .int (nI (a0 + 1))), (0, .ref (ad 12)), (1, .int (nI a0)), (2, .int (nI (a0 + 5))), (3, .int (-1))] := hl
    refine lv_iinc (k := 1) (v := nI ((a0 + 1) + 1)) hx hb d_Mo_name_51 hl rfl (zinc _) (by decide) rfl (fun ls hl => ?_)
    have hl : lv_has ls 7 [(6, .int (nI ((a0 + 1) + 1))), (4, .long (lN ((0 * 256 + (tx a0)) * 256 + (tx (a0 + 1))))), (0, .ref (ad 12)), (1, .int (nI a0)), (2, .int (nI (a0 + 5))), (3, .int (-1))] := hl
    refine lv_goto (tgt := 16) hx hb d_Mo_name_54 (by decide) ?_
    refine lv_iload hx hb d_Mo_name_16 (lv_at hl 0 rfl) ?_
    refine lv_iload_n hx hb d_Mo_name_18 rfl (lv_at hl 4 rfl) ?_
    refine lv_icmp_ge (tgt := 57) hx hb d_Mo_name_19 (by decide) (fun h35 => absurd ((nI_leI (by omega) (by omega)).mp h35) (by omega)) (fun _ => ?_)
    refine lv_lload hx hb d_Mo_name_22 (lv_at hl 1 rfl) ?_
    refine lv_bipush (v := nI 8) hx hb d_Mo_name_24 (by decide) ?_
    refine lv_lshl (v := lN (((0 * 256 + (tx a0)) * 256 + (tx (a0 + 1))) * 256)) hx hb d_Mo_name_26 zshl8 ?_
    refine lv_iload hx hb d_Mo_name_27 (lv_at hl 0 rfl) ?_
    refine lv_iload_n hx hb d_Mo_name_29 rfl (lv_at hl 3 rfl) ?_
    refine lv_isub hx hb d_Mo_name_30 ?_
    refine zti (y := nI (((a0 + 1) + 1) - a0)) (pk_sub (by omega)) ?_
    refine zti (y := nI 2) (congrArg nI (by omega)) ?_
    refine lv_iload_n hx hb d_Mo_name_31 rfl (lv_at hl 5 rfl) ?_
    refine lv_icmp_ne (tgt := 40) hx hb d_Mo_name_32 (by decide) (fun _ => ?_) (fun h36 => (zm1 (by omega) h36).elim)
    refine lv_aload_n hx hb d_Mo_name_40 rfl (lv_at hl 2 rfl) ?_
    refine va_get (D := D) (ci := 5) (v := .ref (ad 17)) (C := RMo) (T := TMo) (N := 21) hx hb ht inMo hown hK hP 0 rfl rfl 15 (by decide) (ht _ q561) (fun _ h9 => h9) rfl d_Mo_name_41 ?_
    refine lv_iload hx hb d_Mo_name_44 (lv_at hl 0 rfl) ?_
    refine va_cald hx hb hK hP 5 2 rfl rfl (vp_in_nI (n := (a0 + 1) + 1) (by omega) (by decide)) d_Mo_name_46 ?_
    refine zti (y := nI (tx ((a0 + 1) + 1))) (nF_at (by omega)) ?_
    refine lv_i2l (v := lN (tx ((a0 + 1) + 1))) hx hb d_Mo_name_47 (nI_l (by omega)) ?_
    refine lv_lor hx hb d_Mo_name_48 ?_
    refine ztl (y := lN (((0 * 256 + (tx a0)) * 256 + (tx (a0 + 1))) * 256 + (tx ((a0 + 1) + 1)))) (zlor (by omega) (by omega)) ?_
    refine lv_lstore hx hb d_Mo_name_49 hl (by decide) rfl (fun ls hl => ?_)
    have hl : lv_has ls 7 [(4, .long (lN (((0 * 256 + (tx a0)) * 256 + (tx (a0 + 1))) * 256 + (tx ((a0 + 1) + 1))))), (6, .int (nI ((a0 + 1) + 1))), (0, .ref (ad 12)), (1, .int (nI a0)), (2, .int (nI (a0 + 5))), (3, .int (-1))] := hl
    refine lv_iinc (k := 1) (v := nI (((a0 + 1) + 1) + 1)) hx hb d_Mo_name_51 hl rfl (zinc _) (by decide) rfl (fun ls hl => ?_)
    have hl : lv_has ls 7 [(6, .int (nI (((a0 + 1) + 1) + 1))), (4, .long (lN (((0 * 256 + (tx a0)) * 256 + (tx (a0 + 1))) * 256 + (tx ((a0 + 1) + 1))))), (0, .ref (ad 12)), (1, .int (nI a0)), (2, .int (nI (a0 + 5))), (3, .int (-1))] := hl
    refine lv_goto (tgt := 16) hx hb d_Mo_name_54 (by decide) ?_
    refine lv_iload hx hb d_Mo_name_16 (lv_at hl 0 rfl) ?_
    refine lv_iload_n hx hb d_Mo_name_18 rfl (lv_at hl 4 rfl) ?_
    refine lv_icmp_ge (tgt := 57) hx hb d_Mo_name_19 (by decide) (fun h37 => absurd ((nI_leI (by omega) (by omega)).mp h37) (by omega)) (fun _ => ?_)
    refine lv_lload hx hb d_Mo_name_22 (lv_at hl 1 rfl) ?_
    refine lv_bipush (v := nI 8) hx hb d_Mo_name_24 (by decide) ?_
    refine lv_lshl (v := lN ((((0 * 256 + (tx a0)) * 256 + (tx (a0 + 1))) * 256 + (tx ((a0 + 1) + 1))) * 256)) hx hb d_Mo_name_26 zshl8 ?_
    refine lv_iload hx hb d_Mo_name_27 (lv_at hl 0 rfl) ?_
    refine lv_iload_n hx hb d_Mo_name_29 rfl (lv_at hl 3 rfl) ?_
    refine lv_isub hx hb d_Mo_name_30 ?_
    refine zti (y := nI ((((a0 + 1) + 1) + 1) - a0)) (pk_sub (by omega)) ?_
    refine zti (y := nI 3) (congrArg nI (by omega)) ?_
    refine lv_iload_n hx hb d_Mo_name_31 rfl (lv_at hl 5 rfl) ?_
    refine lv_icmp_ne (tgt := 40) hx hb d_Mo_name_32 (by decide) (fun _ => ?_) (fun h38 => (zm1 (by omega) h38).elim)
    refine lv_aload_n hx hb d_Mo_name_40 rfl (lv_at hl 2 rfl) ?_
    refine va_get (D := D) (ci := 5) (v := .ref (ad 17)) (C := RMo) (T := TMo) (N := 21) hx hb ht inMo hown hK hP 0 rfl rfl 15 (by decide) (ht _ q561) (fun _ h9 => h9) rfl d_Mo_name_41 ?_
    refine lv_iload hx hb d_Mo_name_44 (lv_at hl 0 rfl) ?_
    refine va_cald hx hb hK hP 5 2 rfl rfl (vp_in_nI (n := ((a0 + 1) + 1) + 1) (by omega) (by decide)) d_Mo_name_46 ?_
    refine zti (y := nI (tx (((a0 + 1) + 1) + 1))) (nF_at (by omega)) ?_
    refine lv_i2l (v := lN (tx (((a0 + 1) + 1) + 1))) hx hb d_Mo_name_47 (nI_l (by omega)) ?_
    refine lv_lor hx hb d_Mo_name_48 ?_
    refine ztl (y := lN ((((0 * 256 + (tx a0)) * 256 + (tx (a0 + 1))) * 256 + (tx ((a0 + 1) + 1))) * 256 + (tx (((a0 + 1) + 1) + 1)))) (zlor (by omega) (by omega)) ?_
    refine lv_lstore hx hb d_Mo_name_49 hl (by decide) rfl (fun ls hl => ?_)
    have hl : lv_has ls 7 [(4, .long (lN ((((0 * 256 + (tx a0)) * 256 + (tx (a0 + 1))) * 256 + (tx ((a0 + 1) + 1))) * 256 + (tx (((a0 + 1) + 1) + 1))))), (6, .int (nI (((a0 + 1) + 1) + 1))), (0, .ref (ad 12)), (1, .int (nI a0)), (2, .int (nI (a0 + 5))), (3, .int (-1))] := hl
    refine lv_iinc (k := 1) (v := nI ((((a0 + 1) + 1) + 1) + 1)) hx hb d_Mo_name_51 hl rfl (zinc _) (by decide) rfl (fun ls hl => ?_)
    have hl : lv_has ls 7 [(6, .int (nI ((((a0 + 1) + 1) + 1) + 1))), (4, .long (lN ((((0 * 256 + (tx a0)) * 256 + (tx (a0 + 1))) * 256 + (tx ((a0 + 1) + 1))) * 256 + (tx (((a0 + 1) + 1) + 1))))), (0, .ref (ad 12)), (1, .int (nI a0)), (2, .int (nI (a0 + 5))), (3, .int (-1))] := hl
    refine lv_goto (tgt := 16) hx hb d_Mo_name_54 (by decide) ?_
    refine lv_iload hx hb d_Mo_name_16 (lv_at hl 0 rfl) ?_
    refine lv_iload_n hx hb d_Mo_name_18 rfl (lv_at hl 4 rfl) ?_
    refine lv_icmp_ge (tgt := 57) hx hb d_Mo_name_19 (by decide) (fun h39 => absurd ((nI_leI (by omega) (by omega)).mp h39) (by omega)) (fun _ => ?_)
    refine lv_lload hx hb d_Mo_name_22 (lv_at hl 1 rfl) ?_
    refine lv_bipush (v := nI 8) hx hb d_Mo_name_24 (by decide) ?_
    refine lv_lshl (v := lN (((((0 * 256 + (tx a0)) * 256 + (tx (a0 + 1))) * 256 + (tx ((a0 + 1) + 1))) * 256 + (tx (((a0 + 1) + 1) + 1))) * 256)) hx hb d_Mo_name_26 zshl8 ?_
    refine lv_iload hx hb d_Mo_name_27 (lv_at hl 0 rfl) ?_
    refine lv_iload_n hx hb d_Mo_name_29 rfl (lv_at hl 3 rfl) ?_
    refine lv_isub hx hb d_Mo_name_30 ?_
    refine zti (y := nI (((((a0 + 1) + 1) + 1) + 1) - a0)) (pk_sub (by omega)) ?_
    refine zti (y := nI 4) (congrArg nI (by omega)) ?_
    refine lv_iload_n hx hb d_Mo_name_31 rfl (lv_at hl 5 rfl) ?_
    refine lv_icmp_ne (tgt := 40) hx hb d_Mo_name_32 (by decide) (fun _ => ?_) (fun h40 => (zm1 (by omega) h40).elim)
    refine lv_aload_n hx hb d_Mo_name_40 rfl (lv_at hl 2 rfl) ?_
    refine va_get (D := D) (ci := 5) (v := .ref (ad 17)) (C := RMo) (T := TMo) (N := 21) hx hb ht inMo hown hK hP 0 rfl rfl 15 (by decide) (ht _ q561) (fun _ h9 => h9) rfl d_Mo_name_41 ?_
    refine lv_iload hx hb d_Mo_name_44 (lv_at hl 0 rfl) ?_
    refine va_cald hx hb hK hP 5 2 rfl rfl (vp_in_nI (n := (((a0 + 1) + 1) + 1) + 1) (by omega) (by decide)) d_Mo_name_46 ?_
    refine zti (y := nI (tx ((((a0 + 1) + 1) + 1) + 1))) (nF_at (by omega)) ?_
    refine lv_i2l (v := lN (tx ((((a0 + 1) + 1) + 1) + 1))) hx hb d_Mo_name_47 (nI_l (by omega)) ?_
    refine lv_lor hx hb d_Mo_name_48 ?_
    refine ztl (y := lN (((((0 * 256 + (tx a0)) * 256 + (tx (a0 + 1))) * 256 + (tx ((a0 + 1) + 1))) * 256 + (tx (((a0 + 1) + 1) + 1))) * 256 + (tx ((((a0 + 1) + 1) + 1) + 1)))) (zlor (by omega) (by omega)) ?_
    refine lv_lstore hx hb d_Mo_name_49 hl (by decide) rfl (fun ls hl => ?_)
    have hl : lv_has ls 7 [(4, .long (lN (((((0 * 256 + (tx a0)) * 256 + (tx (a0 + 1))) * 256 + (tx ((a0 + 1) + 1))) * 256 + (tx (((a0 + 1) + 1) + 1))) * 256 + (tx ((((a0 + 1) + 1) + 1) + 1))))), (6, .int (nI ((((a0 + 1) + 1) + 1) + 1))), (0, .ref (ad 12)), (1, .int (nI a0)), (2, .int (nI (a0 + 5))), (3, .int (-1))] := hl
    refine lv_iinc (k := 1) (v := nI (((((a0 + 1) + 1) + 1) + 1) + 1)) hx hb d_Mo_name_51 hl rfl (zinc _) (by decide) rfl (fun ls hl => ?_)
    have hl : lv_has ls 7 [(6, .int (nI (((((a0 + 1) + 1) + 1) + 1) + 1))), (4, .long (lN (((((0 * 256 + (tx a0)) * 256 + (tx (a0 + 1))) * 256 + (tx ((a0 + 1) + 1))) * 256 + (tx (((a0 + 1) + 1) + 1))) * 256 + (tx ((((a0 + 1) + 1) + 1) + 1))))), (0, .ref (ad 12)), (1, .int (nI a0)), (2, .int (nI (a0 + 5))), (3, .int (-1))] := hl
    refine lv_goto (tgt := 16) hx hb d_Mo_name_54 (by decide) ?_
    refine lv_iload hx hb d_Mo_name_16 (lv_at hl 0 rfl) ?_
    refine lv_iload_n hx hb d_Mo_name_18 rfl (lv_at hl 4 rfl) ?_
    refine lv_icmp_ge (tgt := 57) hx hb d_Mo_name_19 (by decide) (fun _ => ?_) (fun h41 => absurd ((nI_leI (by omega) (by omega)).mpr (by omega)) h41)
    refine lv_lload hx hb d_Mo_name_57 (lv_at hl 1 rfl) ?_
    exact zret_l C0 hr hAe hP hD hS ⟨by rw [nm_l (by decide)]; rfl, rfl⟩ d_Mo_name_59
  · skip
    refine lv_iload_n hx hb d_Mo_name_0 rfl (lv_at hl 2 rfl) ?_
    refine lv_iload_n hx hb d_Mo_name_1 rfl (lv_at hl 1 rfl) ?_
    refine lv_isub hx hb d_Mo_name_2 ?_
    refine zti (y := nI ((a0 + 6) - a0)) (pk_sub (by omega)) ?_
    refine zti (y := nI 6) (congrArg nI (by omega)) ?_
    refine lv_bipush (v := nI 6) hx hb d_Mo_name_3 (by decide) ?_
    refine lv_icmp_le (tgt := 10) hx hb d_Mo_name_5 (by decide) (fun _ => ?_) (fun h42 => absurd (by decide) h42)
    refine lv_lconst (v := lN 0) hx hb d_Mo_name_10 rfl ?_
    refine lv_lstore hx hb d_Mo_name_11 hl (by decide) rfl (fun ls hl => ?_)
    have hl : lv_has ls 7 [(4, .long (lN 0)), (0, .ref (ad 12)), (1, .int (nI a0)), (2, .int (nI (a0 + 6))), (3, .int (-1))] := hl
    refine lv_iload_n hx hb d_Mo_name_13 rfl (lv_at hl 2 rfl) ?_
    refine lv_istore hx hb d_Mo_name_14 hl (by decide) rfl (fun ls hl => ?_)
    have hl : lv_has ls 7 [(6, .int (nI a0)), (4, .long (lN 0)), (0, .ref (ad 12)), (1, .int (nI a0)), (2, .int (nI (a0 + 6))), (3, .int (-1))] := hl
    refine lv_iload hx hb d_Mo_name_16 (lv_at hl 0 rfl) ?_
    refine lv_iload_n hx hb d_Mo_name_18 rfl (lv_at hl 4 rfl) ?_
    refine lv_icmp_ge (tgt := 57) hx hb d_Mo_name_19 (by decide) (fun h43 => absurd ((nI_leI (by omega) (by omega)).mp h43) (by omega)) (fun _ => ?_)
    refine lv_lload hx hb d_Mo_name_22 (lv_at hl 1 rfl) ?_
    refine lv_bipush (v := nI 8) hx hb d_Mo_name_24 (by decide) ?_
    refine lv_lshl (v := lN (0 * 256)) hx hb d_Mo_name_26 zshl8 ?_
    refine lv_iload hx hb d_Mo_name_27 (lv_at hl 0 rfl) ?_
    refine lv_iload_n hx hb d_Mo_name_29 rfl (lv_at hl 3 rfl) ?_
    refine lv_isub hx hb d_Mo_name_30 ?_
    refine zti (y := nI (a0 - a0)) (pk_sub (by omega)) ?_
    refine zti (y := nI 0) (congrArg nI (by omega)) ?_
    refine lv_iload_n hx hb d_Mo_name_31 rfl (lv_at hl 5 rfl) ?_
    refine lv_icmp_ne (tgt := 40) hx hb d_Mo_name_32 (by decide) (fun _ => ?_) (fun h44 => (zm1 (by omega) h44).elim)
    refine lv_aload_n hx hb d_Mo_name_40 rfl (lv_at hl 2 rfl) ?_
    refine va_get (D := D) (ci := 5) (v := .ref (ad 17)) (C := RMo) (T := TMo) (N := 21) hx hb ht inMo hown hK hP 0 rfl rfl 15 (by decide) (ht _ q561) (fun _ h9 => h9) rfl d_Mo_name_41 ?_
    refine lv_iload hx hb d_Mo_name_44 (lv_at hl 0 rfl) ?_
    refine va_cald hx hb hK hP 5 2 rfl rfl (vp_in_nI (n := a0) (by omega) (by decide)) d_Mo_name_46 ?_
    refine zti (y := nI (tx a0)) (nF_at (by omega)) ?_
    refine lv_i2l (v := lN (tx a0)) hx hb d_Mo_name_47 (nI_l (by omega)) ?_
    refine lv_lor hx hb d_Mo_name_48 ?_
    refine ztl (y := lN (0 * 256 + (tx a0))) (zlor (by omega) (by omega)) ?_
    refine lv_lstore hx hb d_Mo_name_49 hl (by decide) rfl (fun ls hl => ?_)
    have hl : lv_has ls 7 [(4, .long (lN (0 * 256 + (tx a0)))), (6, .int (nI a0)), (0, .ref (ad 12)), (1, .int (nI a0)), (2, .int (nI (a0 + 6))), (3, .int (-1))] := hl
    refine lv_iinc (k := 1) (v := nI (a0 + 1)) hx hb d_Mo_name_51 hl rfl (zinc _) (by decide) rfl (fun ls hl => ?_)
    have hl : lv_has ls 7 [(6, .int (nI (a0 + 1))), (4, .long (lN (0 * 256 + (tx a0)))), (0, .ref (ad 12)), (1, .int (nI a0)), (2, .int (nI (a0 + 6))), (3, .int (-1))] := hl
    refine lv_goto (tgt := 16) hx hb d_Mo_name_54 (by decide) ?_
    refine lv_iload hx hb d_Mo_name_16 (lv_at hl 0 rfl) ?_
    refine lv_iload_n hx hb d_Mo_name_18 rfl (lv_at hl 4 rfl) ?_
    refine lv_icmp_ge (tgt := 57) hx hb d_Mo_name_19 (by decide) (fun h45 => absurd ((nI_leI (by omega) (by omega)).mp h45) (by omega)) (fun _ => ?_)
    refine lv_lload hx hb d_Mo_name_22 (lv_at hl 1 rfl) ?_
    refine lv_bipush (v := nI 8) hx hb d_Mo_name_24 (by decide) ?_
    refine lv_lshl (v := lN ((0 * 256 + (tx a0)) * 256)) hx hb d_Mo_name_26 zshl8 ?_
    refine lv_iload hx hb d_Mo_name_27 (lv_at hl 0 rfl) ?_
    refine lv_iload_n hx hb d_Mo_name_29 rfl (lv_at hl 3 rfl) ?_
    refine lv_isub hx hb d_Mo_name_30 ?_
    refine zti (y := nI ((a0 + 1) - a0)) (pk_sub (by omega)) ?_
    refine zti (y := nI 1) (congrArg nI (by omega)) ?_
    refine lv_iload_n hx hb d_Mo_name_31 rfl (lv_at hl 5 rfl) ?_
    refine lv_icmp_ne (tgt := 40) hx hb d_Mo_name_32 (by decide) (fun _ => ?_) (fun h46 => (zm1 (by omega) h46).elim)
    refine lv_aload_n hx hb d_Mo_name_40 rfl (lv_at hl 2 rfl) ?_
    refine va_get (D := D) (ci := 5) (v := .ref (ad 17)) (C := RMo) (T := TMo) (N := 21) hx hb ht inMo hown hK hP 0 rfl rfl 15 (by decide) (ht _ q561) (fun _ h9 => h9) rfl d_Mo_name_41 ?_
    refine lv_iload hx hb d_Mo_name_44 (lv_at hl 0 rfl) ?_
    refine va_cald hx hb hK hP 5 2 rfl rfl (vp_in_nI (n := a0 + 1) (by omega) (by decide)) d_Mo_name_46 ?_
    refine zti (y := nI (tx (a0 + 1))) (nF_at (by omega)) ?_
    refine lv_i2l (v := lN (tx (a0 + 1))) hx hb d_Mo_name_47 (nI_l (by omega)) ?_
    refine lv_lor hx hb d_Mo_name_48 ?_
    refine ztl (y := lN ((0 * 256 + (tx a0)) * 256 + (tx (a0 + 1)))) (zlor (by omega) (by omega)) ?_
    refine lv_lstore hx hb d_Mo_name_49 hl (by decide) rfl (fun ls hl => ?_)
    have hl : lv_has ls 7 [(4, .long (lN ((0 * 256 + (tx a0)) * 256 + (tx (a0 + 1))))), (6, .int (nI (a0 + 1))), (0, .ref (ad 12)), (1, .int (nI a0)), (2, .int (nI (a0 + 6))), (3, .int (-1))] := hl
    refine lv_iinc (k := 1) (v := nI ((a0 + 1) + 1)) hx hb d_Mo_name_51 hl rfl (zinc _) (by decide) rfl (fun ls hl => ?_)
    have hl : lv_has ls 7 [(6, .int (nI ((a0 + 1) + 1))), (4, .long (lN ((0 * 256 + (tx a0)) * 256 + (tx (a0 + 1))))), (0, .ref (ad 12)), (1, .int (nI a0)), (2, .int (nI (a0 + 6))), (3, .int (-1))] := hl
    refine lv_goto (tgt := 16) hx hb d_Mo_name_54 (by decide) ?_
    refine lv_iload hx hb d_Mo_name_16 (lv_at hl 0 rfl) ?_
    refine lv_iload_n hx hb d_Mo_name_18 rfl (lv_at hl 4 rfl) ?_
    refine lv_icmp_ge (tgt := 57) hx hb d_Mo_name_19 (by decide) (fun h47 => absurd ((nI_leI (by omega) (by omega)).mp h47) (by omega)) (fun _ => ?_)
    refine lv_lload hx hb d_Mo_name_22 (lv_at hl 1 rfl) ?_
    refine lv_bipush (v := nI 8) hx hb d_Mo_name_24 (by decide) ?_
    refine lv_lshl (v := lN (((0 * 256 + (tx a0)) * 256 + (tx (a0 + 1))) * 256)) hx hb d_Mo_name_26 zshl8 ?_
    refine lv_iload hx hb d_Mo_name_27 (lv_at hl 0 rfl) ?_
    refine lv_iload_n hx hb d_Mo_name_29 rfl (lv_at hl 3 rfl) ?_
    refine lv_isub hx hb d_Mo_name_30 ?_
    refine zti (y := nI (((a0 + 1) + 1) - a0)) (pk_sub (by omega)) ?_
    refine zti (y := nI 2) (congrArg nI (by omega)) ?_
    refine lv_iload_n hx hb d_Mo_name_31 rfl (lv_at hl 5 rfl) ?_
    refine lv_icmp_ne (tgt := 40) hx hb d_Mo_name_32 (by decide) (fun _ => ?_) (fun h48 => (zm1 (by omega) h48).elim)
    refine lv_aload_n hx hb d_Mo_name_40 rfl (lv_at hl 2 rfl) ?_
    refine va_get (D := D) (ci := 5) (v := .ref (ad 17)) (C := RMo) (T := TMo) (N := 21) hx hb ht inMo hown hK hP 0 rfl rfl 15 (by decide) (ht _ q561) (fun _ h9 => h9) rfl d_Mo_name_41 ?_
    refine lv_iload hx hb d_Mo_name_44 (lv_at hl 0 rfl) ?_
    refine va_cald hx hb hK hP 5 2 rfl rfl (vp_in_nI (n := (a0 + 1) + 1) (by omega) (by decide)) d_Mo_name_46 ?_
    refine zti (y := nI (tx ((a0 + 1) + 1))) (nF_at (by omega)) ?_
    refine lv_i2l (v := lN (tx ((a0 + 1) + 1))) hx hb d_Mo_name_47 (nI_l (by omega)) ?_
    refine lv_lor hx hb d_Mo_name_48 ?_
    refine ztl (y := lN (((0 * 256 + (tx a0)) * 256 + (tx (a0 + 1))) * 256 + (tx ((a0 + 1) + 1)))) (zlor (by omega) (by omega)) ?_
    refine lv_lstore hx hb d_Mo_name_49 hl (by decide) rfl (fun ls hl => ?_)
    have hl : lv_has ls 7 [(4, .long (lN (((0 * 256 + (tx a0)) * 256 + (tx (a0 + 1))) * 256 + (tx ((a0 + 1) + 1))))), (6, .int (nI ((a0 + 1) + 1))), (0, .ref (ad 12)), (1, .int (nI a0)), (2, .int (nI (a0 + 6))), (3, .int (-1))] := hl
    refine lv_iinc (k := 1) (v := nI (((a0 + 1) + 1) + 1)) hx hb d_Mo_name_51 hl rfl (zinc _) (by decide) rfl (fun ls hl => ?_)
    have hl : lv_has ls 7 [(6, .int (nI (((a0 + 1) + 1) + 1))), (4, .long (lN (((0 * 256 + (tx a0)) * 256 + (tx (a0 + 1))) * 256 + (tx ((a0 + 1) + 1))))), (0, .ref (ad 12)), (1, .int (nI a0)), (2, .int (nI (a0 + 6))), (3, .int (-1))] := hl
    refine lv_goto (tgt := 16) hx hb d_Mo_name_54 (by decide) ?_
    refine lv_iload hx hb d_Mo_name_16 (lv_at hl 0 rfl) ?_
    refine lv_iload_n hx hb d_Mo_name_18 rfl (lv_at hl 4 rfl) ?_
    refine lv_icmp_ge (tgt := 57) hx hb d_Mo_name_19 (by decide) (fun h49 => absurd ((nI_leI (by omega) (by omega)).mp h49) (by omega)) (fun _ => ?_)
    refine lv_lload hx hb d_Mo_name_22 (lv_at hl 1 rfl) ?_
    refine lv_bipush (v := nI 8) hx hb d_Mo_name_24 (by decide) ?_
    refine lv_lshl (v := lN ((((0 * 256 + (tx a0)) * 256 + (tx (a0 + 1))) * 256 + (tx ((a0 + 1) + 1))) * 256)) hx hb d_Mo_name_26 zshl8 ?_
    refine lv_iload hx hb d_Mo_name_27 (lv_at hl 0 rfl) ?_
    refine lv_iload_n hx hb d_Mo_name_29 rfl (lv_at hl 3 rfl) ?_
    refine lv_isub hx hb d_Mo_name_30 ?_
    refine zti (y := nI ((((a0 + 1) + 1) + 1) - a0)) (pk_sub (by omega)) ?_
    refine zti (y := nI 3) (congrArg nI (by omega)) ?_
    refine lv_iload_n hx hb d_Mo_name_31 rfl (lv_at hl 5 rfl) ?_
    refine lv_icmp_ne (tgt := 40) hx hb d_Mo_name_32 (by decide) (fun _ => ?_) (fun h50 => (zm1 (by omega) h50).elim)
    refine lv_aload_n hx hb d_Mo_name_40 rfl (lv_at hl 2 rfl) ?_
    refine va_get (D := D) (ci := 5) (v := .ref (ad 17)) (C := RMo) (T := TMo) (N := 21) hx hb ht inMo hown hK hP 0 rfl rfl 15 (by decide) (ht _ q561) (fun _ h9 => h9) rfl d_Mo_name_41 ?_
    refine lv_iload hx hb d_Mo_name_44 (lv_at hl 0 rfl) ?_
    refine va_cald hx hb hK hP 5 2 rfl rfl (vp_in_nI (n := ((a0 + 1) + 1) + 1) (by omega) (by decide)) d_Mo_name_46 ?_
    refine zti (y := nI (tx (((a0 + 1) + 1) + 1))) (nF_at (by omega)) ?_
    refine lv_i2l (v := lN (tx (((a0 + 1) + 1) + 1))) hx hb d_Mo_name_47 (nI_l (by omega)) ?_
    refine lv_lor hx hb d_Mo_name_48 ?_
    refine ztl (y := lN ((((0 * 256 + (tx a0)) * 256 + (tx (a0 + 1))) * 256 + (tx ((a0 + 1) + 1))) * 256 + (tx (((a0 + 1) + 1) + 1)))) (zlor (by omega) (by omega)) ?_
    refine lv_lstore hx hb d_Mo_name_49 hl (by decide) rfl (fun ls hl => ?_)
    have hl : lv_has ls 7 [(4, .long (lN ((((0 * 256 + (tx a0)) * 256 + (tx (a0 + 1))) * 256 + (tx ((a0 + 1) + 1))) * 256 + (tx (((a0 + 1) + 1) + 1))))), (6, .int (nI (((a0 + 1) + 1) + 1))), (0, .ref (ad 12)), (1, .int (nI a0)), (2, .int (nI (a0 + 6))), (3, .int (-1))] := hl
    refine lv_iinc (k := 1) (v := nI ((((a0 + 1) + 1) + 1) + 1)) hx hb d_Mo_name_51 hl rfl (zinc _) (by decide) rfl (fun ls hl => ?_)
    have hl : lv_has ls 7 [(6, .int (nI ((((a0 + 1) + 1) + 1) + 1))), (4, .long (lN ((((0 * 256 + (tx a0)) * 256 + (tx (a0 + 1))) * 256 + (tx ((a0 + 1) + 1))) * 256 + (tx (((a0 + 1) + 1) + 1))))), (0, .ref (ad 12)), (1, .int (nI a0)), (2, .int (nI (a0 + 6))), (3, .int (-1))] := hl
    refine lv_goto (tgt := 16) hx hb d_Mo_name_54 (by decide) ?_
    refine lv_iload hx hb d_Mo_name_16 (lv_at hl 0 rfl) ?_
    refine lv_iload_n hx hb d_Mo_name_18 rfl (lv_at hl 4 rfl) ?_
    refine lv_icmp_ge (tgt := 57) hx hb d_Mo_name_19 (by decide) (fun h51 => absurd ((nI_leI (by omega) (by omega)).mp h51) (by omega)) (fun _ => ?_)
    refine lv_lload hx hb d_Mo_name_22 (lv_at hl 1 rfl) ?_
    refine lv_bipush (v := nI 8) hx hb d_Mo_name_24 (by decide) ?_
    refine lv_lshl (v := lN (((((0 * 256 + (tx a0)) * 256 + (tx (a0 + 1))) * 256 + (tx ((a0 + 1) + 1))) * 256 + (tx (((a0 + 1) + 1) + 1))) * 256)) hx hb d_Mo_name_26 zshl8 ?_
    refine lv_iload hx hb d_Mo_name_27 (lv_at hl 0 rfl) ?_
    refine lv_iload_n hx hb d_Mo_name_29 rfl (lv_at hl 3 rfl) ?_
    refine lv_isub hx hb d_Mo_name_30 ?_
    refine zti (y := nI (((((a0 + 1) + 1) + 1) + 1) - a0)) (pk_sub (by omega)) ?_
    refine zti (y := nI 4) (congrArg nI (by omega)) ?_
    refine lv_iload_n hx hb d_Mo_name_31 rfl (lv_at hl 5 rfl) ?_
    refine lv_icmp_ne (tgt := 40) hx hb d_Mo_name_32 (by decide) (fun _ => ?_) (fun h52 => (zm1 (by omega) h52).elim)
    refine lv_aload_n hx hb d_Mo_name_40 rfl (lv_at hl 2 rfl) ?_
    refine va_get (D := D) (ci := 5) (v := .ref (ad 17)) (C := RMo) (T := TMo) (N := 21) hx hb ht inMo hown hK hP 0 rfl rfl 15 (by decide) (ht _ q561) (fun _ h9 => h9) rfl d_Mo_name_41 ?_
    refine lv_iload hx hb d_Mo_name_44 (lv_at hl 0 rfl) ?_
    refine va_cald hx hb hK hP 5 2 rfl rfl (vp_in_nI (n := (((a0 + 1) + 1) + 1) + 1) (by omega) (by decide)) d_Mo_name_46 ?_
    refine zti (y := nI (tx ((((a0 + 1) + 1) + 1) + 1))) (nF_at (by omega)) ?_
    refine lv_i2l (v := lN (tx ((((a0 + 1) + 1) + 1) + 1))) hx hb d_Mo_name_47 (nI_l (by omega)) ?_
    refine lv_lor hx hb d_Mo_name_48 ?_
    refine ztl (y := lN (((((0 * 256 + (tx a0)) * 256 + (tx (a0 + 1))) * 256 + (tx ((a0 + 1) + 1))) * 256 + (tx (((a0 + 1) + 1) + 1))) * 256 + (tx ((((a0 + 1) + 1) + 1) + 1)))) (zlor (by omega) (by omega)) ?_
    refine lv_lstore hx hb d_Mo_name_49 hl (by decide) rfl (fun ls hl => ?_)
    have hl : lv_has ls 7 [(4, .long (lN (((((0 * 256 + (tx a0)) * 256 + (tx (a0 + 1))) * 256 + (tx ((a0 + 1) + 1))) * 256 + (tx (((a0 + 1) + 1) + 1))) * 256 + (tx ((((a0 + 1) + 1) + 1) + 1))))), (6, .int (nI ((((a0 + 1) + 1) + 1) + 1))), (0, .ref (ad 12)), (1, .int (nI a0)), (2, .int (nI (a0 + 6))), (3, .int (-1))] := hl
    refine lv_iinc (k := 1) (v := nI (((((a0 + 1) + 1) + 1) + 1) + 1)) hx hb d_Mo_name_51 hl rfl (zinc _) (by decide) rfl (fun ls hl => ?_)
    have hl : lv_has ls 7 [(6, .int (nI (((((a0 + 1) + 1) + 1) + 1) + 1))), (4, .long (lN (((((0 * 256 + (tx a0)) * 256 + (tx (a0 + 1))) * 256 + (tx ((a0 + 1) + 1))) * 256 + (tx (((a0 + 1) + 1) + 1))) * 256 + (tx ((((a0 + 1) + 1) + 1) + 1))))), (0, .ref (ad 12)), (1, .int (nI a0)), (2, .int (nI (a0 + 6))), (3, .int (-1))] := hl
    refine lv_goto (tgt := 16) hx hb d_Mo_name_54 (by decide) ?_
    refine lv_iload hx hb d_Mo_name_16 (lv_at hl 0 rfl) ?_
    refine lv_iload_n hx hb d_Mo_name_18 rfl (lv_at hl 4 rfl) ?_
    refine lv_icmp_ge (tgt := 57) hx hb d_Mo_name_19 (by decide) (fun h53 => absurd ((nI_leI (by omega) (by omega)).mp h53) (by omega)) (fun _ => ?_)
    refine lv_lload hx hb d_Mo_name_22 (lv_at hl 1 rfl) ?_
    refine lv_bipush (v := nI 8) hx hb d_Mo_name_24 (by decide) ?_
    refine lv_lshl (v := lN ((((((0 * 256 + (tx a0)) * 256 + (tx (a0 + 1))) * 256 + (tx ((a0 + 1) + 1))) * 256 + (tx (((a0 + 1) + 1) + 1))) * 256 + (tx ((((a0 + 1) + 1) + 1) + 1))) * 256)) hx hb d_Mo_name_26 zshl8 ?_
    refine lv_iload hx hb d_Mo_name_27 (lv_at hl 0 rfl) ?_
    refine lv_iload_n hx hb d_Mo_name_29 rfl (lv_at hl 3 rfl) ?_
    refine lv_isub hx hb d_Mo_name_30 ?_
    refine zti (y := nI ((((((a0 + 1) + 1) + 1) + 1) + 1) - a0)) (pk_sub (by omega)) ?_
    refine zti (y := nI 5) (congrArg nI (by omega)) ?_
    refine lv_iload_n hx hb d_Mo_name_31 rfl (lv_at hl 5 rfl) ?_
    refine lv_icmp_ne (tgt := 40) hx hb d_Mo_name_32 (by decide) (fun _ => ?_) (fun h54 => (zm1 (by omega) h54).elim)
    refine lv_aload_n hx hb d_Mo_name_40 rfl (lv_at hl 2 rfl) ?_
    refine va_get (D := D) (ci := 5) (v := .ref (ad 17)) (C := RMo) (T := TMo) (N := 21) hx hb ht inMo hown hK hP 0 rfl rfl 15 (by decide) (ht _ q561) (fun _ h9 => h9) rfl d_Mo_name_41 ?_
    refine lv_iload hx hb d_Mo_name_44 (lv_at hl 0 rfl) ?_
    refine va_cald hx hb hK hP 5 2 rfl rfl (vp_in_nI (n := ((((a0 + 1) + 1) + 1) + 1) + 1) (by omega) (by decide)) d_Mo_name_46 ?_
    refine zti (y := nI (tx (((((a0 + 1) + 1) + 1) + 1) + 1))) (nF_at (by omega)) ?_
    refine lv_i2l (v := lN (tx (((((a0 + 1) + 1) + 1) + 1) + 1))) hx hb d_Mo_name_47 (nI_l (by omega)) ?_
    refine lv_lor hx hb d_Mo_name_48 ?_
    refine ztl (y := lN ((((((0 * 256 + (tx a0)) * 256 + (tx (a0 + 1))) * 256 + (tx ((a0 + 1) + 1))) * 256 + (tx (((a0 + 1) + 1) + 1))) * 256 + (tx ((((a0 + 1) + 1) + 1) + 1))) * 256 + (tx (((((a0 + 1) + 1) + 1) + 1) + 1)))) (zlor (by omega) (by omega)) ?_
    refine lv_lstore hx hb d_Mo_name_49 hl (by decide) rfl (fun ls hl => ?_)
    have hl : lv_has ls 7 [(4, .long (lN ((((((0 * 256 + (tx a0)) * 256 + (tx (a0 + 1))) * 256 + (tx ((a0 + 1) + 1))) * 256 + (tx (((a0 + 1) + 1) + 1))) * 256 + (tx ((((a0 + 1) + 1) + 1) + 1))) * 256 + (tx (((((a0 + 1) + 1) + 1) + 1) + 1))))), (6, .int (nI (((((a0 + 1) + 1) + 1) + 1) + 1))), (0, .ref (ad 12)), (1, .int (nI a0)), (2, .int (nI (a0 + 6))), (3, .int (-1))] := hl
    refine lv_iinc (k := 1) (v := nI ((((((a0 + 1) + 1) + 1) + 1) + 1) + 1)) hx hb d_Mo_name_51 hl rfl (zinc _) (by decide) rfl (fun ls hl => ?_)
    have hl : lv_has ls 7 [(6, .int (nI ((((((a0 + 1) + 1) + 1) + 1) + 1) + 1))), (4, .long (lN ((((((0 * 256 + (tx a0)) * 256 + (tx (a0 + 1))) * 256 + (tx ((a0 + 1) + 1))) * 256 + (tx (((a0 + 1) + 1) + 1))) * 256 + (tx ((((a0 + 1) + 1) + 1) + 1))) * 256 + (tx (((((a0 + 1) + 1) + 1) + 1) + 1))))), (0, .ref (ad 12)), (1, .int (nI a0)), (2, .int (nI (a0 + 6))), (3, .int (-1))] := hl
    refine lv_goto (tgt := 16) hx hb d_Mo_name_54 (by decide) ?_
    refine lv_iload hx hb d_Mo_name_16 (lv_at hl 0 rfl) ?_
    refine lv_iload_n hx hb d_Mo_name_18 rfl (lv_at hl 4 rfl) ?_
    refine lv_icmp_ge (tgt := 57) hx hb d_Mo_name_19 (by decide) (fun _ => ?_) (fun h55 => absurd ((nI_leI (by omega) (by omega)).mpr (by omega)) h55)
    refine lv_lload hx hb d_Mo_name_57 (lv_at hl 1 rfl) ?_
    exact zret_l C0 hr hAe hP hD hS ⟨by rw [nm_l (by decide)]; rfl, rfl⟩ d_Mo_name_59
set_option maxHeartbeats 4000000 in
set_option maxRecDepth 100000 in
theorem m_Mo_name_a (l : Launch) (D : va_G) (ca : Nat → ClassId) (k : Nat → Nat) (sz : Nat) (ad : Nat → Nat) (cd : Nat) (po nu : Nat → Nat) (pt : Nat) (st : Int32) (cy pl bk : Nat) (me : Nat → Nat) (kc : Nat) (ro : Nat → Nat) (en un li tn : Nat) (tx : Nat → Nat) (ia : Int32) (ct : Nat) (md : Nat → Nat) (lb wn : Nat → Int32) (a0 e0 : Nat) (a : Nat) (ha : a < 4) (hae : a0 < e0) (he : e0 ≤ 240) (htx : ∀ j, tx j < 127) : Met l y_Mo_name (zw y_Mo_name c_Mo_name 7 (some .long)) { frames := 0, cells := 0, slots := 0, locals := 0 } (va_Pc [.ref (ad 12), .int (nI a0), .int (nI e0), .int (nI a)] (zPre D (zty ca) k (wM ad ca cd po nu pt st cy pl bk me kc ro en un li tn tx ia ct md lb wn) sz)) (va_Ql (fun x w => x = lN (nm tx a0 e0 (some a)) ∧ w = wM ad ca cd po nu pt st cy pl bk me kc ro en un li tn tx ia ct md lb wn) (zB D (zty ca) (wM ad ca cd po nu pt st cy pl bk me kc ro en un li tn tx ia ct md lb wn) sz) (va_A (wM ad ca cd po nu pt st cy pl bk me kc ro en un li tn tx ia ct md lb wn) sz)) 0 0 (va_A (wM ad ca cd po nu pt st cy pl bk me kc ro en un li tn tx ia ct md lb wn) sz) := by
  refine zOf (own := "DigitChipModel") (by decide +kernel) rfl (Nat.le_of_ble_eq_true rfl) ?_
  intro p e s m below meth c A ls C0 hr hnm hAe hsz hl hP hD hS
  have hl : lv_has ls 7 [(0, .ref (ad 12)), (1, .int (nI a0)), (2, .int (nI e0)), (3, .int (nI a))] := hl
  obtain ⟨hx, hb, hml, hown, ht, hK, hX, hA, hlk⟩ := id C0
  have ht0 := htx a0
  have ht1 := htx (a0 + 1)
  have ht2 := htx (a0 + 1 + 1)
  have ht3 := htx (a0 + 1 + 1 + 1)
  have ht4 := htx (a0 + 1 + 1 + 1 + 1)
  have ht5 := htx (a0 + 1 + 1 + 1 + 1 + 1)
  rcases (show a = 0 ∨ a = 1 ∨ a = 2 ∨ a = 3 by omega) with rfl | rfl | rfl | rfl
  · skip
    rcases (show 6 < e0 - a0 ∨ e0 = a0 + 1 ∨ e0 = a0 + 2 ∨ e0 = a0 + 3 ∨ e0 = a0 + 4 ∨ e0 = a0 + 5 ∨ e0 = a0 + 6 by omega) with hb6 | rfl | rfl | rfl | rfl | rfl | rfl
    · skip
      refine lv_iload_n hx hb d_Mo_name_0 rfl (lv_at hl 2 rfl) ?_
      refine lv_iload_n hx hb d_Mo_name_1 rfl (lv_at hl 1 rfl) ?_
      refine lv_isub hx hb d_Mo_name_2 ?_
      refine zti (y := nI (e0 - a0)) (pk_sub (by omega)) ?_
      refine lv_bipush (v := nI 6) hx hb d_Mo_name_3 (by decide) ?_
      refine lv_icmp_le (tgt := 10) hx hb d_Mo_name_5 (by decide) (fun h1 => absurd ((nI_leI (by omega) (by omega)).mp h1) (by omega)) (fun _ => ?_)
      refine lv_lconst (v := lN 0) hx hb d_Mo_name_8 rfl ?_
      exact zret_l C0 hr hAe hP hD hS ⟨by rw [nm_b hb6], rfl⟩ d_Mo_name_9
    · skip
      refine lv_iload_n hx hb d_Mo_name_0 rfl (lv_at hl 2 rfl) ?_
      refine lv_iload_n hx hb d_Mo_name_1 rfl (lv_at hl 1 rfl) ?_
      refine lv_isub hx hb d_Mo_name_2 ?_
      refine zti (y := nI ((a0 + 1) - a0)) (pk_sub (by omega)) ?_
      refine zti (y := nI 1) (congrArg nI (by omega)) ?_
      refine lv_bipush (v := nI 6) hx hb d_Mo_name_3 (by decide) ?_
      refine lv_icmp_le (tgt := 10) hx hb d_Mo_name_5 (by decide) (fun _ => ?_) (fun h2 => absurd (by decide) h2)
      refine lv_lconst (v := lN 0) hx hb d_Mo_name_10 rfl ?_
      refine lv_lstore hx hb d_Mo_name_11 hl (by decide) rfl (fun ls hl => ?_)
      have hl : lv_has ls 7 [(4, .long (lN 0)), (0, .ref (ad 12)), (1, .int (nI a0)), (2, .int (nI (a0 + 1))), (3, .int (nI 0))] := hl
      refine lv_iload_n hx hb d_Mo_name_13 rfl (lv_at hl 2 rfl) ?_
      refine lv_istore hx hb d_Mo_name_14 hl (by decide) rfl (fun ls hl => ?_)
      have hl : lv_has ls 7 [(6, .int (nI a0)), (4, .long (lN 0)), (0, .ref (ad 12)), (1, .int (nI a0)), (2, .int (nI (a0 + 1))), (3, .int (nI 0))] := hl
      refine lv_iload hx hb d_Mo_name_16 (lv_at hl 0 rfl) ?_
      refine lv_iload_n hx hb d_Mo_name_18 rfl (lv_at hl 4 rfl) ?_
      refine lv_icmp_ge (tgt := 57) hx hb d_Mo_name_19 (by decide) (fun h3 => absurd ((nI_leI (by omega) (by omega)).mp h3) (by omega)) (fun _ => ?_)
      refine lv_lload hx hb d_Mo_name_22 (lv_at hl 1 rfl) ?_
      refine lv_bipush (v := nI 8) hx hb d_Mo_name_24 (by decide) ?_
      refine lv_lshl (v := lN (0 * 256)) hx hb d_Mo_name_26 zshl8 ?_
      refine lv_iload hx hb d_Mo_name_27 (lv_at hl 0 rfl) ?_
      refine lv_iload_n hx hb d_Mo_name_29 rfl (lv_at hl 3 rfl) ?_
      refine lv_isub hx hb d_Mo_name_30 ?_
      refine zti (y := nI (a0 - a0)) (pk_sub (by omega)) ?_
      refine zti (y := nI 0) (congrArg nI (by omega)) ?_
      refine lv_iload_n hx hb d_Mo_name_31 rfl (lv_at hl 5 rfl) ?_
      refine lv_icmp_ne (tgt := 40) hx hb d_Mo_name_32 (by decide) (fun h4 => absurd (by decide) h4) (fun _ => ?_)
      refine lv_bipush (v := nI 35) hx hb d_Mo_name_35 (by decide) ?_
      refine lv_goto (tgt := 47) hx hb d_Mo_name_37 (by decide) ?_
      refine lv_i2l (v := lN 35) hx hb d_Mo_name_47 (nI_l (by omega)) ?_
      refine lv_lor hx hb d_Mo_name_48 ?_
      refine ztl (y := lN (0 * 256 + 35)) (zlor (by omega) (by omega)) ?_
      refine lv_lstore hx hb d_Mo_name_49 hl (by decide) rfl (fun ls hl => ?_)
      have hl : lv_has ls 7 [(4, .long (lN (0 * 256 + 35))), (6, .int (nI a0)), (0, .ref (ad 12)), (1, .int (nI a0)), (2, .int (nI (a0 + 1))), (3, .int (nI 0))] := hl
      refine lv_iinc (k := 1) (v := nI (a0 + 1)) hx hb d_Mo_name_51 hl rfl (zinc _) (by decide) rfl (fun ls hl => ?_)
      have hl : lv_has ls 7 [(6, .int (nI (a0 + 1))), (4, .long (lN (0 * 256 + 35))), (0, .ref (ad 12)), (1, .int (nI a0)), (2, .int (nI (a0 + 1))), (3, .int (nI 0))] := hl
      refine lv_goto (tgt := 16) hx hb d_Mo_name_54 (by decide) ?_
      refine lv_iload hx hb d_Mo_name_16 (lv_at hl 0 rfl) ?_
      refine lv_iload_n hx hb d_Mo_name_18 rfl (lv_at hl 4 rfl) ?_
      refine lv_icmp_ge (tgt := 57) hx hb d_Mo_name_19 (by decide) (fun _ => ?_) (fun h5 => absurd ((nI_leI (by omega) (by omega)).mpr (by omega)) h5)
      refine lv_lload hx hb d_Mo_name_57 (lv_at hl 1 rfl) ?_
      exact zret_l C0 hr hAe hP hD hS ⟨by rw [nm_l (by decide)]; rfl, rfl⟩ d_Mo_name_59
    · skip
      refine lv_iload_n hx hb d_Mo_name_0 rfl (lv_at hl 2 rfl) ?_
      refine lv_iload_n hx hb d_Mo_name_1 rfl (lv_at hl 1 rfl) ?_
      refine lv_isub hx hb d_Mo_name_2 ?_
      refine zti (y := nI ((a0 + 2) - a0)) (pk_sub (by omega)) ?_
      refine zti (y := nI 2) (congrArg nI (by omega)) ?_
      refine lv_bipush (v := nI 6) hx hb d_Mo_name_3 (by decide) ?_
      refine lv_icmp_le (tgt := 10) hx hb d_Mo_name_5 (by decide) (fun _ => ?_) (fun h6 => absurd (by decide) h6)
      refine lv_lconst (v := lN 0) hx hb d_Mo_name_10 rfl ?_
      refine lv_lstore hx hb d_Mo_name_11 hl (by decide) rfl (fun ls hl => ?_)
      have hl : lv_has ls 7 [(4, .long (lN 0)), (0, .ref (ad 12)), (1, .int (nI a0)), (2, .int (nI (a0 + 2))), (3, .int (nI 0))] := hl
      refine lv_iload_n hx hb d_Mo_name_13 rfl (lv_at hl 2 rfl) ?_
      refine lv_istore hx hb d_Mo_name_14 hl (by decide) rfl (fun ls hl => ?_)
      have hl : lv_has ls 7 [(6, .int (nI a0)), (4, .long (lN 0)), (0, .ref (ad 12)), (1, .int (nI a0)), (2, .int (nI (a0 + 2))), (3, .int (nI 0))] := hl
      refine lv_iload hx hb d_Mo_name_16 (lv_at hl 0 rfl) ?_
      refine lv_iload_n hx hb d_Mo_name_18 rfl (lv_at hl 4 rfl) ?_
      refine lv_icmp_ge (tgt := 57) hx hb d_Mo_name_19 (by decide) (fun h7 => absurd ((nI_leI (by omega) (by omega)).mp h7) (by omega)) (fun _ => ?_)
      refine lv_lload hx hb d_Mo_name_22 (lv_at hl 1 rfl) ?_
      refine lv_bipush (v := nI 8) hx hb d_Mo_name_24 (by decide) ?_
      refine lv_lshl (v := lN (0 * 256)) hx hb d_Mo_name_26 zshl8 ?_
      refine lv_iload hx hb d_Mo_name_27 (lv_at hl 0 rfl) ?_
      refine lv_iload_n hx hb d_Mo_name_29 rfl (lv_at hl 3 rfl) ?_
      refine lv_isub hx hb d_Mo_name_30 ?_
      refine zti (y := nI (a0 - a0)) (pk_sub (by omega)) ?_
      refine zti (y := nI 0) (congrArg nI (by omega)) ?_
      refine lv_iload_n hx hb d_Mo_name_31 rfl (lv_at hl 5 rfl) ?_
      refine lv_icmp_ne (tgt := 40) hx hb d_Mo_name_32 (by decide) (fun h8 => absurd (by decide) h8) (fun _ => ?_)
      refine lv_bipush (v := nI 35) hx hb d_Mo_name_35 (by decide) ?_
      refine lv_goto (tgt := 47) hx hb d_Mo_name_37 (by decide) ?_
      refine lv_i2l (v := lN 35) hx hb d_Mo_name_47 (nI_l (by omega)) ?_
      refine lv_lor hx hb d_Mo_name_48 ?_
      refine ztl (y := lN (0 * 256 + 35)) (zlor (by omega) (by omega)) ?_
      refine lv_lstore hx hb d_Mo_name_49 hl (by decide) rfl (fun ls hl => ?_)
      have hl : lv_has ls 7 [(4, .long (lN (0 * 256 + 35))), (6, .int (nI a0)), (0, .ref (ad 12)), (1, .int (nI a0)), (2, .int (nI (a0 + 2))), (3, .int (nI 0))] := hl
      refine lv_iinc (k := 1) (v := nI (a0 + 1)) hx hb d_Mo_name_51 hl rfl (zinc _) (by decide) rfl (fun ls hl => ?_)
      have hl : lv_has ls 7 [(6, .int (nI (a0 + 1))), (4, .long (lN (0 * 256 + 35))), (0, .ref (ad 12)), (1, .int (nI a0)), (2, .int (nI (a0 + 2))), (3, .int (nI 0))] := hl
      refine lv_goto (tgt := 16) hx hb d_Mo_name_54 (by decide) ?_
      refine lv_iload hx hb d_Mo_name_16 (lv_at hl 0 rfl) ?_
      refine lv_iload_n hx hb d_Mo_name_18 rfl (lv_at hl 4 rfl) ?_
      refine lv_icmp_ge (tgt := 57) hx hb d_Mo_name_19 (by decide) (fun h9 => absurd ((nI_leI (by omega) (by omega)).mp h9) (by omega)) (fun _ => ?_)
      refine lv_lload hx hb d_Mo_name_22 (lv_at hl 1 rfl) ?_
      refine lv_bipush (v := nI 8) hx hb d_Mo_name_24 (by decide) ?_
      refine lv_lshl (v := lN ((0 * 256 + 35) * 256)) hx hb d_Mo_name_26 zshl8 ?_
      refine lv_iload hx hb d_Mo_name_27 (lv_at hl 0 rfl) ?_
      refine lv_iload_n hx hb d_Mo_name_29 rfl (lv_at hl 3 rfl) ?_
      refine lv_isub hx hb d_Mo_name_30 ?_
      refine zti (y := nI ((a0 + 1) - a0)) (pk_sub (by omega)) ?_
      refine zti (y := nI 1) (congrArg nI (by omega)) ?_
      refine lv_iload_n hx hb d_Mo_name_31 rfl (lv_at hl 5 rfl) ?_
      refine lv_icmp_ne (tgt := 40) hx hb d_Mo_name_32 (by decide) (fun _ => ?_) (fun h10 => absurd h10 (by decide))
      refine lv_aload_n hx hb d_Mo_name_40 rfl (lv_at hl 2 rfl) ?_
      refine va_get (D := D) (ci := 5) (v := .ref (ad 17)) (C := RMo) (T := TMo) (N := 21) hx hb ht inMo hown hK hP 0 rfl rfl 15 (by decide) (ht _ q561) (fun _ h9 => h9) rfl d_Mo_name_41 ?_
      refine lv_iload hx hb d_Mo_name_44 (lv_at hl 0 rfl) ?_
      refine va_cald hx hb hK hP 5 2 rfl rfl (vp_in_nI (n := a0 + 1) (by omega) (by decide)) d_Mo_name_46 ?_
      refine zti (y := nI (tx (a0 + 1))) (nF_at (by omega)) ?_
      refine lv_i2l (v := lN (tx (a0 + 1))) hx hb d_Mo_name_47 (nI_l (by omega)) ?_
      refine lv_lor hx hb d_Mo_name_48 ?_
      refine ztl (y := lN ((0 * 256 + 35) * 256 + (tx (a0 + 1)))) (zlor (by omega) (by omega)) ?_
      refine lv_lstore hx hb d_Mo_name_49 hl (by decide) rfl (fun ls hl => ?_)
      have hl : lv_has ls 7 [(4, .long (lN ((0 * 256 + 35) * 256 + (tx (a0 + 1))))), (6, .int (nI (a0 + 1))), (0, .ref (ad 12)), (1, .int (nI a0)), (2, .int (nI (a0 + 2))), (3, .int (nI 0))] := hl
      refine lv_iinc (k := 1) (v := nI ((a0 + 1) + 1)) hx hb d_Mo_name_51 hl rfl (zinc _) (by decide) rfl (fun ls hl => ?_)
      have hl : lv_has ls 7 [(6, .int (nI ((a0 + 1) + 1))), (4, .long (lN ((0 * 256 + 35) * 256 + (tx (a0 + 1))))), (0, .ref (ad 12)), (1, .int (nI a0)), (2, .int (nI (a0 + 2))), (3, .int (nI 0))] := hl
      refine lv_goto (tgt := 16) hx hb d_Mo_name_54 (by decide) ?_
      refine lv_iload hx hb d_Mo_name_16 (lv_at hl 0 rfl) ?_
      refine lv_iload_n hx hb d_Mo_name_18 rfl (lv_at hl 4 rfl) ?_
      refine lv_icmp_ge (tgt := 57) hx hb d_Mo_name_19 (by decide) (fun _ => ?_) (fun h11 => absurd ((nI_leI (by omega) (by omega)).mpr (by omega)) h11)
      refine lv_lload hx hb d_Mo_name_57 (lv_at hl 1 rfl) ?_
      exact zret_l C0 hr hAe hP hD hS ⟨by rw [nm_l (by decide)]; rfl, rfl⟩ d_Mo_name_59
    · skip
      refine lv_iload_n hx hb d_Mo_name_0 rfl (lv_at hl 2 rfl) ?_
      refine lv_iload_n hx hb d_Mo_name_1 rfl (lv_at hl 1 rfl) ?_
      refine lv_isub hx hb d_Mo_name_2 ?_
      refine zti (y := nI ((a0 + 3) - a0)) (pk_sub (by omega)) ?_
      refine zti (y := nI 3) (congrArg nI (by omega)) ?_
      refine lv_bipush (v := nI 6) hx hb d_Mo_name_3 (by decide) ?_
      refine lv_icmp_le (tgt := 10) hx hb d_Mo_name_5 (by decide) (fun _ => ?_) (fun h12 => absurd (by decide) h12)
      refine lv_lconst (v := lN 0) hx hb d_Mo_name_10 rfl ?_
      refine lv_lstore hx hb d_Mo_name_11 hl (by decide) rfl (fun ls hl => ?_)
      have hl : lv_has ls 7 [(4, .long (lN 0)), (0, .ref (ad 12)), (1, .int (nI a0)), (2, .int (nI (a0 + 3))), (3, .int (nI 0))] := hl
      refine lv_iload_n hx hb d_Mo_name_13 rfl (lv_at hl 2 rfl) ?_
      refine lv_istore hx hb d_Mo_name_14 hl (by decide) rfl (fun ls hl => ?_)
      have hl : lv_has ls 7 [(6, .int (nI a0)), (4, .long (lN 0)), (0, .ref (ad 12)), (1, .int (nI a0)), (2, .int (nI (a0 + 3))), (3, .int (nI 0))] := hl
      refine lv_iload hx hb d_Mo_name_16 (lv_at hl 0 rfl) ?_
      refine lv_iload_n hx hb d_Mo_name_18 rfl (lv_at hl 4 rfl) ?_
      refine lv_icmp_ge (tgt := 57) hx hb d_Mo_name_19 (by decide) (fun h13 => absurd ((nI_leI (by omega) (by omega)).mp h13) (by omega)) (fun _ => ?_)
      refine lv_lload hx hb d_Mo_name_22 (lv_at hl 1 rfl) ?_
      refine lv_bipush (v := nI 8) hx hb d_Mo_name_24 (by decide) ?_
      refine lv_lshl (v := lN (0 * 256)) hx hb d_Mo_name_26 zshl8 ?_
      refine lv_iload hx hb d_Mo_name_27 (lv_at hl 0 rfl) ?_
      refine lv_iload_n hx hb d_Mo_name_29 rfl (lv_at hl 3 rfl) ?_
      refine lv_isub hx hb d_Mo_name_30 ?_
      refine zti (y := nI (a0 - a0)) (pk_sub (by omega)) ?_
      refine zti (y := nI 0) (congrArg nI (by omega)) ?_
      refine lv_iload_n hx hb d_Mo_name_31 rfl (lv_at hl 5 rfl) ?_
      refine lv_icmp_ne (tgt := 40) hx hb d_Mo_name_32 (by decide) (fun h14 => absurd (by decide) h14) (fun _ => ?_)
      refine lv_bipush (v := nI 35) hx hb d_Mo_name_35 (by decide) ?_
      refine lv_goto (tgt := 47) hx hb d_Mo_name_37 (by decide) ?_
      refine lv_i2l (v := lN 35) hx hb d_Mo_name_47 (nI_l (by omega)) ?_
      refine lv_lor hx hb d_Mo_name_48 ?_
      refine ztl (y := lN (0 * 256 + 35)) (zlor (by omega) (by omega)) ?_
      refine lv_lstore hx hb d_Mo_name_49 hl (by decide) rfl (fun ls hl => ?_)
      have hl : lv_has ls 7 [(4, .long (lN (0 * 256 + 35))), (6, .int (nI a0)), (0, .ref (ad 12)), (1, .int (nI a0)), (2, .int (nI (a0 + 3))), (3, .int (nI 0))] := hl
      refine lv_iinc (k := 1) (v := nI (a0 + 1)) hx hb d_Mo_name_51 hl rfl (zinc _) (by decide) rfl (fun ls hl => ?_)
      have hl : lv_has ls 7 [(6, .int (nI (a0 + 1))), (4, .long (lN (0 * 256 + 35))), (0, .ref (ad 12)), (1, .int (nI a0)), (2, .int (nI (a0 + 3))), (3, .int (nI 0))] := hl
      refine lv_goto (tgt := 16) hx hb d_Mo_name_54 (by decide) ?_
      refine lv_iload hx hb d_Mo_name_16 (lv_at hl 0 rfl) ?_
      refine lv_iload_n hx hb d_Mo_name_18 rfl (lv_at hl 4 rfl) ?_
      refine lv_icmp_ge (tgt := 57) hx hb d_Mo_name_19 (by decide) (fun h15 => absurd ((nI_leI (by omega) (by omega)).mp h15) (by omega)) (fun _ => ?_)
      refine lv_lload hx hb d_Mo_name_22 (lv_at hl 1 rfl) ?_
      refine lv_bipush (v := nI 8) hx hb d_Mo_name_24 (by decide) ?_
      refine lv_lshl (v := lN ((0 * 256 + 35) * 256)) hx hb d_Mo_name_26 zshl8 ?_
      refine lv_iload hx hb d_Mo_name_27 (lv_at hl 0 rfl) ?_
      refine lv_iload_n hx hb d_Mo_name_29 rfl (lv_at hl 3 rfl) ?_
      refine lv_isub hx hb d_Mo_name_30 ?_
      refine zti (y := nI ((a0 + 1) - a0)) (pk_sub (by omega)) ?_
      refine zti (y := nI 1) (congrArg nI (by omega)) ?_
      refine lv_iload_n hx hb d_Mo_name_31 rfl (lv_at hl 5 rfl) ?_
      refine lv_icmp_ne (tgt := 40) hx hb d_Mo_name_32 (by decide) (fun _ => ?_) (fun h16 => absurd h16 (by decide))
      refine lv_aload_n hx hb d_Mo_name_40 rfl (lv_at hl 2 rfl) ?_
      refine va_get (D := D) (ci := 5) (v := .ref (ad 17)) (C := RMo) (T := TMo) (N := 21) hx hb ht inMo hown hK hP 0 rfl rfl 15 (by decide) (ht _ q561) (fun _ h9 => h9) rfl d_Mo_name_41 ?_
      refine lv_iload hx hb d_Mo_name_44 (lv_at hl 0 rfl) ?_
      refine va_cald hx hb hK hP 5 2 rfl rfl (vp_in_nI (n := a0 + 1) (by omega) (by decide)) d_Mo_name_46 ?_
      refine zti (y := nI (tx (a0 + 1))) (nF_at (by omega)) ?_
      refine lv_i2l (v := lN (tx (a0 + 1))) hx hb d_Mo_name_47 (nI_l (by omega)) ?_
      refine lv_lor hx hb d_Mo_name_48 ?_
      refine ztl (y := lN ((0 * 256 + 35) * 256 + (tx (a0 + 1)))) (zlor (by omega) (by omega)) ?_
      refine lv_lstore hx hb d_Mo_name_49 hl (by decide) rfl (fun ls hl => ?_)
      have hl : lv_has ls 7 [(4, .long (lN ((0 * 256 + 35) * 256 + (tx (a0 + 1))))), (6, .int (nI (a0 + 1))), (0, .ref (ad 12)), (1, .int (nI a0)), (2, .int (nI (a0 + 3))), (3, .int (nI 0))] := hl
      refine lv_iinc (k := 1) (v := nI ((a0 + 1) + 1)) hx hb d_Mo_name_51 hl rfl (zinc _) (by decide) rfl (fun ls hl => ?_)
      have hl : lv_has ls 7 [(6, .int (nI ((a0 + 1) + 1))), (4, .long (lN ((0 * 256 + 35) * 256 + (tx (a0 + 1))))), (0, .ref (ad 12)), (1, .int (nI a0)), (2, .int (nI (a0 + 3))), (3, .int (nI 0))] := hl
      refine lv_goto (tgt := 16) hx hb d_Mo_name_54 (by decide) ?_
      refine lv_iload hx hb d_Mo_name_16 (lv_at hl 0 rfl) ?_
      refine lv_iload_n hx hb d_Mo_name_18 rfl (lv_at hl 4 rfl) ?_
      refine lv_icmp_ge (tgt := 57) hx hb d_Mo_name_19 (by decide) (fun h17 => absurd ((nI_leI (by omega) (by omega)).mp h17) (by omega)) (fun _ => ?_)
      refine lv_lload hx hb d_Mo_name_22 (lv_at hl 1 rfl) ?_
      refine lv_bipush (v := nI 8) hx hb d_Mo_name_24 (by decide) ?_
      refine lv_lshl (v := lN (((0 * 256 + 35) * 256 + (tx (a0 + 1))) * 256)) hx hb d_Mo_name_26 zshl8 ?_
      refine lv_iload hx hb d_Mo_name_27 (lv_at hl 0 rfl) ?_
      refine lv_iload_n hx hb d_Mo_name_29 rfl (lv_at hl 3 rfl) ?_
      refine lv_isub hx hb d_Mo_name_30 ?_
      refine zti (y := nI (((a0 + 1) + 1) - a0)) (pk_sub (by omega)) ?_
      refine zti (y := nI 2) (congrArg nI (by omega)) ?_
      refine lv_iload_n hx hb d_Mo_name_31 rfl (lv_at hl 5 rfl) ?_
      refine lv_icmp_ne (tgt := 40) hx hb d_Mo_name_32 (by decide) (fun _ => ?_) (fun h18 => absurd h18 (by decide))
      refine lv_aload_n hx hb d_Mo_name_40 rfl (lv_at hl 2 rfl) ?_
      refine va_get (D := D) (ci := 5) (v := .ref (ad 17)) (C := RMo) (T := TMo) (N := 21) hx hb ht inMo hown hK hP 0 rfl rfl 15 (by decide) (ht _ q561) (fun _ h9 => h9) rfl d_Mo_name_41 ?_
      refine lv_iload hx hb d_Mo_name_44 (lv_at hl 0 rfl) ?_
      refine va_cald hx hb hK hP 5 2 rfl rfl (vp_in_nI (n := (a0 + 1) + 1) (by omega) (by decide)) d_Mo_name_46 ?_
      refine zti (y := nI (tx ((a0 + 1) + 1))) (nF_at (by omega)) ?_
      refine lv_i2l (v := lN (tx ((a0 + 1) + 1))) hx hb d_Mo_name_47 (nI_l (by omega)) ?_
      refine lv_lor hx hb d_Mo_name_48 ?_
      refine ztl (y := lN (((0 * 256 + 35) * 256 + (tx (a0 + 1))) * 256 + (tx ((a0 + 1) + 1)))) (zlor (by omega) (by omega)) ?_
      refine lv_lstore hx hb d_Mo_name_49 hl (by decide) rfl (fun ls hl => ?_)
      have hl : lv_has ls 7 [(4, .long (lN (((0 * 256 + 35) * 256 + (tx (a0 + 1))) * 256 + (tx ((a0 + 1) + 1))))), (6, .int (nI ((a0 + 1) + 1))), (0, .ref (ad 12)), (1, .int (nI a0)), (2, .int (nI (a0 + 3))), (3, .int (nI 0))] := hl
      refine lv_iinc (k := 1) (v := nI (((a0 + 1) + 1) + 1)) hx hb d_Mo_name_51 hl rfl (zinc _) (by decide) rfl (fun ls hl => ?_)
      have hl : lv_has ls 7 [(6, .int (nI (((a0 + 1) + 1) + 1))), (4, .long (lN (((0 * 256 + 35) * 256 + (tx (a0 + 1))) * 256 + (tx ((a0 + 1) + 1))))), (0, .ref (ad 12)), (1, .int (nI a0)), (2, .int (nI (a0 + 3))), (3, .int (nI 0))] := hl
      refine lv_goto (tgt := 16) hx hb d_Mo_name_54 (by decide) ?_
      refine lv_iload hx hb d_Mo_name_16 (lv_at hl 0 rfl) ?_
      refine lv_iload_n hx hb d_Mo_name_18 rfl (lv_at hl 4 rfl) ?_
      refine lv_icmp_ge (tgt := 57) hx hb d_Mo_name_19 (by decide) (fun _ => ?_) (fun h19 => absurd ((nI_leI (by omega) (by omega)).mpr (by omega)) h19)
      refine lv_lload hx hb d_Mo_name_57 (lv_at hl 1 rfl) ?_
      exact zret_l C0 hr hAe hP hD hS ⟨by rw [nm_l (by decide)]; rfl, rfl⟩ d_Mo_name_59
    · skip
      refine lv_iload_n hx hb d_Mo_name_0 rfl (lv_at hl 2 rfl) ?_
      refine lv_iload_n hx hb d_Mo_name_1 rfl (lv_at hl 1 rfl) ?_
      refine lv_isub hx hb d_Mo_name_2 ?_
      refine zti (y := nI ((a0 + 4) - a0)) (pk_sub (by omega)) ?_
      refine zti (y := nI 4) (congrArg nI (by omega)) ?_
      refine lv_bipush (v := nI 6) hx hb d_Mo_name_3 (by decide) ?_
      refine lv_icmp_le (tgt := 10) hx hb d_Mo_name_5 (by decide) (fun _ => ?_) (fun h20 => absurd (by decide) h20)
      refine lv_lconst (v := lN 0) hx hb d_Mo_name_10 rfl ?_
      refine lv_lstore hx hb d_Mo_name_11 hl (by decide) rfl (fun ls hl => ?_)
      have hl : lv_has ls 7 [(4, .long (lN 0)), (0, .ref (ad 12)), (1, .int (nI a0)), (2, .int (nI (a0 + 4))), (3, .int (nI 0))] := hl
      refine lv_iload_n hx hb d_Mo_name_13 rfl (lv_at hl 2 rfl) ?_
      refine lv_istore hx hb d_Mo_name_14 hl (by decide) rfl (fun ls hl => ?_)
      have hl : lv_has ls 7 [(6, .int (nI a0)), (4, .long (lN 0)), (0, .ref (ad 12)), (1, .int (nI a0)), (2, .int (nI (a0 + 4))), (3, .int (nI 0))] := hl
      refine lv_iload hx hb d_Mo_name_16 (lv_at hl 0 rfl) ?_
      refine lv_iload_n hx hb d_Mo_name_18 rfl (lv_at hl 4 rfl) ?_
      refine lv_icmp_ge (tgt := 57) hx hb d_Mo_name_19 (by decide) (fun h21 => absurd ((nI_leI (by omega) (by omega)).mp h21) (by omega)) (fun _ => ?_)
      refine lv_lload hx hb d_Mo_name_22 (lv_at hl 1 rfl) ?_
      refine lv_bipush (v := nI 8) hx hb d_Mo_name_24 (by decide) ?_
      refine lv_lshl (v := lN (0 * 256)) hx hb d_Mo_name_26 zshl8 ?_
      refine lv_iload hx hb d_Mo_name_27 (lv_at hl 0 rfl) ?_
      refine lv_iload_n hx hb d_Mo_name_29 rfl (lv_at hl 3 rfl) ?_
      refine lv_isub hx hb d_Mo_name_30 ?_
      refine zti (y := nI (a0 - a0)) (pk_sub (by omega)) ?_
      refine zti (y := nI 0) (congrArg nI (by omega)) ?_
      refine lv_iload_n hx hb d_Mo_name_31 rfl (lv_at hl 5 rfl) ?_
      refine lv_icmp_ne (tgt := 40) hx hb d_Mo_name_32 (by decide) (fun h22 => absurd (by decide) h22) (fun _ => ?_)
      refine lv_bipush (v := nI 35) hx hb d_Mo_name_35 (by decide) ?_
      refine lv_goto (tgt := 47) hx hb d_Mo_name_37 (by decide) ?_
      refine lv_i2l (v := lN 35) hx hb d_Mo_name_47 (nI_l (by omega)) ?_
      refine lv_lor hx hb d_Mo_name_48 ?_
      refine ztl (y := lN (0 * 256 + 35)) (zlor (by omega) (by omega)) ?_
      refine lv_lstore hx hb d_Mo_name_49 hl (by decide) rfl (fun ls hl => ?_)
      have hl : lv_has ls 7 [(4, .long (lN (0 * 256 + 35))), (6, .int (nI a0)), (0, .ref (ad 12)), (1, .int (nI a0)), (2, .int (nI (a0 + 4))), (3, .int (nI 0))] := hl
      refine lv_iinc (k := 1) (v := nI (a0 + 1)) hx hb d_Mo_name_51 hl rfl (zinc _) (by decide) rfl (fun ls hl => ?_)
      have hl : lv_has ls 7 [(6, .int (nI (a0 + 1))), (4, .long (lN (0 * 256 + 35))), (0, .ref (ad 12)), (1, .int (nI a0)), (2, .int (nI (a0 + 4))), (3, .int (nI 0))] := hl
      refine lv_goto (tgt := 16) hx hb d_Mo_name_54 (by decide) ?_
      refine lv_iload hx hb d_Mo_name_16 (lv_at hl 0 rfl) ?_
      refine lv_iload_n hx hb d_Mo_name_18 rfl (lv_at hl 4 rfl) ?_
      refine lv_icmp_ge (tgt := 57) hx hb d_Mo_name_19 (by decide) (fun h23 => absurd ((nI_leI (by omega) (by omega)).mp h23) (by omega)) (fun _ => ?_)
      refine lv_lload hx hb d_Mo_name_22 (lv_at hl 1 rfl) ?_
      refine lv_bipush (v := nI 8) hx hb d_Mo_name_24 (by decide) ?_
      refine lv_lshl (v := lN ((0 * 256 + 35) * 256)) hx hb d_Mo_name_26 zshl8 ?_
      refine lv_iload hx hb d_Mo_name_27 (lv_at hl 0 rfl) ?_
      refine lv_iload_n hx hb d_Mo_name_29 rfl (lv_at hl 3 rfl) ?_
      refine lv_isub hx hb d_Mo_name_30 ?_
      refine zti (y := nI ((a0 + 1) - a0)) (pk_sub (by omega)) ?_
      refine zti (y := nI 1) (congrArg nI (by omega)) ?_
      refine lv_iload_n hx hb d_Mo_name_31 rfl (lv_at hl 5 rfl) ?_
      refine lv_icmp_ne (tgt := 40) hx hb d_Mo_name_32 (by decide) (fun _ => ?_) (fun h24 => absurd h24 (by decide))
      refine lv_aload_n hx hb d_Mo_name_40 rfl (lv_at hl 2 rfl) ?_
      refine va_get (D := D) (ci := 5) (v := .ref (ad 17)) (C := RMo) (T := TMo) (N := 21) hx hb ht inMo hown hK hP 0 rfl rfl 15 (by decide) (ht _ q561) (fun _ h9 => h9) rfl d_Mo_name_41 ?_
      refine lv_iload hx hb d_Mo_name_44 (lv_at hl 0 rfl) ?_
      refine va_cald hx hb hK hP 5 2 rfl rfl (vp_in_nI (n := a0 + 1) (by omega) (by decide)) d_Mo_name_46 ?_
      refine zti (y := nI (tx (a0 + 1))) (nF_at (by omega)) ?_
      refine lv_i2l (v := lN (tx (a0 + 1))) hx hb d_Mo_name_47 (nI_l (by omega)) ?_
      refine lv_lor hx hb d_Mo_name_48 ?_
      refine ztl (y := lN ((0 * 256 + 35) * 256 + (tx (a0 + 1)))) (zlor (by omega) (by omega)) ?_
      refine lv_lstore hx hb d_Mo_name_49 hl (by decide) rfl (fun ls hl => ?_)
      have hl : lv_has ls 7 [(4, .long (lN ((0 * 256 + 35) * 256 + (tx (a0 + 1))))), (6, .int (nI (a0 + 1))), (0, .ref (ad 12)), (1, .int (nI a0)), (2, .int (nI (a0 + 4))), (3, .int (nI 0))] := hl
      refine lv_iinc (k := 1) (v := nI ((a0 + 1) + 1)) hx hb d_Mo_name_51 hl rfl (zinc _) (by decide) rfl (fun ls hl => ?_)
      have hl : lv_has ls 7 [(6, .int (nI ((a0 + 1) + 1))), (4, .long (lN ((0 * 256 + 35) * 256 + (tx (a0 + 1))))), (0, .ref (ad 12)), (1, .int (nI a0)), (2, .int (nI (a0 + 4))), (3, .int (nI 0))] := hl
      refine lv_goto (tgt := 16) hx hb d_Mo_name_54 (by decide) ?_
      refine lv_iload hx hb d_Mo_name_16 (lv_at hl 0 rfl) ?_
      refine lv_iload_n hx hb d_Mo_name_18 rfl (lv_at hl 4 rfl) ?_
      refine lv_icmp_ge (tgt := 57) hx hb d_Mo_name_19 (by decide) (fun h25 => absurd ((nI_leI (by omega) (by omega)).mp h25) (by omega)) (fun _ => ?_)
      refine lv_lload hx hb d_Mo_name_22 (lv_at hl 1 rfl) ?_
      refine lv_bipush (v := nI 8) hx hb d_Mo_name_24 (by decide) ?_
      refine lv_lshl (v := lN (((0 * 256 + 35) * 256 + (tx (a0 + 1))) * 256)) hx hb d_Mo_name_26 zshl8 ?_
      refine lv_iload hx hb d_Mo_name_27 (lv_at hl 0 rfl) ?_
      refine lv_iload_n hx hb d_Mo_name_29 rfl (lv_at hl 3 rfl) ?_
      refine lv_isub hx hb d_Mo_name_30 ?_
      refine zti (y := nI (((a0 + 1) + 1) - a0)) (pk_sub (by omega)) ?_
      refine zti (y := nI 2) (congrArg nI (by omega)) ?_
      refine lv_iload_n hx hb d_Mo_name_31 rfl (lv_at hl 5 rfl) ?_
      refine lv_icmp_ne (tgt := 40) hx hb d_Mo_name_32 (by decide) (fun _ => ?_) (fun h26 => absurd h26 (by decide))
      refine lv_aload_n hx hb d_Mo_name_40 rfl (lv_at hl 2 rfl) ?_
      refine va_get (D := D) (ci := 5) (v := .ref (ad 17)) (C := RMo) (T := TMo) (N := 21) hx hb ht inMo hown hK hP 0 rfl rfl 15 (by decide) (ht _ q561) (fun _ h9 => h9) rfl d_Mo_name_41 ?_
      refine lv_iload hx hb d_Mo_name_44 (lv_at hl 0 rfl) ?_
      refine va_cald hx hb hK hP 5 2 rfl rfl (vp_in_nI (n := (a0 + 1) + 1) (by omega) (by decide)) d_Mo_name_46 ?_
      refine zti (y := nI (tx ((a0 + 1) + 1))) (nF_at (by omega)) ?_
      refine lv_i2l (v := lN (tx ((a0 + 1) + 1))) hx hb d_Mo_name_47 (nI_l (by omega)) ?_
      refine lv_lor hx hb d_Mo_name_48 ?_
      refine ztl (y := lN (((0 * 256 + 35) * 256 + (tx (a0 + 1))) * 256 + (tx ((a0 + 1) + 1)))) (zlor (by omega) (by omega)) ?_
      refine lv_lstore hx hb d_Mo_name_49 hl (by decide) rfl (fun ls hl => ?_)
      have hl : lv_has ls 7 [(4, .long (lN (((0 * 256 + 35) * 256 + (tx (a0 + 1))) * 256 + (tx ((a0 + 1) + 1))))), (6, .int (nI ((a0 + 1) + 1))), (0, .ref (ad 12)), (1, .int (nI a0)), (2, .int (nI (a0 + 4))), (3, .int (nI 0))] := hl
      refine lv_iinc (k := 1) (v := nI (((a0 + 1) + 1) + 1)) hx hb d_Mo_name_51 hl rfl (zinc _) (by decide) rfl (fun ls hl => ?_)
      have hl : lv_has ls 7 [(6, .int (nI (((a0 + 1) + 1) + 1))), (4, .long (lN (((0 * 256 + 35) * 256 + (tx (a0 + 1))) * 256 + (tx ((a0 + 1) + 1))))), (0, .ref (ad 12)), (1, .int (nI a0)), (2, .int (nI (a0 + 4))), (3, .int (nI 0))] := hl
      refine lv_goto (tgt := 16) hx hb d_Mo_name_54 (by decide) ?_
      refine lv_iload hx hb d_Mo_name_16 (lv_at hl 0 rfl) ?_
      refine lv_iload_n hx hb d_Mo_name_18 rfl (lv_at hl 4 rfl) ?_
      refine lv_icmp_ge (tgt := 57) hx hb d_Mo_name_19 (by decide) (fun h27 => absurd ((nI_leI (by omega) (by omega)).mp h27) (by omega)) (fun _ => ?_)
      refine lv_lload hx hb d_Mo_name_22 (lv_at hl 1 rfl) ?_
      refine lv_bipush (v := nI 8) hx hb d_Mo_name_24 (by decide) ?_
      refine lv_lshl (v := lN ((((0 * 256 + 35) * 256 + (tx (a0 + 1))) * 256 + (tx ((a0 + 1) + 1))) * 256)) hx hb d_Mo_name_26 zshl8 ?_
      refine lv_iload hx hb d_Mo_name_27 (lv_at hl 0 rfl) ?_
      refine lv_iload_n hx hb d_Mo_name_29 rfl (lv_at hl 3 rfl) ?_
      refine lv_isub hx hb d_Mo_name_30 ?_
      refine zti (y := nI ((((a0 + 1) + 1) + 1) - a0)) (pk_sub (by omega)) ?_
      refine zti (y := nI 3) (congrArg nI (by omega)) ?_
      refine lv_iload_n hx hb d_Mo_name_31 rfl (lv_at hl 5 rfl) ?_
      refine lv_icmp_ne (tgt := 40) hx hb d_Mo_name_32 (by decide) (fun _ => ?_) (fun h28 => absurd h28 (by decide))
      refine lv_aload_n hx hb d_Mo_name_40 rfl (lv_at hl 2 rfl) ?_
      refine va_get (D := D) (ci := 5) (v := .ref (ad 17)) (C := RMo) (T := TMo) (N := 21) hx hb ht inMo hown hK hP 0 rfl rfl 15 (by decide) (ht _ q561) (fun _ h9 => h9) rfl d_Mo_name_41 ?_
      refine lv_iload hx hb d_Mo_name_44 (lv_at hl 0 rfl) ?_
      refine va_cald hx hb hK hP 5 2 rfl rfl (vp_in_nI (n := ((a0 + 1) + 1) + 1) (by omega) (by decide)) d_Mo_name_46 ?_
      refine zti (y := nI (tx (((a0 + 1) + 1) + 1))) (nF_at (by omega)) ?_
      refine lv_i2l (v := lN (tx (((a0 + 1) + 1) + 1))) hx hb d_Mo_name_47 (nI_l (by omega)) ?_
      refine lv_lor hx hb d_Mo_name_48 ?_
      refine ztl (y := lN ((((0 * 256 + 35) * 256 + (tx (a0 + 1))) * 256 + (tx ((a0 + 1) + 1))) * 256 + (tx (((a0 + 1) + 1) + 1)))) (zlor (by omega) (by omega)) ?_
      refine lv_lstore hx hb d_Mo_name_49 hl (by decide) rfl (fun ls hl => ?_)
      have hl : lv_has ls 7 [(4, .long (lN ((((0 * 256 + 35) * 256 + (tx (a0 + 1))) * 256 + (tx ((a0 + 1) + 1))) * 256 + (tx (((a0 + 1) + 1) + 1))))), (6, .int (nI (((a0 + 1) + 1) + 1))), (0, .ref (ad 12)), (1, .int (nI a0)), (2, .int (nI (a0 + 4))), (3, .int (nI 0))] := hl
      refine lv_iinc (k := 1) (v := nI ((((a0 + 1) + 1) + 1) + 1)) hx hb d_Mo_name_51 hl rfl (zinc _) (by decide) rfl (fun ls hl => ?_)
      have hl : lv_has ls 7 [(6, .int (nI ((((a0 + 1) + 1) + 1) + 1))), (4, .long (lN ((((0 * 256 + 35) * 256 + (tx (a0 + 1))) * 256 + (tx ((a0 + 1) + 1))) * 256 + (tx (((a0 + 1) + 1) + 1))))), (0, .ref (ad 12)), (1, .int (nI a0)), (2, .int (nI (a0 + 4))), (3, .int (nI 0))] := hl
      refine lv_goto (tgt := 16) hx hb d_Mo_name_54 (by decide) ?_
      refine lv_iload hx hb d_Mo_name_16 (lv_at hl 0 rfl) ?_
      refine lv_iload_n hx hb d_Mo_name_18 rfl (lv_at hl 4 rfl) ?_
      refine lv_icmp_ge (tgt := 57) hx hb d_Mo_name_19 (by decide) (fun _ => ?_) (fun h29 => absurd ((nI_leI (by omega) (by omega)).mpr (by omega)) h29)
      refine lv_lload hx hb d_Mo_name_57 (lv_at hl 1 rfl) ?_
      exact zret_l C0 hr hAe hP hD hS ⟨by rw [nm_l (by decide)]; rfl, rfl⟩ d_Mo_name_59
    · skip
      refine lv_iload_n hx hb d_Mo_name_0 rfl (lv_at hl 2 rfl) ?_
      refine lv_iload_n hx hb d_Mo_name_1 rfl (lv_at hl 1 rfl) ?_
      refine lv_isub hx hb d_Mo_name_2 ?_
      refine zti (y := nI ((a0 + 5) - a0)) (pk_sub (by omega)) ?_
      refine zti (y := nI 5) (congrArg nI (by omega)) ?_
      refine lv_bipush (v := nI 6) hx hb d_Mo_name_3 (by decide) ?_
      refine lv_icmp_le (tgt := 10) hx hb d_Mo_name_5 (by decide) (fun _ => ?_) (fun h30 => absurd (by decide) h30)
      refine lv_lconst (v := lN 0) hx hb d_Mo_name_10 rfl ?_
      refine lv_lstore hx hb d_Mo_name_11 hl (by decide) rfl (fun ls hl => ?_)
      have hl : lv_has ls 7 [(4, .long (lN 0)), (0, .ref (ad 12)), (1, .int (nI a0)), (2, .int (nI (a0 + 5))), (3, .int (nI 0))] := hl
      refine lv_iload_n hx hb d_Mo_name_13 rfl (lv_at hl 2 rfl) ?_
      refine lv_istore hx hb d_Mo_name_14 hl (by decide) rfl (fun ls hl => ?_)
      have hl : lv_has ls 7 [(6, .int (nI a0)), (4, .long (lN 0)), (0, .ref (ad 12)), (1, .int (nI a0)), (2, .int (nI (a0 + 5))), (3, .int (nI 0))] := hl
      refine lv_iload hx hb d_Mo_name_16 (lv_at hl 0 rfl) ?_
      refine lv_iload_n hx hb d_Mo_name_18 rfl (lv_at hl 4 rfl) ?_
      refine lv_icmp_ge (tgt := 57) hx hb d_Mo_name_19 (by decide) (fun h31 => absurd ((nI_leI (by omega) (by omega)).mp h31) (by omega)) (fun _ => ?_)
      refine lv_lload hx hb d_Mo_name_22 (lv_at hl 1 rfl) ?_
      refine lv_bipush (v := nI 8) hx hb d_Mo_name_24 (by decide) ?_
      refine lv_lshl (v := lN (0 * 256)) hx hb d_Mo_name_26 zshl8 ?_
      refine lv_iload hx hb d_Mo_name_27 (lv_at hl 0 rfl) ?_
      refine lv_iload_n hx hb d_Mo_name_29 rfl (lv_at hl 3 rfl) ?_
      refine lv_isub hx hb d_Mo_name_30 ?_
      refine zti (y := nI (a0 - a0)) (pk_sub (by omega)) ?_
      refine zti (y := nI 0) (congrArg nI (by omega)) ?_
      refine lv_iload_n hx hb d_Mo_name_31 rfl (lv_at hl 5 rfl) ?_
      refine lv_icmp_ne (tgt := 40) hx hb d_Mo_name_32 (by decide) (fun h32 => absurd (by decide) h32) (fun _ => ?_)
      refine lv_bipush (v := nI 35) hx hb d_Mo_name_35 (by decide) ?_
      refine lv_goto (tgt := 47) hx hb d_Mo_name_37 (by decide) ?_
      refine lv_i2l (v := lN 35) hx hb d_Mo_name_47 (nI_l (by omega)) ?_
      refine lv_lor hx hb d_Mo_name_48 ?_
      refine ztl (y := lN (0 * 256 + 35)) (zlor (by omega) (by omega)) ?_
      refine lv_lstore hx hb d_Mo_name_49 hl (by decide) rfl (fun ls hl => ?_)
      have hl : lv_has ls 7 [(4, .long (lN (0 * 256 + 35))), (6, .int (nI a0)), (0, .ref (ad 12)), (1, .int (nI a0)), (2, .int (nI (a0 + 5))), (3, .int (nI 0))] := hl
      refine lv_iinc (k := 1) (v := nI (a0 + 1)) hx hb d_Mo_name_51 hl rfl (zinc _) (by decide) rfl (fun ls hl => ?_)
      have hl : lv_has ls 7 [(6, .int (nI (a0 + 1))), (4, .long (lN (0 * 256 + 35))), (0, .ref (ad 12)), (1, .int (nI a0)), (2, .int (nI (a0 + 5))), (3, .int (nI 0))] := hl
      refine lv_goto (tgt := 16) hx hb d_Mo_name_54 (by decide) ?_
      refine lv_iload hx hb d_Mo_name_16 (lv_at hl 0 rfl) ?_
      refine lv_iload_n hx hb d_Mo_name_18 rfl (lv_at hl 4 rfl) ?_
      refine lv_icmp_ge (tgt := 57) hx hb d_Mo_name_19 (by decide) (fun h33 => absurd ((nI_leI (by omega) (by omega)).mp h33) (by omega)) (fun _ => ?_)
      refine lv_lload hx hb d_Mo_name_22 (lv_at hl 1 rfl) ?_
      refine lv_bipush (v := nI 8) hx hb d_Mo_name_24 (by decide) ?_
      refine lv_lshl (v := lN ((0 * 256 + 35) * 256)) hx hb d_Mo_name_26 zshl8 ?_
      refine lv_iload hx hb d_Mo_name_27 (lv_at hl 0 rfl) ?_
      refine lv_iload_n hx hb d_Mo_name_29 rfl (lv_at hl 3 rfl) ?_
      refine lv_isub hx hb d_Mo_name_30 ?_
      refine zti (y := nI ((a0 + 1) - a0)) (pk_sub (by omega)) ?_
      refine zti (y := nI 1) (congrArg nI (by omega)) ?_
      refine lv_iload_n hx hb d_Mo_name_31 rfl (lv_at hl 5 rfl) ?_
      refine lv_icmp_ne (tgt := 40) hx hb d_Mo_name_32 (by decide) (fun _ => ?_) (fun h34 => absurd h34 (by decide))
      refine lv_aload_n hx hb d_Mo_name_40 rfl (lv_at hl 2 rfl) ?_
      refine va_get (D := D) (ci := 5) (v := .ref (ad 17)) (C := RMo) (T := TMo) (N := 21) hx hb ht inMo hown hK hP 0 rfl rfl 15 (by decide) (ht _ q561) (fun _ h9 => h9) rfl d_Mo_name_41 ?_
      refine lv_iload hx hb d_Mo_name_44 (lv_at hl 0 rfl) ?_
      refine va_cald hx hb hK hP 5 2 rfl rfl (vp_in_nI (n := a0 + 1) (by omega) (by decide)) d_Mo_name_46 ?_
      refine zti (y := nI (tx (a0 + 1))) (nF_at (by omega)) ?_
      refine lv_i2l (v := lN (tx (a0 + 1))) hx hb d_Mo_name_47 (nI_l (by omega)) ?_
      refine lv_lor hx hb d_Mo_name_48 ?_
      refine ztl (y := lN ((0 * 256 + 35) * 256 + (tx (a0 + 1)))) (zlor (by omega) (by omega)) ?_
      refine lv_lstore hx hb d_Mo_name_49 hl (by decide) rfl (fun ls hl => ?_)
      have hl : lv_has ls 7 [(4, .long (lN ((0 * 256 + 35) * 256 + (tx (a0 + 1))))), (6, .int (nI (a0 + 1))), (0, .ref (ad 12)), (1, .int (nI a0)), (2, .int (nI (a0 + 5))), (3, .int (nI 0))] := hl
      refine lv_iinc (k := 1) (v := nI ((a0 + 1) + 1)) hx hb d_Mo_name_51 hl rfl (zinc _) (by decide) rfl (fun ls hl => ?_)
      have hl : lv_has ls 7 [(6, .int (nI ((a0 + 1) + 1))), (4, .long (lN ((0 * 256 + 35) * 256 + (tx (a0 + 1))))), (0, .ref (ad 12)), (1, .int (nI a0)), (2, .int (nI (a0 + 5))), (3, .int (nI 0))] := hl
      refine lv_goto (tgt := 16) hx hb d_Mo_name_54 (by decide) ?_
      refine lv_iload hx hb d_Mo_name_16 (lv_at hl 0 rfl) ?_
      refine lv_iload_n hx hb d_Mo_name_18 rfl (lv_at hl 4 rfl) ?_
      refine lv_icmp_ge (tgt := 57) hx hb d_Mo_name_19 (by decide) (fun h35 => absurd ((nI_leI (by omega) (by omega)).mp h35) (by omega)) (fun _ => ?_)
      refine lv_lload hx hb d_Mo_name_22 (lv_at hl 1 rfl) ?_
      refine lv_bipush (v := nI 8) hx hb d_Mo_name_24 (by decide) ?_
      refine lv_lshl (v := lN (((0 * 256 + 35) * 256 + (tx (a0 + 1))) * 256)) hx hb d_Mo_name_26 zshl8 ?_
      refine lv_iload hx hb d_Mo_name_27 (lv_at hl 0 rfl) ?_
      refine lv_iload_n hx hb d_Mo_name_29 rfl (lv_at hl 3 rfl) ?_
      refine lv_isub hx hb d_Mo_name_30 ?_
      refine zti (y := nI (((a0 + 1) + 1) - a0)) (pk_sub (by omega)) ?_
      refine zti (y := nI 2) (congrArg nI (by omega)) ?_
      refine lv_iload_n hx hb d_Mo_name_31 rfl (lv_at hl 5 rfl) ?_
      refine lv_icmp_ne (tgt := 40) hx hb d_Mo_name_32 (by decide) (fun _ => ?_) (fun h36 => absurd h36 (by decide))
      refine lv_aload_n hx hb d_Mo_name_40 rfl (lv_at hl 2 rfl) ?_
      refine va_get (D := D) (ci := 5) (v := .ref (ad 17)) (C := RMo) (T := TMo) (N := 21) hx hb ht inMo hown hK hP 0 rfl rfl 15 (by decide) (ht _ q561) (fun _ h9 => h9) rfl d_Mo_name_41 ?_
      refine lv_iload hx hb d_Mo_name_44 (lv_at hl 0 rfl) ?_
      refine va_cald hx hb hK hP 5 2 rfl rfl (vp_in_nI (n := (a0 + 1) + 1) (by omega) (by decide)) d_Mo_name_46 ?_
      refine zti (y := nI (tx ((a0 + 1) + 1))) (nF_at (by omega)) ?_
      refine lv_i2l (v := lN (tx ((a0 + 1) + 1))) hx hb d_Mo_name_47 (nI_l (by omega)) ?_
      refine lv_lor hx hb d_Mo_name_48 ?_
      refine ztl (y := lN (((0 * 256 + 35) * 256 + (tx (a0 + 1))) * 256 + (tx ((a0 + 1) + 1)))) (zlor (by omega) (by omega)) ?_
      refine lv_lstore hx hb d_Mo_name_49 hl (by decide) rfl (fun ls hl => ?_)
      have hl : lv_has ls 7 [(4, .long (lN (((0 * 256 + 35) * 256 + (tx (a0 + 1))) * 256 + (tx ((a0 + 1) + 1))))), (6, .int (nI ((a0 + 1) + 1))), (0, .ref (ad 12)), (1, .int (nI a0)), (2, .int (nI (a0 + 5))), (3, .int (nI 0))] := hl
      refine lv_iinc (k := 1) (v := nI (((a0 + 1) + 1) + 1)) hx hb d_Mo_name_51 hl rfl (zinc _) (by decide) rfl (fun ls hl => ?_)
      have hl : lv_has ls 7 [(6, .int (nI (((a0 + 1) + 1) + 1))), (4, .long (lN (((0 * 256 + 35) * 256 + (tx (a0 + 1))) * 256 + (tx ((a0 + 1) + 1))))), (0, .ref (ad 12)), (1, .int (nI a0)), (2, .int (nI (a0 + 5))), (3, .int (nI 0))] := hl
      refine lv_goto (tgt := 16) hx hb d_Mo_name_54 (by decide) ?_
      refine lv_iload hx hb d_Mo_name_16 (lv_at hl 0 rfl) ?_
      refine lv_iload_n hx hb d_Mo_name_18 rfl (lv_at hl 4 rfl) ?_
      refine lv_icmp_ge (tgt := 57) hx hb d_Mo_name_19 (by decide) (fun h37 => absurd ((nI_leI (by omega) (by omega)).mp h37) (by omega)) (fun _ => ?_)
      refine lv_lload hx hb d_Mo_name_22 (lv_at hl 1 rfl) ?_
      refine lv_bipush (v := nI 8) hx hb d_Mo_name_24 (by decide) ?_
      refine lv_lshl (v := lN ((((0 * 256 + 35) * 256 + (tx (a0 + 1))) * 256 + (tx ((a0 + 1) + 1))) * 256)) hx hb d_Mo_name_26 zshl8 ?_
      refine lv_iload hx hb d_Mo_name_27 (lv_at hl 0 rfl) ?_
      refine lv_iload_n hx hb d_Mo_name_29 rfl (lv_at hl 3 rfl) ?_
      refine lv_isub hx hb d_Mo_name_30 ?_
      refine zti (y := nI ((((a0 + 1) + 1) + 1) - a0)) (pk_sub (by omega)) ?_
      refine zti (y := nI 3) (congrArg nI (by omega)) ?_
      refine lv_iload_n hx hb d_Mo_name_31 rfl (lv_at hl 5 rfl) ?_
      refine lv_icmp_ne (tgt := 40) hx hb d_Mo_name_32 (by decide) (fun _ => ?_) (fun h38 => absurd h38 (by decide))
      refine lv_aload_n hx hb d_Mo_name_40 rfl (lv_at hl 2 rfl) ?_
      refine va_get (D := D) (ci := 5) (v := .ref (ad 17)) (C := RMo) (T := TMo) (N := 21) hx hb ht inMo hown hK hP 0 rfl rfl 15 (by decide) (ht _ q561) (fun _ h9 => h9) rfl d_Mo_name_41 ?_
      refine lv_iload hx hb d_Mo_name_44 (lv_at hl 0 rfl) ?_
      refine va_cald hx hb hK hP 5 2 rfl rfl (vp_in_nI (n := ((a0 + 1) + 1) + 1) (by omega) (by decide)) d_Mo_name_46 ?_
      refine zti (y := nI (tx (((a0 + 1) + 1) + 1))) (nF_at (by omega)) ?_
      refine lv_i2l (v := lN (tx (((a0 + 1) + 1) + 1))) hx hb d_Mo_name_47 (nI_l (by omega)) ?_
      refine lv_lor hx hb d_Mo_name_48 ?_
      refine ztl (y := lN ((((0 * 256 + 35) * 256 + (tx (a0 + 1))) * 256 + (tx ((a0 + 1) + 1))) * 256 + (tx (((a0 + 1) + 1) + 1)))) (zlor (by omega) (by omega)) ?_
      refine lv_lstore hx hb d_Mo_name_49 hl (by decide) rfl (fun ls hl => ?_)
      have hl : lv_has ls 7 [(4, .long (lN ((((0 * 256 + 35) * 256 + (tx (a0 + 1))) * 256 + (tx ((a0 + 1) + 1))) * 256 + (tx (((a0 + 1) + 1) + 1))))), (6, .int (nI (((a0 + 1) + 1) + 1))), (0, .ref (ad 12)), (1, .int (nI a0)), (2, .int (nI (a0 + 5))), (3, .int (nI 0))] := hl
      refine lv_iinc (k := 1) (v := nI ((((a0 + 1) + 1) + 1) + 1)) hx hb d_Mo_name_51 hl rfl (zinc _) (by decide) rfl (fun ls hl => ?_)
      have hl : lv_has ls 7 [(6, .int (nI ((((a0 + 1) + 1) + 1) + 1))), (4, .long (lN ((((0 * 256 + 35) * 256 + (tx (a0 + 1))) * 256 + (tx ((a0 + 1) + 1))) * 256 + (tx (((a0 + 1) + 1) + 1))))), (0, .ref (ad 12)), (1, .int (nI a0)), (2, .int (nI (a0 + 5))), (3, .int (nI 0))] := hl
      refine lv_goto (tgt := 16) hx hb d_Mo_name_54 (by decide) ?_
      refine lv_iload hx hb d_Mo_name_16 (lv_at hl 0 rfl) ?_
      refine lv_iload_n hx hb d_Mo_name_18 rfl (lv_at hl 4 rfl) ?_
      refine lv_icmp_ge (tgt := 57) hx hb d_Mo_name_19 (by decide) (fun h39 => absurd ((nI_leI (by omega) (by omega)).mp h39) (by omega)) (fun _ => ?_)
      refine lv_lload hx hb d_Mo_name_22 (lv_at hl 1 rfl) ?_
      refine lv_bipush (v := nI 8) hx hb d_Mo_name_24 (by decide) ?_
      refine lv_lshl (v := lN (((((0 * 256 + 35) * 256 + (tx (a0 + 1))) * 256 + (tx ((a0 + 1) + 1))) * 256 + (tx (((a0 + 1) + 1) + 1))) * 256)) hx hb d_Mo_name_26 zshl8 ?_
      refine lv_iload hx hb d_Mo_name_27 (lv_at hl 0 rfl) ?_
      refine lv_iload_n hx hb d_Mo_name_29 rfl (lv_at hl 3 rfl) ?_
      refine lv_isub hx hb d_Mo_name_30 ?_
      refine zti (y := nI (((((a0 + 1) + 1) + 1) + 1) - a0)) (pk_sub (by omega)) ?_
      refine zti (y := nI 4) (congrArg nI (by omega)) ?_
      refine lv_iload_n hx hb d_Mo_name_31 rfl (lv_at hl 5 rfl) ?_
      refine lv_icmp_ne (tgt := 40) hx hb d_Mo_name_32 (by decide) (fun _ => ?_) (fun h40 => absurd h40 (by decide))
      refine lv_aload_n hx hb d_Mo_name_40 rfl (lv_at hl 2 rfl) ?_
      refine va_get (D := D) (ci := 5) (v := .ref (ad 17)) (C := RMo) (T := TMo) (N := 21) hx hb ht inMo hown hK hP 0 rfl rfl 15 (by decide) (ht _ q561) (fun _ h9 => h9) rfl d_Mo_name_41 ?_
      refine lv_iload hx hb d_Mo_name_44 (lv_at hl 0 rfl) ?_
      refine va_cald hx hb hK hP 5 2 rfl rfl (vp_in_nI (n := (((a0 + 1) + 1) + 1) + 1) (by omega) (by decide)) d_Mo_name_46 ?_
      refine zti (y := nI (tx ((((a0 + 1) + 1) + 1) + 1))) (nF_at (by omega)) ?_
      refine lv_i2l (v := lN (tx ((((a0 + 1) + 1) + 1) + 1))) hx hb d_Mo_name_47 (nI_l (by omega)) ?_
      refine lv_lor hx hb d_Mo_name_48 ?_
      refine ztl (y := lN (((((0 * 256 + 35) * 256 + (tx (a0 + 1))) * 256 + (tx ((a0 + 1) + 1))) * 256 + (tx (((a0 + 1) + 1) + 1))) * 256 + (tx ((((a0 + 1) + 1) + 1) + 1)))) (zlor (by omega) (by omega)) ?_
      refine lv_lstore hx hb d_Mo_name_49 hl (by decide) rfl (fun ls hl => ?_)
      have hl : lv_has ls 7 [(4, .long (lN (((((0 * 256 + 35) * 256 + (tx (a0 + 1))) * 256 + (tx ((a0 + 1) + 1))) * 256 + (tx (((a0 + 1) + 1) + 1))) * 256 + (tx ((((a0 + 1) + 1) + 1) + 1))))), (6, .int (nI ((((a0 + 1) + 1) + 1) + 1))), (0, .ref (ad 12)), (1, .int (nI a0)), (2, .int (nI (a0 + 5))), (3, .int (nI 0))] := hl
      refine lv_iinc (k := 1) (v := nI (((((a0 + 1) + 1) + 1) + 1) + 1)) hx hb d_Mo_name_51 hl rfl (zinc _) (by decide) rfl (fun ls hl => ?_)
      have hl : lv_has ls 7 [(6, .int (nI (((((a0 + 1) + 1) + 1) + 1) + 1))), (4, .long (lN (((((0 * 256 + 35) * 256 + (tx (a0 + 1))) * 256 + (tx ((a0 + 1) + 1))) * 256 + (tx (((a0 + 1) + 1) + 1))) * 256 + (tx ((((a0 + 1) + 1) + 1) + 1))))), (0, .ref (ad 12)), (1, .int (nI a0)), (2, .int (nI (a0 + 5))), (3, .int (nI 0))] := hl
      refine lv_goto (tgt := 16) hx hb d_Mo_name_54 (by decide) ?_
      refine lv_iload hx hb d_Mo_name_16 (lv_at hl 0 rfl) ?_
      refine lv_iload_n hx hb d_Mo_name_18 rfl (lv_at hl 4 rfl) ?_
      refine lv_icmp_ge (tgt := 57) hx hb d_Mo_name_19 (by decide) (fun _ => ?_) (fun h41 => absurd ((nI_leI (by omega) (by omega)).mpr (by omega)) h41)
      refine lv_lload hx hb d_Mo_name_57 (lv_at hl 1 rfl) ?_
      exact zret_l C0 hr hAe hP hD hS ⟨by rw [nm_l (by decide)]; rfl, rfl⟩ d_Mo_name_59
    · skip
      refine lv_iload_n hx hb d_Mo_name_0 rfl (lv_at hl 2 rfl) ?_
      refine lv_iload_n hx hb d_Mo_name_1 rfl (lv_at hl 1 rfl) ?_
      refine lv_isub hx hb d_Mo_name_2 ?_
      refine zti (y := nI ((a0 + 6) - a0)) (pk_sub (by omega)) ?_
      refine zti (y := nI 6) (congrArg nI (by omega)) ?_
      refine lv_bipush (v := nI 6) hx hb d_Mo_name_3 (by decide) ?_
      refine lv_icmp_le (tgt := 10) hx hb d_Mo_name_5 (by decide) (fun _ => ?_) (fun h42 => absurd (by decide) h42)
      refine lv_lconst (v := lN 0) hx hb d_Mo_name_10 rfl ?_
      refine lv_lstore hx hb d_Mo_name_11 hl (by decide) rfl (fun ls hl => ?_)
      have hl : lv_has ls 7 [(4, .long (lN 0)), (0, .ref (ad 12)), (1, .int (nI a0)), (2, .int (nI (a0 + 6))), (3, .int (nI 0))] := hl
      refine lv_iload_n hx hb d_Mo_name_13 rfl (lv_at hl 2 rfl) ?_
      refine lv_istore hx hb d_Mo_name_14 hl (by decide) rfl (fun ls hl => ?_)
      have hl : lv_has ls 7 [(6, .int (nI a0)), (4, .long (lN 0)), (0, .ref (ad 12)), (1, .int (nI a0)), (2, .int (nI (a0 + 6))), (3, .int (nI 0))] := hl
      refine lv_iload hx hb d_Mo_name_16 (lv_at hl 0 rfl) ?_
      refine lv_iload_n hx hb d_Mo_name_18 rfl (lv_at hl 4 rfl) ?_
      refine lv_icmp_ge (tgt := 57) hx hb d_Mo_name_19 (by decide) (fun h43 => absurd ((nI_leI (by omega) (by omega)).mp h43) (by omega)) (fun _ => ?_)
      refine lv_lload hx hb d_Mo_name_22 (lv_at hl 1 rfl) ?_
      refine lv_bipush (v := nI 8) hx hb d_Mo_name_24 (by decide) ?_
      refine lv_lshl (v := lN (0 * 256)) hx hb d_Mo_name_26 zshl8 ?_
      refine lv_iload hx hb d_Mo_name_27 (lv_at hl 0 rfl) ?_
      refine lv_iload_n hx hb d_Mo_name_29 rfl (lv_at hl 3 rfl) ?_
      refine lv_isub hx hb d_Mo_name_30 ?_
      refine zti (y := nI (a0 - a0)) (pk_sub (by omega)) ?_
      refine zti (y := nI 0) (congrArg nI (by omega)) ?_
      refine lv_iload_n hx hb d_Mo_name_31 rfl (lv_at hl 5 rfl) ?_
      refine lv_icmp_ne (tgt := 40) hx hb d_Mo_name_32 (by decide) (fun h44 => absurd (by decide) h44) (fun _ => ?_)
      refine lv_bipush (v := nI 35) hx hb d_Mo_name_35 (by decide) ?_
      refine lv_goto (tgt := 47) hx hb d_Mo_name_37 (by decide) ?_
      refine lv_i2l (v := lN 35) hx hb d_Mo_name_47 (nI_l (by omega)) ?_
      refine lv_lor hx hb d_Mo_name_48 ?_
      refine ztl (y := lN (0 * 256 + 35)) (zlor (by omega) (by omega)) ?_
      refine lv_lstore hx hb d_Mo_name_49 hl (by decide) rfl (fun ls hl => ?_)
      have hl : lv_has ls 7 [(4, .long (lN (0 * 256 + 35))), (6, .int (nI a0)), (0, .ref (ad 12)), (1, .int (nI a0)), (2, .int (nI (a0 + 6))), (3, .int (nI 0))] := hl
      refine lv_iinc (k := 1) (v := nI (a0 + 1)) hx hb d_Mo_name_51 hl rfl (zinc _) (by decide) rfl (fun ls hl => ?_)
      have hl : lv_has ls 7 [(6, .int (nI (a0 + 1))), (4, .long (lN (0 * 256 + 35))), (0, .ref (ad 12)), (1, .int (nI a0)), (2, .int (nI (a0 + 6))), (3, .int (nI 0))] := hl
      refine lv_goto (tgt := 16) hx hb d_Mo_name_54 (by decide) ?_
      refine lv_iload hx hb d_Mo_name_16 (lv_at hl 0 rfl) ?_
      refine lv_iload_n hx hb d_Mo_name_18 rfl (lv_at hl 4 rfl) ?_
      refine lv_icmp_ge (tgt := 57) hx hb d_Mo_name_19 (by decide) (fun h45 => absurd ((nI_leI (by omega) (by omega)).mp h45) (by omega)) (fun _ => ?_)
      refine lv_lload hx hb d_Mo_name_22 (lv_at hl 1 rfl) ?_
      refine lv_bipush (v := nI 8) hx hb d_Mo_name_24 (by decide) ?_
      refine lv_lshl (v := lN ((0 * 256 + 35) * 256)) hx hb d_Mo_name_26 zshl8 ?_
      refine lv_iload hx hb d_Mo_name_27 (lv_at hl 0 rfl) ?_
      refine lv_iload_n hx hb d_Mo_name_29 rfl (lv_at hl 3 rfl) ?_
      refine lv_isub hx hb d_Mo_name_30 ?_
      refine zti (y := nI ((a0 + 1) - a0)) (pk_sub (by omega)) ?_
      refine zti (y := nI 1) (congrArg nI (by omega)) ?_
      refine lv_iload_n hx hb d_Mo_name_31 rfl (lv_at hl 5 rfl) ?_
      refine lv_icmp_ne (tgt := 40) hx hb d_Mo_name_32 (by decide) (fun _ => ?_) (fun h46 => absurd h46 (by decide))
      refine lv_aload_n hx hb d_Mo_name_40 rfl (lv_at hl 2 rfl) ?_
      refine va_get (D := D) (ci := 5) (v := .ref (ad 17)) (C := RMo) (T := TMo) (N := 21) hx hb ht inMo hown hK hP 0 rfl rfl 15 (by decide) (ht _ q561) (fun _ h9 => h9) rfl d_Mo_name_41 ?_
      refine lv_iload hx hb d_Mo_name_44 (lv_at hl 0 rfl) ?_
      refine va_cald hx hb hK hP 5 2 rfl rfl (vp_in_nI (n := a0 + 1) (by omega) (by decide)) d_Mo_name_46 ?_
      refine zti (y := nI (tx (a0 + 1))) (nF_at (by omega)) ?_
      refine lv_i2l (v := lN (tx (a0 + 1))) hx hb d_Mo_name_47 (nI_l (by omega)) ?_
      refine lv_lor hx hb d_Mo_name_48 ?_
      refine ztl (y := lN ((0 * 256 + 35) * 256 + (tx (a0 + 1)))) (zlor (by omega) (by omega)) ?_
      refine lv_lstore hx hb d_Mo_name_49 hl (by decide) rfl (fun ls hl => ?_)
      have hl : lv_has ls 7 [(4, .long (lN ((0 * 256 + 35) * 256 + (tx (a0 + 1))))), (6, .int (nI (a0 + 1))), (0, .ref (ad 12)), (1, .int (nI a0)), (2, .int (nI (a0 + 6))), (3, .int (nI 0))] := hl
      refine lv_iinc (k := 1) (v := nI ((a0 + 1) + 1)) hx hb d_Mo_name_51 hl rfl (zinc _) (by decide) rfl (fun ls hl => ?_)
      have hl : lv_has ls 7 [(6, .int (nI ((a0 + 1) + 1))), (4, .long (lN ((0 * 256 + 35) * 256 + (tx (a0 + 1))))), (0, .ref (ad 12)), (1, .int (nI a0)), (2, .int (nI (a0 + 6))), (3, .int (nI 0))] := hl
      refine lv_goto (tgt := 16) hx hb d_Mo_name_54 (by decide) ?_
      refine lv_iload hx hb d_Mo_name_16 (lv_at hl 0 rfl) ?_
      refine lv_iload_n hx hb d_Mo_name_18 rfl (lv_at hl 4 rfl) ?_
      refine lv_icmp_ge (tgt := 57) hx hb d_Mo_name_19 (by decide) (fun h47 => absurd ((nI_leI (by omega) (by omega)).mp h47) (by omega)) (fun _ => ?_)
      refine lv_lload hx hb d_Mo_name_22 (lv_at hl 1 rfl) ?_
      refine lv_bipush (v := nI 8) hx hb d_Mo_name_24 (by decide) ?_
      refine lv_lshl (v := lN (((0 * 256 + 35) * 256 + (tx (a0 + 1))) * 256)) hx hb d_Mo_name_26 zshl8 ?_
      refine lv_iload hx hb d_Mo_name_27 (lv_at hl 0 rfl) ?_
      refine lv_iload_n hx hb d_Mo_name_29 rfl (lv_at hl 3 rfl) ?_
      refine lv_isub hx hb d_Mo_name_30 ?_
      refine zti (y := nI (((a0 + 1) + 1) - a0)) (pk_sub (by omega)) ?_
      refine zti (y := nI 2) (congrArg nI (by omega)) ?_
      refine lv_iload_n hx hb d_Mo_name_31 rfl (lv_at hl 5 rfl) ?_
      refine lv_icmp_ne (tgt := 40) hx hb d_Mo_name_32 (by decide) (fun _ => ?_) (fun h48 => absurd h48 (by decide))
      refine lv_aload_n hx hb d_Mo_name_40 rfl (lv_at hl 2 rfl) ?_
      refine va_get (D := D) (ci := 5) (v := .ref (ad 17)) (C := RMo) (T := TMo) (N := 21) hx hb ht inMo hown hK hP 0 rfl rfl 15 (by decide) (ht _ q561) (fun _ h9 => h9) rfl d_Mo_name_41 ?_
      refine lv_iload hx hb d_Mo_name_44 (lv_at hl 0 rfl) ?_
      refine va_cald hx hb hK hP 5 2 rfl rfl (vp_in_nI (n := (a0 + 1) + 1) (by omega) (by decide)) d_Mo_name_46 ?_
      refine zti (y := nI (tx ((a0 + 1) + 1))) (nF_at (by omega)) ?_
      refine lv_i2l (v := lN (tx ((a0 + 1) + 1))) hx hb d_Mo_name_47 (nI_l (by omega)) ?_
      refine lv_lor hx hb d_Mo_name_48 ?_
      refine ztl (y := lN (((0 * 256 + 35) * 256 + (tx (a0 + 1))) * 256 + (tx ((a0 + 1) + 1)))) (zlor (by omega) (by omega)) ?_
      refine lv_lstore hx hb d_Mo_name_49 hl (by decide) rfl (fun ls hl => ?_)
      have hl : lv_has ls 7 [(4, .long (lN (((0 * 256 + 35) * 256 + (tx (a0 + 1))) * 256 + (tx ((a0 + 1) + 1))))), (6, .int (nI ((a0 + 1) + 1))), (0, .ref (ad 12)), (1, .int (nI a0)), (2, .int (nI (a0 + 6))), (3, .int (nI 0))] := hl
      refine lv_iinc (k := 1) (v := nI (((a0 + 1) + 1) + 1)) hx hb d_Mo_name_51 hl rfl (zinc _) (by decide) rfl (fun ls hl => ?_)
      have hl : lv_has ls 7 [(6, .int (nI (((a0 + 1) + 1) + 1))), (4, .long (lN (((0 * 256 + 35) * 256 + (tx (a0 + 1))) * 256 + (tx ((a0 + 1) + 1))))), (0, .ref (ad 12)), (1, .int (nI a0)), (2, .int (nI (a0 + 6))), (3, .int (nI 0))] := hl
      refine lv_goto (tgt := 16) hx hb d_Mo_name_54 (by decide) ?_
      refine lv_iload hx hb d_Mo_name_16 (lv_at hl 0 rfl) ?_
      refine lv_iload_n hx hb d_Mo_name_18 rfl (lv_at hl 4 rfl) ?_
      refine lv_icmp_ge (tgt := 57) hx hb d_Mo_name_19 (by decide) (fun h49 => absurd ((nI_leI (by omega) (by omega)).mp h49) (by omega)) (fun _ => ?_)
      refine lv_lload hx hb d_Mo_name_22 (lv_at hl 1 rfl) ?_
      refine lv_bipush (v := nI 8) hx hb d_Mo_name_24 (by decide) ?_
      refine lv_lshl (v := lN ((((0 * 256 + 35) * 256 + (tx (a0 + 1))) * 256 + (tx ((a0 + 1) + 1))) * 256)) hx hb d_Mo_name_26 zshl8 ?_
      refine lv_iload hx hb d_Mo_name_27 (lv_at hl 0 rfl) ?_
      refine lv_iload_n hx hb d_Mo_name_29 rfl (lv_at hl 3 rfl) ?_
      refine lv_isub hx hb d_Mo_name_30 ?_
      refine zti (y := nI ((((a0 + 1) + 1) + 1) - a0)) (pk_sub (by omega)) ?_
      refine zti (y := nI 3) (congrArg nI (by omega)) ?_
      refine lv_iload_n hx hb d_Mo_name_31 rfl (lv_at hl 5 rfl) ?_
      refine lv_icmp_ne (tgt := 40) hx hb d_Mo_name_32 (by decide) (fun _ => ?_) (fun h50 => absurd h50 (by decide))
      refine lv_aload_n hx hb d_Mo_name_40 rfl (lv_at hl 2 rfl) ?_
      refine va_get (D := D) (ci := 5) (v := .ref (ad 17)) (C := RMo) (T := TMo) (N := 21) hx hb ht inMo hown hK hP 0 rfl rfl 15 (by decide) (ht _ q561) (fun _ h9 => h9) rfl d_Mo_name_41 ?_
      refine lv_iload hx hb d_Mo_name_44 (lv_at hl 0 rfl) ?_
      refine va_cald hx hb hK hP 5 2 rfl rfl (vp_in_nI (n := ((a0 + 1) + 1) + 1) (by omega) (by decide)) d_Mo_name_46 ?_
      refine zti (y := nI (tx (((a0 + 1) + 1) + 1))) (nF_at (by omega)) ?_
      refine lv_i2l (v := lN (tx (((a0 + 1) + 1) + 1))) hx hb d_Mo_name_47 (nI_l (by omega)) ?_
      refine lv_lor hx hb d_Mo_name_48 ?_
      refine ztl (y := lN ((((0 * 256 + 35) * 256 + (tx (a0 + 1))) * 256 + (tx ((a0 + 1) + 1))) * 256 + (tx (((a0 + 1) + 1) + 1)))) (zlor (by omega) (by omega)) ?_
      refine lv_lstore hx hb d_Mo_name_49 hl (by decide) rfl (fun ls hl => ?_)
      have hl : lv_has ls 7 [(4, .long (lN ((((0 * 256 + 35) * 256 + (tx (a0 + 1))) * 256 + (tx ((a0 + 1) + 1))) * 256 + (tx (((a0 + 1) + 1) + 1))))), (6, .int (nI (((a0 + 1) + 1) + 1))), (0, .ref (ad 12)), (1, .int (nI a0)), (2, .int (nI (a0 + 6))), (3, .int (nI 0))] := hl
      refine lv_iinc (k := 1) (v := nI ((((a0 + 1) + 1) + 1) + 1)) hx hb d_Mo_name_51 hl rfl (zinc _) (by decide) rfl (fun ls hl => ?_)
      have hl : lv_has ls 7 [(6, .int (nI ((((a0 + 1) + 1) + 1) + 1))), (4, .long (lN ((((0 * 256 + 35) * 256 + (tx (a0 + 1))) * 256 + (tx ((a0 + 1) + 1))) * 256 + (tx (((a0 + 1) + 1) + 1))))), (0, .ref (ad 12)), (1, .int (nI a0)), (2, .int (nI (a0 + 6))), (3, .int (nI 0))] := hl
      refine lv_goto (tgt := 16) hx hb d_Mo_name_54 (by decide) ?_
      refine lv_iload hx hb d_Mo_name_16 (lv_at hl 0 rfl) ?_
      refine lv_iload_n hx hb d_Mo_name_18 rfl (lv_at hl 4 rfl) ?_
      refine lv_icmp_ge (tgt := 57) hx hb d_Mo_name_19 (by decide) (fun h51 => absurd ((nI_leI (by omega) (by omega)).mp h51) (by omega)) (fun _ => ?_)
      refine lv_lload hx hb d_Mo_name_22 (lv_at hl 1 rfl) ?_
      refine lv_bipush (v := nI 8) hx hb d_Mo_name_24 (by decide) ?_
      refine lv_lshl (v := lN (((((0 * 256 + 35) * 256 + (tx (a0 + 1))) * 256 + (tx ((a0 + 1) + 1))) * 256 + (tx (((a0 + 1) + 1) + 1))) * 256)) hx hb d_Mo_name_26 zshl8 ?_
      refine lv_iload hx hb d_Mo_name_27 (lv_at hl 0 rfl) ?_
      refine lv_iload_n hx hb d_Mo_name_29 rfl (lv_at hl 3 rfl) ?_
      refine lv_isub hx hb d_Mo_name_30 ?_
      refine zti (y := nI (((((a0 + 1) + 1) + 1) + 1) - a0)) (pk_sub (by omega)) ?_
      refine zti (y := nI 4) (congrArg nI (by omega)) ?_
      refine lv_iload_n hx hb d_Mo_name_31 rfl (lv_at hl 5 rfl) ?_
      refine lv_icmp_ne (tgt := 40) hx hb d_Mo_name_32 (by decide) (fun _ => ?_) (fun h52 => absurd h52 (by decide))
      refine lv_aload_n hx hb d_Mo_name_40 rfl (lv_at hl 2 rfl) ?_
      refine va_get (D := D) (ci := 5) (v := .ref (ad 17)) (C := RMo) (T := TMo) (N := 21) hx hb ht inMo hown hK hP 0 rfl rfl 15 (by decide) (ht _ q561) (fun _ h9 => h9) rfl d_Mo_name_41 ?_
      refine lv_iload hx hb d_Mo_name_44 (lv_at hl 0 rfl) ?_
      refine va_cald hx hb hK hP 5 2 rfl rfl (vp_in_nI (n := (((a0 + 1) + 1) + 1) + 1) (by omega) (by decide)) d_Mo_name_46 ?_
      refine zti (y := nI (tx ((((a0 + 1) + 1) + 1) + 1))) (nF_at (by omega)) ?_
      refine lv_i2l (v := lN (tx ((((a0 + 1) + 1) + 1) + 1))) hx hb d_Mo_name_47 (nI_l (by omega)) ?_
      refine lv_lor hx hb d_Mo_name_48 ?_
      refine ztl (y := lN (((((0 * 256 + 35) * 256 + (tx (a0 + 1))) * 256 + (tx ((a0 + 1) + 1))) * 256 + (tx (((a0 + 1) + 1) + 1))) * 256 + (tx ((((a0 + 1) + 1) + 1) + 1)))) (zlor (by omega) (by omega)) ?_
      refine lv_lstore hx hb d_Mo_name_49 hl (by decide) rfl (fun ls hl => ?_)
      have hl : lv_has ls 7 [(4, .long (lN (((((0 * 256 + 35) * 256 + (tx (a0 + 1))) * 256 + (tx ((a0 + 1) + 1))) * 256 + (tx (((a0 + 1) + 1) + 1))) * 256 + (tx ((((a0 + 1) + 1) + 1) + 1))))), (6, .int (nI ((((a0 + 1) + 1) + 1) + 1))), (0, .ref (ad 12)), (1, .int (nI a0)), (2, .int (nI (a0 + 6))), (3, .int (nI 0))] := hl
      refine lv_iinc (k := 1) (v := nI (((((a0 + 1) + 1) + 1) + 1) + 1)) hx hb d_Mo_name_51 hl rfl (zinc _) (by decide) rfl (fun ls hl => ?_)
      have hl : lv_has ls 7 [(6, .int (nI (((((a0 + 1) + 1) + 1) + 1) + 1))), (4, .long (lN (((((0 * 256 + 35) * 256 + (tx (a0 + 1))) * 256 + (tx ((a0 + 1) + 1))) * 256 + (tx (((a0 + 1) + 1) + 1))) * 256 + (tx ((((a0 + 1) + 1) + 1) + 1))))), (0, .ref (ad 12)), (1, .int (nI a0)), (2, .int (nI (a0 + 6))), (3, .int (nI 0))] := hl
      refine lv_goto (tgt := 16) hx hb d_Mo_name_54 (by decide) ?_
      refine lv_iload hx hb d_Mo_name_16 (lv_at hl 0 rfl) ?_
      refine lv_iload_n hx hb d_Mo_name_18 rfl (lv_at hl 4 rfl) ?_
      refine lv_icmp_ge (tgt := 57) hx hb d_Mo_name_19 (by decide) (fun h53 => absurd ((nI_leI (by omega) (by omega)).mp h53) (by omega)) (fun _ => ?_)
      refine lv_lload hx hb d_Mo_name_22 (lv_at hl 1 rfl) ?_
      refine lv_bipush (v := nI 8) hx hb d_Mo_name_24 (by decide) ?_
      refine lv_lshl (v := lN ((((((0 * 256 + 35) * 256 + (tx (a0 + 1))) * 256 + (tx ((a0 + 1) + 1))) * 256 + (tx (((a0 + 1) + 1) + 1))) * 256 + (tx ((((a0 + 1) + 1) + 1) + 1))) * 256)) hx hb d_Mo_name_26 zshl8 ?_
      refine lv_iload hx hb d_Mo_name_27 (lv_at hl 0 rfl) ?_
      refine lv_iload_n hx hb d_Mo_name_29 rfl (lv_at hl 3 rfl) ?_
      refine lv_isub hx hb d_Mo_name_30 ?_
      refine zti (y := nI ((((((a0 + 1) + 1) + 1) + 1) + 1) - a0)) (pk_sub (by omega)) ?_
      refine zti (y := nI 5) (congrArg nI (by omega)) ?_
      refine lv_iload_n hx hb d_Mo_name_31 rfl (lv_at hl 5 rfl) ?_
      refine lv_icmp_ne (tgt := 40) hx hb d_Mo_name_32 (by decide) (fun _ => ?_) (fun h54 => absurd h54 (by decide))
      refine lv_aload_n hx hb d_Mo_name_40 rfl (lv_at hl 2 rfl) ?_
      refine va_get (D := D) (ci := 5) (v := .ref (ad 17)) (C := RMo) (T := TMo) (N := 21) hx hb ht inMo hown hK hP 0 rfl rfl 15 (by decide) (ht _ q561) (fun _ h9 => h9) rfl d_Mo_name_41 ?_
      refine lv_iload hx hb d_Mo_name_44 (lv_at hl 0 rfl) ?_
      refine va_cald hx hb hK hP 5 2 rfl rfl (vp_in_nI (n := ((((a0 + 1) + 1) + 1) + 1) + 1) (by omega) (by decide)) d_Mo_name_46 ?_
      refine zti (y := nI (tx (((((a0 + 1) + 1) + 1) + 1) + 1))) (nF_at (by omega)) ?_
      refine lv_i2l (v := lN (tx (((((a0 + 1) + 1) + 1) + 1) + 1))) hx hb d_Mo_name_47 (nI_l (by omega)) ?_
      refine lv_lor hx hb d_Mo_name_48 ?_
      refine ztl (y := lN ((((((0 * 256 + 35) * 256 + (tx (a0 + 1))) * 256 + (tx ((a0 + 1) + 1))) * 256 + (tx (((a0 + 1) + 1) + 1))) * 256 + (tx ((((a0 + 1) + 1) + 1) + 1))) * 256 + (tx (((((a0 + 1) + 1) + 1) + 1) + 1)))) (zlor (by omega) (by omega)) ?_
      refine lv_lstore hx hb d_Mo_name_49 hl (by decide) rfl (fun ls hl => ?_)
      have hl : lv_has ls 7 [(4, .long (lN ((((((0 * 256 + 35) * 256 + (tx (a0 + 1))) * 256 + (tx ((a0 + 1) + 1))) * 256 + (tx (((a0 + 1) + 1) + 1))) * 256 + (tx ((((a0 + 1) + 1) + 1) + 1))) * 256 + (tx (((((a0 + 1) + 1) + 1) + 1) + 1))))), (6, .int (nI (((((a0 + 1) + 1) + 1) + 1) + 1))), (0, .ref (ad 12)), (1, .int (nI a0)), (2, .int (nI (a0 + 6))), (3, .int (nI 0))] := hl
      refine lv_iinc (k := 1) (v := nI ((((((a0 + 1) + 1) + 1) + 1) + 1) + 1)) hx hb d_Mo_name_51 hl rfl (zinc _) (by decide) rfl (fun ls hl => ?_)
      have hl : lv_has ls 7 [(6, .int (nI ((((((a0 + 1) + 1) + 1) + 1) + 1) + 1))), (4, .long (lN ((((((0 * 256 + 35) * 256 + (tx (a0 + 1))) * 256 + (tx ((a0 + 1) + 1))) * 256 + (tx (((a0 + 1) + 1) + 1))) * 256 + (tx ((((a0 + 1) + 1) + 1) + 1))) * 256 + (tx (((((a0 + 1) + 1) + 1) + 1) + 1))))), (0, .ref (ad 12)), (1, .int (nI a0)), (2, .int (nI (a0 + 6))), (3, .int (nI 0))] := hl
      refine lv_goto (tgt := 16) hx hb d_Mo_name_54 (by decide) ?_
      refine lv_iload hx hb d_Mo_name_16 (lv_at hl 0 rfl) ?_
      refine lv_iload_n hx hb d_Mo_name_18 rfl (lv_at hl 4 rfl) ?_
      refine lv_icmp_ge (tgt := 57) hx hb d_Mo_name_19 (by decide) (fun _ => ?_) (fun h55 => absurd ((nI_leI (by omega) (by omega)).mpr (by omega)) h55)
      refine lv_lload hx hb d_Mo_name_57 (lv_at hl 1 rfl) ?_
      exact zret_l C0 hr hAe hP hD hS ⟨by rw [nm_l (by decide)]; rfl, rfl⟩ d_Mo_name_59
  · skip
    rcases (show 6 < e0 - a0 ∨ e0 = a0 + 1 ∨ e0 = a0 + 2 ∨ e0 = a0 + 3 ∨ e0 = a0 + 4 ∨ e0 = a0 + 5 ∨ e0 = a0 + 6 by omega) with hb6 | rfl | rfl | rfl | rfl | rfl | rfl
    · skip
      refine lv_iload_n hx hb d_Mo_name_0 rfl (lv_at hl 2 rfl) ?_
      refine lv_iload_n hx hb d_Mo_name_1 rfl (lv_at hl 1 rfl) ?_
      refine lv_isub hx hb d_Mo_name_2 ?_
      refine zti (y := nI (e0 - a0)) (pk_sub (by omega)) ?_
      refine lv_bipush (v := nI 6) hx hb d_Mo_name_3 (by decide) ?_
      refine lv_icmp_le (tgt := 10) hx hb d_Mo_name_5 (by decide) (fun h56 => absurd ((nI_leI (by omega) (by omega)).mp h56) (by omega)) (fun _ => ?_)
      refine lv_lconst (v := lN 0) hx hb d_Mo_name_8 rfl ?_
      exact zret_l C0 hr hAe hP hD hS ⟨by rw [nm_b hb6], rfl⟩ d_Mo_name_9
    · skip
      refine lv_iload_n hx hb d_Mo_name_0 rfl (lv_at hl 2 rfl) ?_
      refine lv_iload_n hx hb d_Mo_name_1 rfl (lv_at hl 1 rfl) ?_
      refine lv_isub hx hb d_Mo_name_2 ?_
      refine zti (y := nI ((a0 + 1) - a0)) (pk_sub (by omega)) ?_
      refine zti (y := nI 1) (congrArg nI (by omega)) ?_
      refine lv_bipush (v := nI 6) hx hb d_Mo_name_3 (by decide) ?_
      refine lv_icmp_le (tgt := 10) hx hb d_Mo_name_5 (by decide) (fun _ => ?_) (fun h57 => absurd (by decide) h57)
      refine lv_lconst (v := lN 0) hx hb d_Mo_name_10 rfl ?_
      refine lv_lstore hx hb d_Mo_name_11 hl (by decide) rfl (fun ls hl => ?_)
      have hl : lv_has ls 7 [(4, .long (lN 0)), (0, .ref (ad 12)), (1, .int (nI a0)), (2, .int (nI (a0 + 1))), (3, .int (nI 1))] := hl
      refine lv_iload_n hx hb d_Mo_name_13 rfl (lv_at hl 2 rfl) ?_
      refine lv_istore hx hb d_Mo_name_14 hl (by decide) rfl (fun ls hl => ?_)
      have hl : lv_has ls 7 [(6, .int (nI a0)), (4, .long (lN 0)), (0, .ref (ad 12)), (1, .int (nI a0)), (2, .int (nI (a0 + 1))), (3, .int (nI 1))] := hl
      refine lv_iload hx hb d_Mo_name_16 (lv_at hl 0 rfl) ?_
      refine lv_iload_n hx hb d_Mo_name_18 rfl (lv_at hl 4 rfl) ?_
      refine lv_icmp_ge (tgt := 57) hx hb d_Mo_name_19 (by decide) (fun h58 => absurd ((nI_leI (by omega) (by omega)).mp h58) (by omega)) (fun _ => ?_)
      refine lv_lload hx hb d_Mo_name_22 (lv_at hl 1 rfl) ?_
      refine lv_bipush (v := nI 8) hx hb d_Mo_name_24 (by decide) ?_
      refine lv_lshl (v := lN (0 * 256)) hx hb d_Mo_name_26 zshl8 ?_
      refine lv_iload hx hb d_Mo_name_27 (lv_at hl 0 rfl) ?_
      refine lv_iload_n hx hb d_Mo_name_29 rfl (lv_at hl 3 rfl) ?_
      refine lv_isub hx hb d_Mo_name_30 ?_
      refine zti (y := nI (a0 - a0)) (pk_sub (by omega)) ?_
      refine zti (y := nI 0) (congrArg nI (by omega)) ?_
      refine lv_iload_n hx hb d_Mo_name_31 rfl (lv_at hl 5 rfl) ?_
      refine lv_icmp_ne (tgt := 40) hx hb d_Mo_name_32 (by decide) (fun _ => ?_) (fun h59 => absurd h59 (by decide))
      refine lv_aload_n hx hb d_Mo_name_40 rfl (lv_at hl 2 rfl) ?_
      refine va_get (D := D) (ci := 5) (v := .ref (ad 17)) (C := RMo) (T := TMo) (N := 21) hx hb ht inMo hown hK hP 0 rfl rfl 15 (by decide) (ht _ q561) (fun _ h9 => h9) rfl d_Mo_name_41 ?_
      refine lv_iload hx hb d_Mo_name_44 (lv_at hl 0 rfl) ?_
      refine va_cald hx hb hK hP 5 2 rfl rfl (vp_in_nI (n := a0) (by omega) (by decide)) d_Mo_name_46 ?_
      refine zti (y := nI (tx a0)) (nF_at (by omega)) ?_
      refine lv_i2l (v := lN (tx a0)) hx hb d_Mo_name_47 (nI_l (by omega)) ?_
      refine lv_lor hx hb d_Mo_name_48 ?_
      refine ztl (y := lN (0 * 256 + (tx a0))) (zlor (by omega) (by omega)) ?_
      refine lv_lstore hx hb d_Mo_name_49 hl (by decide) rfl (fun ls hl => ?_)
      have hl : lv_has ls 7 [(4, .long (lN (0 * 256 + (tx a0)))), (6, .int (nI a0)), (0, .ref (ad 12)), (1, .int (nI a0)), (2, .int (nI (a0 + 1))), (3, .int (nI 1))] := hl
      refine lv_iinc (k := 1) (v := nI (a0 + 1)) hx hb d_Mo_name_51 hl rfl (zinc _) (by decide) rfl (fun ls hl => ?_)
      have hl : lv_has ls 7 [(6, .int (nI (a0 + 1))), (4, .long (lN (0 * 256 + (tx a0)))), (0, .ref (ad 12)), (1, .int (nI a0)), (2, .int (nI (a0 + 1))), (3, .int (nI 1))] := hl
      refine lv_goto (tgt := 16) hx hb d_Mo_name_54 (by decide) ?_
      refine lv_iload hx hb d_Mo_name_16 (lv_at hl 0 rfl) ?_
      refine lv_iload_n hx hb d_Mo_name_18 rfl (lv_at hl 4 rfl) ?_
      refine lv_icmp_ge (tgt := 57) hx hb d_Mo_name_19 (by decide) (fun _ => ?_) (fun h60 => absurd ((nI_leI (by omega) (by omega)).mpr (by omega)) h60)
      refine lv_lload hx hb d_Mo_name_57 (lv_at hl 1 rfl) ?_
      exact zret_l C0 hr hAe hP hD hS ⟨by rw [nm_l (by decide)]; rfl, rfl⟩ d_Mo_name_59
    · skip
      refine lv_iload_n hx hb d_Mo_name_0 rfl (lv_at hl 2 rfl) ?_
      refine lv_iload_n hx hb d_Mo_name_1 rfl (lv_at hl 1 rfl) ?_
      refine lv_isub hx hb d_Mo_name_2 ?_
      refine zti (y := nI ((a0 + 2) - a0)) (pk_sub (by omega)) ?_
      refine zti (y := nI 2) (congrArg nI (by omega)) ?_
      refine lv_bipush (v := nI 6) hx hb d_Mo_name_3 (by decide) ?_
      refine lv_icmp_le (tgt := 10) hx hb d_Mo_name_5 (by decide) (fun _ => ?_) (fun h61 => absurd (by decide) h61)
      refine lv_lconst (v := lN 0) hx hb d_Mo_name_10 rfl ?_
      refine lv_lstore hx hb d_Mo_name_11 hl (by decide) rfl (fun ls hl => ?_)
      have hl : lv_has ls 7 [(4, .long (lN 0)), (0, .ref (ad 12)), (1, .int (nI a0)), (2, .int (nI (a0 + 2))), (3, .int (nI 1))] := hl
      refine lv_iload_n hx hb d_Mo_name_13 rfl (lv_at hl 2 rfl) ?_
      refine lv_istore hx hb d_Mo_name_14 hl (by decide) rfl (fun ls hl => ?_)
      have hl : lv_has ls 7 [(6, .int (nI a0)), (4, .long (lN 0)), (0, .ref (ad 12)), (1, .int (nI a0)), (2, .int (nI (a0 + 2))), (3, .int (nI 1))] := hl
      refine lv_iload hx hb d_Mo_name_16 (lv_at hl 0 rfl) ?_
      refine lv_iload_n hx hb d_Mo_name_18 rfl (lv_at hl 4 rfl) ?_
      refine lv_icmp_ge (tgt := 57) hx hb d_Mo_name_19 (by decide) (fun h62 => absurd ((nI_leI (by omega) (by omega)).mp h62) (by omega)) (fun _ => ?_)
      refine lv_lload hx hb d_Mo_name_22 (lv_at hl 1 rfl) ?_
      refine lv_bipush (v := nI 8) hx hb d_Mo_name_24 (by decide) ?_
      refine lv_lshl (v := lN (0 * 256)) hx hb d_Mo_name_26 zshl8 ?_
      refine lv_iload hx hb d_Mo_name_27 (lv_at hl 0 rfl) ?_
      refine lv_iload_n hx hb d_Mo_name_29 rfl (lv_at hl 3 rfl) ?_
      refine lv_isub hx hb d_Mo_name_30 ?_
      refine zti (y := nI (a0 - a0)) (pk_sub (by omega)) ?_
      refine zti (y := nI 0) (congrArg nI (by omega)) ?_
      refine lv_iload_n hx hb d_Mo_name_31 rfl (lv_at hl 5 rfl) ?_
      refine lv_icmp_ne (tgt := 40) hx hb d_Mo_name_32 (by decide) (fun _ => ?_) (fun h63 => absurd h63 (by decide))
      refine lv_aload_n hx hb d_Mo_name_40 rfl (lv_at hl 2 rfl) ?_
      refine va_get (D := D) (ci := 5) (v := .ref (ad 17)) (C := RMo) (T := TMo) (N := 21) hx hb ht inMo hown hK hP 0 rfl rfl 15 (by decide) (ht _ q561) (fun _ h9 => h9) rfl d_Mo_name_41 ?_
      refine lv_iload hx hb d_Mo_name_44 (lv_at hl 0 rfl) ?_
      refine va_cald hx hb hK hP 5 2 rfl rfl (vp_in_nI (n := a0) (by omega) (by decide)) d_Mo_name_46 ?_
      refine zti (y := nI (tx a0)) (nF_at (by omega)) ?_
      refine lv_i2l (v := lN (tx a0)) hx hb d_Mo_name_47 (nI_l (by omega)) ?_
      refine lv_lor hx hb d_Mo_name_48 ?_
      refine ztl (y := lN (0 * 256 + (tx a0))) (zlor (by omega) (by omega)) ?_
      refine lv_lstore hx hb d_Mo_name_49 hl (by decide) rfl (fun ls hl => ?_)
      have hl : lv_has ls 7 [(4, .long (lN (0 * 256 + (tx a0)))), (6, .int (nI a0)), (0, .ref (ad 12)), (1, .int (nI a0)), (2, .int (nI (a0 + 2))), (3, .int (nI 1))] := hl
      refine lv_iinc (k := 1) (v := nI (a0 + 1)) hx hb d_Mo_name_51 hl rfl (zinc _) (by decide) rfl (fun ls hl => ?_)
      have hl : lv_has ls 7 [(6, .int (nI (a0 + 1))), (4, .long (lN (0 * 256 + (tx a0)))), (0, .ref (ad 12)), (1, .int (nI a0)), (2, .int (nI (a0 + 2))), (3, .int (nI 1))] := hl
      refine lv_goto (tgt := 16) hx hb d_Mo_name_54 (by decide) ?_
      refine lv_iload hx hb d_Mo_name_16 (lv_at hl 0 rfl) ?_
      refine lv_iload_n hx hb d_Mo_name_18 rfl (lv_at hl 4 rfl) ?_
      refine lv_icmp_ge (tgt := 57) hx hb d_Mo_name_19 (by decide) (fun h64 => absurd ((nI_leI (by omega) (by omega)).mp h64) (by omega)) (fun _ => ?_)
      refine lv_lload hx hb d_Mo_name_22 (lv_at hl 1 rfl) ?_
      refine lv_bipush (v := nI 8) hx hb d_Mo_name_24 (by decide) ?_
      refine lv_lshl (v := lN ((0 * 256 + (tx a0)) * 256)) hx hb d_Mo_name_26 zshl8 ?_
      refine lv_iload hx hb d_Mo_name_27 (lv_at hl 0 rfl) ?_
      refine lv_iload_n hx hb d_Mo_name_29 rfl (lv_at hl 3 rfl) ?_
      refine lv_isub hx hb d_Mo_name_30 ?_
      refine zti (y := nI ((a0 + 1) - a0)) (pk_sub (by omega)) ?_
      refine zti (y := nI 1) (congrArg nI (by omega)) ?_
      refine lv_iload_n hx hb d_Mo_name_31 rfl (lv_at hl 5 rfl) ?_
      refine lv_icmp_ne (tgt := 40) hx hb d_Mo_name_32 (by decide) (fun h65 => absurd (by decide) h65) (fun _ => ?_)
      refine lv_bipush (v := nI 35) hx hb d_Mo_name_35 (by decide) ?_
      refine lv_goto (tgt := 47) hx hb d_Mo_name_37 (by decide) ?_
      refine lv_i2l (v := lN 35) hx hb d_Mo_name_47 (nI_l (by omega)) ?_
      refine lv_lor hx hb d_Mo_name_48 ?_
      refine ztl (y := lN ((0 * 256 + (tx a0)) * 256 + 35)) (zlor (by omega) (by omega)) ?_
      refine lv_lstore hx hb d_Mo_name_49 hl (by decide) rfl (fun ls hl => ?_)
      have hl : lv_has ls 7 [(4, .long (lN ((0 * 256 + (tx a0)) * 256 + 35))), (6, .int (nI (a0 + 1))), (0, .ref (ad 12)), (1, .int (nI a0)), (2, .int (nI (a0 + 2))), (3, .int (nI 1))] := hl
      refine lv_iinc (k := 1) (v := nI ((a0 + 1) + 1)) hx hb d_Mo_name_51 hl rfl (zinc _) (by decide) rfl (fun ls hl => ?_)
      have hl : lv_has ls 7 [(6, .int (nI ((a0 + 1) + 1))), (4, .long (lN ((0 * 256 + (tx a0)) * 256 + 35))), (0, .ref (ad 12)), (1, .int (nI a0)), (2, .int (nI (a0 + 2))), (3, .int (nI 1))] := hl
      refine lv_goto (tgt := 16) hx hb d_Mo_name_54 (by decide) ?_
      refine lv_iload hx hb d_Mo_name_16 (lv_at hl 0 rfl) ?_
      refine lv_iload_n hx hb d_Mo_name_18 rfl (lv_at hl 4 rfl) ?_
      refine lv_icmp_ge (tgt := 57) hx hb d_Mo_name_19 (by decide) (fun _ => ?_) (fun h66 => absurd ((nI_leI (by omega) (by omega)).mpr (by omega)) h66)
      refine lv_lload hx hb d_Mo_name_57 (lv_at hl 1 rfl) ?_
      exact zret_l C0 hr hAe hP hD hS ⟨by rw [nm_l (by decide)]; rfl, rfl⟩ d_Mo_name_59
    · skip
      refine lv_iload_n hx hb d_Mo_name_0 rfl (lv_at hl 2 rfl) ?_
      refine lv_iload_n hx hb d_Mo_name_1 rfl (lv_at hl 1 rfl) ?_
      refine lv_isub hx hb d_Mo_name_2 ?_
      refine zti (y := nI ((a0 + 3) - a0)) (pk_sub (by omega)) ?_
      refine zti (y := nI 3) (congrArg nI (by omega)) ?_
      refine lv_bipush (v := nI 6) hx hb d_Mo_name_3 (by decide) ?_
      refine lv_icmp_le (tgt := 10) hx hb d_Mo_name_5 (by decide) (fun _ => ?_) (fun h67 => absurd (by decide) h67)
      refine lv_lconst (v := lN 0) hx hb d_Mo_name_10 rfl ?_
      refine lv_lstore hx hb d_Mo_name_11 hl (by decide) rfl (fun ls hl => ?_)
      have hl : lv_has ls 7 [(4, .long (lN 0)), (0, .ref (ad 12)), (1, .int (nI a0)), (2, .int (nI (a0 + 3))), (3, .int (nI 1))] := hl
      refine lv_iload_n hx hb d_Mo_name_13 rfl (lv_at hl 2 rfl) ?_
      refine lv_istore hx hb d_Mo_name_14 hl (by decide) rfl (fun ls hl => ?_)
      have hl : lv_has ls 7 [(6, .int (nI a0)), (4, .long (lN 0)), (0, .ref (ad 12)), (1, .int (nI a0)), (2, .int (nI (a0 + 3))), (3, .int (nI 1))] := hl
      refine lv_iload hx hb d_Mo_name_16 (lv_at hl 0 rfl) ?_
      refine lv_iload_n hx hb d_Mo_name_18 rfl (lv_at hl 4 rfl) ?_
      refine lv_icmp_ge (tgt := 57) hx hb d_Mo_name_19 (by decide) (fun h68 => absurd ((nI_leI (by omega) (by omega)).mp h68) (by omega)) (fun _ => ?_)
      refine lv_lload hx hb d_Mo_name_22 (lv_at hl 1 rfl) ?_
      refine lv_bipush (v := nI 8) hx hb d_Mo_name_24 (by decide) ?_
      refine lv_lshl (v := lN (0 * 256)) hx hb d_Mo_name_26 zshl8 ?_
      refine lv_iload hx hb d_Mo_name_27 (lv_at hl 0 rfl) ?_
      refine lv_iload_n hx hb d_Mo_name_29 rfl (lv_at hl 3 rfl) ?_
      refine lv_isub hx hb d_Mo_name_30 ?_
      refine zti (y := nI (a0 - a0)) (pk_sub (by omega)) ?_
      refine zti (y := nI 0) (congrArg nI (by omega)) ?_
      refine lv_iload_n hx hb d_Mo_name_31 rfl (lv_at hl 5 rfl) ?_
      refine lv_icmp_ne (tgt := 40) hx hb d_Mo_name_32 (by decide) (fun _ => ?_) (fun h69 => absurd h69 (by decide))
      refine lv_aload_n hx hb d_Mo_name_40 rfl (lv_at hl 2 rfl) ?_
      refine va_get (D := D) (ci := 5) (v := .ref (ad 17)) (C := RMo) (T := TMo) (N := 21) hx hb ht inMo hown hK hP 0 rfl rfl 15 (by decide) (ht _ q561) (fun _ h9 => h9) rfl d_Mo_name_41 ?_
      refine lv_iload hx hb d_Mo_name_44 (lv_at hl 0 rfl) ?_
      refine va_cald hx hb hK hP 5 2 rfl rfl (vp_in_nI (n := a0) (by omega) (by decide)) d_Mo_name_46 ?_
      refine zti (y := nI (tx a0)) (nF_at (by omega)) ?_
      refine lv_i2l (v := lN (tx a0)) hx hb d_Mo_name_47 (nI_l (by omega)) ?_
      refine lv_lor hx hb d_Mo_name_48 ?_
      refine ztl (y := lN (0 * 256 + (tx a0))) (zlor (by omega) (by omega)) ?_
      refine lv_lstore hx hb d_Mo_name_49 hl (by decide) rfl (fun ls hl => ?_)
      have hl : lv_has ls 7 [(4, .long (lN (0 * 256 + (tx a0)))), (6, .int (nI a0)), (0, .ref (ad 12)), (1, .int (nI a0)), (2, .int (nI (a0 + 3))), (3, .int (nI 1))] := hl
      refine lv_iinc (k := 1) (v := nI (a0 + 1)) hx hb d_Mo_name_51 hl rfl (zinc _) (by decide) rfl (fun ls hl => ?_)
      have hl : lv_has ls 7 [(6, .int (nI (a0 + 1))), (4, .long (lN (0 * 256 + (tx a0)))), (0, .ref (ad 12)), (1, .int (nI a0)), (2, .int (nI (a0 + 3))), (3, .int (nI 1))] := hl
      refine lv_goto (tgt := 16) hx hb d_Mo_name_54 (by decide) ?_
      refine lv_iload hx hb d_Mo_name_16 (lv_at hl 0 rfl) ?_
      refine lv_iload_n hx hb d_Mo_name_18 rfl (lv_at hl 4 rfl) ?_
      refine lv_icmp_ge (tgt := 57) hx hb d_Mo_name_19 (by decide) (fun h70 => absurd ((nI_leI (by omega) (by omega)).mp h70) (by omega)) (fun _ => ?_)
      refine lv_lload hx hb d_Mo_name_22 (lv_at hl 1 rfl) ?_
      refine lv_bipush (v := nI 8) hx hb d_Mo_name_24 (by decide) ?_
      refine lv_lshl (v := lN ((0 * 256 + (tx a0)) * 256)) hx hb d_Mo_name_26 zshl8 ?_
      refine lv_iload hx hb d_Mo_name_27 (lv_at hl 0 rfl) ?_
      refine lv_iload_n hx hb d_Mo_name_29 rfl (lv_at hl 3 rfl) ?_
      refine lv_isub hx hb d_Mo_name_30 ?_
      refine zti (y := nI ((a0 + 1) - a0)) (pk_sub (by omega)) ?_
      refine zti (y := nI 1) (congrArg nI (by omega)) ?_
      refine lv_iload_n hx hb d_Mo_name_31 rfl (lv_at hl 5 rfl) ?_
      refine lv_icmp_ne (tgt := 40) hx hb d_Mo_name_32 (by decide) (fun h71 => absurd (by decide) h71) (fun _ => ?_)
      refine lv_bipush (v := nI 35) hx hb d_Mo_name_35 (by decide) ?_
      refine lv_goto (tgt := 47) hx hb d_Mo_name_37 (by decide) ?_
      refine lv_i2l (v := lN 35) hx hb d_Mo_name_47 (nI_l (by omega)) ?_
      refine lv_lor hx hb d_Mo_name_48 ?_
      refine ztl (y := lN ((0 * 256 + (tx a0)) * 256 + 35)) (zlor (by omega) (by omega)) ?_
      refine lv_lstore hx hb d_Mo_name_49 hl (by decide) rfl (fun ls hl => ?_)
      have hl : lv_has ls 7 [(4, .long (lN ((0 * 256 + (tx a0)) * 256 + 35))), (6, .int (nI (a0 + 1))), (0, .ref (ad 12)), (1, .int (nI a0)), (2, .int (nI (a0 + 3))), (3, .int (nI 1))] := hl
      refine lv_iinc (k := 1) (v := nI ((a0 + 1) + 1)) hx hb d_Mo_name_51 hl rfl (zinc _) (by decide) rfl (fun ls hl => ?_)
      have hl : lv_has ls 7 [(6, .int (nI ((a0 + 1) + 1))), (4, .long (lN ((0 * 256 + (tx a0)) * 256 + 35))), (0, .ref (ad 12)), (1, .int (nI a0)), (2, .int (nI (a0 + 3))), (3, .int (nI 1))] := hl
      refine lv_goto (tgt := 16) hx hb d_Mo_name_54 (by decide) ?_
      refine lv_iload hx hb d_Mo_name_16 (lv_at hl 0 rfl) ?_
      refine lv_iload_n hx hb d_Mo_name_18 rfl (lv_at hl 4 rfl) ?_
      refine lv_icmp_ge (tgt := 57) hx hb d_Mo_name_19 (by decide) (fun h72 => absurd ((nI_leI (by omega) (by omega)).mp h72) (by omega)) (fun _ => ?_)
      refine lv_lload hx hb d_Mo_name_22 (lv_at hl 1 rfl) ?_
      refine lv_bipush (v := nI 8) hx hb d_Mo_name_24 (by decide) ?_
      refine lv_lshl (v := lN (((0 * 256 + (tx a0)) * 256 + 35) * 256)) hx hb d_Mo_name_26 zshl8 ?_
      refine lv_iload hx hb d_Mo_name_27 (lv_at hl 0 rfl) ?_
      refine lv_iload_n hx hb d_Mo_name_29 rfl (lv_at hl 3 rfl) ?_
      refine lv_isub hx hb d_Mo_name_30 ?_
      refine zti (y := nI (((a0 + 1) + 1) - a0)) (pk_sub (by omega)) ?_
      refine zti (y := nI 2) (congrArg nI (by omega)) ?_
      refine lv_iload_n hx hb d_Mo_name_31 rfl (lv_at hl 5 rfl) ?_
      refine lv_icmp_ne (tgt := 40) hx hb d_Mo_name_32 (by decide) (fun _ => ?_) (fun h73 => absurd h73 (by decide))
      refine lv_aload_n hx hb d_Mo_name_40 rfl (lv_at hl 2 rfl) ?_
      refine va_get (D := D) (ci := 5) (v := .ref (ad 17)) (C := RMo) (T := TMo) (N := 21) hx hb ht inMo hown hK hP 0 rfl rfl 15 (by decide) (ht _ q561) (fun _ h9 => h9) rfl d_Mo_name_41 ?_
      refine lv_iload hx hb d_Mo_name_44 (lv_at hl 0 rfl) ?_
      refine va_cald hx hb hK hP 5 2 rfl rfl (vp_in_nI (n := (a0 + 1) + 1) (by omega) (by decide)) d_Mo_name_46 ?_
      refine zti (y := nI (tx ((a0 + 1) + 1))) (nF_at (by omega)) ?_
      refine lv_i2l (v := lN (tx ((a0 + 1) + 1))) hx hb d_Mo_name_47 (nI_l (by omega)) ?_
      refine lv_lor hx hb d_Mo_name_48 ?_
      refine ztl (y := lN (((0 * 256 + (tx a0)) * 256 + 35) * 256 + (tx ((a0 + 1) + 1)))) (zlor (by omega) (by omega)) ?_
      refine lv_lstore hx hb d_Mo_name_49 hl (by decide) rfl (fun ls hl => ?_)
      have hl : lv_has ls 7 [(4, .long (lN (((0 * 256 + (tx a0)) * 256 + 35) * 256 + (tx ((a0 + 1) + 1))))), (6, .int (nI ((a0 + 1) + 1))), (0, .ref (ad 12)), (1, .int (nI a0)), (2, .int (nI (a0 + 3))), (3, .int (nI 1))] := hl
      refine lv_iinc (k := 1) (v := nI (((a0 + 1) + 1) + 1)) hx hb d_Mo_name_51 hl rfl (zinc _) (by decide) rfl (fun ls hl => ?_)
      have hl : lv_has ls 7 [(6, .int (nI (((a0 + 1) + 1) + 1))), (4, .long (lN (((0 * 256 + (tx a0)) * 256 + 35) * 256 + (tx ((a0 + 1) + 1))))), (0, .ref (ad 12)), (1, .int (nI a0)), (2, .int (nI (a0 + 3))), (3, .int (nI 1))] := hl
      refine lv_goto (tgt := 16) hx hb d_Mo_name_54 (by decide) ?_
      refine lv_iload hx hb d_Mo_name_16 (lv_at hl 0 rfl) ?_
      refine lv_iload_n hx hb d_Mo_name_18 rfl (lv_at hl 4 rfl) ?_
      refine lv_icmp_ge (tgt := 57) hx hb d_Mo_name_19 (by decide) (fun _ => ?_) (fun h74 => absurd ((nI_leI (by omega) (by omega)).mpr (by omega)) h74)
      refine lv_lload hx hb d_Mo_name_57 (lv_at hl 1 rfl) ?_
      exact zret_l C0 hr hAe hP hD hS ⟨by rw [nm_l (by decide)]; rfl, rfl⟩ d_Mo_name_59
    · skip
      refine lv_iload_n hx hb d_Mo_name_0 rfl (lv_at hl 2 rfl) ?_
      refine lv_iload_n hx hb d_Mo_name_1 rfl (lv_at hl 1 rfl) ?_
      refine lv_isub hx hb d_Mo_name_2 ?_
      refine zti (y := nI ((a0 + 4) - a0)) (pk_sub (by omega)) ?_
      refine zti (y := nI 4) (congrArg nI (by omega)) ?_
      refine lv_bipush (v := nI 6) hx hb d_Mo_name_3 (by decide) ?_
      refine lv_icmp_le (tgt := 10) hx hb d_Mo_name_5 (by decide) (fun _ => ?_) (fun h75 => absurd (by decide) h75)
      refine lv_lconst (v := lN 0) hx hb d_Mo_name_10 rfl ?_
      refine lv_lstore hx hb d_Mo_name_11 hl (by decide) rfl (fun ls hl => ?_)
      have hl : lv_has ls 7 [(4, .long (lN 0)), (0, .ref (ad 12)), (1, .int (nI a0)), (2, .int (nI (a0 + 4))), (3, .int (nI 1))] := hl
      refine lv_iload_n hx hb d_Mo_name_13 rfl (lv_at hl 2 rfl) ?_
      refine lv_istore hx hb d_Mo_name_14 hl (by decide) rfl (fun ls hl => ?_)
      have hl : lv_has ls 7 [(6, .int (nI a0)), (4, .long (lN 0)), (0, .ref (ad 12)), (1, .int (nI a0)), (2, .int (nI (a0 + 4))), (3, .int (nI 1))] := hl
      refine lv_iload hx hb d_Mo_name_16 (lv_at hl 0 rfl) ?_
      refine lv_iload_n hx hb d_Mo_name_18 rfl (lv_at hl 4 rfl) ?_
      refine lv_icmp_ge (tgt := 57) hx hb d_Mo_name_19 (by decide) (fun h76 => absurd ((nI_leI (by omega) (by omega)).mp h76) (by omega)) (fun _ => ?_)
      refine lv_lload hx hb d_Mo_name_22 (lv_at hl 1 rfl) ?_
      refine lv_bipush (v := nI 8) hx hb d_Mo_name_24 (by decide) ?_
      refine lv_lshl (v := lN (0 * 256)) hx hb d_Mo_name_26 zshl8 ?_
      refine lv_iload hx hb d_Mo_name_27 (lv_at hl 0 rfl) ?_
      refine lv_iload_n hx hb d_Mo_name_29 rfl (lv_at hl 3 rfl) ?_
      refine lv_isub hx hb d_Mo_name_30 ?_
      refine zti (y := nI (a0 - a0)) (pk_sub (by omega)) ?_
      refine zti (y := nI 0) (congrArg nI (by omega)) ?_
      refine lv_iload_n hx hb d_Mo_name_31 rfl (lv_at hl 5 rfl) ?_
      refine lv_icmp_ne (tgt := 40) hx hb d_Mo_name_32 (by decide) (fun _ => ?_) (fun h77 => absurd h77 (by decide))
      refine lv_aload_n hx hb d_Mo_name_40 rfl (lv_at hl 2 rfl) ?_
      refine va_get (D := D) (ci := 5) (v := .ref (ad 17)) (C := RMo) (T := TMo) (N := 21) hx hb ht inMo hown hK hP 0 rfl rfl 15 (by decide) (ht _ q561) (fun _ h9 => h9) rfl d_Mo_name_41 ?_
      refine lv_iload hx hb d_Mo_name_44 (lv_at hl 0 rfl) ?_
      refine va_cald hx hb hK hP 5 2 rfl rfl (vp_in_nI (n := a0) (by omega) (by decide)) d_Mo_name_46 ?_
      refine zti (y := nI (tx a0)) (nF_at (by omega)) ?_
      refine lv_i2l (v := lN (tx a0)) hx hb d_Mo_name_47 (nI_l (by omega)) ?_
      refine lv_lor hx hb d_Mo_name_48 ?_
      refine ztl (y := lN (0 * 256 + (tx a0))) (zlor (by omega) (by omega)) ?_
      refine lv_lstore hx hb d_Mo_name_49 hl (by decide) rfl (fun ls hl => ?_)
      have hl : lv_has ls 7 [(4, .long (lN (0 * 256 + (tx a0)))), (6, .int (nI a0)), (0, .ref (ad 12)), (1, .int (nI a0)), (2, .int (nI (a0 + 4))), (3, .int (nI 1))] := hl
      refine lv_iinc (k := 1) (v := nI (a0 + 1)) hx hb d_Mo_name_51 hl rfl (zinc _) (by decide) rfl (fun ls hl => ?_)
      have hl : lv_has ls 7 [(6, .int (nI (a0 + 1))), (4, .long (lN (0 * 256 + (tx a0)))), (0, .ref (ad 12)), (1, .int (nI a0)), (2, .int (nI (a0 + 4))), (3, .int (nI 1))] := hl
      refine lv_goto (tgt := 16) hx hb d_Mo_name_54 (by decide) ?_
      refine lv_iload hx hb d_Mo_name_16 (lv_at hl 0 rfl) ?_
      refine lv_iload_n hx hb d_Mo_name_18 rfl (lv_at hl 4 rfl) ?_
      refine lv_icmp_ge (tgt := 57) hx hb d_Mo_name_19 (by decide) (fun h78 => absurd ((nI_leI (by omega) (by omega)).mp h78) (by omega)) (fun _ => ?_)
      refine lv_lload hx hb d_Mo_name_22 (lv_at hl 1 rfl) ?_
      refine lv_bipush (v := nI 8) hx hb d_Mo_name_24 (by decide) ?_
      refine lv_lshl (v := lN ((0 * 256 + (tx a0)) * 256)) hx hb d_Mo_name_26 zshl8 ?_
      refine lv_iload hx hb d_Mo_name_27 (lv_at hl 0 rfl) ?_
      refine lv_iload_n hx hb d_Mo_name_29 rfl (lv_at hl 3 rfl) ?_
      refine lv_isub hx hb d_Mo_name_30 ?_
      refine zti (y := nI ((a0 + 1) - a0)) (pk_sub (by omega)) ?_
      refine zti (y := nI 1) (congrArg nI (by omega)) ?_
      refine lv_iload_n hx hb d_Mo_name_31 rfl (lv_at hl 5 rfl) ?_
      refine lv_icmp_ne (tgt := 40) hx hb d_Mo_name_32 (by decide) (fun h79 => absurd (by decide) h79) (fun _ => ?_)
      refine lv_bipush (v := nI 35) hx hb d_Mo_name_35 (by decide) ?_
      refine lv_goto (tgt := 47) hx hb d_Mo_name_37 (by decide) ?_
      refine lv_i2l (v := lN 35) hx hb d_Mo_name_47 (nI_l (by omega)) ?_
      refine lv_lor hx hb d_Mo_name_48 ?_
      refine ztl (y := lN ((0 * 256 + (tx a0)) * 256 + 35)) (zlor (by omega) (by omega)) ?_
      refine lv_lstore hx hb d_Mo_name_49 hl (by decide) rfl (fun ls hl => ?_)
      have hl : lv_has ls 7 [(4, .long (lN ((0 * 256 + (tx a0)) * 256 + 35))), (6, .int (nI (a0 + 1))), (0, .ref (ad 12)), (1, .int (nI a0)), (2, .int (nI (a0 + 4))), (3, .int (nI 1))] := hl
      refine lv_iinc (k := 1) (v := nI ((a0 + 1) + 1)) hx hb d_Mo_name_51 hl rfl (zinc _) (by decide) rfl (fun ls hl => ?_)
      have hl : lv_has ls 7 [(6, .int (nI ((a0 + 1) + 1))), (4, .long (lN ((0 * 256 + (tx a0)) * 256 + 35))), (0, .ref (ad 12)), (1, .int (nI a0)), (2, .int (nI (a0 + 4))), (3, .int (nI 1))] := hl
      refine lv_goto (tgt := 16) hx hb d_Mo_name_54 (by decide) ?_
      refine lv_iload hx hb d_Mo_name_16 (lv_at hl 0 rfl) ?_
      refine lv_iload_n hx hb d_Mo_name_18 rfl (lv_at hl 4 rfl) ?_
      refine lv_icmp_ge (tgt := 57) hx hb d_Mo_name_19 (by decide) (fun h80 => absurd ((nI_leI (by omega) (by omega)).mp h80) (by omega)) (fun _ => ?_)
      refine lv_lload hx hb d_Mo_name_22 (lv_at hl 1 rfl) ?_
      refine lv_bipush (v := nI 8) hx hb d_Mo_name_24 (by decide) ?_
      refine lv_lshl (v := lN (((0 * 256 + (tx a0)) * 256 + 35) * 256)) hx hb d_Mo_name_26 zshl8 ?_
      refine lv_iload hx hb d_Mo_name_27 (lv_at hl 0 rfl) ?_
      refine lv_iload_n hx hb d_Mo_name_29 rfl (lv_at hl 3 rfl) ?_
      refine lv_isub hx hb d_Mo_name_30 ?_
      refine zti (y := nI (((a0 + 1) + 1) - a0)) (pk_sub (by omega)) ?_
      refine zti (y := nI 2) (congrArg nI (by omega)) ?_
      refine lv_iload_n hx hb d_Mo_name_31 rfl (lv_at hl 5 rfl) ?_
      refine lv_icmp_ne (tgt := 40) hx hb d_Mo_name_32 (by decide) (fun _ => ?_) (fun h81 => absurd h81 (by decide))
      refine lv_aload_n hx hb d_Mo_name_40 rfl (lv_at hl 2 rfl) ?_
      refine va_get (D := D) (ci := 5) (v := .ref (ad 17)) (C := RMo) (T := TMo) (N := 21) hx hb ht inMo hown hK hP 0 rfl rfl 15 (by decide) (ht _ q561) (fun _ h9 => h9) rfl d_Mo_name_41 ?_
      refine lv_iload hx hb d_Mo_name_44 (lv_at hl 0 rfl) ?_
      refine va_cald hx hb hK hP 5 2 rfl rfl (vp_in_nI (n := (a0 + 1) + 1) (by omega) (by decide)) d_Mo_name_46 ?_
      refine zti (y := nI (tx ((a0 + 1) + 1))) (nF_at (by omega)) ?_
      refine lv_i2l (v := lN (tx ((a0 + 1) + 1))) hx hb d_Mo_name_47 (nI_l (by omega)) ?_
      refine lv_lor hx hb d_Mo_name_48 ?_
      refine ztl (y := lN (((0 * 256 + (tx a0)) * 256 + 35) * 256 + (tx ((a0 + 1) + 1)))) (zlor (by omega) (by omega)) ?_
      refine lv_lstore hx hb d_Mo_name_49 hl (by decide) rfl (fun ls hl => ?_)
      have hl : lv_has ls 7 [(4, .long (lN (((0 * 256 + (tx a0)) * 256 + 35) * 256 + (tx ((a0 + 1) + 1))))), (6, .int (nI ((a0 + 1) + 1))), (0, .ref (ad 12)), (1, .int (nI a0)), (2, .int (nI (a0 + 4))), (3, .int (nI 1))] := hl
      refine lv_iinc (k := 1) (v := nI (((a0 + 1) + 1) + 1)) hx hb d_Mo_name_51 hl rfl (zinc _) (by decide) rfl (fun ls hl => ?_)
      have hl : lv_has ls 7 [(6, .int (nI (((a0 + 1) + 1) + 1))), (4, .long (lN (((0 * 256 + (tx a0)) * 256 + 35) * 256 + (tx ((a0 + 1) + 1))))), (0, .ref (ad 12)), (1, .int (nI a0)), (2, .int (nI (a0 + 4))), (3, .int (nI 1))] := hl
      refine lv_goto (tgt := 16) hx hb d_Mo_name_54 (by decide) ?_
      refine lv_iload hx hb d_Mo_name_16 (lv_at hl 0 rfl) ?_
      refine lv_iload_n hx hb d_Mo_name_18 rfl (lv_at hl 4 rfl) ?_
      refine lv_icmp_ge (tgt := 57) hx hb d_Mo_name_19 (by decide) (fun h82 => absurd ((nI_leI (by omega) (by omega)).mp h82) (by omega)) (fun _ => ?_)
      refine lv_lload hx hb d_Mo_name_22 (lv_at hl 1 rfl) ?_
      refine lv_bipush (v := nI 8) hx hb d_Mo_name_24 (by decide) ?_
      refine lv_lshl (v := lN ((((0 * 256 + (tx a0)) * 256 + 35) * 256 + (tx ((a0 + 1) + 1))) * 256)) hx hb d_Mo_name_26 zshl8 ?_
      refine lv_iload hx hb d_Mo_name_27 (lv_at hl 0 rfl) ?_
      refine lv_iload_n hx hb d_Mo_name_29 rfl (lv_at hl 3 rfl) ?_
      refine lv_isub hx hb d_Mo_name_30 ?_
      refine zti (y := nI ((((a0 + 1) + 1) + 1) - a0)) (pk_sub (by omega)) ?_
      refine zti (y := nI 3) (congrArg nI (by omega)) ?_
      refine lv_iload_n hx hb d_Mo_name_31 rfl (lv_at hl 5 rfl) ?_
      refine lv_icmp_ne (tgt := 40) hx hb d_Mo_name_32 (by decide) (fun _ => ?_) (fun h83 => absurd h83 (by decide))
      refine lv_aload_n hx hb d_Mo_name_40 rfl (lv_at hl 2 rfl) ?_
      refine va_get (D := D) (ci := 5) (v := .ref (ad 17)) (C := RMo) (T := TMo) (N := 21) hx hb ht inMo hown hK hP 0 rfl rfl 15 (by decide) (ht _ q561) (fun _ h9 => h9) rfl d_Mo_name_41 ?_
      refine lv_iload hx hb d_Mo_name_44 (lv_at hl 0 rfl) ?_
      refine va_cald hx hb hK hP 5 2 rfl rfl (vp_in_nI (n := ((a0 + 1) + 1) + 1) (by omega) (by decide)) d_Mo_name_46 ?_
      refine zti (y := nI (tx (((a0 + 1) + 1) + 1))) (nF_at (by omega)) ?_
      refine lv_i2l (v := lN (tx (((a0 + 1) + 1) + 1))) hx hb d_Mo_name_47 (nI_l (by omega)) ?_
      refine lv_lor hx hb d_Mo_name_48 ?_
      refine ztl (y := lN ((((0 * 256 + (tx a0)) * 256 + 35) * 256 + (tx ((a0 + 1) + 1))) * 256 + (tx (((a0 + 1) + 1) + 1)))) (zlor (by omega) (by omega)) ?_
      refine lv_lstore hx hb d_Mo_name_49 hl (by decide) rfl (fun ls hl => ?_)
      have hl : lv_has ls 7 [(4, .long (lN ((((0 * 256 + (tx a0)) * 256 + 35) * 256 + (tx ((a0 + 1) + 1))) * 256 + (tx (((a0 + 1) + 1) + 1))))), (6, .int (nI (((a0 + 1) + 1) + 1))), (0, .ref (ad 12)), (1, .int (nI a0)), (2, .int (nI (a0 + 4))), (3, .int (nI 1))] := hl
      refine lv_iinc (k := 1) (v := nI ((((a0 + 1) + 1) + 1) + 1)) hx hb d_Mo_name_51 hl rfl (zinc _) (by decide) rfl (fun ls hl => ?_)
      have hl : lv_has ls 7 [(6, .int (nI ((((a0 + 1) + 1) + 1) + 1))), (4, .long (lN ((((0 * 256 + (tx a0)) * 256 + 35) * 256 + (tx ((a0 + 1) + 1))) * 256 + (tx (((a0 + 1) + 1) + 1))))), (0, .ref (ad 12)), (1, .int (nI a0)), (2, .int (nI (a0 + 4))), (3, .int (nI 1))] := hl
      refine lv_goto (tgt := 16) hx hb d_Mo_name_54 (by decide) ?_
      refine lv_iload hx hb d_Mo_name_16 (lv_at hl 0 rfl) ?_
      refine lv_iload_n hx hb d_Mo_name_18 rfl (lv_at hl 4 rfl) ?_
      refine lv_icmp_ge (tgt := 57) hx hb d_Mo_name_19 (by decide) (fun _ => ?_) (fun h84 => absurd ((nI_leI (by omega) (by omega)).mpr (by omega)) h84)
      refine lv_lload hx hb d_Mo_name_57 (lv_at hl 1 rfl) ?_
      exact zret_l C0 hr hAe hP hD hS ⟨by rw [nm_l (by decide)]; rfl, rfl⟩ d_Mo_name_59
    · skip
      refine lv_iload_n hx hb d_Mo_name_0 rfl (lv_at hl 2 rfl) ?_
      refine lv_iload_n hx hb d_Mo_name_1 rfl (lv_at hl 1 rfl) ?_
      refine lv_isub hx hb d_Mo_name_2 ?_
      refine zti (y := nI ((a0 + 5) - a0)) (pk_sub (by omega)) ?_
      refine zti (y := nI 5) (congrArg nI (by omega)) ?_
      refine lv_bipush (v := nI 6) hx hb d_Mo_name_3 (by decide) ?_
      refine lv_icmp_le (tgt := 10) hx hb d_Mo_name_5 (by decide) (fun _ => ?_) (fun h85 => absurd (by decide) h85)
      refine lv_lconst (v := lN 0) hx hb d_Mo_name_10 rfl ?_
      refine lv_lstore hx hb d_Mo_name_11 hl (by decide) rfl (fun ls hl => ?_)
      have hl : lv_has ls 7 [(4, .long (lN 0)), (0, .ref (ad 12)), (1, .int (nI a0)), (2, .int (nI (a0 + 5))), (3, .int (nI 1))] := hl
      refine lv_iload_n hx hb d_Mo_name_13 rfl (lv_at hl 2 rfl) ?_
      refine lv_istore hx hb d_Mo_name_14 hl (by decide) rfl (fun ls hl => ?_)
      have hl : lv_has ls 7 [(6, .int (nI a0)), (4, .long (lN 0)), (0, .ref (ad 12)), (1, .int (nI a0)), (2, .int (nI (a0 + 5))), (3, .int (nI 1))] := hl
      refine lv_iload hx hb d_Mo_name_16 (lv_at hl 0 rfl) ?_
      refine lv_iload_n hx hb d_Mo_name_18 rfl (lv_at hl 4 rfl) ?_
      refine lv_icmp_ge (tgt := 57) hx hb d_Mo_name_19 (by decide) (fun h86 => absurd ((nI_leI (by omega) (by omega)).mp h86) (by omega)) (fun _ => ?_)
      refine lv_lload hx hb d_Mo_name_22 (lv_at hl 1 rfl) ?_
      refine lv_bipush (v := nI 8) hx hb d_Mo_name_24 (by decide) ?_
      refine lv_lshl (v := lN (0 * 256)) hx hb d_Mo_name_26 zshl8 ?_
      refine lv_iload hx hb d_Mo_name_27 (lv_at hl 0 rfl) ?_
      refine lv_iload_n hx hb d_Mo_name_29 rfl (lv_at hl 3 rfl) ?_
      refine lv_isub hx hb d_Mo_name_30 ?_
      refine zti (y := nI (a0 - a0)) (pk_sub (by omega)) ?_
      refine zti (y := nI 0) (congrArg nI (by omega)) ?_
      refine lv_iload_n hx hb d_Mo_name_31 rfl (lv_at hl 5 rfl) ?_
      refine lv_icmp_ne (tgt := 40) hx hb d_Mo_name_32 (by decide) (fun _ => ?_) (fun h87 => absurd h87 (by decide))
      refine lv_aload_n hx hb d_Mo_name_40 rfl (lv_at hl 2 rfl) ?_
      refine va_get (D := D) (ci := 5) (v := .ref (ad 17)) (C := RMo) (T := TMo) (N := 21) hx hb ht inMo hown hK hP 0 rfl rfl 15 (by decide) (ht _ q561) (fun _ h9 => h9) rfl d_Mo_name_41 ?_
      refine lv_iload hx hb d_Mo_name_44 (lv_at hl 0 rfl) ?_
      refine va_cald hx hb hK hP 5 2 rfl rfl (vp_in_nI (n := a0) (by omega) (by decide)) d_Mo_name_46 ?_
      refine zti (y := nI (tx a0)) (nF_at (by omega)) ?_
      refine lv_i2l (v := lN (tx a0)) hx hb d_Mo_name_47 (nI_l (by omega)) ?_
      refine lv_lor hx hb d_Mo_name_48 ?_
      refine ztl (y := lN (0 * 256 + (tx a0))) (zlor (by omega) (by omega)) ?_
      refine lv_lstore hx hb d_Mo_name_49 hl (by decide) rfl (fun ls hl => ?_)
      have hl : lv_has ls 7 [(4, .long (lN (0 * 256 + (tx a0)))), (6, .int (nI a0)), (0, .ref (ad 12)), (1, .int (nI a0)), (2, .int (nI (a0 + 5))), (3, .int (nI 1))] := hl
      refine lv_iinc (k := 1) (v := nI (a0 + 1)) hx hb d_Mo_name_51 hl rfl (zinc _) (by decide) rfl (fun ls hl => ?_)
      have hl : lv_has ls 7 [(6, .int (nI (a0 + 1))), (4, .long (lN (0 * 256 + (tx a0)))), (0, .ref (ad 12)), (1, .int (nI a0)), (2, .int (nI (a0 + 5))), (3, .int (nI 1))] := hl
      refine lv_goto (tgt := 16) hx hb d_Mo_name_54 (by decide) ?_
      refine lv_iload hx hb d_Mo_name_16 (lv_at hl 0 rfl) ?_
      refine lv_iload_n hx hb d_Mo_name_18 rfl (lv_at hl 4 rfl) ?_
      refine lv_icmp_ge (tgt := 57) hx hb d_Mo_name_19 (by decide) (fun h88 => absurd ((nI_leI (by omega) (by omega)).mp h88) (by omega)) (fun _ => ?_)
      refine lv_lload hx hb d_Mo_name_22 (lv_at hl 1 rfl) ?_
      refine lv_bipush (v := nI 8) hx hb d_Mo_name_24 (by decide) ?_
      refine lv_lshl (v := lN ((0 * 256 + (tx a0)) * 256)) hx hb d_Mo_name_26 zshl8 ?_
      refine lv_iload hx hb d_Mo_name_27 (lv_at hl 0 rfl) ?_
      refine lv_iload_n hx hb d_Mo_name_29 rfl (lv_at hl 3 rfl) ?_
      refine lv_isub hx hb d_Mo_name_30 ?_
      refine zti (y := nI ((a0 + 1) - a0)) (pk_sub (by omega)) ?_
      refine zti (y := nI 1) (congrArg nI (by omega)) ?_
      refine lv_iload_n hx hb d_Mo_name_31 rfl (lv_at hl 5 rfl) ?_
      refine lv_icmp_ne (tgt := 40) hx hb d_Mo_name_32 (by decide) (fun h89 => absurd (by decide) h89) (fun _ => ?_)
      refine lv_bipush (v := nI 35) hx hb d_Mo_name_35 (by decide) ?_
      refine lv_goto (tgt := 47) hx hb d_Mo_name_37 (by decide) ?_
      refine lv_i2l (v := lN 35) hx hb d_Mo_name_47 (nI_l (by omega)) ?_
      refine lv_lor hx hb d_Mo_name_48 ?_
      refine ztl (y := lN ((0 * 256 + (tx a0)) * 256 + 35)) (zlor (by omega) (by omega)) ?_
      refine lv_lstore hx hb d_Mo_name_49 hl (by decide) rfl (fun ls hl => ?_)
      have hl : lv_has ls 7 [(4, .long (lN ((0 * 256 + (tx a0)) * 256 + 35))), (6, .int (nI (a0 + 1))), (0, .ref (ad 12)), (1, .int (nI a0)), (2, .int (nI (a0 + 5))), (3, .int (nI 1))] := hl
      refine lv_iinc (k := 1) (v := nI ((a0 + 1) + 1)) hx hb d_Mo_name_51 hl rfl (zinc _) (by decide) rfl (fun ls hl => ?_)
      have hl : lv_has ls 7 [(6, .int (nI ((a0 + 1) + 1))), (4, .long (lN ((0 * 256 + (tx a0)) * 256 + 35))), (0, .ref (ad 12)), (1, .int (nI a0)), (2, .int (nI (a0 + 5))), (3, .int (nI 1))] := hl
      refine lv_goto (tgt := 16) hx hb d_Mo_name_54 (by decide) ?_
      refine lv_iload hx hb d_Mo_name_16 (lv_at hl 0 rfl) ?_
      refine lv_iload_n hx hb d_Mo_name_18 rfl (lv_at hl 4 rfl) ?_
      refine lv_icmp_ge (tgt := 57) hx hb d_Mo_name_19 (by decide) (fun h90 => absurd ((nI_leI (by omega) (by omega)).mp h90) (by omega)) (fun _ => ?_)
      refine lv_lload hx hb d_Mo_name_22 (lv_at hl 1 rfl) ?_
      refine lv_bipush (v := nI 8) hx hb d_Mo_name_24 (by decide) ?_
      refine lv_lshl (v := lN (((0 * 256 + (tx a0)) * 256 + 35) * 256)) hx hb d_Mo_name_26 zshl8 ?_
      refine lv_iload hx hb d_Mo_name_27 (lv_at hl 0 rfl) ?_
      refine lv_iload_n hx hb d_Mo_name_29 rfl (lv_at hl 3 rfl) ?_
      refine lv_isub hx hb d_Mo_name_30 ?_
      refine zti (y := nI (((a0 + 1) + 1) - a0)) (pk_sub (by omega)) ?_
      refine zti (y := nI 2) (congrArg nI (by omega)) ?_
      refine lv_iload_n hx hb d_Mo_name_31 rfl (lv_at hl 5 rfl) ?_
      refine lv_icmp_ne (tgt := 40) hx hb d_Mo_name_32 (by decide) (fun _ => ?_) (fun h91 => absurd h91 (by decide))
      refine lv_aload_n hx hb d_Mo_name_40 rfl (lv_at hl 2 rfl) ?_
      refine va_get (D := D) (ci := 5) (v := .ref (ad 17)) (C := RMo) (T := TMo) (N := 21) hx hb ht inMo hown hK hP 0 rfl rfl 15 (by decide) (ht _ q561) (fun _ h9 => h9) rfl d_Mo_name_41 ?_
      refine lv_iload hx hb d_Mo_name_44 (lv_at hl 0 rfl) ?_
      refine va_cald hx hb hK hP 5 2 rfl rfl (vp_in_nI (n := (a0 + 1) + 1) (by omega) (by decide)) d_Mo_name_46 ?_
      refine zti (y := nI (tx ((a0 + 1) + 1))) (nF_at (by omega)) ?_
      refine lv_i2l (v := lN (tx ((a0 + 1) + 1))) hx hb d_Mo_name_47 (nI_l (by omega)) ?_
      refine lv_lor hx hb d_Mo_name_48 ?_
      refine ztl (y := lN (((0 * 256 + (tx a0)) * 256 + 35) * 256 + (tx ((a0 + 1) + 1)))) (zlor (by omega) (by omega)) ?_
      refine lv_lstore hx hb d_Mo_name_49 hl (by decide) rfl (fun ls hl => ?_)
      have hl : lv_has ls 7 [(4, .long (lN (((0 * 256 + (tx a0)) * 256 + 35) * 256 + (tx ((a0 + 1) + 1))))), (6, .int (nI ((a0 + 1) + 1))), (0, .ref (ad 12)), (1, .int (nI a0)), (2, .int (nI (a0 + 5))), (3, .int (nI 1))] := hl
      refine lv_iinc (k := 1) (v := nI (((a0 + 1) + 1) + 1)) hx hb d_Mo_name_51 hl rfl (zinc _) (by decide) rfl (fun ls hl => ?_)
      have hl : lv_has ls 7 [(6, .int (nI (((a0 + 1) + 1) + 1))), (4, .long (lN (((0 * 256 + (tx a0)) * 256 + 35) * 256 + (tx ((a0 + 1) + 1))))), (0, .ref (ad 12)), (1, .int (nI a0)), (2, .int (nI (a0 + 5))), (3, .int (nI 1))] := hl
      refine lv_goto (tgt := 16) hx hb d_Mo_name_54 (by decide) ?_
      refine lv_iload hx hb d_Mo_name_16 (lv_at hl 0 rfl) ?_
      refine lv_iload_n hx hb d_Mo_name_18 rfl (lv_at hl 4 rfl) ?_
      refine lv_icmp_ge (tgt := 57) hx hb d_Mo_name_19 (by decide) (fun h92 => absurd ((nI_leI (by omega) (by omega)).mp h92) (by omega)) (fun _ => ?_)
      refine lv_lload hx hb d_Mo_name_22 (lv_at hl 1 rfl) ?_
      refine lv_bipush (v := nI 8) hx hb d_Mo_name_24 (by decide) ?_
      refine lv_lshl (v := lN ((((0 * 256 + (tx a0)) * 256 + 35) * 256 + (tx ((a0 + 1) + 1))) * 256)) hx hb d_Mo_name_26 zshl8 ?_
      refine lv_iload hx hb d_Mo_name_27 (lv_at hl 0 rfl) ?_
      refine lv_iload_n hx hb d_Mo_name_29 rfl (lv_at hl 3 rfl) ?_
      refine lv_isub hx hb d_Mo_name_30 ?_
      refine zti (y := nI ((((a0 + 1) + 1) + 1) - a0)) (pk_sub (by omega)) ?_
      refine zti (y := nI 3) (congrArg nI (by omega)) ?_
      refine lv_iload_n hx hb d_Mo_name_31 rfl (lv_at hl 5 rfl) ?_
      refine lv_icmp_ne (tgt := 40) hx hb d_Mo_name_32 (by decide) (fun _ => ?_) (fun h93 => absurd h93 (by decide))
      refine lv_aload_n hx hb d_Mo_name_40 rfl (lv_at hl 2 rfl) ?_
      refine va_get (D := D) (ci := 5) (v := .ref (ad 17)) (C := RMo) (T := TMo) (N := 21) hx hb ht inMo hown hK hP 0 rfl rfl 15 (by decide) (ht _ q561) (fun _ h9 => h9) rfl d_Mo_name_41 ?_
      refine lv_iload hx hb d_Mo_name_44 (lv_at hl 0 rfl) ?_
      refine va_cald hx hb hK hP 5 2 rfl rfl (vp_in_nI (n := ((a0 + 1) + 1) + 1) (by omega) (by decide)) d_Mo_name_46 ?_
      refine zti (y := nI (tx (((a0 + 1) + 1) + 1))) (nF_at (by omega)) ?_
      refine lv_i2l (v := lN (tx (((a0 + 1) + 1) + 1))) hx hb d_Mo_name_47 (nI_l (by omega)) ?_
      refine lv_lor hx hb d_Mo_name_48 ?_
      refine ztl (y := lN ((((0 * 256 + (tx a0)) * 256 + 35) * 256 + (tx ((a0 + 1) + 1))) * 256 + (tx (((a0 + 1) + 1) + 1)))) (zlor (by omega) (by omega)) ?_
      refine lv_lstore hx hb d_Mo_name_49 hl (by decide) rfl (fun ls hl => ?_)
      have hl : lv_has ls 7 [(4, .long (lN ((((0 * 256 + (tx a0)) * 256 + 35) * 256 + (tx ((a0 + 1) + 1))) * 256 + (tx (((a0 + 1) + 1) + 1))))), (6, .int (nI (((a0 + 1) + 1) + 1))), (0, .ref (ad 12)), (1, .int (nI a0)), (2, .int (nI (a0 + 5))), (3, .int (nI 1))] := hl
      refine lv_iinc (k := 1) (v := nI ((((a0 + 1) + 1) + 1) + 1)) hx hb d_Mo_name_51 hl rfl (zinc _) (by decide) rfl (fun ls hl => ?_)
      have hl : lv_has ls 7 [(6, .int (nI ((((a0 + 1) + 1) + 1) + 1))), (4, .long (lN ((((0 * 256 + (tx a0)) * 256 + 35) * 256 + (tx ((a0 + 1) + 1))) * 256 + (tx (((a0 + 1) + 1) + 1))))), (0, .ref (ad 12)), (1, .int (nI a0)), (2, .int (nI (a0 + 5))), (3, .int (nI 1))] := hl
      refine lv_goto (tgt := 16) hx hb d_Mo_name_54 (by decide) ?_
      refine lv_iload hx hb d_Mo_name_16 (lv_at hl 0 rfl) ?_
      refine lv_iload_n hx hb d_Mo_name_18 rfl (lv_at hl 4 rfl) ?_
      refine lv_icmp_ge (tgt := 57) hx hb d_Mo_name_19 (by decide) (fun h94 => absurd ((nI_leI (by omega) (by omega)).mp h94) (by omega)) (fun _ => ?_)
      refine lv_lload hx hb d_Mo_name_22 (lv_at hl 1 rfl) ?_
      refine lv_bipush (v := nI 8) hx hb d_Mo_name_24 (by decide) ?_
      refine lv_lshl (v := lN (((((0 * 256 + (tx a0)) * 256 + 35) * 256 + (tx ((a0 + 1) + 1))) * 256 + (tx (((a0 + 1) + 1) + 1))) * 256)) hx hb d_Mo_name_26 zshl8 ?_
      refine lv_iload hx hb d_Mo_name_27 (lv_at hl 0 rfl) ?_
      refine lv_iload_n hx hb d_Mo_name_29 rfl (lv_at hl 3 rfl) ?_
      refine lv_isub hx hb d_Mo_name_30 ?_
      refine zti (y := nI (((((a0 + 1) + 1) + 1) + 1) - a0)) (pk_sub (by omega)) ?_
      refine zti (y := nI 4) (congrArg nI (by omega)) ?_
      refine lv_iload_n hx hb d_Mo_name_31 rfl (lv_at hl 5 rfl) ?_
      refine lv_icmp_ne (tgt := 40) hx hb d_Mo_name_32 (by decide) (fun _ => ?_) (fun h95 => absurd h95 (by decide))
      refine lv_aload_n hx hb d_Mo_name_40 rfl (lv_at hl 2 rfl) ?_
      refine va_get (D := D) (ci := 5) (v := .ref (ad 17)) (C := RMo) (T := TMo) (N := 21) hx hb ht inMo hown hK hP 0 rfl rfl 15 (by decide) (ht _ q561) (fun _ h9 => h9) rfl d_Mo_name_41 ?_
      refine lv_iload hx hb d_Mo_name_44 (lv_at hl 0 rfl) ?_
      refine va_cald hx hb hK hP 5 2 rfl rfl (vp_in_nI (n := (((a0 + 1) + 1) + 1) + 1) (by omega) (by decide)) d_Mo_name_46 ?_
      refine zti (y := nI (tx ((((a0 + 1) + 1) + 1) + 1))) (nF_at (by omega)) ?_
      refine lv_i2l (v := lN (tx ((((a0 + 1) + 1) + 1) + 1))) hx hb d_Mo_name_47 (nI_l (by omega)) ?_
      refine lv_lor hx hb d_Mo_name_48 ?_
      refine ztl (y := lN (((((0 * 256 + (tx a0)) * 256 + 35) * 256 + (tx ((a0 + 1) + 1))) * 256 + (tx (((a0 + 1) + 1) + 1))) * 256 + (tx ((((a0 + 1) + 1) + 1) + 1)))) (zlor (by omega) (by omega)) ?_
      refine lv_lstore hx hb d_Mo_name_49 hl (by decide) rfl (fun ls hl => ?_)
      have hl : lv_has ls 7 [(4, .long (lN (((((0 * 256 + (tx a0)) * 256 + 35) * 256 + (tx ((a0 + 1) + 1))) * 256 + (tx (((a0 + 1) + 1) + 1))) * 256 + (tx ((((a0 + 1) + 1) + 1) + 1))))), (6, .int (nI ((((a0 + 1) + 1) + 1) + 1))), (0, .ref (ad 12)), (1, .int (nI a0)), (2, .int (nI (a0 + 5))), (3, .int (nI 1))] := hl
      refine lv_iinc (k := 1) (v := nI (((((a0 + 1) + 1) + 1) + 1) + 1)) hx hb d_Mo_name_51 hl rfl (zinc _) (by decide) rfl (fun ls hl => ?_)
      have hl : lv_has ls 7 [(6, .int (nI (((((a0 + 1) + 1) + 1) + 1) + 1))), (4, .long (lN (((((0 * 256 + (tx a0)) * 256 + 35) * 256 + (tx ((a0 + 1) + 1))) * 256 + (tx (((a0 + 1) + 1) + 1))) * 256 + (tx ((((a0 + 1) + 1) + 1) + 1))))), (0, .ref (ad 12)), (1, .int (nI a0)), (2, .int (nI (a0 + 5))), (3, .int (nI 1))] := hl
      refine lv_goto (tgt := 16) hx hb d_Mo_name_54 (by decide) ?_
      refine lv_iload hx hb d_Mo_name_16 (lv_at hl 0 rfl) ?_
      refine lv_iload_n hx hb d_Mo_name_18 rfl (lv_at hl 4 rfl) ?_
      refine lv_icmp_ge (tgt := 57) hx hb d_Mo_name_19 (by decide) (fun _ => ?_) (fun h96 => absurd ((nI_leI (by omega) (by omega)).mpr (by omega)) h96)
      refine lv_lload hx hb d_Mo_name_57 (lv_at hl 1 rfl) ?_
      exact zret_l C0 hr hAe hP hD hS ⟨by rw [nm_l (by decide)]; rfl, rfl⟩ d_Mo_name_59
    · skip
      refine lv_iload_n hx hb d_Mo_name_0 rfl (lv_at hl 2 rfl) ?_
      refine lv_iload_n hx hb d_Mo_name_1 rfl (lv_at hl 1 rfl) ?_
      refine lv_isub hx hb d_Mo_name_2 ?_
      refine zti (y := nI ((a0 + 6) - a0)) (pk_sub (by omega)) ?_
      refine zti (y := nI 6) (congrArg nI (by omega)) ?_
      refine lv_bipush (v := nI 6) hx hb d_Mo_name_3 (by decide) ?_
      refine lv_icmp_le (tgt := 10) hx hb d_Mo_name_5 (by decide) (fun _ => ?_) (fun h97 => absurd (by decide) h97)
      refine lv_lconst (v := lN 0) hx hb d_Mo_name_10 rfl ?_
      refine lv_lstore hx hb d_Mo_name_11 hl (by decide) rfl (fun ls hl => ?_)
      have hl : lv_has ls 7 [(4, .long (lN 0)), (0, .ref (ad 12)), (1, .int (nI a0)), (2, .int (nI (a0 + 6))), (3, .int (nI 1))] := hl
      refine lv_iload_n hx hb d_Mo_name_13 rfl (lv_at hl 2 rfl) ?_
      refine lv_istore hx hb d_Mo_name_14 hl (by decide) rfl (fun ls hl => ?_)
      have hl : lv_has ls 7 [(6, .int (nI a0)), (4, .long (lN 0)), (0, .ref (ad 12)), (1, .int (nI a0)), (2, .int (nI (a0 + 6))), (3, .int (nI 1))] := hl
      refine lv_iload hx hb d_Mo_name_16 (lv_at hl 0 rfl) ?_
      refine lv_iload_n hx hb d_Mo_name_18 rfl (lv_at hl 4 rfl) ?_
      refine lv_icmp_ge (tgt := 57) hx hb d_Mo_name_19 (by decide) (fun h98 => absurd ((nI_leI (by omega) (by omega)).mp h98) (by omega)) (fun _ => ?_)
      refine lv_lload hx hb d_Mo_name_22 (lv_at hl 1 rfl) ?_
      refine lv_bipush (v := nI 8) hx hb d_Mo_name_24 (by decide) ?_
      refine lv_lshl (v := lN (0 * 256)) hx hb d_Mo_name_26 zshl8 ?_
      refine lv_iload hx hb d_Mo_name_27 (lv_at hl 0 rfl) ?_
      refine lv_iload_n hx hb d_Mo_name_29 rfl (lv_at hl 3 rfl) ?_
      refine lv_isub hx hb d_Mo_name_30 ?_
      refine zti (y := nI (a0 - a0)) (pk_sub (by omega)) ?_
      refine zti (y := nI 0) (congrArg nI (by omega)) ?_
      refine lv_iload_n hx hb d_Mo_name_31 rfl (lv_at hl 5 rfl) ?_
      refine lv_icmp_ne (tgt := 40) hx hb d_Mo_name_32 (by decide) (fun _ => ?_) (fun h99 => absurd h99 (by decide))
      refine lv_aload_n hx hb d_Mo_name_40 rfl (lv_at hl 2 rfl) ?_
      refine va_get (D := D) (ci := 5) (v := .ref (ad 17)) (C := RMo) (T := TMo) (N := 21) hx hb ht inMo hown hK hP 0 rfl rfl 15 (by decide) (ht _ q561) (fun _ h9 => h9) rfl d_Mo_name_41 ?_
      refine lv_iload hx hb d_Mo_name_44 (lv_at hl 0 rfl) ?_
      refine va_cald hx hb hK hP 5 2 rfl rfl (vp_in_nI (n := a0) (by omega) (by decide)) d_Mo_name_46 ?_
      refine zti (y := nI (tx a0)) (nF_at (by omega)) ?_
      refine lv_i2l (v := lN (tx a0)) hx hb d_Mo_name_47 (nI_l (by omega)) ?_
      refine lv_lor hx hb d_Mo_name_48 ?_
      refine ztl (y := lN (0 * 256 + (tx a0))) (zlor (by omega) (by omega)) ?_
      refine lv_lstore hx hb d_Mo_name_49 hl (by decide) rfl (fun ls hl => ?_)
      have hl : lv_has ls 7 [(4, .long (lN (0 * 256 + (tx a0)))), (6, .int (nI a0)), (0, .ref (ad 12)), (1, .int (nI a0)), (2, .int (nI (a0 + 6))), (3, .int (nI 1))] := hl
      refine lv_iinc (k := 1) (v := nI (a0 + 1)) hx hb d_Mo_name_51 hl rfl (zinc _) (by decide) rfl (fun ls hl => ?_)
      have hl : lv_has ls 7 [(6, .int (nI (a0 + 1))), (4, .long (lN (0 * 256 + (tx a0)))), (0, .ref (ad 12)), (1, .int (nI a0)), (2, .int (nI (a0 + 6))), (3, .int (nI 1))] := hl
      refine lv_goto (tgt := 16) hx hb d_Mo_name_54 (by decide) ?_
      refine lv_iload hx hb d_Mo_name_16 (lv_at hl 0 rfl) ?_
      refine lv_iload_n hx hb d_Mo_name_18 rfl (lv_at hl 4 rfl) ?_
      refine lv_icmp_ge (tgt := 57) hx hb d_Mo_name_19 (by decide) (fun h100 => absurd ((nI_leI (by omega) (by omega)).mp h100) (by omega)) (fun _ => ?_)
      refine lv_lload hx hb d_Mo_name_22 (lv_at hl 1 rfl) ?_
      refine lv_bipush (v := nI 8) hx hb d_Mo_name_24 (by decide) ?_
      refine lv_lshl (v := lN ((0 * 256 + (tx a0)) * 256)) hx hb d_Mo_name_26 zshl8 ?_
      refine lv_iload hx hb d_Mo_name_27 (lv_at hl 0 rfl) ?_
      refine lv_iload_n hx hb d_Mo_name_29 rfl (lv_at hl 3 rfl) ?_
      refine lv_isub hx hb d_Mo_name_30 ?_
      refine zti (y := nI ((a0 + 1) - a0)) (pk_sub (by omega)) ?_
      refine zti (y := nI 1) (congrArg nI (by omega)) ?_
      refine lv_iload_n hx hb d_Mo_name_31 rfl (lv_at hl 5 rfl) ?_
      refine lv_icmp_ne (tgt := 40) hx hb d_Mo_name_32 (by decide) (fun h101 => absurd (by decide) h101) (fun _ => ?_)
      refine lv_bipush (v := nI 35) hx hb d_Mo_name_35 (by decide) ?_
      refine lv_goto (tgt := 47) hx hb d_Mo_name_37 (by decide) ?_
      refine lv_i2l (v := lN 35) hx hb d_Mo_name_47 (nI_l (by omega)) ?_
      refine lv_lor hx hb d_Mo_name_48 ?_
      refine ztl (y := lN ((0 * 256 + (tx a0)) * 256 + 35)) (zlor (by omega) (by omega)) ?_
      refine lv_lstore hx hb d_Mo_name_49 hl (by decide) rfl (fun ls hl => ?_)
      have hl : lv_has ls 7 [(4, .long (lN ((0 * 256 + (tx a0)) * 256 + 35))), (6, .int (nI (a0 + 1))), (0, .ref (ad 12)), (1, .int (nI a0)), (2, .int (nI (a0 + 6))), (3, .int (nI 1))] := hl
      refine lv_iinc (k := 1) (v := nI ((a0 + 1) + 1)) hx hb d_Mo_name_51 hl rfl (zinc _) (by decide) rfl (fun ls hl => ?_)
      have hl : lv_has ls 7 [(6, .int (nI ((a0 + 1) + 1))), (4, .long (lN ((0 * 256 + (tx a0)) * 256 + 35))), (0, .ref (ad 12)), (1, .int (nI a0)), (2, .int (nI (a0 + 6))), (3, .int (nI 1))] := hl
      refine lv_goto (tgt := 16) hx hb d_Mo_name_54 (by decide) ?_
      refine lv_iload hx hb d_Mo_name_16 (lv_at hl 0 rfl) ?_
      refine lv_iload_n hx hb d_Mo_name_18 rfl (lv_at hl 4 rfl) ?_
      refine lv_icmp_ge (tgt := 57) hx hb d_Mo_name_19 (by decide) (fun h102 => absurd ((nI_leI (by omega) (by omega)).mp h102) (by omega)) (fun _ => ?_)
      refine lv_lload hx hb d_Mo_name_22 (lv_at hl 1 rfl) ?_
      refine lv_bipush (v := nI 8) hx hb d_Mo_name_24 (by decide) ?_
      refine lv_lshl (v := lN (((0 * 256 + (tx a0)) * 256 + 35) * 256)) hx hb d_Mo_name_26 zshl8 ?_
      refine lv_iload hx hb d_Mo_name_27 (lv_at hl 0 rfl) ?_
      refine lv_iload_n hx hb d_Mo_name_29 rfl (lv_at hl 3 rfl) ?_
      refine lv_isub hx hb d_Mo_name_30 ?_
      refine zti (y := nI (((a0 + 1) + 1) - a0)) (pk_sub (by omega)) ?_
      refine zti (y := nI 2) (congrArg nI (by omega)) ?_
      refine lv_iload_n hx hb d_Mo_name_31 rfl (lv_at hl 5 rfl) ?_
      refine lv_icmp_ne (tgt := 40) hx hb d_Mo_name_32 (by decide) (fun _ => ?_) (fun h103 => absurd h103 (by decide))
      refine lv_aload_n hx hb d_Mo_name_40 rfl (lv_at hl 2 rfl) ?_
      refine va_get (D := D) (ci := 5) (v := .ref (ad 17)) (C := RMo) (T := TMo) (N := 21) hx hb ht inMo hown hK hP 0 rfl rfl 15 (by decide) (ht _ q561) (fun _ h9 => h9) rfl d_Mo_name_41 ?_
      refine lv_iload hx hb d_Mo_name_44 (lv_at hl 0 rfl) ?_
      refine va_cald hx hb hK hP 5 2 rfl rfl (vp_in_nI (n := (a0 + 1) + 1) (by omega) (by decide)) d_Mo_name_46 ?_
      refine zti (y := nI (tx ((a0 + 1) + 1))) (nF_at (by omega)) ?_
      refine lv_i2l (v := lN (tx ((a0 + 1) + 1))) hx hb d_Mo_name_47 (nI_l (by omega)) ?_
      refine lv_lor hx hb d_Mo_name_48 ?_
      refine ztl (y := lN (((0 * 256 + (tx a0)) * 256 + 35) * 256 + (tx ((a0 + 1) + 1)))) (zlor (by omega) (by omega)) ?_
      refine lv_lstore hx hb d_Mo_name_49 hl (by decide) rfl (fun ls hl => ?_)
      have hl : lv_has ls 7 [(4, .long (lN (((0 * 256 + (tx a0)) * 256 + 35) * 256 + (tx ((a0 + 1) + 1))))), (6, .int (nI ((a0 + 1) + 1))), (0, .ref (ad 12)), (1, .int (nI a0)), (2, .int (nI (a0 + 6))), (3, .int (nI 1))] := hl
      refine lv_iinc (k := 1) (v := nI (((a0 + 1) + 1) + 1)) hx hb d_Mo_name_51 hl rfl (zinc _) (by decide) rfl (fun ls hl => ?_)
      have hl : lv_has ls 7 [(6, .int (nI (((a0 + 1) + 1) + 1))), (4, .long (lN (((0 * 256 + (tx a0)) * 256 + 35) * 256 + (tx ((a0 + 1) + 1))))), (0, .ref (ad 12)), (1, .int (nI a0)), (2, .int (nI (a0 + 6))), (3, .int (nI 1))] := hl
      refine lv_goto (tgt := 16) hx hb d_Mo_name_54 (by decide) ?_
      refine lv_iload hx hb d_Mo_name_16 (lv_at hl 0 rfl) ?_
      refine lv_iload_n hx hb d_Mo_name_18 rfl (lv_at hl 4 rfl) ?_
      refine lv_icmp_ge (tgt := 57) hx hb d_Mo_name_19 (by decide) (fun h104 => absurd ((nI_leI (by omega) (by omega)).mp h104) (by omega)) (fun _ => ?_)
      refine lv_lload hx hb d_Mo_name_22 (lv_at hl 1 rfl) ?_
      refine lv_bipush (v := nI 8) hx hb d_Mo_name_24 (by decide) ?_
      refine lv_lshl (v := lN ((((0 * 256 + (tx a0)) * 256 + 35) * 256 + (tx ((a0 + 1) + 1))) * 256)) hx hb d_Mo_name_26 zshl8 ?_
      refine lv_iload hx hb d_Mo_name_27 (lv_at hl 0 rfl) ?_
      refine lv_iload_n hx hb d_Mo_name_29 rfl (lv_at hl 3 rfl) ?_
      refine lv_isub hx hb d_Mo_name_30 ?_
      refine zti (y := nI ((((a0 + 1) + 1) + 1) - a0)) (pk_sub (by omega)) ?_
      refine zti (y := nI 3) (congrArg nI (by omega)) ?_
      refine lv_iload_n hx hb d_Mo_name_31 rfl (lv_at hl 5 rfl) ?_
      refine lv_icmp_ne (tgt := 40) hx hb d_Mo_name_32 (by decide) (fun _ => ?_) (fun h105 => absurd h105 (by decide))
      refine lv_aload_n hx hb d_Mo_name_40 rfl (lv_at hl 2 rfl) ?_
      refine va_get (D := D) (ci := 5) (v := .ref (ad 17)) (C := RMo) (T := TMo) (N := 21) hx hb ht inMo hown hK hP 0 rfl rfl 15 (by decide) (ht _ q561) (fun _ h9 => h9) rfl d_Mo_name_41 ?_
      refine lv_iload hx hb d_Mo_name_44 (lv_at hl 0 rfl) ?_
      refine va_cald hx hb hK hP 5 2 rfl rfl (vp_in_nI (n := ((a0 + 1) + 1) + 1) (by omega) (by decide)) d_Mo_name_46 ?_
      refine zti (y := nI (tx (((a0 + 1) + 1) + 1))) (nF_at (by omega)) ?_
      refine lv_i2l (v := lN (tx (((a0 + 1) + 1) + 1))) hx hb d_Mo_name_47 (nI_l (by omega)) ?_
      refine lv_lor hx hb d_Mo_name_48 ?_
      refine ztl (y := lN ((((0 * 256 + (tx a0)) * 256 + 35) * 256 + (tx ((a0 + 1) + 1))) * 256 + (tx (((a0 + 1) + 1) + 1)))) (zlor (by omega) (by omega)) ?_
      refine lv_lstore hx hb d_Mo_name_49 hl (by decide) rfl (fun ls hl => ?_)
      have hl : lv_has ls 7 [(4, .long (lN ((((0 * 256 + (tx a0)) * 256 + 35) * 256 + (tx ((a0 + 1) + 1))) * 256 + (tx (((a0 + 1) + 1) + 1))))), (6, .int (nI (((a0 + 1) + 1) + 1))), (0, .ref (ad 12)), (1, .int (nI a0)), (2, .int (nI (a0 + 6))), (3, .int (nI 1))] := hl
      refine lv_iinc (k := 1) (v := nI ((((a0 + 1) + 1) + 1) + 1)) hx hb d_Mo_name_51 hl rfl (zinc _) (by decide) rfl (fun ls hl => ?_)
      have hl : lv_has ls 7 [(6, .int (nI ((((a0 + 1) + 1) + 1) + 1))), (4, .long (lN ((((0 * 256 + (tx a0)) * 256 + 35) * 256 + (tx ((a0 + 1) + 1))) * 256 + (tx (((a0 + 1) + 1) + 1))))), (0, .ref (ad 12)), (1, .int (nI a0)), (2, .int (nI (a0 + 6))), (3, .int (nI 1))] := hl
      refine lv_goto (tgt := 16) hx hb d_Mo_name_54 (by decide) ?_
      refine lv_iload hx hb d_Mo_name_16 (lv_at hl 0 rfl) ?_
      refine lv_iload_n hx hb d_Mo_name_18 rfl (lv_at hl 4 rfl) ?_
      refine lv_icmp_ge (tgt := 57) hx hb d_Mo_name_19 (by decide) (fun h106 => absurd ((nI_leI (by omega) (by omega)).mp h106) (by omega)) (fun _ => ?_)
      refine lv_lload hx hb d_Mo_name_22 (lv_at hl 1 rfl) ?_
      refine lv_bipush (v := nI 8) hx hb d_Mo_name_24 (by decide) ?_
      refine lv_lshl (v := lN (((((0 * 256 + (tx a0)) * 256 + 35) * 256 + (tx ((a0 + 1) + 1))) * 256 + (tx (((a0 + 1) + 1) + 1))) * 256)) hx hb d_Mo_name_26 zshl8 ?_
      refine lv_iload hx hb d_Mo_name_27 (lv_at hl 0 rfl) ?_
      refine lv_iload_n hx hb d_Mo_name_29 rfl (lv_at hl 3 rfl) ?_
      refine lv_isub hx hb d_Mo_name_30 ?_
      refine zti (y := nI (((((a0 + 1) + 1) + 1) + 1) - a0)) (pk_sub (by omega)) ?_
      refine zti (y := nI 4) (congrArg nI (by omega)) ?_
      refine lv_iload_n hx hb d_Mo_name_31 rfl (lv_at hl 5 rfl) ?_
      refine lv_icmp_ne (tgt := 40) hx hb d_Mo_name_32 (by decide) (fun _ => ?_) (fun h107 => absurd h107 (by decide))
      refine lv_aload_n hx hb d_Mo_name_40 rfl (lv_at hl 2 rfl) ?_
      refine va_get (D := D) (ci := 5) (v := .ref (ad 17)) (C := RMo) (T := TMo) (N := 21) hx hb ht inMo hown hK hP 0 rfl rfl 15 (by decide) (ht _ q561) (fun _ h9 => h9) rfl d_Mo_name_41 ?_
      refine lv_iload hx hb d_Mo_name_44 (lv_at hl 0 rfl) ?_
      refine va_cald hx hb hK hP 5 2 rfl rfl (vp_in_nI (n := (((a0 + 1) + 1) + 1) + 1) (by omega) (by decide)) d_Mo_name_46 ?_
      refine zti (y := nI (tx ((((a0 + 1) + 1) + 1) + 1))) (nF_at (by omega)) ?_
      refine lv_i2l (v := lN (tx ((((a0 + 1) + 1) + 1) + 1))) hx hb d_Mo_name_47 (nI_l (by omega)) ?_
      refine lv_lor hx hb d_Mo_name_48 ?_
      refine ztl (y := lN (((((0 * 256 + (tx a0)) * 256 + 35) * 256 + (tx ((a0 + 1) + 1))) * 256 + (tx (((a0 + 1) + 1) + 1))) * 256 + (tx ((((a0 + 1) + 1) + 1) + 1)))) (zlor (by omega) (by omega)) ?_
      refine lv_lstore hx hb d_Mo_name_49 hl (by decide) rfl (fun ls hl => ?_)
      have hl : lv_has ls 7 [(4, .long (lN (((((0 * 256 + (tx a0)) * 256 + 35) * 256 + (tx ((a0 + 1) + 1))) * 256 + (tx (((a0 + 1) + 1) + 1))) * 256 + (tx ((((a0 + 1) + 1) + 1) + 1))))), (6, .int (nI ((((a0 + 1) + 1) + 1) + 1))), (0, .ref (ad 12)), (1, .int (nI a0)), (2, .int (nI (a0 + 6))), (3, .int (nI 1))] := hl
      refine lv_iinc (k := 1) (v := nI (((((a0 + 1) + 1) + 1) + 1) + 1)) hx hb d_Mo_name_51 hl rfl (zinc _) (by decide) rfl (fun ls hl => ?_)
      have hl : lv_has ls 7 [(6, .int (nI (((((a0 + 1) + 1) + 1) + 1) + 1))), (4, .long (lN (((((0 * 256 + (tx a0)) * 256 + 35) * 256 + (tx ((a0 + 1) + 1))) * 256 + (tx (((a0 + 1) + 1) + 1))) * 256 + (tx ((((a0 + 1) + 1) + 1) + 1))))), (0, .ref (ad 12)), (1, .int (nI a0)), (2, .int (nI (a0 + 6))), (3, .int (nI 1))] := hl
      refine lv_goto (tgt := 16) hx hb d_Mo_name_54 (by decide) ?_
      refine lv_iload hx hb d_Mo_name_16 (lv_at hl 0 rfl) ?_
      refine lv_iload_n hx hb d_Mo_name_18 rfl (lv_at hl 4 rfl) ?_
      refine lv_icmp_ge (tgt := 57) hx hb d_Mo_name_19 (by decide) (fun h108 => absurd ((nI_leI (by omega) (by omega)).mp h108) (by omega)) (fun _ => ?_)
      refine lv_lload hx hb d_Mo_name_22 (lv_at hl 1 rfl) ?_
      refine lv_bipush (v := nI 8) hx hb d_Mo_name_24 (by decide) ?_
      refine lv_lshl (v := lN ((((((0 * 256 + (tx a0)) * 256 + 35) * 256 + (tx ((a0 + 1) + 1))) * 256 + (tx (((a0 + 1) + 1) + 1))) * 256 + (tx ((((a0 + 1) + 1) + 1) + 1))) * 256)) hx hb d_Mo_name_26 zshl8 ?_
      refine lv_iload hx hb d_Mo_name_27 (lv_at hl 0 rfl) ?_
      refine lv_iload_n hx hb d_Mo_name_29 rfl (lv_at hl 3 rfl) ?_
      refine lv_isub hx hb d_Mo_name_30 ?_
      refine zti (y := nI ((((((a0 + 1) + 1) + 1) + 1) + 1) - a0)) (pk_sub (by omega)) ?_
      refine zti (y := nI 5) (congrArg nI (by omega)) ?_
      refine lv_iload_n hx hb d_Mo_name_31 rfl (lv_at hl 5 rfl) ?_
      refine lv_icmp_ne (tgt := 40) hx hb d_Mo_name_32 (by decide) (fun _ => ?_) (fun h109 => absurd h109 (by decide))
      refine lv_aload_n hx hb d_Mo_name_40 rfl (lv_at hl 2 rfl) ?_
      refine va_get (D := D) (ci := 5) (v := .ref (ad 17)) (C := RMo) (T := TMo) (N := 21) hx hb ht inMo hown hK hP 0 rfl rfl 15 (by decide) (ht _ q561) (fun _ h9 => h9) rfl d_Mo_name_41 ?_
      refine lv_iload hx hb d_Mo_name_44 (lv_at hl 0 rfl) ?_
      refine va_cald hx hb hK hP 5 2 rfl rfl (vp_in_nI (n := ((((a0 + 1) + 1) + 1) + 1) + 1) (by omega) (by decide)) d_Mo_name_46 ?_
      refine zti (y := nI (tx (((((a0 + 1) + 1) + 1) + 1) + 1))) (nF_at (by omega)) ?_
      refine lv_i2l (v := lN (tx (((((a0 + 1) + 1) + 1) + 1) + 1))) hx hb d_Mo_name_47 (nI_l (by omega)) ?_
      refine lv_lor hx hb d_Mo_name_48 ?_
      refine ztl (y := lN ((((((0 * 256 + (tx a0)) * 256 + 35) * 256 + (tx ((a0 + 1) + 1))) * 256 + (tx (((a0 + 1) + 1) + 1))) * 256 + (tx ((((a0 + 1) + 1) + 1) + 1))) * 256 + (tx (((((a0 + 1) + 1) + 1) + 1) + 1)))) (zlor (by omega) (by omega)) ?_
      refine lv_lstore hx hb d_Mo_name_49 hl (by decide) rfl (fun ls hl => ?_)
      have hl : lv_has ls 7 [(4, .long (lN ((((((0 * 256 + (tx a0)) * 256 + 35) * 256 + (tx ((a0 + 1) + 1))) * 256 + (tx (((a0 + 1) + 1) + 1))) * 256 + (tx ((((a0 + 1) + 1) + 1) + 1))) * 256 + (tx (((((a0 + 1) + 1) + 1) + 1) + 1))))), (6, .int (nI (((((a0 + 1) + 1) + 1) + 1) + 1))), (0, .ref (ad 12)), (1, .int (nI a0)), (2, .int (nI (a0 + 6))), (3, .int (nI 1))] := hl
      refine lv_iinc (k := 1) (v := nI ((((((a0 + 1) + 1) + 1) + 1) + 1) + 1)) hx hb d_Mo_name_51 hl rfl (zinc _) (by decide) rfl (fun ls hl => ?_)
      have hl : lv_has ls 7 [(6, .int (nI ((((((a0 + 1) + 1) + 1) + 1) + 1) + 1))), (4, .long (lN ((((((0 * 256 + (tx a0)) * 256 + 35) * 256 + (tx ((a0 + 1) + 1))) * 256 + (tx (((a0 + 1) + 1) + 1))) * 256 + (tx ((((a0 + 1) + 1) + 1) + 1))) * 256 + (tx (((((a0 + 1) + 1) + 1) + 1) + 1))))), (0, .ref (ad 12)), (1, .int (nI a0)), (2, .int (nI (a0 + 6))), (3, .int (nI 1))] := hl
      refine lv_goto (tgt := 16) hx hb d_Mo_name_54 (by decide) ?_
      refine lv_iload hx hb d_Mo_name_16 (lv_at hl 0 rfl) ?_
      refine lv_iload_n hx hb d_Mo_name_18 rfl (lv_at hl 4 rfl) ?_
      refine lv_icmp_ge (tgt := 57) hx hb d_Mo_name_19 (by decide) (fun _ => ?_) (fun h110 => absurd ((nI_leI (by omega) (by omega)).mpr (by omega)) h110)
      refine lv_lload hx hb d_Mo_name_57 (lv_at hl 1 rfl) ?_
      exact zret_l C0 hr hAe hP hD hS ⟨by rw [nm_l (by decide)]; rfl, rfl⟩ d_Mo_name_59
  · skip
    rcases (show 6 < e0 - a0 ∨ e0 = a0 + 1 ∨ e0 = a0 + 2 ∨ e0 = a0 + 3 ∨ e0 = a0 + 4 ∨ e0 = a0 + 5 ∨ e0 = a0 + 6 by omega) with hb6 | rfl | rfl | rfl | rfl | rfl | rfl
    · skip
      refine lv_iload_n hx hb d_Mo_name_0 rfl (lv_at hl 2 rfl) ?_
      refine lv_iload_n hx hb d_Mo_name_1 rfl (lv_at hl 1 rfl) ?_
      refine lv_isub hx hb d_Mo_name_2 ?_
      refine zti (y := nI (e0 - a0)) (pk_sub (by omega)) ?_
      refine lv_bipush (v := nI 6) hx hb d_Mo_name_3 (by decide) ?_
      refine lv_icmp_le (tgt := 10) hx hb d_Mo_name_5 (by decide) (fun h111 => absurd ((nI_leI (by omega) (by omega)).mp h111) (by omega)) (fun _ => ?_)
      refine lv_lconst (v := lN 0) hx hb d_Mo_name_8 rfl ?_
      exact zret_l C0 hr hAe hP hD hS ⟨by rw [nm_b hb6], rfl⟩ d_Mo_name_9
    · skip
      refine lv_iload_n hx hb d_Mo_name_0 rfl (lv_at hl 2 rfl) ?_
      refine lv_iload_n hx hb d_Mo_name_1 rfl (lv_at hl 1 rfl) ?_
      refine lv_isub hx hb d_Mo_name_2 ?_
      refine zti (y := nI ((a0 + 1) - a0)) (pk_sub (by omega)) ?_
      refine zti (y := nI 1) (congrArg nI (by omega)) ?_
      refine lv_bipush (v := nI 6) hx hb d_Mo_name_3 (by decide) ?_
      refine lv_icmp_le (tgt := 10) hx hb d_Mo_name_5 (by decide) (fun _ => ?_) (fun h112 => absurd (by decide) h112)
      refine lv_lconst (v := lN 0) hx hb d_Mo_name_10 rfl ?_
      refine lv_lstore hx hb d_Mo_name_11 hl (by decide) rfl (fun ls hl => ?_)
      have hl : lv_has ls 7 [(4, .long (lN 0)), (0, .ref (ad 12)), (1, .int (nI a0)), (2, .int (nI (a0 + 1))), (3, .int (nI 2))] := hl
      refine lv_iload_n hx hb d_Mo_name_13 rfl (lv_at hl 2 rfl) ?_
      refine lv_istore hx hb d_Mo_name_14 hl (by decide) rfl (fun ls hl => ?_)
      have hl : lv_has ls 7 [(6, .int (nI a0)), (4, .long (lN 0)), (0, .ref (ad 12)), (1, .int (nI a0)), (2, .int (nI (a0 + 1))), (3, .int (nI 2))] := hl
      refine lv_iload hx hb d_Mo_name_16 (lv_at hl 0 rfl) ?_
      refine lv_iload_n hx hb d_Mo_name_18 rfl (lv_at hl 4 rfl) ?_
      refine lv_icmp_ge (tgt := 57) hx hb d_Mo_name_19 (by decide) (fun h113 => absurd ((nI_leI (by omega) (by omega)).mp h113) (by omega)) (fun _ => ?_)
      refine lv_lload hx hb d_Mo_name_22 (lv_at hl 1 rfl) ?_
      refine lv_bipush (v := nI 8) hx hb d_Mo_name_24 (by decide) ?_
      refine lv_lshl (v := lN (0 * 256)) hx hb d_Mo_name_26 zshl8 ?_
      refine lv_iload hx hb d_Mo_name_27 (lv_at hl 0 rfl) ?_
      refine lv_iload_n hx hb d_Mo_name_29 rfl (lv_at hl 3 rfl) ?_
      refine lv_isub hx hb d_Mo_name_30 ?_
      refine zti (y := nI (a0 - a0)) (pk_sub (by omega)) ?_
      refine zti (y := nI 0) (congrArg nI (by omega)) ?_
      refine lv_iload_n hx hb d_Mo_name_31 rfl (lv_at hl 5 rfl) ?_
      refine lv_icmp_ne (tgt := 40) hx hb d_Mo_name_32 (by decide) (fun _ => ?_) (fun h114 => absurd h114 (by decide))
      refine lv_aload_n hx hb d_Mo_name_40 rfl (lv_at hl 2 rfl) ?_
      refine va_get (D := D) (ci := 5) (v := .ref (ad 17)) (C := RMo) (T := TMo) (N := 21) hx hb ht inMo hown hK hP 0 rfl rfl 15 (by decide) (ht _ q561) (fun _ h9 => h9) rfl d_Mo_name_41 ?_
      refine lv_iload hx hb d_Mo_name_44 (lv_at hl 0 rfl) ?_
      refine va_cald hx hb hK hP 5 2 rfl rfl (vp_in_nI (n := a0) (by omega) (by decide)) d_Mo_name_46 ?_
      refine zti (y := nI (tx a0)) (nF_at (by omega)) ?_
      refine lv_i2l (v := lN (tx a0)) hx hb d_Mo_name_47 (nI_l (by omega)) ?_
      refine lv_lor hx hb d_Mo_name_48 ?_
      refine ztl (y := lN (0 * 256 + (tx a0))) (zlor (by omega) (by omega)) ?_
      refine lv_lstore hx hb d_Mo_name_49 hl (by decide) rfl (fun ls hl => ?_)
      have hl : lv_has ls 7 [(4, .long (lN (0 * 256 + (tx a0)))), (6, .int (nI a0)), (0, .ref (ad 12)), (1, .int (nI a0)), (2, .int (nI (a0 + 1))), (3, .int (nI 2))] := hl
      refine lv_iinc (k := 1) (v := nI (a0 + 1)) hx hb d_Mo_name_51 hl rfl (zinc _) (by decide) rfl (fun ls hl => ?_)
      have hl : lv_has ls 7 [(6, .int (nI (a0 + 1))), (4, .long (lN (0 * 256 + (tx a0)))), (0, .ref (ad 12)), (1, .int (nI a0)), (2, .int (nI (a0 + 1))), (3, .int (nI 2))] := hl
      refine lv_goto (tgt := 16) hx hb d_Mo_name_54 (by decide) ?_
      refine lv_iload hx hb d_Mo_name_16 (lv_at hl 0 rfl) ?_
      refine lv_iload_n hx hb d_Mo_name_18 rfl (lv_at hl 4 rfl) ?_
      refine lv_icmp_ge (tgt := 57) hx hb d_Mo_name_19 (by decide) (fun _ => ?_) (fun h115 => absurd ((nI_leI (by omega) (by omega)).mpr (by omega)) h115)
      refine lv_lload hx hb d_Mo_name_57 (lv_at hl 1 rfl) ?_
      exact zret_l C0 hr hAe hP hD hS ⟨by rw [nm_l (by decide)]; rfl, rfl⟩ d_Mo_name_59
    · skip
      refine lv_iload_n hx hb d_Mo_name_0 rfl (lv_at hl 2 rfl) ?_
      refine lv_iload_n hx hb d_Mo_name_1 rfl (lv_at hl 1 rfl) ?_
      refine lv_isub hx hb d_Mo_name_2 ?_
      refine zti (y := nI ((a0 + 2) - a0)) (pk_sub (by omega)) ?_
      refine zti (y := nI 2) (congrArg nI (by omega)) ?_
      refine lv_bipush (v := nI 6) hx hb d_Mo_name_3 (by decide) ?_
      refine lv_icmp_le (tgt := 10) hx hb d_Mo_name_5 (by decide) (fun _ => ?_) (fun h116 => absurd (by decide) h116)
      refine lv_lconst (v := lN 0) hx hb d_Mo_name_10 rfl ?_
      refine lv_lstore hx hb d_Mo_name_11 hl (by decide) rfl (fun ls hl => ?_)
      have hl : lv_has ls 7 [(4, .long (lN 0)), (0, .ref (ad 12)), (1, .int (nI a0)), (2, .int (nI (a0 + 2))), (3, .int (nI 2))] := hl
      refine lv_iload_n hx hb d_Mo_name_13 rfl (lv_at hl 2 rfl) ?_
      refine lv_istore hx hb d_Mo_name_14 hl (by decide) rfl (fun ls hl => ?_)
      have hl : lv_has ls 7 [(6, .int (nI a0)), (4, .long (lN 0)), (0, .ref (ad 12)), (1, .int (nI a0)), (2, .int (nI (a0 + 2))), (3, .int (nI 2))] := hl
      refine lv_iload hx hb d_Mo_name_16 (lv_at hl 0 rfl) ?_
      refine lv_iload_n hx hb d_Mo_name_18 rfl (lv_at hl 4 rfl) ?_
      refine lv_icmp_ge (tgt := 57) hx hb d_Mo_name_19 (by decide) (fun h117 => absurd ((nI_leI (by omega) (by omega)).mp h117) (by omega)) (fun _ => ?_)
      refine lv_lload hx hb d_Mo_name_22 (lv_at hl 1 rfl) ?_
      refine lv_bipush (v := nI 8) hx hb d_Mo_name_24 (by decide) ?_
      refine lv_lshl (v := lN (0 * 256)) hx hb d_Mo_name_26 zshl8 ?_
      refine lv_iload hx hb d_Mo_name_27 (lv_at hl 0 rfl) ?_
      refine lv_iload_n hx hb d_Mo_name_29 rfl (lv_at hl 3 rfl) ?_
      refine lv_isub hx hb d_Mo_name_30 ?_
      refine zti (y := nI (a0 - a0)) (pk_sub (by omega)) ?_
      refine zti (y := nI 0) (congrArg nI (by omega)) ?_
      refine lv_iload_n hx hb d_Mo_name_31 rfl (lv_at hl 5 rfl) ?_
      refine lv_icmp_ne (tgt := 40) hx hb d_Mo_name_32 (by decide) (fun _ => ?_) (fun h118 => absurd h118 (by decide))
      refine lv_aload_n hx hb d_Mo_name_40 rfl (lv_at hl 2 rfl) ?_
      refine va_get (D := D) (ci := 5) (v := .ref (ad 17)) (C := RMo) (T := TMo) (N := 21) hx hb ht inMo hown hK hP 0 rfl rfl 15 (by decide) (ht _ q561) (fun _ h9 => h9) rfl d_Mo_name_41 ?_
      refine lv_iload hx hb d_Mo_name_44 (lv_at hl 0 rfl) ?_
      refine va_cald hx hb hK hP 5 2 rfl rfl (vp_in_nI (n := a0) (by omega) (by decide)) d_Mo_name_46 ?_
      refine zti (y := nI (tx a0)) (nF_at (by omega)) ?_
      refine lv_i2l (v := lN (tx a0)) hx hb d_Mo_name_47 (nI_l (by omega)) ?_
      refine lv_lor hx hb d_Mo_name_48 ?_
      refine ztl (y := lN (0 * 256 + (tx a0))) (zlor (by omega) (by omega)) ?_
      refine lv_lstore hx hb d_Mo_name_49 hl (by decide) rfl (fun ls hl => ?_)
      have hl : lv_has ls 7 [(4, .long (lN (0 * 256 + (tx a0)))), (6, .int (nI a0)), (0, .ref (ad 12)), (1, .int (nI a0)), (2, .int (nI (a0 + 2))), (3, .int (nI 2))] := hl
      refine lv_iinc (k := 1) (v := nI (a0 + 1)) hx hb d_Mo_name_51 hl rfl (zinc _) (by decide) rfl (fun ls hl => ?_)
      have hl : lv_has ls 7 [(6, .int (nI (a0 + 1))), (4, .long (lN (0 * 256 + (tx a0)))), (0, .ref (ad 12)), (1, .int (nI a0)), (2, .int (nI (a0 + 2))), (3, .int (nI 2))] := hl
      refine lv_goto (tgt := 16) hx hb d_Mo_name_54 (by decide) ?_
      refine lv_iload hx hb d_Mo_name_16 (lv_at hl 0 rfl) ?_
      refine lv_iload_n hx hb d_Mo_name_18 rfl (lv_at hl 4 rfl) ?_
      refine lv_icmp_ge (tgt := 57) hx hb d_Mo_name_19 (by decide) (fun h119 => absurd ((nI_leI (by omega) (by omega)).mp h119) (by omega)) (fun _ => ?_)
      refine lv_lload hx hb d_Mo_name_22 (lv_at hl 1 rfl) ?_
      refine lv_bipush (v := nI 8) hx hb d_Mo_name_24 (by decide) ?_
      refine lv_lshl (v := lN ((0 * 256 + (tx a0)) * 256)) hx hb d_Mo_name_26 zshl8 ?_
      refine lv_iload hx hb d_Mo_name_27 (lv_at hl 0 rfl) ?_
      refine lv_iload_n hx hb d_Mo_name_29 rfl (lv_at hl 3 rfl) ?_
      refine lv_isub hx hb d_Mo_name_30 ?_
      refine zti (y := nI ((a0 + 1) - a0)) (pk_sub (by omega)) ?_
      refine zti (y := nI 1) (congrArg nI (by omega)) ?_
      refine lv_iload_n hx hb d_Mo_name_31 rfl (lv_at hl 5 rfl) ?_
      refine lv_icmp_ne (tgt := 40) hx hb d_Mo_name_32 (by decide) (fun _ => ?_) (fun h120 => absurd h120 (by decide))
      refine lv_aload_n hx hb d_Mo_name_40 rfl (lv_at hl 2 rfl) ?_
      refine va_get (D := D) (ci := 5) (v := .ref (ad 17)) (C := RMo) (T := TMo) (N := 21) hx hb ht inMo hown hK hP 0 rfl rfl 15 (by decide) (ht _ q561) (fun _ h9 => h9) rfl d_Mo_name_41 ?_
      refine lv_iload hx hb d_Mo_name_44 (lv_at hl 0 rfl) ?_
      refine va_cald hx hb hK hP 5 2 rfl rfl (vp_in_nI (n := a0 + 1) (by omega) (by decide)) d_Mo_name_46 ?_
      refine zti (y := nI (tx (a0 + 1))) (nF_at (by omega)) ?_
      refine lv_i2l (v := lN (tx (a0 + 1))) hx hb d_Mo_name_47 (nI_l (by omega)) ?_
      refine lv_lor hx hb d_Mo_name_48 ?_
      refine ztl (y := lN ((0 * 256 + (tx a0)) * 256 + (tx (a0 + 1)))) (zlor (by omega) (by omega)) ?_
      refine lv_lstore hx hb d_Mo_name_49 hl (by decide) rfl (fun ls hl => ?_)
      have hl : lv_has ls 7 [(4, .long (lN ((0 * 256 + (tx a0)) * 256 + (tx (a0 + 1))))), (6, .int (nI (a0 + 1))), (0, .ref (ad 12)), (1, .int (nI a0)), (2, .int (nI (a0 + 2))), (3, .int (nI 2))] := hl
      refine lv_iinc (k := 1) (v := nI ((a0 + 1) + 1)) hx hb d_Mo_name_51 hl rfl (zinc _) (by decide) rfl (fun ls hl => ?_)
      have hl : lv_has ls 7 [(6, .int (nI ((a0 + 1) + 1))), (4, .long (lN ((0 * 256 + (tx a0)) * 256 + (tx (a0 + 1))))), (0, .ref (ad 12)), (1, .int (nI a0)), (2, .int (nI (a0 + 2))), (3, .int (nI 2))] := hl
      refine lv_goto (tgt := 16) hx hb d_Mo_name_54 (by decide) ?_
      refine lv_iload hx hb d_Mo_name_16 (lv_at hl 0 rfl) ?_
      refine lv_iload_n hx hb d_Mo_name_18 rfl (lv_at hl 4 rfl) ?_
      refine lv_icmp_ge (tgt := 57) hx hb d_Mo_name_19 (by decide) (fun _ => ?_) (fun h121 => absurd ((nI_leI (by omega) (by omega)).mpr (by omega)) h121)
      refine lv_lload hx hb d_Mo_name_57 (lv_at hl 1 rfl) ?_
      exact zret_l C0 hr hAe hP hD hS ⟨by rw [nm_l (by decide)]; rfl, rfl⟩ d_Mo_name_59
    · skip
      refine lv_iload_n hx hb d_Mo_name_0 rfl (lv_at hl 2 rfl) ?_
      refine lv_iload_n hx hb d_Mo_name_1 rfl (lv_at hl 1 rfl) ?_
      refine lv_isub hx hb d_Mo_name_2 ?_
      refine zti (y := nI ((a0 + 3) - a0)) (pk_sub (by omega)) ?_
      refine zti (y := nI 3) (congrArg nI (by omega)) ?_
      refine lv_bipush (v := nI 6) hx hb d_Mo_name_3 (by decide) ?_
      refine lv_icmp_le (tgt := 10) hx hb d_Mo_name_5 (by decide) (fun _ => ?_) (fun h122 => absurd (by decide) h122)
      refine lv_lconst (v := lN 0) hx hb d_Mo_name_10 rfl ?_
      refine lv_lstore hx hb d_Mo_name_11 hl (by decide) rfl (fun ls hl => ?_)
      have hl : lv_has ls 7 [(4, .long (lN 0)), (0, .ref (ad 12)), (1, .int (nI a0)), (2, .int (nI (a0 + 3))), (3, .int (nI 2))] := hl
      refine lv_iload_n hx hb d_Mo_name_13 rfl (lv_at hl 2 rfl) ?_
      refine lv_istore hx hb d_Mo_name_14 hl (by decide) rfl (fun ls hl => ?_)
      have hl : lv_has ls 7 [(6, .int (nI a0)), (4, .long (lN 0)), (0, .ref (ad 12)), (1, .int (nI a0)), (2, .int (nI (a0 + 3))), (3, .int (nI 2))] := hl
      refine lv_iload hx hb d_Mo_name_16 (lv_at hl 0 rfl) ?_
      refine lv_iload_n hx hb d_Mo_name_18 rfl (lv_at hl 4 rfl) ?_
      refine lv_icmp_ge (tgt := 57) hx hb d_Mo_name_19 (by decide) (fun h123 => absurd ((nI_leI (by omega) (by omega)).mp h123) (by omega)) (fun _ => ?_)
      refine lv_lload hx hb d_Mo_name_22 (lv_at hl 1 rfl) ?_
      refine lv_bipush (v := nI 8) hx hb d_Mo_name_24 (by decide) ?_
      refine lv_lshl (v := lN (0 * 256)) hx hb d_Mo_name_26 zshl8 ?_
      refine lv_iload hx hb d_Mo_name_27 (lv_at hl 0 rfl) ?_
      refine lv_iload_n hx hb d_Mo_name_29 rfl (lv_at hl 3 rfl) ?_
      refine lv_isub hx hb d_Mo_name_30 ?_
      refine zti (y := nI (a0 - a0)) (pk_sub (by omega)) ?_
      refine zti (y := nI 0) (congrArg nI (by omega)) ?_
      refine lv_iload_n hx hb d_Mo_name_31 rfl (lv_at hl 5 rfl) ?_
      refine lv_icmp_ne (tgt := 40) hx hb d_Mo_name_32 (by decide) (fun _ => ?_) (fun h124 => absurd h124 (by decide))
      refine lv_aload_n hx hb d_Mo_name_40 rfl (lv_at hl 2 rfl) ?_
      refine va_get (D := D) (ci := 5) (v := .ref (ad 17)) (C := RMo) (T := TMo) (N := 21) hx hb ht inMo hown hK hP 0 rfl rfl 15 (by decide) (ht _ q561) (fun _ h9 => h9) rfl d_Mo_name_41 ?_
      refine lv_iload hx hb d_Mo_name_44 (lv_at hl 0 rfl) ?_
      refine va_cald hx hb hK hP 5 2 rfl rfl (vp_in_nI (n := a0) (by omega) (by decide)) d_Mo_name_46 ?_
      refine zti (y := nI (tx a0)) (nF_at (by omega)) ?_
      refine lv_i2l (v := lN (tx a0)) hx hb d_Mo_name_47 (nI_l (by omega)) ?_
      refine lv_lor hx hb d_Mo_name_48 ?_
      refine ztl (y := lN (0 * 256 + (tx a0))) (zlor (by omega) (by omega)) ?_
      refine lv_lstore hx hb d_Mo_name_49 hl (by decide) rfl (fun ls hl => ?_)
      have hl : lv_has ls 7 [(4, .long (lN (0 * 256 + (tx a0)))), (6, .int (nI a0)), (0, .ref (ad 12)), (1, .int (nI a0)), (2, .int (nI (a0 + 3))), (3, .int (nI 2))] := hl
      refine lv_iinc (k := 1) (v := nI (a0 + 1)) hx hb d_Mo_name_51 hl rfl (zinc _) (by decide) rfl (fun ls hl => ?_)
      have hl : lv_has ls 7 [(6, .int (nI (a0 + 1))), (4, .long (lN (0 * 256 + (tx a0)))), (0, .ref (ad 12)), (1, .int (nI a0)), (2, .int (nI (a0 + 3))), (3, .int (nI 2))] := hl
      refine lv_goto (tgt := 16) hx hb d_Mo_name_54 (by decide) ?_
      refine lv_iload hx hb d_Mo_name_16 (lv_at hl 0 rfl) ?_
      refine lv_iload_n hx hb d_Mo_name_18 rfl (lv_at hl 4 rfl) ?_
      refine lv_icmp_ge (tgt := 57) hx hb d_Mo_name_19 (by decide) (fun h125 => absurd ((nI_leI (by omega) (by omega)).mp h125) (by omega)) (fun _ => ?_)
      refine lv_lload hx hb d_Mo_name_22 (lv_at hl 1 rfl) ?_
      refine lv_bipush (v := nI 8) hx hb d_Mo_name_24 (by decide) ?_
      refine lv_lshl (v := lN ((0 * 256 + (tx a0)) * 256)) hx hb d_Mo_name_26 zshl8 ?_
      refine lv_iload hx hb d_Mo_name_27 (lv_at hl 0 rfl) ?_
      refine lv_iload_n hx hb d_Mo_name_29 rfl (lv_at hl 3 rfl) ?_
      refine lv_isub hx hb d_Mo_name_30 ?_
      refine zti (y := nI ((a0 + 1) - a0)) (pk_sub (by omega)) ?_
      refine zti (y := nI 1) (congrArg nI (by omega)) ?_
      refine lv_iload_n hx hb d_Mo_name_31 rfl (lv_at hl 5 rfl) ?_
      refine lv_icmp_ne (tgt := 40) hx hb d_Mo_name_32 (by decide) (fun _ => ?_) (fun h126 => absurd h126 (by decide))
      refine lv_aload_n hx hb d_Mo_name_40 rfl (lv_at hl 2 rfl) ?_
      refine va_get (D := D) (ci := 5) (v := .ref (ad 17)) (C := RMo) (T := TMo) (N := 21) hx hb ht inMo hown hK hP 0 rfl rfl 15 (by decide) (ht _ q561) (fun _ h9 => h9) rfl d_Mo_name_41 ?_
      refine lv_iload hx hb d_Mo_name_44 (lv_at hl 0 rfl) ?_
      refine va_cald hx hb hK hP 5 2 rfl rfl (vp_in_nI (n := a0 + 1) (by omega) (by decide)) d_Mo_name_46 ?_
      refine zti (y := nI (tx (a0 + 1))) (nF_at (by omega)) ?_
      refine lv_i2l (v := lN (tx (a0 + 1))) hx hb d_Mo_name_47 (nI_l (by omega)) ?_
      refine lv_lor hx hb d_Mo_name_48 ?_
      refine ztl (y := lN ((0 * 256 + (tx a0)) * 256 + (tx (a0 + 1)))) (zlor (by omega) (by omega)) ?_
      refine lv_lstore hx hb d_Mo_name_49 hl (by decide) rfl (fun ls hl => ?_)
      have hl : lv_has ls 7 [(4, .long (lN ((0 * 256 + (tx a0)) * 256 + (tx (a0 + 1))))), (6, .int (nI (a0 + 1))), (0, .ref (ad 12)), (1, .int (nI a0)), (2, .int (nI (a0 + 3))), (3, .int (nI 2))] := hl
      refine lv_iinc (k := 1) (v := nI ((a0 + 1) + 1)) hx hb d_Mo_name_51 hl rfl (zinc _) (by decide) rfl (fun ls hl => ?_)
      have hl : lv_has ls 7 [(6, .int (nI ((a0 + 1) + 1))), (4, .long (lN ((0 * 256 + (tx a0)) * 256 + (tx (a0 + 1))))), (0, .ref (ad 12)), (1, .int (nI a0)), (2, .int (nI (a0 + 3))), (3, .int (nI 2))] := hl
      refine lv_goto (tgt := 16) hx hb d_Mo_name_54 (by decide) ?_
      refine lv_iload hx hb d_Mo_name_16 (lv_at hl 0 rfl) ?_
      refine lv_iload_n hx hb d_Mo_name_18 rfl (lv_at hl 4 rfl) ?_
      refine lv_icmp_ge (tgt := 57) hx hb d_Mo_name_19 (by decide) (fun h127 => absurd ((nI_leI (by omega) (by omega)).mp h127) (by omega)) (fun _ => ?_)
      refine lv_lload hx hb d_Mo_name_22 (lv_at hl 1 rfl) ?_
      refine lv_bipush (v := nI 8) hx hb d_Mo_name_24 (by decide) ?_
      refine lv_lshl (v := lN (((0 * 256 + (tx a0)) * 256 + (tx (a0 + 1))) * 256)) hx hb d_Mo_name_26 zshl8 ?_
      refine lv_iload hx hb d_Mo_name_27 (lv_at hl 0 rfl) ?_
      refine lv_iload_n hx hb d_Mo_name_29 rfl (lv_at hl 3 rfl) ?_
      refine lv_isub hx hb d_Mo_name_30 ?_
      refine zti (y := nI (((a0 + 1) + 1) - a0)) (pk_sub (by omega)) ?_
      refine zti (y := nI 2) (congrArg nI (by omega)) ?_
      refine lv_iload_n hx hb d_Mo_name_31 rfl (lv_at hl 5 rfl) ?_
      refine lv_icmp_ne (tgt := 40) hx hb d_Mo_name_32 (by decide) (fun h128 => absurd (by decide) h128) (fun _ => ?_)
      refine lv_bipush (v := nI 35) hx hb d_Mo_name_35 (by decide) ?_
      refine lv_goto (tgt := 47) hx hb d_Mo_name_37 (by decide) ?_
      refine lv_i2l (v := lN 35) hx hb d_Mo_name_47 (nI_l (by omega)) ?_
      refine lv_lor hx hb d_Mo_name_48 ?_
      refine ztl (y := lN (((0 * 256 + (tx a0)) * 256 + (tx (a0 + 1))) * 256 + 35)) (zlor (by omega) (by omega)) ?_
      refine lv_lstore hx hb d_Mo_name_49 hl (by decide) rfl (fun ls hl => ?_)
      have hl : lv_has ls 7 [(4, .long (lN (((0 * 256 + (tx a0)) * 256 + (tx (a0 + 1))) * 256 + 35))), (6, .int (nI ((a0 + 1) + 1))), (0, .ref (ad 12)), (1, .int (nI a0)), (2, .int (nI (a0 + 3))), (3, .int (nI 2))] := hl
      refine lv_iinc (k := 1) (v := nI (((a0 + 1) + 1) + 1)) hx hb d_Mo_name_51 hl rfl (zinc _) (by decide) rfl (fun ls hl => ?_)
      have hl : lv_has ls 7 [(6, .int (nI (((a0 + 1) + 1) + 1))), (4, .long (lN (((0 * 256 + (tx a0)) * 256 + (tx (a0 + 1))) * 256 + 35))), (0, .ref (ad 12)), (1, .int (nI a0)), (2, .int (nI (a0 + 3))), (3, .int (nI 2))] := hl
      refine lv_goto (tgt := 16) hx hb d_Mo_name_54 (by decide) ?_
      refine lv_iload hx hb d_Mo_name_16 (lv_at hl 0 rfl) ?_
      refine lv_iload_n hx hb d_Mo_name_18 rfl (lv_at hl 4 rfl) ?_
      refine lv_icmp_ge (tgt := 57) hx hb d_Mo_name_19 (by decide) (fun _ => ?_) (fun h129 => absurd ((nI_leI (by omega) (by omega)).mpr (by omega)) h129)
      refine lv_lload hx hb d_Mo_name_57 (lv_at hl 1 rfl) ?_
      exact zret_l C0 hr hAe hP hD hS ⟨by rw [nm_l (by decide)]; rfl, rfl⟩ d_Mo_name_59
    · skip
      refine lv_iload_n hx hb d_Mo_name_0 rfl (lv_at hl 2 rfl) ?_
      refine lv_iload_n hx hb d_Mo_name_1 rfl (lv_at hl 1 rfl) ?_
      refine lv_isub hx hb d_Mo_name_2 ?_
      refine zti (y := nI ((a0 + 4) - a0)) (pk_sub (by omega)) ?_
      refine zti (y := nI 4) (congrArg nI (by omega)) ?_
      refine lv_bipush (v := nI 6) hx hb d_Mo_name_3 (by decide) ?_
      refine lv_icmp_le (tgt := 10) hx hb d_Mo_name_5 (by decide) (fun _ => ?_) (fun h130 => absurd (by decide) h130)
      refine lv_lconst (v := lN 0) hx hb d_Mo_name_10 rfl ?_
      refine lv_lstore hx hb d_Mo_name_11 hl (by decide) rfl (fun ls hl => ?_)
      have hl : lv_has ls 7 [(4, .long (lN 0)), (0, .ref (ad 12)), (1, .int (nI a0)), (2, .int (nI (a0 + 4))), (3, .int (nI 2))] := hl
      refine lv_iload_n hx hb d_Mo_name_13 rfl (lv_at hl 2 rfl) ?_
      refine lv_istore hx hb d_Mo_name_14 hl (by decide) rfl (fun ls hl => ?_)
      have hl : lv_has ls 7 [(6, .int (nI a0)), (4, .long (lN 0)), (0, .ref (ad 12)), (1, .int (nI a0)), (2, .int (nI (a0 + 4))), (3, .int (nI 2))] := hl
      refine lv_iload hx hb d_Mo_name_16 (lv_at hl 0 rfl) ?_
      refine lv_iload_n hx hb d_Mo_name_18 rfl (lv_at hl 4 rfl) ?_
      refine lv_icmp_ge (tgt := 57) hx hb d_Mo_name_19 (by decide) (fun h131 => absurd ((nI_leI (by omega) (by omega)).mp h131) (by omega)) (fun _ => ?_)
      refine lv_lload hx hb d_Mo_name_22 (lv_at hl 1 rfl) ?_
      refine lv_bipush (v := nI 8) hx hb d_Mo_name_24 (by decide) ?_
      refine lv_lshl (v := lN (0 * 256)) hx hb d_Mo_name_26 zshl8 ?_
      refine lv_iload hx hb d_Mo_name_27 (lv_at hl 0 rfl) ?_
      refine lv_iload_n hx hb d_Mo_name_29 rfl (lv_at hl 3 rfl) ?_
      refine lv_isub hx hb d_Mo_name_30 ?_
      refine zti (y := nI (a0 - a0)) (pk_sub (by omega)) ?_
      refine zti (y := nI 0) (congrArg nI (by omega)) ?_
      refine lv_iload_n hx hb d_Mo_name_31 rfl (lv_at hl 5 rfl) ?_
      refine lv_icmp_ne (tgt := 40) hx hb d_Mo_name_32 (by decide) (fun _ => ?_) (fun h132 => absurd h132 (by decide))
      refine lv_aload_n hx hb d_Mo_name_40 rfl (lv_at hl 2 rfl) ?_
      refine va_get (D := D) (ci := 5) (v := .ref (ad 17)) (C := RMo) (T := TMo) (N := 21) hx hb ht inMo hown hK hP 0 rfl rfl 15 (by decide) (ht _ q561) (fun _ h9 => h9) rfl d_Mo_name_41 ?_
      refine lv_iload hx hb d_Mo_name_44 (lv_at hl 0 rfl) ?_
      refine va_cald hx hb hK hP 5 2 rfl rfl (vp_in_nI (n := a0) (by omega) (by decide)) d_Mo_name_46 ?_
      refine zti (y := nI (tx a0)) (nF_at (by omega)) ?_
      refine lv_i2l (v := lN (tx a0)) hx hb d_Mo_name_47 (nI_l (by omega)) ?_
      refine lv_lor hx hb d_Mo_name_48 ?_
      refine ztl (y := lN (0 * 256 + (tx a0))) (zlor (by omega) (by omega)) ?_
      refine lv_lstore hx hb d_Mo_name_49 hl (by decide) rfl (fun ls hl => ?_)
      have hl : lv_has ls 7 [(4, .long (lN (0 * 256 + (tx a0)))), (6, .int (nI a0)), (0, .ref (ad 12)), (1, .int (nI a0)), (2, .int (nI (a0 + 4))), (3, .int (nI 2))] := hl
      refine lv_iinc (k := 1) (v := nI (a0 + 1)) hx hb d_Mo_name_51 hl rfl (zinc _) (by decide) rfl (fun ls hl => ?_)
      have hl : lv_has ls 7 [(6, .int (nI (a0 + 1))), (4, .long (lN (0 * 256 + (tx a0)))), (0, .ref (ad 12)), (1, .int (nI a0)), (2, .int (nI (a0 + 4))), (3, .int (nI 2))] := hl
      refine lv_goto (tgt := 16) hx hb d_Mo_name_54 (by decide) ?_
      refine lv_iload hx hb d_Mo_name_16 (lv_at hl 0 rfl) ?_
      refine lv_iload_n hx hb d_Mo_name_18 rfl (lv_at hl 4 rfl) ?_
      refine lv_icmp_ge (tgt := 57) hx hb d_Mo_name_19 (by decide) (fun h133 => absurd ((nI_leI (by omega) (by omega)).mp h133) (by omega)) (fun _ => ?_)
      refine lv_lload hx hb d_Mo_name_22 (lv_at hl 1 rfl) ?_
      refine lv_bipush (v := nI 8) hx hb d_Mo_name_24 (by decide) ?_
      refine lv_lshl (v := lN ((0 * 256 + (tx a0)) * 256)) hx hb d_Mo_name_26 zshl8 ?_
      refine lv_iload hx hb d_Mo_name_27 (lv_at hl 0 rfl) ?_
      refine lv_iload_n hx hb d_Mo_name_29 rfl (lv_at hl 3 rfl) ?_
      refine lv_isub hx hb d_Mo_name_30 ?_
      refine zti (y := nI ((a0 + 1) - a0)) (pk_sub (by omega)) ?_
      refine zti (y := nI 1) (congrArg nI (by omega)) ?_
      refine lv_iload_n hx hb d_Mo_name_31 rfl (lv_at hl 5 rfl) ?_
      refine lv_icmp_ne (tgt := 40) hx hb d_Mo_name_32 (by decide) (fun _ => ?_) (fun h134 => absurd h134 (by decide))
      refine lv_aload_n hx hb d_Mo_name_40 rfl (lv_at hl 2 rfl) ?_
      refine va_get (D := D) (ci := 5) (v := .ref (ad 17)) (C := RMo) (T := TMo) (N := 21) hx hb ht inMo hown hK hP 0 rfl rfl 15 (by decide) (ht _ q561) (fun _ h9 => h9) rfl d_Mo_name_41 ?_
      refine lv_iload hx hb d_Mo_name_44 (lv_at hl 0 rfl) ?_
      refine va_cald hx hb hK hP 5 2 rfl rfl (vp_in_nI (n := a0 + 1) (by omega) (by decide)) d_Mo_name_46 ?_
      refine zti (y := nI (tx (a0 + 1))) (nF_at (by omega)) ?_
      refine lv_i2l (v := lN (tx (a0 + 1))) hx hb d_Mo_name_47 (nI_l (by omega)) ?_
      refine lv_lor hx hb d_Mo_name_48 ?_
      refine ztl (y := lN ((0 * 256 + (tx a0)) * 256 + (tx (a0 + 1)))) (zlor (by omega) (by omega)) ?_
      refine lv_lstore hx hb d_Mo_name_49 hl (by decide) rfl (fun ls hl => ?_)
      have hl : lv_has ls 7 [(4, .long (lN ((0 * 256 + (tx a0)) * 256 + (tx (a0 + 1))))), (6, .int (nI (a0 + 1))), (0, .ref (ad 12)), (1, .int (nI a0)), (2, .int (nI (a0 + 4))), (3, .int (nI 2))] := hl
      refine lv_iinc (k := 1) (v := nI ((a0 + 1) + 1)) hx hb d_Mo_name_51 hl rfl (zinc _) (by decide) rfl (fun ls hl => ?_)
      have hl : lv_has ls 7 [(6, .int (nI ((a0 + 1) + 1))), (4, .long (lN ((0 * 256 + (tx a0)) * 256 + (tx (a0 + 1))))), (0, .ref (ad 12)), (1, .int (nI a0)), (2, .int (nI (a0 + 4))), (3, .int (nI 2))] := hl
      refine lv_goto (tgt := 16) hx hb d_Mo_name_54 (by decide) ?_
      refine lv_iload hx hb d_Mo_name_16 (lv_at hl 0 rfl) ?_
      refine lv_iload_n hx hb d_Mo_name_18 rfl (lv_at hl 4 rfl) ?_
      refine lv_icmp_ge (tgt := 57) hx hb d_Mo_name_19 (by decide) (fun h135 => absurd ((nI_leI (by omega) (by omega)).mp h135) (by omega)) (fun _ => ?_)
      refine lv_lload hx hb d_Mo_name_22 (lv_at hl 1 rfl) ?_
      refine lv_bipush (v := nI 8) hx hb d_Mo_name_24 (by decide) ?_
      refine lv_lshl (v := lN (((0 * 256 + (tx a0)) * 256 + (tx (a0 + 1))) * 256)) hx hb d_Mo_name_26 zshl8 ?_
      refine lv_iload hx hb d_Mo_name_27 (lv_at hl 0 rfl) ?_
      refine lv_iload_n hx hb d_Mo_name_29 rfl (lv_at hl 3 rfl) ?_
      refine lv_isub hx hb d_Mo_name_30 ?_
      refine zti (y := nI (((a0 + 1) + 1) - a0)) (pk_sub (by omega)) ?_
      refine zti (y := nI 2) (congrArg nI (by omega)) ?_
      refine lv_iload_n hx hb d_Mo_name_31 rfl (lv_at hl 5 rfl) ?_
      refine lv_icmp_ne (tgt := 40) hx hb d_Mo_name_32 (by decide) (fun h136 => absurd (by decide) h136) (fun _ => ?_)
      refine lv_bipush (v := nI 35) hx hb d_Mo_name_35 (by decide) ?_
      refine lv_goto (tgt := 47) hx hb d_Mo_name_37 (by decide) ?_
      refine lv_i2l (v := lN 35) hx hb d_Mo_name_47 (nI_l (by omega)) ?_
      refine lv_lor hx hb d_Mo_name_48 ?_
      refine ztl (y := lN (((0 * 256 + (tx a0)) * 256 + (tx (a0 + 1))) * 256 + 35)) (zlor (by omega) (by omega)) ?_
      refine lv_lstore hx hb d_Mo_name_49 hl (by decide) rfl (fun ls hl => ?_)
      have hl : lv_has ls 7 [(4, .long (lN (((0 * 256 + (tx a0)) * 256 + (tx (a0 + 1))) * 256 + 35))), (6, .int (nI ((a0 + 1) + 1))), (0, .ref (ad 12)), (1, .int (nI a0)), (2, .int (nI (a0 + 4))), (3, .int (nI 2))] := hl
      refine lv_iinc (k := 1) (v := nI (((a0 + 1) + 1) + 1)) hx hb d_Mo_name_51 hl rfl (zinc _) (by decide) rfl (fun ls hl => ?_)
      have hl : lv_has ls 7 [(6, .int (nI (((a0 + 1) + 1) + 1))), (4, .long (lN (((0 * 256 + (tx a0)) * 256 + (tx (a0 + 1))) * 256 + 35))), (0, .ref (ad 12)), (1, .int (nI a0)), (2, .int (nI (a0 + 4))), (3, .int (nI 2))] := hl
      refine lv_goto (tgt := 16) hx hb d_Mo_name_54 (by decide) ?_
      refine lv_iload hx hb d_Mo_name_16 (lv_at hl 0 rfl) ?_
      refine lv_iload_n hx hb d_Mo_name_18 rfl (lv_at hl 4 rfl) ?_
      refine lv_icmp_ge (tgt := 57) hx hb d_Mo_name_19 (by decide) (fun h137 => absurd ((nI_leI (by omega) (by omega)).mp h137) (by omega)) (fun _ => ?_)
      refine lv_lload hx hb d_Mo_name_22 (lv_at hl 1 rfl) ?_
      refine lv_bipush (v := nI 8) hx hb d_Mo_name_24 (by decide) ?_
      refine lv_lshl (v := lN ((((0 * 256 + (tx a0)) * 256 + (tx (a0 + 1))) * 256 + 35) * 256)) hx hb d_Mo_name_26 zshl8 ?_
      refine lv_iload hx hb d_Mo_name_27 (lv_at hl 0 rfl) ?_
      refine lv_iload_n hx hb d_Mo_name_29 rfl (lv_at hl 3 rfl) ?_
      refine lv_isub hx hb d_Mo_name_30 ?_
      refine zti (y := nI ((((a0 + 1) + 1) + 1) - a0)) (pk_sub (by omega)) ?_
      refine zti (y := nI 3) (congrArg nI (by omega)) ?_
      refine lv_iload_n hx hb d_Mo_name_31 rfl (lv_at hl 5 rfl) ?_
      refine lv_icmp_ne (tgt := 40) hx hb d_Mo_name_32 (by decide) (fun _ => ?_) (fun h138 => absurd h138 (by decide))
      refine lv_aload_n hx hb d_Mo_name_40 rfl (lv_at hl 2 rfl) ?_
      refine va_get (D := D) (ci := 5) (v := .ref (ad 17)) (C := RMo) (T := TMo) (N := 21) hx hb ht inMo hown hK hP 0 rfl rfl 15 (by decide) (ht _ q561) (fun _ h9 => h9) rfl d_Mo_name_41 ?_
      refine lv_iload hx hb d_Mo_name_44 (lv_at hl 0 rfl) ?_
      refine va_cald hx hb hK hP 5 2 rfl rfl (vp_in_nI (n := ((a0 + 1) + 1) + 1) (by omega) (by decide)) d_Mo_name_46 ?_
      refine zti (y := nI (tx (((a0 + 1) + 1) + 1))) (nF_at (by omega)) ?_
      refine lv_i2l (v := lN (tx (((a0 + 1) + 1) + 1))) hx hb d_Mo_name_47 (nI_l (by omega)) ?_
      refine lv_lor hx hb d_Mo_name_48 ?_
      refine ztl (y := lN ((((0 * 256 + (tx a0)) * 256 + (tx (a0 + 1))) * 256 + 35) * 256 + (tx (((a0 + 1) + 1) + 1)))) (zlor (by omega) (by omega)) ?_
      refine lv_lstore hx hb d_Mo_name_49 hl (by decide) rfl (fun ls hl => ?_)
      have hl : lv_has ls 7 [(4, .long (lN ((((0 * 256 + (tx a0)) * 256 + (tx (a0 + 1))) * 256 + 35) * 256 + (tx (((a0 + 1) + 1) + 1))))), (6, .int (nI (((a0 + 1) + 1) + 1))), (0, .ref (ad 12)), (1, .int (nI a0)), (2, .int (nI (a0 + 4))), (3, .int (nI 2))] := hl
      refine lv_iinc (k := 1) (v := nI ((((a0 + 1) + 1) + 1) + 1)) hx hb d_Mo_name_51 hl rfl (zinc _) (by decide) rfl (fun ls hl => ?_)
      have hl : lv_has ls 7 [(6, .int (nI ((((a0 + 1) + 1) + 1) + 1))), (4, .long (lN ((((0 * 256 + (tx a0)) * 256 + (tx (a0 + 1))) * 256 + 35) * 256 + (tx (((a0 + 1) + 1) + 1))))), (0, .ref (ad 12)), (1, .int (nI a0)), (2, .int (nI (a0 + 4))), (3, .int (nI 2))] := hl
      refine lv_goto (tgt := 16) hx hb d_Mo_name_54 (by decide) ?_
      refine lv_iload hx hb d_Mo_name_16 (lv_at hl 0 rfl) ?_
      refine lv_iload_n hx hb d_Mo_name_18 rfl (lv_at hl 4 rfl) ?_
      refine lv_icmp_ge (tgt := 57) hx hb d_Mo_name_19 (by decide) (fun _ => ?_) (fun h139 => absurd ((nI_leI (by omega) (by omega)).mpr (by omega)) h139)
      refine lv_lload hx hb d_Mo_name_57 (lv_at hl 1 rfl) ?_
      exact zret_l C0 hr hAe hP hD hS ⟨by rw [nm_l (by decide)]; rfl, rfl⟩ d_Mo_name_59
    · skip
      refine lv_iload_n hx hb d_Mo_name_0 rfl (lv_at hl 2 rfl) ?_
      refine lv_iload_n hx hb d_Mo_name_1 rfl (lv_at hl 1 rfl) ?_
      refine lv_isub hx hb d_Mo_name_2 ?_
      refine zti (y := nI ((a0 + 5) - a0)) (pk_sub (by omega)) ?_
      refine zti (y := nI 5) (congrArg nI (by omega)) ?_
      refine lv_bipush (v := nI 6) hx hb d_Mo_name_3 (by decide) ?_
      refine lv_icmp_le (tgt := 10) hx hb d_Mo_name_5 (by decide) (fun _ => ?_) (fun h140 => absurd (by decide) h140)
      refine lv_lconst (v := lN 0) hx hb d_Mo_name_10 rfl ?_
      refine lv_lstore hx hb d_Mo_name_11 hl (by decide) rfl (fun ls hl => ?_)
      have hl : lv_has ls 7 [(4, .long (lN 0)), (0, .ref (ad 12)), (1, .int (nI a0)), (2, .int (nI (a0 + 5))), (3, .int (nI 2))] := hl
      refine lv_iload_n hx hb d_Mo_name_13 rfl (lv_at hl 2 rfl) ?_
      refine lv_istore hx hb d_Mo_name_14 hl (by decide) rfl (fun ls hl => ?_)
      have hl : lv_has ls 7 [(6, .int (nI a0)), (4, .long (lN 0)), (0, .ref (ad 12)), (1, .int (nI a0)), (2, .int (nI (a0 + 5))), (3, .int (nI 2))] := hl
      refine lv_iload hx hb d_Mo_name_16 (lv_at hl 0 rfl) ?_
      refine lv_iload_n hx hb d_Mo_name_18 rfl (lv_at hl 4 rfl) ?_
      refine lv_icmp_ge (tgt := 57) hx hb d_Mo_name_19 (by decide) (fun h141 => absurd ((nI_leI (by omega) (by omega)).mp h141) (by omega)) (fun _ => ?_)
      refine lv_lload hx hb d_Mo_name_22 (lv_at hl 1 rfl) ?_
      refine lv_bipush (v := nI 8) hx hb d_Mo_name_24 (by decide) ?_
      refine lv_lshl (v := lN (0 * 256)) hx hb d_Mo_name_26 zshl8 ?_
      refine lv_iload hx hb d_Mo_name_27 (lv_at hl 0 rfl) ?_
      refine lv_iload_n hx hb d_Mo_name_29 rfl (lv_at hl 3 rfl) ?_
      refine lv_isub hx hb d_Mo_name_30 ?_
      refine zti (y := nI (a0 - a0)) (pk_sub (by omega)) ?_
      refine zti (y := nI 0) (congrArg nI (by omega)) ?_
      refine lv_iload_n hx hb d_Mo_name_31 rfl (lv_at hl 5 rfl) ?_
      refine lv_icmp_ne (tgt := 40) hx hb d_Mo_name_32 (by decide) (fun _ => ?_) (fun h142 => absurd h142 (by decide))
      refine lv_aload_n hx hb d_Mo_name_40 rfl (lv_at hl 2 rfl) ?_
      refine va_get (D := D) (ci := 5) (v := .ref (ad 17)) (C := RMo) (T := TMo) (N := 21) hx hb ht inMo hown hK hP 0 rfl rfl 15 (by decide) (ht _ q561) (fun _ h9 => h9) rfl d_Mo_name_41 ?_
      refine lv_iload hx hb d_Mo_name_44 (lv_at hl 0 rfl) ?_
      refine va_cald hx hb hK hP 5 2 rfl rfl (vp_in_nI (n := a0) (by omega) (by decide)) d_Mo_name_46 ?_
      refine zti (y := nI (tx a0)) (nF_at (by omega)) ?_
      refine lv_i2l (v := lN (tx a0)) hx hb d_Mo_name_47 (nI_l (by omega)) ?_
      refine lv_lor hx hb d_Mo_name_48 ?_
      refine ztl (y := lN (0 * 256 + (tx a0))) (zlor (by omega) (by omega)) ?_
      refine lv_lstore hx hb d_Mo_name_49 hl (by decide) rfl (fun ls hl => ?_)
      have hl : lv_has ls 7 [(4, .long (lN (0 * 256 + (tx a0)))), (6, .int (nI a0)), (0, .ref (ad 12)), (1, .int (nI a0)), (2, .int (nI (a0 + 5))), (3, .int (nI 2))] := hl
      refine lv_iinc (k := 1) (v := nI (a0 + 1)) hx hb d_Mo_name_51 hl rfl (zinc _) (by decide) rfl (fun ls hl => ?_)
      have hl : lv_has ls 7 [(6, .int (nI (a0 + 1))), (4, .long (lN (0 * 256 + (tx a0)))), (0, .ref (ad 12)), (1, .int (nI a0)), (2, .int (nI (a0 + 5))), (3, .int (nI 2))] := hl
      refine lv_goto (tgt := 16) hx hb d_Mo_name_54 (by decide) ?_
      refine lv_iload hx hb d_Mo_name_16 (lv_at hl 0 rfl) ?_
      refine lv_iload_n hx hb d_Mo_name_18 rfl (lv_at hl 4 rfl) ?_
      refine lv_icmp_ge (tgt := 57) hx hb d_Mo_name_19 (by decide) (fun h143 => absurd ((nI_leI (by omega) (by omega)).mp h143) (by omega)) (fun _ => ?_)
      refine lv_lload hx hb d_Mo_name_22 (lv_at hl 1 rfl) ?_
      refine lv_bipush (v := nI 8) hx hb d_Mo_name_24 (by decide) ?_
      refine lv_lshl (v := lN ((0 * 256 + (tx a0)) * 256)) hx hb d_Mo_name_26 zshl8 ?_
      refine lv_iload hx hb d_Mo_name_27 (lv_at hl 0 rfl) ?_
      refine lv_iload_n hx hb d_Mo_name_29 rfl (lv_at hl 3 rfl) ?_
      refine lv_isub hx hb d_Mo_name_30 ?_
      refine zti (y := nI ((a0 + 1) - a0)) (pk_sub (by omega)) ?_
      refine zti (y := nI 1) (congrArg nI (by omega)) ?_
      refine lv_iload_n hx hb d_Mo_name_31 rfl (lv_at hl 5 rfl) ?_
      refine lv_icmp_ne (tgt := 40) hx hb d_Mo_name_32 (by decide) (fun _ => ?_) (fun h144 => absurd h144 (by decide))
      refine lv_aload_n hx hb d_Mo_name_40 rfl (lv_at hl 2 rfl) ?_
      refine va_get (D := D) (ci := 5) (v := .ref (ad 17)) (C := RMo) (T := TMo) (N := 21) hx hb ht inMo hown hK hP 0 rfl rfl 15 (by decide) (ht _ q561) (fun _ h9 => h9) rfl d_Mo_name_41 ?_
      refine lv_iload hx hb d_Mo_name_44 (lv_at hl 0 rfl) ?_
      refine va_cald hx hb hK hP 5 2 rfl rfl (vp_in_nI (n := a0 + 1) (by omega) (by decide)) d_Mo_name_46 ?_
      refine zti (y := nI (tx (a0 + 1))) (nF_at (by omega)) ?_
      refine lv_i2l (v := lN (tx (a0 + 1))) hx hb d_Mo_name_47 (nI_l (by omega)) ?_
      refine lv_lor hx hb d_Mo_name_48 ?_
      refine ztl (y := lN ((0 * 256 + (tx a0)) * 256 + (tx (a0 + 1)))) (zlor (by omega) (by omega)) ?_
      refine lv_lstore hx hb d_Mo_name_49 hl (by decide) rfl (fun ls hl => ?_)
      have hl : lv_has ls 7 [(4, .long (lN ((0 * 256 + (tx a0)) * 256 + (tx (a0 + 1))))), (6, .int (nI (a0 + 1))), (0, .ref (ad 12)), (1, .int (nI a0)), (2, .int (nI (a0 + 5))), (3, .int (nI 2))] := hl
      refine lv_iinc (k := 1) (v := nI ((a0 + 1) + 1)) hx hb d_Mo_name_51 hl rfl (zinc _) (by decide) rfl (fun ls hl => ?_)
      have hl : lv_has ls 7 [(6, .int (nI ((a0 + 1) + 1))), (4, .long (lN ((0 * 256 + (tx a0)) * 256 + (tx (a0 + 1))))), (0, .ref (ad 12)), (1, .int (nI a0)), (2, .int (nI (a0 + 5))), (3, .int (nI 2))] := hl
      refine lv_goto (tgt := 16) hx hb d_Mo_name_54 (by decide) ?_
      refine lv_iload hx hb d_Mo_name_16 (lv_at hl 0 rfl) ?_
      refine lv_iload_n hx hb d_Mo_name_18 rfl (lv_at hl 4 rfl) ?_
      refine lv_icmp_ge (tgt := 57) hx hb d_Mo_name_19 (by decide) (fun h145 => absurd ((nI_leI (by omega) (by omega)).mp h145) (by omega)) (fun _ => ?_)
      refine lv_lload hx hb d_Mo_name_22 (lv_at hl 1 rfl) ?_
      refine lv_bipush (v := nI 8) hx hb d_Mo_name_24 (by decide) ?_
      refine lv_lshl (v := lN (((0 * 256 + (tx a0)) * 256 + (tx (a0 + 1))) * 256)) hx hb d_Mo_name_26 zshl8 ?_
      refine lv_iload hx hb d_Mo_name_27 (lv_at hl 0 rfl) ?_
      refine lv_iload_n hx hb d_Mo_name_29 rfl (lv_at hl 3 rfl) ?_
      refine lv_isub hx hb d_Mo_name_30 ?_
      refine zti (y := nI (((a0 + 1) + 1) - a0)) (pk_sub (by omega)) ?_
      refine zti (y := nI 2) (congrArg nI (by omega)) ?_
      refine lv_iload_n hx hb d_Mo_name_31 rfl (lv_at hl 5 rfl) ?_
      refine lv_icmp_ne (tgt := 40) hx hb d_Mo_name_32 (by decide) (fun h146 => absurd (by decide) h146) (fun _ => ?_)
      refine lv_bipush (v := nI 35) hx hb d_Mo_name_35 (by decide) ?_
      refine lv_goto (tgt := 47) hx hb d_Mo_name_37 (by decide) ?_
      refine lv_i2l (v := lN 35) hx hb d_Mo_name_47 (nI_l (by omega)) ?_
      refine lv_lor hx hb d_Mo_name_48 ?_
      refine ztl (y := lN (((0 * 256 + (tx a0)) * 256 + (tx (a0 + 1))) * 256 + 35)) (zlor (by omega) (by omega)) ?_
      refine lv_lstore hx hb d_Mo_name_49 hl (by decide) rfl (fun ls hl => ?_)
      have hl : lv_has ls 7 [(4, .long (lN (((0 * 256 + (tx a0)) * 256 + (tx (a0 + 1))) * 256 + 35))), (6, .int (nI ((a0 + 1) + 1))), (0, .ref (ad 12)), (1, .int (nI a0)), (2, .int (nI (a0 + 5))), (3, .int (nI 2))] := hl
      refine lv_iinc (k := 1) (v := nI (((a0 + 1) + 1) + 1)) hx hb d_Mo_name_51 hl rfl (zinc _) (by decide) rfl (fun ls hl => ?_)
      have hl : lv_has ls 7 [(6, .int (nI (((a0 + 1) + 1) + 1))), (4, .long (lN (((0 * 256 + (tx a0)) * 256 + (tx (a0 + 1))) * 256 + 35))), (0, .ref (ad 12)), (1, .int (nI a0)), (2, .int (nI (a0 + 5))), (3, .int (nI 2))] := hl
      refine lv_goto (tgt := 16) hx hb d_Mo_name_54 (by decide) ?_
      refine lv_iload hx hb d_Mo_name_16 (lv_at hl 0 rfl) ?_
      refine lv_iload_n hx hb d_Mo_name_18 rfl (lv_at hl 4 rfl) ?_
      refine lv_icmp_ge (tgt := 57) hx hb d_Mo_name_19 (by decide) (fun h147 => absurd ((nI_leI (by omega) (by omega)).mp h147) (by omega)) (fun _ => ?_)
      refine lv_lload hx hb d_Mo_name_22 (lv_at hl 1 rfl) ?_
      refine lv_bipush (v := nI 8) hx hb d_Mo_name_24 (by decide) ?_
      refine lv_lshl (v := lN ((((0 * 256 + (tx a0)) * 256 + (tx (a0 + 1))) * 256 + 35) * 256)) hx hb d_Mo_name_26 zshl8 ?_
      refine lv_iload hx hb d_Mo_name_27 (lv_at hl 0 rfl) ?_
      refine lv_iload_n hx hb d_Mo_name_29 rfl (lv_at hl 3 rfl) ?_
      refine lv_isub hx hb d_Mo_name_30 ?_
      refine zti (y := nI ((((a0 + 1) + 1) + 1) - a0)) (pk_sub (by omega)) ?_
      refine zti (y := nI 3) (congrArg nI (by omega)) ?_
      refine lv_iload_n hx hb d_Mo_name_31 rfl (lv_at hl 5 rfl) ?_
      refine lv_icmp_ne (tgt := 40) hx hb d_Mo_name_32 (by decide) (fun _ => ?_) (fun h148 => absurd h148 (by decide))
      refine lv_aload_n hx hb d_Mo_name_40 rfl (lv_at hl 2 rfl) ?_
      refine va_get (D := D) (ci := 5) (v := .ref (ad 17)) (C := RMo) (T := TMo) (N := 21) hx hb ht inMo hown hK hP 0 rfl rfl 15 (by decide) (ht _ q561) (fun _ h9 => h9) rfl d_Mo_name_41 ?_
      refine lv_iload hx hb d_Mo_name_44 (lv_at hl 0 rfl) ?_
      refine va_cald hx hb hK hP 5 2 rfl rfl (vp_in_nI (n := ((a0 + 1) + 1) + 1) (by omega) (by decide)) d_Mo_name_46 ?_
      refine zti (y := nI (tx (((a0 + 1) + 1) + 1))) (nF_at (by omega)) ?_
      refine lv_i2l (v := lN (tx (((a0 + 1) + 1) + 1))) hx hb d_Mo_name_47 (nI_l (by omega)) ?_
      refine lv_lor hx hb d_Mo_name_48 ?_
      refine ztl (y := lN ((((0 * 256 + (tx a0)) * 256 + (tx (a0 + 1))) * 256 + 35) * 256 + (tx (((a0 + 1) + 1) + 1)))) (zlor (by omega) (by omega)) ?_
      refine lv_lstore hx hb d_Mo_name_49 hl (by decide) rfl (fun ls hl => ?_)
      have hl : lv_has ls 7 [(4, .long (lN ((((0 * 256 + (tx a0)) * 256 + (tx (a0 + 1))) * 256 + 35) * 256 + (tx (((a0 + 1) + 1) + 1))))), (6, .int (nI (((a0 + 1) + 1) + 1))), (0, .ref (ad 12)), (1, .int (nI a0)), (2, .int (nI (a0 + 5))), (3, .int (nI 2))] := hl
      refine lv_iinc (k := 1) (v := nI ((((a0 + 1) + 1) + 1) + 1)) hx hb d_Mo_name_51 hl rfl (zinc _) (by decide) rfl (fun ls hl => ?_)
      have hl : lv_has ls 7 [(6, .int (nI ((((a0 + 1) + 1) + 1) + 1))), (4, .long (lN ((((0 * 256 + (tx a0)) * 256 + (tx (a0 + 1))) * 256 + 35) * 256 + (tx (((a0 + 1) + 1) + 1))))), (0, .ref (ad 12)), (1, .int (nI a0)), (2, .int (nI (a0 + 5))), (3, .int (nI 2))] := hl
      refine lv_goto (tgt := 16) hx hb d_Mo_name_54 (by decide) ?_
      refine lv_iload hx hb d_Mo_name_16 (lv_at hl 0 rfl) ?_
      refine lv_iload_n hx hb d_Mo_name_18 rfl (lv_at hl 4 rfl) ?_
      refine lv_icmp_ge (tgt := 57) hx hb d_Mo_name_19 (by decide) (fun h149 => absurd ((nI_leI (by omega) (by omega)).mp h149) (by omega)) (fun _ => ?_)
      refine lv_lload hx hb d_Mo_name_22 (lv_at hl 1 rfl) ?_
      refine lv_bipush (v := nI 8) hx hb d_Mo_name_24 (by decide) ?_
      refine lv_lshl (v := lN (((((0 * 256 + (tx a0)) * 256 + (tx (a0 + 1))) * 256 + 35) * 256 + (tx (((a0 + 1) + 1) + 1))) * 256)) hx hb d_Mo_name_26 zshl8 ?_
      refine lv_iload hx hb d_Mo_name_27 (lv_at hl 0 rfl) ?_
      refine lv_iload_n hx hb d_Mo_name_29 rfl (lv_at hl 3 rfl) ?_
      refine lv_isub hx hb d_Mo_name_30 ?_
      refine zti (y := nI (((((a0 + 1) + 1) + 1) + 1) - a0)) (pk_sub (by omega)) ?_
      refine zti (y := nI 4) (congrArg nI (by omega)) ?_
      refine lv_iload_n hx hb d_Mo_name_31 rfl (lv_at hl 5 rfl) ?_
      refine lv_icmp_ne (tgt := 40) hx hb d_Mo_name_32 (by decide) (fun _ => ?_) (fun h150 => absurd h150 (by decide))
      refine lv_aload_n hx hb d_Mo_name_40 rfl (lv_at hl 2 rfl) ?_
      refine va_get (D := D) (ci := 5) (v := .ref (ad 17)) (C := RMo) (T := TMo) (N := 21) hx hb ht inMo hown hK hP 0 rfl rfl 15 (by decide) (ht _ q561) (fun _ h9 => h9) rfl d_Mo_name_41 ?_
      refine lv_iload hx hb d_Mo_name_44 (lv_at hl 0 rfl) ?_
      refine va_cald hx hb hK hP 5 2 rfl rfl (vp_in_nI (n := (((a0 + 1) + 1) + 1) + 1) (by omega) (by decide)) d_Mo_name_46 ?_
      refine zti (y := nI (tx ((((a0 + 1) + 1) + 1) + 1))) (nF_at (by omega)) ?_
      refine lv_i2l (v := lN (tx ((((a0 + 1) + 1) + 1) + 1))) hx hb d_Mo_name_47 (nI_l (by omega)) ?_
      refine lv_lor hx hb d_Mo_name_48 ?_
      refine ztl (y := lN (((((0 * 256 + (tx a0)) * 256 + (tx (a0 + 1))) * 256 + 35) * 256 + (tx (((a0 + 1) + 1) + 1))) * 256 + (tx ((((a0 + 1) + 1) + 1) + 1)))) (zlor (by omega) (by omega)) ?_
      refine lv_lstore hx hb d_Mo_name_49 hl (by decide) rfl (fun ls hl => ?_)
      have hl : lv_has ls 7 [(4, .long (lN (((((0 * 256 + (tx a0)) * 256 + (tx (a0 + 1))) * 256 + 35) * 256 + (tx (((a0 + 1) + 1) + 1))) * 256 + (tx ((((a0 + 1) + 1) + 1) + 1))))), (6, .int (nI ((((a0 + 1) + 1) + 1) + 1))), (0, .ref (ad 12)), (1, .int (nI a0)), (2, .int (nI (a0 + 5))), (3, .int (nI 2))] := hl
      refine lv_iinc (k := 1) (v := nI (((((a0 + 1) + 1) + 1) + 1) + 1)) hx hb d_Mo_name_51 hl rfl (zinc _) (by decide) rfl (fun ls hl => ?_)
      have hl : lv_has ls 7 [(6, .int (nI (((((a0 + 1) + 1) + 1) + 1) + 1))), (4, .long (lN (((((0 * 256 + (tx a0)) * 256 + (tx (a0 + 1))) * 256 + 35) * 256 + (tx (((a0 + 1) + 1) + 1))) * 256 + (tx ((((a0 + 1) + 1) + 1) + 1))))), (0, .ref (ad 12)), (1, .int (nI a0)), (2, .int (nI (a0 + 5))), (3, .int (nI 2))] := hl
      refine lv_goto (tgt := 16) hx hb d_Mo_name_54 (by decide) ?_
      refine lv_iload hx hb d_Mo_name_16 (lv_at hl 0 rfl) ?_
      refine lv_iload_n hx hb d_Mo_name_18 rfl (lv_at hl 4 rfl) ?_
      refine lv_icmp_ge (tgt := 57) hx hb d_Mo_name_19 (by decide) (fun _ => ?_) (fun h151 => absurd ((nI_leI (by omega) (by omega)).mpr (by omega)) h151)
      refine lv_lload hx hb d_Mo_name_57 (lv_at hl 1 rfl) ?_
      exact zret_l C0 hr hAe hP hD hS ⟨by rw [nm_l (by decide)]; rfl, rfl⟩ d_Mo_name_59
    · skip
      refine lv_iload_n hx hb d_Mo_name_0 rfl (lv_at hl 2 rfl) ?_
      refine lv_iload_n hx hb d_Mo_name_1 rfl (lv_at hl 1 rfl) ?_
      refine lv_isub hx hb d_Mo_name_2 ?_
      refine zti (y := nI ((a0 + 6) - a0)) (pk_sub (by omega)) ?_
      refine zti (y := nI 6) (congrArg nI (by omega)) ?_
      refine lv_bipush (v := nI 6) hx hb d_Mo_name_3 (by decide) ?_
      refine lv_icmp_le (tgt := 10) hx hb d_Mo_name_5 (by decide) (fun _ => ?_) (fun h152 => absurd (by decide) h152)
      refine lv_lconst (v := lN 0) hx hb d_Mo_name_10 rfl ?_
      refine lv_lstore hx hb d_Mo_name_11 hl (by decide) rfl (fun ls hl => ?_)
      have hl : lv_has ls 7 [(4, .long (lN 0)), (0, .ref (ad 12)), (1, .int (nI a0)), (2, .int (nI (a0 + 6))), (3, .int (nI 2))] := hl
      refine lv_iload_n hx hb d_Mo_name_13 rfl (lv_at hl 2 rfl) ?_
      refine lv_istore hx hb d_Mo_name_14 hl (by decide) rfl (fun ls hl => ?_)
      have hl : lv_has ls 7 [(6, .int (nI a0)), (4, .long (lN 0)), (0, .ref (ad 12)), (1, .int (nI a0)), (2, .int (nI (a0 + 6))), (3, .int (nI 2))] := hl
      refine lv_iload hx hb d_Mo_name_16 (lv_at hl 0 rfl) ?_
      refine lv_iload_n hx hb d_Mo_name_18 rfl (lv_at hl 4 rfl) ?_
      refine lv_icmp_ge (tgt := 57) hx hb d_Mo_name_19 (by decide) (fun h153 => absurd ((nI_leI (by omega) (by omega)).mp h153) (by omega)) (fun _ => ?_)
      refine lv_lload hx hb d_Mo_name_22 (lv_at hl 1 rfl) ?_
      refine lv_bipush (v := nI 8) hx hb d_Mo_name_24 (by decide) ?_
      refine lv_lshl (v := lN (0 * 256)) hx hb d_Mo_name_26 zshl8 ?_
      refine lv_iload hx hb d_Mo_name_27 (lv_at hl 0 rfl) ?_
      refine lv_iload_n hx hb d_Mo_name_29 rfl (lv_at hl 3 rfl) ?_
      refine lv_isub hx hb d_Mo_name_30 ?_
      refine zti (y := nI (a0 - a0)) (pk_sub (by omega)) ?_
      refine zti (y := nI 0) (congrArg nI (by omega)) ?_
      refine lv_iload_n hx hb d_Mo_name_31 rfl (lv_at hl 5 rfl) ?_
      refine lv_icmp_ne (tgt := 40) hx hb d_Mo_name_32 (by decide) (fun _ => ?_) (fun h154 => absurd h154 (by decide))
      refine lv_aload_n hx hb d_Mo_name_40 rfl (lv_at hl 2 rfl) ?_
      refine va_get (D := D) (ci := 5) (v := .ref (ad 17)) (C := RMo) (T := TMo) (N := 21) hx hb ht inMo hown hK hP 0 rfl rfl 15 (by decide) (ht _ q561) (fun _ h9 => h9) rfl d_Mo_name_41 ?_
      refine lv_iload hx hb d_Mo_name_44 (lv_at hl 0 rfl) ?_
      refine va_cald hx hb hK hP 5 2 rfl rfl (vp_in_nI (n := a0) (by omega) (by decide)) d_Mo_name_46 ?_
      refine zti (y := nI (tx a0)) (nF_at (by omega)) ?_
      refine lv_i2l (v := lN (tx a0)) hx hb d_Mo_name_47 (nI_l (by omega)) ?_
      refine lv_lor hx hb d_Mo_name_48 ?_
      refine ztl (y := lN (0 * 256 + (tx a0))) (zlor (by omega) (by omega)) ?_
      refine lv_lstore hx hb d_Mo_name_49 hl (by decide) rfl (fun ls hl => ?_)
      have hl : lv_has ls 7 [(4, .long (lN (0 * 256 + (tx a0)))), (6, .int (nI a0)), (0, .ref (ad 12)), (1, .int (nI a0)), (2, .int (nI (a0 + 6))), (3, .int (nI 2))] := hl
      refine lv_iinc (k := 1) (v := nI (a0 + 1)) hx hb d_Mo_name_51 hl rfl (zinc _) (by decide) rfl (fun ls hl => ?_)
      have hl : lv_has ls 7 [(6, .int (nI (a0 + 1))), (4, .long (lN (0 * 256 + (tx a0)))), (0, .ref (ad 12)), (1, .int (nI a0)), (2, .int (nI (a0 + 6))), (3, .int (nI 2))] := hl
      refine lv_goto (tgt := 16) hx hb d_Mo_name_54 (by decide) ?_
      refine lv_iload hx hb d_Mo_name_16 (lv_at hl 0 rfl) ?_
      refine lv_iload_n hx hb d_Mo_name_18 rfl (lv_at hl 4 rfl) ?_
      refine lv_icmp_ge (tgt := 57) hx hb d_Mo_name_19 (by decide) (fun h155 => absurd ((nI_leI (by omega) (by omega)).mp h155) (by omega)) (fun _ => ?_)
      refine lv_lload hx hb d_Mo_name_22 (lv_at hl 1 rfl) ?_
      refine lv_bipush (v := nI 8) hx hb d_Mo_name_24 (by decide) ?_
      refine lv_lshl (v := lN ((0 * 256 + (tx a0)) * 256)) hx hb d_Mo_name_26 zshl8 ?_
      refine lv_iload hx hb d_Mo_name_27 (lv_at hl 0 rfl) ?_
      refine lv_iload_n hx hb d_Mo_name_29 rfl (lv_at hl 3 rfl) ?_
      refine lv_isub hx hb d_Mo_name_30 ?_
      refine zti (y := nI ((a0 + 1) - a0)) (pk_sub (by omega)) ?_
      refine zti (y := nI 1) (congrArg nI (by omega)) ?_
      refine lv_iload_n hx hb d_Mo_name_31 rfl (lv_at hl 5 rfl) ?_
      refine lv_icmp_ne (tgt := 40) hx hb d_Mo_name_32 (by decide) (fun _ => ?_) (fun h156 => absurd h156 (by decide))
      refine lv_aload_n hx hb d_Mo_name_40 rfl (lv_at hl 2 rfl) ?_
      refine va_get (D := D) (ci := 5) (v := .ref (ad 17)) (C := RMo) (T := TMo) (N := 21) hx hb ht inMo hown hK hP 0 rfl rfl 15 (by decide) (ht _ q561) (fun _ h9 => h9) rfl d_Mo_name_41 ?_
      refine lv_iload hx hb d_Mo_name_44 (lv_at hl 0 rfl) ?_
      refine va_cald hx hb hK hP 5 2 rfl rfl (vp_in_nI (n := a0 + 1) (by omega) (by decide)) d_Mo_name_46 ?_
      refine zti (y := nI (tx (a0 + 1))) (nF_at (by omega)) ?_
      refine lv_i2l (v := lN (tx (a0 + 1))) hx hb d_Mo_name_47 (nI_l (by omega)) ?_
      refine lv_lor hx hb d_Mo_name_48 ?_
      refine ztl (y := lN ((0 * 256 + (tx a0)) * 256 + (tx (a0 + 1)))) (zlor (by omega) (by omega)) ?_
      refine lv_lstore hx hb d_Mo_name_49 hl (by decide) rfl (fun ls hl => ?_)
      have hl : lv_has ls 7 [(4, .long (lN ((0 * 256 + (tx a0)) * 256 + (tx (a0 + 1))))), (6, .int (nI (a0 + 1))), (0, .ref (ad 12)), (1, .int (nI a0)), (2, .int (nI (a0 + 6))), (3, .int (nI 2))] := hl
      refine lv_iinc (k := 1) (v := nI ((a0 + 1) + 1)) hx hb d_Mo_name_51 hl rfl (zinc _) (by decide) rfl (fun ls hl => ?_)
      have hl : lv_has ls 7 [(6, .int (nI ((a0 + 1) + 1))), (4, .long (lN ((0 * 256 + (tx a0)) * 256 + (tx (a0 + 1))))), (0, .ref (ad 12)), (1, .int (nI a0)), (2, .int (nI (a0 + 6))), (3, .int (nI 2))] := hl
      refine lv_goto (tgt := 16) hx hb d_Mo_name_54 (by decide) ?_
      refine lv_iload hx hb d_Mo_name_16 (lv_at hl 0 rfl) ?_
      refine lv_iload_n hx hb d_Mo_name_18 rfl (lv_at hl 4 rfl) ?_
      refine lv_icmp_ge (tgt := 57) hx hb d_Mo_name_19 (by decide) (fun h157 => absurd ((nI_leI (by omega) (by omega)).mp h157) (by omega)) (fun _ => ?_)
      refine lv_lload hx hb d_Mo_name_22 (lv_at hl 1 rfl) ?_
      refine lv_bipush (v := nI 8) hx hb d_Mo_name_24 (by decide) ?_
      refine lv_lshl (v := lN (((0 * 256 + (tx a0)) * 256 + (tx (a0 + 1))) * 256)) hx hb d_Mo_name_26 zshl8 ?_
      refine lv_iload hx hb d_Mo_name_27 (lv_at hl 0 rfl) ?_
      refine lv_iload_n hx hb d_Mo_name_29 rfl (lv_at hl 3 rfl) ?_
      refine lv_isub hx hb d_Mo_name_30 ?_
      refine zti (y := nI (((a0 + 1) + 1) - a0)) (pk_sub (by omega)) ?_
      refine zti (y := nI 2) (congrArg nI (by omega)) ?_
      refine lv_iload_n hx hb d_Mo_name_31 rfl (lv_at hl 5 rfl) ?_
      refine lv_icmp_ne (tgt := 40) hx hb d_Mo_name_32 (by decide) (fun h158 => absurd (by decide) h158) (fun _ => ?_)
      refine lv_bipush (v := nI 35) hx hb d_Mo_name_35 (by decide) ?_
      refine lv_goto (tgt := 47) hx hb d_Mo_name_37 (by decide) ?_
      refine lv_i2l (v := lN 35) hx hb d_Mo_name_47 (nI_l (by omega)) ?_
      refine lv_lor hx hb d_Mo_name_48 ?_
      refine ztl (y := lN (((0 * 256 + (tx a0)) * 256 + (tx (a0 + 1))) * 256 + 35)) (zlor (by omega) (by omega)) ?_
      refine lv_lstore hx hb d_Mo_name_49 hl (by decide) rfl (fun ls hl => ?_)
      have hl : lv_has ls 7 [(4, .long (lN (((0 * 256 + (tx a0)) * 256 + (tx (a0 + 1))) * 256 + 35))), (6, .int (nI ((a0 + 1) + 1))), (0, .ref (ad 12)), (1, .int (nI a0)), (2, .int (nI (a0 + 6))), (3, .int (nI 2))] := hl
      refine lv_iinc (k := 1) (v := nI (((a0 + 1) + 1) + 1)) hx hb d_Mo_name_51 hl rfl (zinc _) (by decide) rfl (fun ls hl => ?_)
      have hl : lv_has ls 7 [(6, .int (nI (((a0 + 1) + 1) + 1))), (4, .long (lN (((0 * 256 + (tx a0)) * 256 + (tx (a0 + 1))) * 256 + 35))), (0, .ref (ad 12)), (1, .int (nI a0)), (2, .int (nI (a0 + 6))), (3, .int (nI 2))] := hl
      refine lv_goto (tgt := 16) hx hb d_Mo_name_54 (by decide) ?_
      refine lv_iload hx hb d_Mo_name_16 (lv_at hl 0 rfl) ?_
      refine lv_iload_n hx hb d_Mo_name_18 rfl (lv_at hl 4 rfl) ?_
      refine lv_icmp_ge (tgt := 57) hx hb d_Mo_name_19 (by decide) (fun h159 => absurd ((nI_leI (by omega) (by omega)).mp h159) (by omega)) (fun _ => ?_)
      refine lv_lload hx hb d_Mo_name_22 (lv_at hl 1 rfl) ?_
      refine lv_bipush (v := nI 8) hx hb d_Mo_name_24 (by decide) ?_
      refine lv_lshl (v := lN ((((0 * 256 + (tx a0)) * 256 + (tx (a0 + 1))) * 256 + 35) * 256)) hx hb d_Mo_name_26 zshl8 ?_
      refine lv_iload hx hb d_Mo_name_27 (lv_at hl 0 rfl) ?_
      refine lv_iload_n hx hb d_Mo_name_29 rfl (lv_at hl 3 rfl) ?_
      refine lv_isub hx hb d_Mo_name_30 ?_
      refine zti (y := nI ((((a0 + 1) + 1) + 1) - a0)) (pk_sub (by omega)) ?_
      refine zti (y := nI 3) (congrArg nI (by omega)) ?_
      refine lv_iload_n hx hb d_Mo_name_31 rfl (lv_at hl 5 rfl) ?_
      refine lv_icmp_ne (tgt := 40) hx hb d_Mo_name_32 (by decide) (fun _ => ?_) (fun h160 => absurd h160 (by decide))
      refine lv_aload_n hx hb d_Mo_name_40 rfl (lv_at hl 2 rfl) ?_
      refine va_get (D := D) (ci := 5) (v := .ref (ad 17)) (C := RMo) (T := TMo) (N := 21) hx hb ht inMo hown hK hP 0 rfl rfl 15 (by decide) (ht _ q561) (fun _ h9 => h9) rfl d_Mo_name_41 ?_
      refine lv_iload hx hb d_Mo_name_44 (lv_at hl 0 rfl) ?_
      refine va_cald hx hb hK hP 5 2 rfl rfl (vp_in_nI (n := ((a0 + 1) + 1) + 1) (by omega) (by decide)) d_Mo_name_46 ?_
      refine zti (y := nI (tx (((a0 + 1) + 1) + 1))) (nF_at (by omega)) ?_
      refine lv_i2l (v := lN (tx (((a0 + 1) + 1) + 1))) hx hb d_Mo_name_47 (nI_l (by omega)) ?_
      refine lv_lor hx hb d_Mo_name_48 ?_
      refine ztl (y := lN ((((0 * 256 + (tx a0)) * 256 + (tx (a0 + 1))) * 256 + 35) * 256 + (tx (((a0 + 1) + 1) + 1)))) (zlor (by omega) (by omega)) ?_
      refine lv_lstore hx hb d_Mo_name_49 hl (by decide) rfl (fun ls hl => ?_)
      have hl : lv_has ls 7 [(4, .long (lN ((((0 * 256 + (tx a0)) * 256 + (tx (a0 + 1))) * 256 + 35) * 256 + (tx (((a0 + 1) + 1) + 1))))), (6, .int (nI (((a0 + 1) + 1) + 1))), (0, .ref (ad 12)), (1, .int (nI a0)), (2, .int (nI (a0 + 6))), (3, .int (nI 2))] := hl
      refine lv_iinc (k := 1) (v := nI ((((a0 + 1) + 1) + 1) + 1)) hx hb d_Mo_name_51 hl rfl (zinc _) (by decide) rfl (fun ls hl => ?_)
      have hl : lv_has ls 7 [(6, .int (nI ((((a0 + 1) + 1) + 1) + 1))), (4, .long (lN ((((0 * 256 + (tx a0)) * 256 + (tx (a0 + 1))) * 256 + 35) * 256 + (tx (((a0 + 1) + 1) + 1))))), (0, .ref (ad 12)), (1, .int (nI a0)), (2, .int (nI (a0 + 6))), (3, .int (nI 2))] := hl
      refine lv_goto (tgt := 16) hx hb d_Mo_name_54 (by decide) ?_
      refine lv_iload hx hb d_Mo_name_16 (lv_at hl 0 rfl) ?_
      refine lv_iload_n hx hb d_Mo_name_18 rfl (lv_at hl 4 rfl) ?_
      refine lv_icmp_ge (tgt := 57) hx hb d_Mo_name_19 (by decide) (fun h161 => absurd ((nI_leI (by omega) (by omega)).mp h161) (by omega)) (fun _ => ?_)
      refine lv_lload hx hb d_Mo_name_22 (lv_at hl 1 rfl) ?_
      refine lv_bipush (v := nI 8) hx hb d_Mo_name_24 (by decide) ?_
      refine lv_lshl (v := lN (((((0 * 256 + (tx a0)) * 256 + (tx (a0 + 1))) * 256 + 35) * 256 + (tx (((a0 + 1) + 1) + 1))) * 256)) hx hb d_Mo_name_26 zshl8 ?_
      refine lv_iload hx hb d_Mo_name_27 (lv_at hl 0 rfl) ?_
      refine lv_iload_n hx hb d_Mo_name_29 rfl (lv_at hl 3 rfl) ?_
      refine lv_isub hx hb d_Mo_name_30 ?_
      refine zti (y := nI (((((a0 + 1) + 1) + 1) + 1) - a0)) (pk_sub (by omega)) ?_
      refine zti (y := nI 4) (congrArg nI (by omega)) ?_
      refine lv_iload_n hx hb d_Mo_name_31 rfl (lv_at hl 5 rfl) ?_
      refine lv_icmp_ne (tgt := 40) hx hb d_Mo_name_32 (by decide) (fun _ => ?_) (fun h162 => absurd h162 (by decide))
      refine lv_aload_n hx hb d_Mo_name_40 rfl (lv_at hl 2 rfl) ?_
      refine va_get (D := D) (ci := 5) (v := .ref (ad 17)) (C := RMo) (T := TMo) (N := 21) hx hb ht inMo hown hK hP 0 rfl rfl 15 (by decide) (ht _ q561) (fun _ h9 => h9) rfl d_Mo_name_41 ?_
      refine lv_iload hx hb d_Mo_name_44 (lv_at hl 0 rfl) ?_
      refine va_cald hx hb hK hP 5 2 rfl rfl (vp_in_nI (n := (((a0 + 1) + 1) + 1) + 1) (by omega) (by decide)) d_Mo_name_46 ?_
      refine zti (y := nI (tx ((((a0 + 1) + 1) + 1) + 1))) (nF_at (by omega)) ?_
      refine lv_i2l (v := lN (tx ((((a0 + 1) + 1) + 1) + 1))) hx hb d_Mo_name_47 (nI_l (by omega)) ?_
      refine lv_lor hx hb d_Mo_name_48 ?_
      refine ztl (y := lN (((((0 * 256 + (tx a0)) * 256 + (tx (a0 + 1))) * 256 + 35) * 256 + (tx (((a0 + 1) + 1) + 1))) * 256 + (tx ((((a0 + 1) + 1) + 1) + 1)))) (zlor (by omega) (by omega)) ?_
      refine lv_lstore hx hb d_Mo_name_49 hl (by decide) rfl (fun ls hl => ?_)
      have hl : lv_has ls 7 [(4, .long (lN (((((0 * 256 + (tx a0)) * 256 + (tx (a0 + 1))) * 256 + 35) * 256 + (tx (((a0 + 1) + 1) + 1))) * 256 + (tx ((((a0 + 1) + 1) + 1) + 1))))), (6, .int (nI ((((a0 + 1) + 1) + 1) + 1))), (0, .ref (ad 12)), (1, .int (nI a0)), (2, .int (nI (a0 + 6))), (3, .int (nI 2))] := hl
      refine lv_iinc (k := 1) (v := nI (((((a0 + 1) + 1) + 1) + 1) + 1)) hx hb d_Mo_name_51 hl rfl (zinc _) (by decide) rfl (fun ls hl => ?_)
      have hl : lv_has ls 7 [(6, .int (nI (((((a0 + 1) + 1) + 1) + 1) + 1))), (4, .long (lN (((((0 * 256 + (tx a0)) * 256 + (tx (a0 + 1))) * 256 + 35) * 256 + (tx (((a0 + 1) + 1) + 1))) * 256 + (tx ((((a0 + 1) + 1) + 1) + 1))))), (0, .ref (ad 12)), (1, .int (nI a0)), (2, .int (nI (a0 + 6))), (3, .int (nI 2))] := hl
      refine lv_goto (tgt := 16) hx hb d_Mo_name_54 (by decide) ?_
      refine lv_iload hx hb d_Mo_name_16 (lv_at hl 0 rfl) ?_
      refine lv_iload_n hx hb d_Mo_name_18 rfl (lv_at hl 4 rfl) ?_
      refine lv_icmp_ge (tgt := 57) hx hb d_Mo_name_19 (by decide) (fun h163 => absurd ((nI_leI (by omega) (by omega)).mp h163) (by omega)) (fun _ => ?_)
      refine lv_lload hx hb d_Mo_name_22 (lv_at hl 1 rfl) ?_
      refine lv_bipush (v := nI 8) hx hb d_Mo_name_24 (by decide) ?_
      refine lv_lshl (v := lN ((((((0 * 256 + (tx a0)) * 256 + (tx (a0 + 1))) * 256 + 35) * 256 + (tx (((a0 + 1) + 1) + 1))) * 256 + (tx ((((a0 + 1) + 1) + 1) + 1))) * 256)) hx hb d_Mo_name_26 zshl8 ?_
      refine lv_iload hx hb d_Mo_name_27 (lv_at hl 0 rfl) ?_
      refine lv_iload_n hx hb d_Mo_name_29 rfl (lv_at hl 3 rfl) ?_
      refine lv_isub hx hb d_Mo_name_30 ?_
      refine zti (y := nI ((((((a0 + 1) + 1) + 1) + 1) + 1) - a0)) (pk_sub (by omega)) ?_
      refine zti (y := nI 5) (congrArg nI (by omega)) ?_
      refine lv_iload_n hx hb d_Mo_name_31 rfl (lv_at hl 5 rfl) ?_
      refine lv_icmp_ne (tgt := 40) hx hb d_Mo_name_32 (by decide) (fun _ => ?_) (fun h164 => absurd h164 (by decide))
      refine lv_aload_n hx hb d_Mo_name_40 rfl (lv_at hl 2 rfl) ?_
      refine va_get (D := D) (ci := 5) (v := .ref (ad 17)) (C := RMo) (T := TMo) (N := 21) hx hb ht inMo hown hK hP 0 rfl rfl 15 (by decide) (ht _ q561) (fun _ h9 => h9) rfl d_Mo_name_41 ?_
      refine lv_iload hx hb d_Mo_name_44 (lv_at hl 0 rfl) ?_
      refine va_cald hx hb hK hP 5 2 rfl rfl (vp_in_nI (n := ((((a0 + 1) + 1) + 1) + 1) + 1) (by omega) (by decide)) d_Mo_name_46 ?_
      refine zti (y := nI (tx (((((a0 + 1) + 1) + 1) + 1) + 1))) (nF_at (by omega)) ?_
      refine lv_i2l (v := lN (tx (((((a0 + 1) + 1) + 1) + 1) + 1))) hx hb d_Mo_name_47 (nI_l (by omega)) ?_
      refine lv_lor hx hb d_Mo_name_48 ?_
      refine ztl (y := lN ((((((0 * 256 + (tx a0)) * 256 + (tx (a0 + 1))) * 256 + 35) * 256 + (tx (((a0 + 1) + 1) + 1))) * 256 + (tx ((((a0 + 1) + 1) + 1) + 1))) * 256 + (tx (((((a0 + 1) + 1) + 1) + 1) + 1)))) (zlor (by omega) (by omega)) ?_
      refine lv_lstore hx hb d_Mo_name_49 hl (by decide) rfl (fun ls hl => ?_)
      have hl : lv_has ls 7 [(4, .long (lN ((((((0 * 256 + (tx a0)) * 256 + (tx (a0 + 1))) * 256 + 35) * 256 + (tx (((a0 + 1) + 1) + 1))) * 256 + (tx ((((a0 + 1) + 1) + 1) + 1))) * 256 + (tx (((((a0 + 1) + 1) + 1) + 1) + 1))))), (6, .int (nI (((((a0 + 1) + 1) + 1) + 1) + 1))), (0, .ref (ad 12)), (1, .int (nI a0)), (2, .int (nI (a0 + 6))), (3, .int (nI 2))] := hl
      refine lv_iinc (k := 1) (v := nI ((((((a0 + 1) + 1) + 1) + 1) + 1) + 1)) hx hb d_Mo_name_51 hl rfl (zinc _) (by decide) rfl (fun ls hl => ?_)
      have hl : lv_has ls 7 [(6, .int (nI ((((((a0 + 1) + 1) + 1) + 1) + 1) + 1))), (4, .long (lN ((((((0 * 256 + (tx a0)) * 256 + (tx (a0 + 1))) * 256 + 35) * 256 + (tx (((a0 + 1) + 1) + 1))) * 256 + (tx ((((a0 + 1) + 1) + 1) + 1))) * 256 + (tx (((((a0 + 1) + 1) + 1) + 1) + 1))))), (0, .ref (ad 12)), (1, .int (nI a0)), (2, .int (nI (a0 + 6))), (3, .int (nI 2))] := hl
      refine lv_goto (tgt := 16) hx hb d_Mo_name_54 (by decide) ?_
      refine lv_iload hx hb d_Mo_name_16 (lv_at hl 0 rfl) ?_
      refine lv_iload_n hx hb d_Mo_name_18 rfl (lv_at hl 4 rfl) ?_
      refine lv_icmp_ge (tgt := 57) hx hb d_Mo_name_19 (by decide) (fun _ => ?_) (fun h165 => absurd ((nI_leI (by omega) (by omega)).mpr (by omega)) h165)
      refine lv_lload hx hb d_Mo_name_57 (lv_at hl 1 rfl) ?_
      exact zret_l C0 hr hAe hP hD hS ⟨by rw [nm_l (by decide)]; rfl, rfl⟩ d_Mo_name_59
  · skip
    rcases (show 6 < e0 - a0 ∨ e0 = a0 + 1 ∨ e0 = a0 + 2 ∨ e0 = a0 + 3 ∨ e0 = a0 + 4 ∨ e0 = a0 + 5 ∨ e0 = a0 + 6 by omega) with hb6 | rfl | rfl | rfl | rfl | rfl | rfl
    · skip
      refine lv_iload_n hx hb d_Mo_name_0 rfl (lv_at hl 2 rfl) ?_
      refine lv_iload_n hx hb d_Mo_name_1 rfl (lv_at hl 1 rfl) ?_
      refine lv_isub hx hb d_Mo_name_2 ?_
      refine zti (y := nI (e0 - a0)) (pk_sub (by omega)) ?_
      refine lv_bipush (v := nI 6) hx hb d_Mo_name_3 (by decide) ?_
      refine lv_icmp_le (tgt := 10) hx hb d_Mo_name_5 (by decide) (fun h166 => absurd ((nI_leI (by omega) (by omega)).mp h166) (by omega)) (fun _ => ?_)
      refine lv_lconst (v := lN 0) hx hb d_Mo_name_8 rfl ?_
      exact zret_l C0 hr hAe hP hD hS ⟨by rw [nm_b hb6], rfl⟩ d_Mo_name_9
    · skip
      refine lv_iload_n hx hb d_Mo_name_0 rfl (lv_at hl 2 rfl) ?_
      refine lv_iload_n hx hb d_Mo_name_1 rfl (lv_at hl 1 rfl) ?_
      refine lv_isub hx hb d_Mo_name_2 ?_
      refine zti (y := nI ((a0 + 1) - a0)) (pk_sub (by omega)) ?_
      refine zti (y := nI 1) (congrArg nI (by omega)) ?_
      refine lv_bipush (v := nI 6) hx hb d_Mo_name_3 (by decide) ?_
      refine lv_icmp_le (tgt := 10) hx hb d_Mo_name_5 (by decide) (fun _ => ?_) (fun h167 => absurd (by decide) h167)
      refine lv_lconst (v := lN 0) hx hb d_Mo_name_10 rfl ?_
      refine lv_lstore hx hb d_Mo_name_11 hl (by decide) rfl (fun ls hl => ?_)
      have hl : lv_has ls 7 [(4, .long (lN 0)), (0, .ref (ad 12)), (1, .int (nI a0)), (2, .int (nI (a0 + 1))), (3, .int (nI 3))] := hl
      refine lv_iload_n hx hb d_Mo_name_13 rfl (lv_at hl 2 rfl) ?_
      refine lv_istore hx hb d_Mo_name_14 hl (by decide) rfl (fun ls hl => ?_)
      have hl : lv_has ls 7 [(6, .int (nI a0)), (4, .long (lN 0)), (0, .ref (ad 12)), (1, .int (nI a0)), (2, .int (nI (a0 + 1))), (3, .int (nI 3))] := hl
      refine lv_iload hx hb d_Mo_name_16 (lv_at hl 0 rfl) ?_
      refine lv_iload_n hx hb d_Mo_name_18 rfl (lv_at hl 4 rfl) ?_
      refine lv_icmp_ge (tgt := 57) hx hb d_Mo_name_19 (by decide) (fun h168 => absurd ((nI_leI (by omega) (by omega)).mp h168) (by omega)) (fun _ => ?_)
      refine lv_lload hx hb d_Mo_name_22 (lv_at hl 1 rfl) ?_
      refine lv_bipush (v := nI 8) hx hb d_Mo_name_24 (by decide) ?_
      refine lv_lshl (v := lN (0 * 256)) hx hb d_Mo_name_26 zshl8 ?_
      refine lv_iload hx hb d_Mo_name_27 (lv_at hl 0 rfl) ?_
      refine lv_iload_n hx hb d_Mo_name_29 rfl (lv_at hl 3 rfl) ?_
      refine lv_isub hx hb d_Mo_name_30 ?_
      refine zti (y := nI (a0 - a0)) (pk_sub (by omega)) ?_
      refine zti (y := nI 0) (congrArg nI (by omega)) ?_
      refine lv_iload_n hx hb d_Mo_name_31 rfl (lv_at hl 5 rfl) ?_
      refine lv_icmp_ne (tgt := 40) hx hb d_Mo_name_32 (by decide) (fun _ => ?_) (fun h169 => absurd h169 (by decide))
      refine lv_aload_n hx hb d_Mo_name_40 rfl (lv_at hl 2 rfl) ?_
      refine va_get (D := D) (ci := 5) (v := .ref (ad 17)) (C := RMo) (T := TMo) (N := 21) hx hb ht inMo hown hK hP 0 rfl rfl 15 (by decide) (ht _ q561) (fun _ h9 => h9) rfl d_Mo_name_41 ?_
      refine lv_iload hx hb d_Mo_name_44 (lv_at hl 0 rfl) ?_
      refine va_cald hx hb hK hP 5 2 rfl rfl (vp_in_nI (n := a0) (by omega) (by decide)) d_Mo_name_46 ?_
      refine zti (y := nI (tx a0)) (nF_at (by omega)) ?_
      refine lv_i2l (v := lN (tx a0)) hx hb d_Mo_name_47 (nI_l (by omega)) ?_
      refine lv_lor hx hb d_Mo_name_48 ?_
      refine ztl (y := lN (0 * 256 + (tx a0))) (zlor (by omega) (by omega)) ?_
      refine lv_lstore hx hb d_Mo_name_49 hl (by decide) rfl (fun ls hl => ?_)
      have hl : lv_has ls 7 [(4, .long (lN (0 * 256 + (tx a0)))), (6, .int (nI a0)), (0, .ref (ad 12)), (1, .int (nI a0)), (2, .int (nI (a0 + 1))), (3, .int (nI 3))] := hl
      refine lv_iinc (k := 1) (v := nI (a0 + 1)) hx hb d_Mo_name_51 hl rfl (zinc _) (by decide) rfl (fun ls hl => ?_)
      have hl : lv_has ls 7 [(6, .int (nI (a0 + 1))), (4, .long (lN (0 * 256 + (tx a0)))), (0, .ref (ad 12)), (1, .int (nI a0)), (2, .int (nI (a0 + 1))), (3, .int (nI 3))] := hl
      refine lv_goto (tgt := 16) hx hb d_Mo_name_54 (by decide) ?_
      refine lv_iload hx hb d_Mo_name_16 (lv_at hl 0 rfl) ?_
      refine lv_iload_n hx hb d_Mo_name_18 rfl (lv_at hl 4 rfl) ?_
      refine lv_icmp_ge (tgt := 57) hx hb d_Mo_name_19 (by decide) (fun _ => ?_) (fun h170 => absurd ((nI_leI (by omega) (by omega)).mpr (by omega)) h170)
      refine lv_lload hx hb d_Mo_name_57 (lv_at hl 1 rfl) ?_
      exact zret_l C0 hr hAe hP hD hS ⟨by rw [nm_l (by decide)]; rfl, rfl⟩ d_Mo_name_59
    · skip
      refine lv_iload_n hx hb d_Mo_name_0 rfl (lv_at hl 2 rfl) ?_
      refine lv_iload_n hx hb d_Mo_name_1 rfl (lv_at hl 1 rfl) ?_
      refine lv_isub hx hb d_Mo_name_2 ?_
      refine zti (y := nI ((a0 + 2) - a0)) (pk_sub (by omega)) ?_
      refine zti (y := nI 2) (congrArg nI (by omega)) ?_
      refine lv_bipush (v := nI 6) hx hb d_Mo_name_3 (by decide) ?_
      refine lv_icmp_le (tgt := 10) hx hb d_Mo_name_5 (by decide) (fun _ => ?_) (fun h171 => absurd (by decide) h171)
      refine lv_lconst (v := lN 0) hx hb d_Mo_name_10 rfl ?_
      refine lv_lstore hx hb d_Mo_name_11 hl (by decide) rfl (fun ls hl => ?_)
      have hl : lv_has ls 7 [(4, .long (lN 0)), (0, .ref (ad 12)), (1, .int (nI a0)), (2, .int (nI (a0 + 2))), (3, .int (nI 3))] := hl
      refine lv_iload_n hx hb d_Mo_name_13 rfl (lv_at hl 2 rfl) ?_
      refine lv_istore hx hb d_Mo_name_14 hl (by decide) rfl (fun ls hl => ?_)
      have hl : lv_has ls 7 [(6, .int (nI a0)), (4, .long (lN 0)), (0, .ref (ad 12)), (1, .int (nI a0)), (2, .int (nI (a0 + 2))), (3, .int (nI 3))] := hl
      refine lv_iload hx hb d_Mo_name_16 (lv_at hl 0 rfl) ?_
      refine lv_iload_n hx hb d_Mo_name_18 rfl (lv_at hl 4 rfl) ?_
      refine lv_icmp_ge (tgt := 57) hx hb d_Mo_name_19 (by decide) (fun h172 => absurd ((nI_leI (by omega) (by omega)).mp h172) (by omega)) (fun _ => ?_)
      refine lv_lload hx hb d_Mo_name_22 (lv_at hl 1 rfl) ?_
      refine lv_bipush (v := nI 8) hx hb d_Mo_name_24 (by decide) ?_
      refine lv_lshl (v := lN (0 * 256)) hx hb d_Mo_name_26 zshl8 ?_
      refine lv_iload hx hb d_Mo_name_27 (lv_at hl 0 rfl) ?_
      refine lv_iload_n hx hb d_Mo_name_29 rfl (lv_at hl 3 rfl) ?_
      refine lv_isub hx hb d_Mo_name_30 ?_
      refine zti (y := nI (a0 - a0)) (pk_sub (by omega)) ?_
      refine zti (y := nI 0) (congrArg nI (by omega)) ?_
      refine lv_iload_n hx hb d_Mo_name_31 rfl (lv_at hl 5 rfl) ?_
      refine lv_icmp_ne (tgt := 40) hx hb d_Mo_name_32 (by decide) (fun _ => ?_) (fun h173 => absurd h173 (by decide))
      refine lv_aload_n hx hb d_Mo_name_40 rfl (lv_at hl 2 rfl) ?_
      refine va_get (D := D) (ci := 5) (v := .ref (ad 17)) (C := RMo) (T := TMo) (N := 21) hx hb ht inMo hown hK hP 0 rfl rfl 15 (by decide) (ht _ q561) (fun _ h9 => h9) rfl d_Mo_name_41 ?_
      refine lv_iload hx hb d_Mo_name_44 (lv_at hl 0 rfl) ?_
      refine va_cald hx hb hK hP 5 2 rfl rfl (vp_in_nI (n := a0) (by omega) (by decide)) d_Mo_name_46 ?_
      refine zti (y := nI (tx a0)) (nF_at (by omega)) ?_
      refine lv_i2l (v := lN (tx a0)) hx hb d_Mo_name_47 (nI_l (by omega)) ?_
      refine lv_lor hx hb d_Mo_name_48 ?_
      refine ztl (y := lN (0 * 256 + (tx a0))) (zlor (by omega) (by omega)) ?_
      refine lv_lstore hx hb d_Mo_name_49 hl (by decide) rfl (fun ls hl => ?_)
      have hl : lv_has ls 7 [(4, .long (lN (0 * 256 + (tx a0)))), (6, .int (nI a0)), (0, .ref (ad 12)), (1, .int (nI a0)), (2, .int (nI (a0 + 2))), (3, .int (nI 3))] := hl
      refine lv_iinc (k := 1) (v := nI (a0 + 1)) hx hb d_Mo_name_51 hl rfl (zinc _) (by decide) rfl (fun ls hl => ?_)
      have hl : lv_has ls 7 [(6, .int (nI (a0 + 1))), (4, .long (lN (0 * 256 + (tx a0)))), (0, .ref (ad 12)), (1, .int (nI a0)), (2, .int (nI (a0 + 2))), (3, .int (nI 3))] := hl
      refine lv_goto (tgt := 16) hx hb d_Mo_name_54 (by decide) ?_
      refine lv_iload hx hb d_Mo_name_16 (lv_at hl 0 rfl) ?_
      refine lv_iload_n hx hb d_Mo_name_18 rfl (lv_at hl 4 rfl) ?_
      refine lv_icmp_ge (tgt := 57) hx hb d_Mo_name_19 (by decide) (fun h174 => absurd ((nI_leI (by omega) (by omega)).mp h174) (by omega)) (fun _ => ?_)
      refine lv_lload hx hb d_Mo_name_22 (lv_at hl 1 rfl) ?_
      refine lv_bipush (v := nI 8) hx hb d_Mo_name_24 (by decide) ?_
      refine lv_lshl (v := lN ((0 * 256 + (tx a0)) * 256)) hx hb d_Mo_name_26 zshl8 ?_
      refine lv_iload hx hb d_Mo_name_27 (lv_at hl 0 rfl) ?_
      refine lv_iload_n hx hb d_Mo_name_29 rfl (lv_at hl 3 rfl) ?_
      refine lv_isub hx hb d_Mo_name_30 ?_
      refine zti (y := nI ((a0 + 1) - a0)) (pk_sub (by omega)) ?_
      refine zti (y := nI 1) (congrArg nI (by omega)) ?_
      refine lv_iload_n hx hb d_Mo_name_31 rfl (lv_at hl 5 rfl) ?_
      refine lv_icmp_ne (tgt := 40) hx hb d_Mo_name_32 (by decide) (fun _ => ?_) (fun h175 => absurd h175 (by decide))
      refine lv_aload_n hx hb d_Mo_name_40 rfl (lv_at hl 2 rfl) ?_
      refine va_get (D := D) (ci := 5) (v := .ref (ad 17)) (C := RMo) (T := TMo) (N := 21) hx hb ht inMo hown hK hP 0 rfl rfl 15 (by decide) (ht _ q561) (fun _ h9 => h9) rfl d_Mo_name_41 ?_
      refine lv_iload hx hb d_Mo_name_44 (lv_at hl 0 rfl) ?_
      refine va_cald hx hb hK hP 5 2 rfl rfl (vp_in_nI (n := a0 + 1) (by omega) (by decide)) d_Mo_name_46 ?_
      refine zti (y := nI (tx (a0 + 1))) (nF_at (by omega)) ?_
      refine lv_i2l (v := lN (tx (a0 + 1))) hx hb d_Mo_name_47 (nI_l (by omega)) ?_
      refine lv_lor hx hb d_Mo_name_48 ?_
      refine ztl (y := lN ((0 * 256 + (tx a0)) * 256 + (tx (a0 + 1)))) (zlor (by omega) (by omega)) ?_
      refine lv_lstore hx hb d_Mo_name_49 hl (by decide) rfl (fun ls hl => ?_)
      have hl : lv_has ls 7 [(4, .long (lN ((0 * 256 + (tx a0)) * 256 + (tx (a0 + 1))))), (6, .int (nI (a0 + 1))), (0, .ref (ad 12)), (1, .int (nI a0)), (2, .int (nI (a0 + 2))), (3, .int (nI 3))] := hl
      refine lv_iinc (k := 1) (v := nI ((a0 + 1) + 1)) hx hb d_Mo_name_51 hl rfl (zinc _) (by decide) rfl (fun ls hl => ?_)
      have hl : lv_has ls 7 [(6, .int (nI ((a0 + 1) + 1))), (4, .long (lN ((0 * 256 + (tx a0)) * 256 + (tx (a0 + 1))))), (0, .ref (ad 12)), (1, .int (nI a0)), (2, .int (nI (a0 + 2))), (3, .int (nI 3))] := hl
      refine lv_goto (tgt := 16) hx hb d_Mo_name_54 (by decide) ?_
      refine lv_iload hx hb d_Mo_name_16 (lv_at hl 0 rfl) ?_
      refine lv_iload_n hx hb d_Mo_name_18 rfl (lv_at hl 4 rfl) ?_
      refine lv_icmp_ge (tgt := 57) hx hb d_Mo_name_19 (by decide) (fun _ => ?_) (fun h176 => absurd ((nI_leI (by omega) (by omega)).mpr (by omega)) h176)
      refine lv_lload hx hb d_Mo_name_57 (lv_at hl 1 rfl) ?_
      exact zret_l C0 hr hAe hP hD hS ⟨by rw [nm_l (by decide)]; rfl, rfl⟩ d_Mo_name_59
    · skip
      refine lv_iload_n hx hb d_Mo_name_0 rfl (lv_at hl 2 rfl) ?_
      refine lv_iload_n hx hb d_Mo_name_1 rfl (lv_at hl 1 rfl) ?_
      refine lv_isub hx hb d_Mo_name_2 ?_
      refine zti (y := nI ((a0 + 3) - a0)) (pk_sub (by omega)) ?_
      refine zti (y := nI 3) (congrArg nI (by omega)) ?_
      refine lv_bipush (v := nI 6) hx hb d_Mo_name_3 (by decide) ?_
      refine lv_icmp_le (tgt := 10) hx hb d_Mo_name_5 (by decide) (fun _ => ?_) (fun h177 => absurd (by decide) h177)
      refine lv_lconst (v := lN 0) hx hb d_Mo_name_10 rfl ?_
      refine lv_lstore hx hb d_Mo_name_11 hl (by decide) rfl (fun ls hl => ?_)
      have hl : lv_has ls 7 [(4, .long (lN 0)), (0, .ref (ad 12)), (1, .int (nI a0)), (2, .int (nI (a0 + 3))), (3, .int (nI 3))] := hl
      refine lv_iload_n hx hb d_Mo_name_13 rfl (lv_at hl 2 rfl) ?_
      refine lv_istore hx hb d_Mo_name_14 hl (by decide) rfl (fun ls hl => ?_)
      have hl : lv_has ls 7 [(6, .int (nI a0)), (4, .long (lN 0)), (0, .ref (ad 12)), (1, .int (nI a0)), (2, .int (nI (a0 + 3))), (3, .int (nI 3))] := hl
      refine lv_iload hx hb d_Mo_name_16 (lv_at hl 0 rfl) ?_
      refine lv_iload_n hx hb d_Mo_name_18 rfl (lv_at hl 4 rfl) ?_
      refine lv_icmp_ge (tgt := 57) hx hb d_Mo_name_19 (by decide) (fun h178 => absurd ((nI_leI (by omega) (by omega)).mp h178) (by omega)) (fun _ => ?_)
      refine lv_lload hx hb d_Mo_name_22 (lv_at hl 1 rfl) ?_
      refine lv_bipush (v := nI 8) hx hb d_Mo_name_24 (by decide) ?_
      refine lv_lshl (v := lN (0 * 256)) hx hb d_Mo_name_26 zshl8 ?_
      refine lv_iload hx hb d_Mo_name_27 (lv_at hl 0 rfl) ?_
      refine lv_iload_n hx hb d_Mo_name_29 rfl (lv_at hl 3 rfl) ?_
      refine lv_isub hx hb d_Mo_name_30 ?_
      refine zti (y := nI (a0 - a0)) (pk_sub (by omega)) ?_
      refine zti (y := nI 0) (congrArg nI (by omega)) ?_
      refine lv_iload_n hx hb d_Mo_name_31 rfl (lv_at hl 5 rfl) ?_
      refine lv_icmp_ne (tgt := 40) hx hb d_Mo_name_32 (by decide) (fun _ => ?_) (fun h179 => absurd h179 (by decide))
      refine lv_aload_n hx hb d_Mo_name_40 rfl (lv_at hl 2 rfl) ?_
      refine va_get (D := D) (ci := 5) (v := .ref (ad 17)) (C := RMo) (T := TMo) (N := 21) hx hb ht inMo hown hK hP 0 rfl rfl 15 (by decide) (ht _ q561) (fun _ h9 => h9) rfl d_Mo_name_41 ?_
      refine lv_iload hx hb d_Mo_name_44 (lv_at hl 0 rfl) ?_
      refine va_cald hx hb hK hP 5 2 rfl rfl (vp_in_nI (n := a0) (by omega) (by decide)) d_Mo_name_46 ?_
      refine zti (y := nI (tx a0)) (nF_at (by omega)) ?_
      refine lv_i2l (v := lN (tx a0)) hx hb d_Mo_name_47 (nI_l (by omega)) ?_
      refine lv_lor hx hb d_Mo_name_48 ?_
      refine ztl (y := lN (0 * 256 + (tx a0))) (zlor (by omega) (by omega)) ?_
      refine lv_lstore hx hb d_Mo_name_49 hl (by decide) rfl (fun ls hl => ?_)
      have hl : lv_has ls 7 [(4, .long (lN (0 * 256 + (tx a0)))), (6, .int (nI a0)), (0, .ref (ad 12)), (1, .int (nI a0)), (2, .int (nI (a0 + 3))), (3, .int (nI 3))] := hl
      refine lv_iinc (k := 1) (v := nI (a0 + 1)) hx hb d_Mo_name_51 hl rfl (zinc _) (by decide) rfl (fun ls hl => ?_)
      have hl : lv_has ls 7 [(6, .int (nI (a0 + 1))), (4, .long (lN (0 * 256 + (tx a0)))), (0, .ref (ad 12)), (1, .int (nI a0)), (2, .int (nI (a0 + 3))), (3, .int (nI 3))] := hl
      refine lv_goto (tgt := 16) hx hb d_Mo_name_54 (by decide) ?_
      refine lv_iload hx hb d_Mo_name_16 (lv_at hl 0 rfl) ?_
      refine lv_iload_n hx hb d_Mo_name_18 rfl (lv_at hl 4 rfl) ?_
      refine lv_icmp_ge (tgt := 57) hx hb d_Mo_name_19 (by decide) (fun h180 => absurd ((nI_leI (by omega) (by omega)).mp h180) (by omega)) (fun _ => ?_)
      refine lv_lload hx hb d_Mo_name_22 (lv_at hl 1 rfl) ?_
      refine lv_bipush (v := nI 8) hx hb d_Mo_name_24 (by decide) ?_
      refine lv_lshl (v := lN ((0 * 256 + (tx a0)) * 256)) hx hb d_Mo_name_26 zshl8 ?_
      refine lv_iload hx hb d_Mo_name_27 (lv_at hl 0 rfl) ?_
      refine lv_iload_n hx hb d_Mo_name_29 rfl (lv_at hl 3 rfl) ?_
      refine lv_isub hx hb d_Mo_name_30 ?_
      refine zti (y := nI ((a0 + 1) - a0)) (pk_sub (by omega)) ?_
      refine zti (y := nI 1) (congrArg nI (by omega)) ?_
      refine lv_iload_n hx hb d_Mo_name_31 rfl (lv_at hl 5 rfl) ?_
      refine lv_icmp_ne (tgt := 40) hx hb d_Mo_name_32 (by decide) (fun _ => ?_) (fun h181 => absurd h181 (by decide))
      refine lv_aload_n hx hb d_Mo_name_40 rfl (lv_at hl 2 rfl) ?_
      refine va_get (D := D) (ci := 5) (v := .ref (ad 17)) (C := RMo) (T := TMo) (N := 21) hx hb ht inMo hown hK hP 0 rfl rfl 15 (by decide) (ht _ q561) (fun _ h9 => h9) rfl d_Mo_name_41 ?_
      refine lv_iload hx hb d_Mo_name_44 (lv_at hl 0 rfl) ?_
      refine va_cald hx hb hK hP 5 2 rfl rfl (vp_in_nI (n := a0 + 1) (by omega) (by decide)) d_Mo_name_46 ?_
      refine zti (y := nI (tx (a0 + 1))) (nF_at (by omega)) ?_
      refine lv_i2l (v := lN (tx (a0 + 1))) hx hb d_Mo_name_47 (nI_l (by omega)) ?_
      refine lv_lor hx hb d_Mo_name_48 ?_
      refine ztl (y := lN ((0 * 256 + (tx a0)) * 256 + (tx (a0 + 1)))) (zlor (by omega) (by omega)) ?_
      refine lv_lstore hx hb d_Mo_name_49 hl (by decide) rfl (fun ls hl => ?_)
      have hl : lv_has ls 7 [(4, .long (lN ((0 * 256 + (tx a0)) * 256 + (tx (a0 + 1))))), (6, .int (nI (a0 + 1))), (0, .ref (ad 12)), (1, .int (nI a0)), (2, .int (nI (a0 + 3))), (3, .int (nI 3))] := hl
      refine lv_iinc (k := 1) (v := nI ((a0 + 1) + 1)) hx hb d_Mo_name_51 hl rfl (zinc _) (by decide) rfl (fun ls hl => ?_)
      have hl : lv_has ls 7 [(6, .int (nI ((a0 + 1) + 1))), (4, .long (lN ((0 * 256 + (tx a0)) * 256 + (tx (a0 + 1))))), (0, .ref (ad 12)), (1, .int (nI a0)), (2, .int (nI (a0 + 3))), (3, .int (nI 3))] := hl
      refine lv_goto (tgt := 16) hx hb d_Mo_name_54 (by decide) ?_
      refine lv_iload hx hb d_Mo_name_16 (lv_at hl 0 rfl) ?_
      refine lv_iload_n hx hb d_Mo_name_18 rfl (lv_at hl 4 rfl) ?_
      refine lv_icmp_ge (tgt := 57) hx hb d_Mo_name_19 (by decide) (fun h182 => absurd ((nI_leI (by omega) (by omega)).mp h182) (by omega)) (fun _ => ?_)
      refine lv_lload hx hb d_Mo_name_22 (lv_at hl 1 rfl) ?_
      refine lv_bipush (v := nI 8) hx hb d_Mo_name_24 (by decide) ?_
      refine lv_lshl (v := lN (((0 * 256 + (tx a0)) * 256 + (tx (a0 + 1))) * 256)) hx hb d_Mo_name_26 zshl8 ?_
      refine lv_iload hx hb d_Mo_name_27 (lv_at hl 0 rfl) ?_
      refine lv_iload_n hx hb d_Mo_name_29 rfl (lv_at hl 3 rfl) ?_
      refine lv_isub hx hb d_Mo_name_30 ?_
      refine zti (y := nI (((a0 + 1) + 1) - a0)) (pk_sub (by omega)) ?_
      refine zti (y := nI 2) (congrArg nI (by omega)) ?_
      refine lv_iload_n hx hb d_Mo_name_31 rfl (lv_at hl 5 rfl) ?_
      refine lv_icmp_ne (tgt := 40) hx hb d_Mo_name_32 (by decide) (fun _ => ?_) (fun h183 => absurd h183 (by decide))
      refine lv_aload_n hx hb d_Mo_name_40 rfl (lv_at hl 2 rfl) ?_
      refine va_get (D := D) (ci := 5) (v := .ref (ad 17)) (C := RMo) (T := TMo) (N := 21) hx hb ht inMo hown hK hP 0 rfl rfl 15 (by decide) (ht _ q561) (fun _ h9 => h9) rfl d_Mo_name_41 ?_
      refine lv_iload hx hb d_Mo_name_44 (lv_at hl 0 rfl) ?_
      refine va_cald hx hb hK hP 5 2 rfl rfl (vp_in_nI (n := (a0 + 1) + 1) (by omega) (by decide)) d_Mo_name_46 ?_
      refine zti (y := nI (tx ((a0 + 1) + 1))) (nF_at (by omega)) ?_
      refine lv_i2l (v := lN (tx ((a0 + 1) + 1))) hx hb d_Mo_name_47 (nI_l (by omega)) ?_
      refine lv_lor hx hb d_Mo_name_48 ?_
      refine ztl (y := lN (((0 * 256 + (tx a0)) * 256 + (tx (a0 + 1))) * 256 + (tx ((a0 + 1) + 1)))) (zlor (by omega) (by omega)) ?_
      refine lv_lstore hx hb d_Mo_name_49 hl (by decide) rfl (fun ls hl => ?_)
      have hl : lv_has ls 7 [(4, .long (lN (((0 * 256 + (tx a0)) * 256 + (tx (a0 + 1))) * 256 + (tx ((a0 + 1) + 1))))), (6, .int (nI ((a0 + 1) + 1))), (0, .ref (ad 12)), (1, .int (nI a0)), (2, .int (nI (a0 + 3))), (3, .int (nI 3))] := hl
      refine lv_iinc (k := 1) (v := nI (((a0 + 1) + 1) + 1)) hx hb d_Mo_name_51 hl rfl (zinc _) (by decide) rfl (fun ls hl => ?_)
      have hl : lv_has ls 7 [(6, .int (nI (((a0 + 1) + 1) + 1))), (4, .long (lN (((0 * 256 + (tx a0)) * 256 + (tx (a0 + 1))) * 256 + (tx ((a0 + 1) + 1))))), (0, .ref (ad 12)), (1, .int (nI a0)), (2, .int (nI (a0 + 3))), (3, .int (nI 3))] := hl
      refine lv_goto (tgt := 16) hx hb d_Mo_name_54 (by decide) ?_
      refine lv_iload hx hb d_Mo_name_16 (lv_at hl 0 rfl) ?_
      refine lv_iload_n hx hb d_Mo_name_18 rfl (lv_at hl 4 rfl) ?_
      refine lv_icmp_ge (tgt := 57) hx hb d_Mo_name_19 (by decide) (fun _ => ?_) (fun h184 => absurd ((nI_leI (by omega) (by omega)).mpr (by omega)) h184)
      refine lv_lload hx hb d_Mo_name_57 (lv_at hl 1 rfl) ?_
      exact zret_l C0 hr hAe hP hD hS ⟨by rw [nm_l (by decide)]; rfl, rfl⟩ d_Mo_name_59
    · skip
      refine lv_iload_n hx hb d_Mo_name_0 rfl (lv_at hl 2 rfl) ?_
      refine lv_iload_n hx hb d_Mo_name_1 rfl (lv_at hl 1 rfl) ?_
      refine lv_isub hx hb d_Mo_name_2 ?_
      refine zti (y := nI ((a0 + 4) - a0)) (pk_sub (by omega)) ?_
      refine zti (y := nI 4) (congrArg nI (by omega)) ?_
      refine lv_bipush (v := nI 6) hx hb d_Mo_name_3 (by decide) ?_
      refine lv_icmp_le (tgt := 10) hx hb d_Mo_name_5 (by decide) (fun _ => ?_) (fun h185 => absurd (by decide) h185)
      refine lv_lconst (v := lN 0) hx hb d_Mo_name_10 rfl ?_
      refine lv_lstore hx hb d_Mo_name_11 hl (by decide) rfl (fun ls hl => ?_)
      have hl : lv_has ls 7 [(4, .long (lN 0)), (0, .ref (ad 12)), (1, .int (nI a0)), (2, .int (nI (a0 + 4))), (3, .int (nI 3))] := hl
      refine lv_iload_n hx hb d_Mo_name_13 rfl (lv_at hl 2 rfl) ?_
      refine lv_istore hx hb d_Mo_name_14 hl (by decide) rfl (fun ls hl => ?_)
      have hl : lv_has ls 7 [(6, .int (nI a0)), (4, .long (lN 0)), (0, .ref (ad 12)), (1, .int (nI a0)), (2, .int (nI (a0 + 4))), (3, .int (nI 3))] := hl
      refine lv_iload hx hb d_Mo_name_16 (lv_at hl 0 rfl) ?_
      refine lv_iload_n hx hb d_Mo_name_18 rfl (lv_at hl 4 rfl) ?_
      refine lv_icmp_ge (tgt := 57) hx hb d_Mo_name_19 (by decide) (fun h186 => absurd ((nI_leI (by omega) (by omega)).mp h186) (by omega)) (fun _ => ?_)
      refine lv_lload hx hb d_Mo_name_22 (lv_at hl 1 rfl) ?_
      refine lv_bipush (v := nI 8) hx hb d_Mo_name_24 (by decide) ?_
      refine lv_lshl (v := lN (0 * 256)) hx hb d_Mo_name_26 zshl8 ?_
      refine lv_iload hx hb d_Mo_name_27 (lv_at hl 0 rfl) ?_
      refine lv_iload_n hx hb d_Mo_name_29 rfl (lv_at hl 3 rfl) ?_
      refine lv_isub hx hb d_Mo_name_30 ?_
      refine zti (y := nI (a0 - a0)) (pk_sub (by omega)) ?_
      refine zti (y := nI 0) (congrArg nI (by omega)) ?_
      refine lv_iload_n hx hb d_Mo_name_31 rfl (lv_at hl 5 rfl) ?_
      refine lv_icmp_ne (tgt := 40) hx hb d_Mo_name_32 (by decide) (fun _ => ?_) (fun h187 => absurd h187 (by decide))
      refine lv_aload_n hx hb d_Mo_name_40 rfl (lv_at hl 2 rfl) ?_
      refine va_get (D := D) (ci := 5) (v := .ref (ad 17)) (C := RMo) (T := TMo) (N := 21) hx hb ht inMo hown hK hP 0 rfl rfl 15 (by decide) (ht _ q561) (fun _ h9 => h9) rfl d_Mo_name_41 ?_
      refine lv_iload hx hb d_Mo_name_44 (lv_at hl 0 rfl) ?_
      refine va_cald hx hb hK hP 5 2 rfl rfl (vp_in_nI (n := a0) (by omega) (by decide)) d_Mo_name_46 ?_
      refine zti (y := nI (tx a0)) (nF_at (by omega)) ?_
      refine lv_i2l (v := lN (tx a0)) hx hb d_Mo_name_47 (nI_l (by omega)) ?_
      refine lv_lor hx hb d_Mo_name_48 ?_
      refine ztl (y := lN (0 * 256 + (tx a0))) (zlor (by omega) (by omega)) ?_
      refine lv_lstore hx hb d_Mo_name_49 hl (by decide) rfl (fun ls hl => ?_)
      have hl : lv_has ls 7 [(4, .long (lN (0 * 256 + (tx a0)))), (6, .int (nI a0)), (0, .ref (ad 12)), (1, .int (nI a0)), (2, .int (nI (a0 + 4))), (3, .int (nI 3))] := hl
      refine lv_iinc (k := 1) (v := nI (a0 + 1)) hx hb d_Mo_name_51 hl rfl (zinc _) (by decide) rfl (fun ls hl => ?_)
      have hl : lv_has ls 7 [(6, .int (nI (a0 + 1))), (4, .long (lN (0 * 256 + (tx a0)))), (0, .ref (ad 12)), (1, .int (nI a0)), (2, .int (nI (a0 + 4))), (3, .int (nI 3))] := hl
      refine lv_goto (tgt := 16) hx hb d_Mo_name_54 (by decide) ?_
      refine lv_iload hx hb d_Mo_name_16 (lv_at hl 0 rfl) ?_
      refine lv_iload_n hx hb d_Mo_name_18 rfl (lv_at hl 4 rfl) ?_
      refine lv_icmp_ge (tgt := 57) hx hb d_Mo_name_19 (by decide) (fun h188 => absurd ((nI_leI (by omega) (by omega)).mp h188) (by omega)) (fun _ => ?_)
      refine lv_lload hx hb d_Mo_name_22 (lv_at hl 1 rfl) ?_
      refine lv_bipush (v := nI 8) hx hb d_Mo_name_24 (by decide) ?_
      refine lv_lshl (v := lN ((0 * 256 + (tx a0)) * 256)) hx hb d_Mo_name_26 zshl8 ?_
      refine lv_iload hx hb d_Mo_name_27 (lv_at hl 0 rfl) ?_
      refine lv_iload_n hx hb d_Mo_name_29 rfl (lv_at hl 3 rfl) ?_
      refine lv_isub hx hb d_Mo_name_30 ?_
      refine zti (y := nI ((a0 + 1) - a0)) (pk_sub (by omega)) ?_
      refine zti (y := nI 1) (congrArg nI (by omega)) ?_
      refine lv_iload_n hx hb d_Mo_name_31 rfl (lv_at hl 5 rfl) ?_
      refine lv_icmp_ne (tgt := 40) hx hb d_Mo_name_32 (by decide) (fun _ => ?_) (fun h189 => absurd h189 (by decide))
      refine lv_aload_n hx hb d_Mo_name_40 rfl (lv_at hl 2 rfl) ?_
      refine va_get (D := D) (ci := 5) (v := .ref (ad 17)) (C := RMo) (T := TMo) (N := 21) hx hb ht inMo hown hK hP 0 rfl rfl 15 (by decide) (ht _ q561) (fun _ h9 => h9) rfl d_Mo_name_41 ?_
      refine lv_iload hx hb d_Mo_name_44 (lv_at hl 0 rfl) ?_
      refine va_cald hx hb hK hP 5 2 rfl rfl (vp_in_nI (n := a0 + 1) (by omega) (by decide)) d_Mo_name_46 ?_
      refine zti (y := nI (tx (a0 + 1))) (nF_at (by omega)) ?_
      refine lv_i2l (v := lN (tx (a0 + 1))) hx hb d_Mo_name_47 (nI_l (by omega)) ?_
      refine lv_lor hx hb d_Mo_name_48 ?_
      refine ztl (y := lN ((0 * 256 + (tx a0)) * 256 + (tx (a0 + 1)))) (zlor (by omega) (by omega)) ?_
      refine lv_lstore hx hb d_Mo_name_49 hl (by decide) rfl (fun ls hl => ?_)
      have hl : lv_has ls 7 [(4, .long (lN ((0 * 256 + (tx a0)) * 256 + (tx (a0 + 1))))), (6, .int (nI (a0 + 1))), (0, .ref (ad 12)), (1, .int (nI a0)), (2, .int (nI (a0 + 4))), (3, .int (nI 3))] := hl
      refine lv_iinc (k := 1) (v := nI ((a0 + 1) + 1)) hx hb d_Mo_name_51 hl rfl (zinc _) (by decide) rfl (fun ls hl => ?_)
      have hl : lv_has ls 7 [(6, .int (nI ((a0 + 1) + 1))), (4, .long (lN ((0 * 256 + (tx a0)) * 256 + (tx (a0 + 1))))), (0, .ref (ad 12)), (1, .int (nI a0)), (2, .int (nI (a0 + 4))), (3, .int (nI 3))] := hl
      refine lv_goto (tgt := 16) hx hb d_Mo_name_54 (by decide) ?_
      refine lv_iload hx hb d_Mo_name_16 (lv_at hl 0 rfl) ?_
      refine lv_iload_n hx hb d_Mo_name_18 rfl (lv_at hl 4 rfl) ?_
      refine lv_icmp_ge (tgt := 57) hx hb d_Mo_name_19 (by decide) (fun h190 => absurd ((nI_leI (by omega) (by omega)).mp h190) (by omega)) (fun _ => ?_)
      refine lv_lload hx hb d_Mo_name_22 (lv_at hl 1 rfl) ?_
      refine lv_bipush (v := nI 8) hx hb d_Mo_name_24 (by decide) ?_
      refine lv_lshl (v := lN (((0 * 256 + (tx a0)) * 256 + (tx (a0 + 1))) * 256)) hx hb d_Mo_name_26 zshl8 ?_
      refine lv_iload hx hb d_Mo_name_27 (lv_at hl 0 rfl) ?_
      refine lv_iload_n hx hb d_Mo_name_29 rfl (lv_at hl 3 rfl) ?_
      refine lv_isub hx hb d_Mo_name_30 ?_
      refine zti (y := nI (((a0 + 1) + 1) - a0)) (pk_sub (by omega)) ?_
      refine zti (y := nI 2) (congrArg nI (by omega)) ?_
      refine lv_iload_n hx hb d_Mo_name_31 rfl (lv_at hl 5 rfl) ?_
      refine lv_icmp_ne (tgt := 40) hx hb d_Mo_name_32 (by decide) (fun _ => ?_) (fun h191 => absurd h191 (by decide))
      refine lv_aload_n hx hb d_Mo_name_40 rfl (lv_at hl 2 rfl) ?_
      refine va_get (D := D) (ci := 5) (v := .ref (ad 17)) (C := RMo) (T := TMo) (N := 21) hx hb ht inMo hown hK hP 0 rfl rfl 15 (by decide) (ht _ q561) (fun _ h9 => h9) rfl d_Mo_name_41 ?_
      refine lv_iload hx hb d_Mo_name_44 (lv_at hl 0 rfl) ?_
      refine va_cald hx hb hK hP 5 2 rfl rfl (vp_in_nI (n := (a0 + 1) + 1) (by omega) (by decide)) d_Mo_name_46 ?_
      refine zti (y := nI (tx ((a0 + 1) + 1))) (nF_at (by omega)) ?_
      refine lv_i2l (v := lN (tx ((a0 + 1) + 1))) hx hb d_Mo_name_47 (nI_l (by omega)) ?_
      refine lv_lor hx hb d_Mo_name_48 ?_
      refine ztl (y := lN (((0 * 256 + (tx a0)) * 256 + (tx (a0 + 1))) * 256 + (tx ((a0 + 1) + 1)))) (zlor (by omega) (by omega)) ?_
      refine lv_lstore hx hb d_Mo_name_49 hl (by decide) rfl (fun ls hl => ?_)
      have hl : lv_has ls 7 [(4, .long (lN (((0 * 256 + (tx a0)) * 256 + (tx (a0 + 1))) * 256 + (tx ((a0 + 1) + 1))))), (6, .int (nI ((a0 + 1) + 1))), (0, .ref (ad 12)), (1, .int (nI a0)), (2, .int (nI (a0 + 4))), (3, .int (nI 3))] := hl
      refine lv_iinc (k := 1) (v := nI (((a0 + 1) + 1) + 1)) hx hb d_Mo_name_51 hl rfl (zinc _) (by decide) rfl (fun ls hl => ?_)
      have hl : lv_has ls 7 [(6, .int (nI (((a0 + 1) + 1) + 1))), (4, .long (lN (((0 * 256 + (tx a0)) * 256 + (tx (a0 + 1))) * 256 + (tx ((a0 + 1) + 1))))), (0, .ref (ad 12)), (1, .int (nI a0)), (2, .int (nI (a0 + 4))), (3, .int (nI 3))] := hl
      refine lv_goto (tgt := 16) hx hb d_Mo_name_54 (by decide) ?_
      refine lv_iload hx hb d_Mo_name_16 (lv_at hl 0 rfl) ?_
      refine lv_iload_n hx hb d_Mo_name_18 rfl (lv_at hl 4 rfl) ?_
      refine lv_icmp_ge (tgt := 57) hx hb d_Mo_name_19 (by decide) (fun h192 => absurd ((nI_leI (by omega) (by omega)).mp h192) (by omega)) (fun _ => ?_)
      refine lv_lload hx hb d_Mo_name_22 (lv_at hl 1 rfl) ?_
      refine lv_bipush (v := nI 8) hx hb d_Mo_name_24 (by decide) ?_
      refine lv_lshl (v := lN ((((0 * 256 + (tx a0)) * 256 + (tx (a0 + 1))) * 256 + (tx ((a0 + 1) + 1))) * 256)) hx hb d_Mo_name_26 zshl8 ?_
      refine lv_iload hx hb d_Mo_name_27 (lv_at hl 0 rfl) ?_
      refine lv_iload_n hx hb d_Mo_name_29 rfl (lv_at hl 3 rfl) ?_
      refine lv_isub hx hb d_Mo_name_30 ?_
      refine zti (y := nI ((((a0 + 1) + 1) + 1) - a0)) (pk_sub (by omega)) ?_
      refine zti (y := nI 3) (congrArg nI (by omega)) ?_
      refine lv_iload_n hx hb d_Mo_name_31 rfl (lv_at hl 5 rfl) ?_
      refine lv_icmp_ne (tgt := 40) hx hb d_Mo_name_32 (by decide) (fun h193 => absurd (by decide) h193) (fun _ => ?_)
      refine lv_bipush (v := nI 35) hx hb d_Mo_name_35 (by decide) ?_
      refine lv_goto (tgt := 47) hx hb d_Mo_name_37 (by decide) ?_
      refine lv_i2l (v := lN 35) hx hb d_Mo_name_47 (nI_l (by omega)) ?_
      refine lv_lor hx hb d_Mo_name_48 ?_
      refine ztl (y := lN ((((0 * 256 + (tx a0)) * 256 + (tx (a0 + 1))) * 256 + (tx ((a0 + 1) + 1))) * 256 + 35)) (zlor (by omega) (by omega)) ?_
      refine lv_lstore hx hb d_Mo_name_49 hl (by decide) rfl (fun ls hl => ?_)
      have hl : lv_has ls 7 [(4, .long (lN ((((0 * 256 + (tx a0)) * 256 + (tx (a0 + 1))) * 256 + (tx ((a0 + 1) + 1))) * 256 + 35))), (6, .int (nI (((a0 + 1) + 1) + 1))), (0, .ref (ad 12)), (1, .int (nI a0)), (2, .int (nI (a0 + 4))), (3, .int (nI 3))] := hl
      refine lv_iinc (k := 1) (v := nI ((((a0 + 1) + 1) + 1) + 1)) hx hb d_Mo_name_51 hl rfl (zinc _) (by decide) rfl (fun ls hl => ?_)
      have hl : lv_has ls 7 [(6, .int (nI ((((a0 + 1) + 1) + 1) + 1))), (4, .long (lN ((((0 * 256 + (tx a0)) * 256 + (tx (a0 + 1))) * 256 + (tx ((a0 + 1) + 1))) * 256 + 35))), (0, .ref (ad 12)), (1, .int (nI a0)), (2, .int (nI (a0 + 4))), (3, .int (nI 3))] := hl
      refine lv_goto (tgt := 16) hx hb d_Mo_name_54 (by decide) ?_
      refine lv_iload hx hb d_Mo_name_16 (lv_at hl 0 rfl) ?_
      refine lv_iload_n hx hb d_Mo_name_18 rfl (lv_at hl 4 rfl) ?_
      refine lv_icmp_ge (tgt := 57) hx hb d_Mo_name_19 (by decide) (fun _ => ?_) (fun h194 => absurd ((nI_leI (by omega) (by omega)).mpr (by omega)) h194)
      refine lv_lload hx hb d_Mo_name_57 (lv_at hl 1 rfl) ?_
      exact zret_l C0 hr hAe hP hD hS ⟨by rw [nm_l (by decide)]; rfl, rfl⟩ d_Mo_name_59
    · skip
      refine lv_iload_n hx hb d_Mo_name_0 rfl (lv_at hl 2 rfl) ?_
      refine lv_iload_n hx hb d_Mo_name_1 rfl (lv_at hl 1 rfl) ?_
      refine lv_isub hx hb d_Mo_name_2 ?_
      refine zti (y := nI ((a0 + 5) - a0)) (pk_sub (by omega)) ?_
      refine zti (y := nI 5) (congrArg nI (by omega)) ?_
      refine lv_bipush (v := nI 6) hx hb d_Mo_name_3 (by decide) ?_
      refine lv_icmp_le (tgt := 10) hx hb d_Mo_name_5 (by decide) (fun _ => ?_) (fun h195 => absurd (by decide) h195)
      refine lv_lconst (v := lN 0) hx hb d_Mo_name_10 rfl ?_
      refine lv_lstore hx hb d_Mo_name_11 hl (by decide) rfl (fun ls hl => ?_)
      have hl : lv_has ls 7 [(4, .long (lN 0)), (0, .ref (ad 12)), (1, .int (nI a0)), (2, .int (nI (a0 + 5))), (3, .int (nI 3))] := hl
      refine lv_iload_n hx hb d_Mo_name_13 rfl (lv_at hl 2 rfl) ?_
      refine lv_istore hx hb d_Mo_name_14 hl (by decide) rfl (fun ls hl => ?_)
      have hl : lv_has ls 7 [(6, .int (nI a0)), (4, .long (lN 0)), (0, .ref (ad 12)), (1, .int (nI a0)), (2, .int (nI (a0 + 5))), (3, .int (nI 3))] := hl
      refine lv_iload hx hb d_Mo_name_16 (lv_at hl 0 rfl) ?_
      refine lv_iload_n hx hb d_Mo_name_18 rfl (lv_at hl 4 rfl) ?_
      refine lv_icmp_ge (tgt := 57) hx hb d_Mo_name_19 (by decide) (fun h196 => absurd ((nI_leI (by omega) (by omega)).mp h196) (by omega)) (fun _ => ?_)
      refine lv_lload hx hb d_Mo_name_22 (lv_at hl 1 rfl) ?_
      refine lv_bipush (v := nI 8) hx hb d_Mo_name_24 (by decide) ?_
      refine lv_lshl (v := lN (0 * 256)) hx hb d_Mo_name_26 zshl8 ?_
      refine lv_iload hx hb d_Mo_name_27 (lv_at hl 0 rfl) ?_
      refine lv_iload_n hx hb d_Mo_name_29 rfl (lv_at hl 3 rfl) ?_
      refine lv_isub hx hb d_Mo_name_30 ?_
      refine zti (y := nI (a0 - a0)) (pk_sub (by omega)) ?_
      refine zti (y := nI 0) (congrArg nI (by omega)) ?_
      refine lv_iload_n hx hb d_Mo_name_31 rfl (lv_at hl 5 rfl) ?_
      refine lv_icmp_ne (tgt := 40) hx hb d_Mo_name_32 (by decide) (fun _ => ?_) (fun h197 => absurd h197 (by decide))
      refine lv_aload_n hx hb d_Mo_name_40 rfl (lv_at hl 2 rfl) ?_
      refine va_get (D := D) (ci := 5) (v := .ref (ad 17)) (C := RMo) (T := TMo) (N := 21) hx hb ht inMo hown hK hP 0 rfl rfl 15 (by decide) (ht _ q561) (fun _ h9 => h9) rfl d_Mo_name_41 ?_
      refine lv_iload hx hb d_Mo_name_44 (lv_at hl 0 rfl) ?_
      refine va_cald hx hb hK hP 5 2 rfl rfl (vp_in_nI (n := a0) (by omega) (by decide)) d_Mo_name_46 ?_
      refine zti (y := nI (tx a0)) (nF_at (by omega)) ?_
      refine lv_i2l (v := lN (tx a0)) hx hb d_Mo_name_47 (nI_l (by omega)) ?_
      refine lv_lor hx hb d_Mo_name_48 ?_
      refine ztl (y := lN (0 * 256 + (tx a0))) (zlor (by omega) (by omega)) ?_
      refine lv_lstore hx hb d_Mo_name_49 hl (by decide) rfl (fun ls hl => ?_)
      have hl : lv_has ls 7 [(4, .long (lN (0 * 256 + (tx a0)))), (6, .int (nI a0)), (0, .ref (ad 12)), (1, .int (nI a0)), (2, .int (nI (a0 + 5))), (3, .int (nI 3))] := hl
      refine lv_iinc (k := 1) (v := nI (a0 + 1)) hx hb d_Mo_name_51 hl rfl (zinc _) (by decide) rfl (fun ls hl => ?_)
      have hl : lv_has ls 7 [(6, .int (nI (a0 + 1))), (4, .long (lN (0 * 256 + (tx a0)))), (0, .ref (ad 12)), (1, .int (nI a0)), (2, .int (nI (a0 + 5))), (3, .int (nI 3))] := hl
      refine lv_goto (tgt := 16) hx hb d_Mo_name_54 (by decide) ?_
      refine lv_iload hx hb d_Mo_name_16 (lv_at hl 0 rfl) ?_
      refine lv_iload_n hx hb d_Mo_name_18 rfl (lv_at hl 4 rfl) ?_
      refine lv_icmp_ge (tgt := 57) hx hb d_Mo_name_19 (by decide) (fun h198 => absurd ((nI_leI (by omega) (by omega)).mp h198) (by omega)) (fun _ => ?_)
      refine lv_lload hx hb d_Mo_name_22 (lv_at hl 1 rfl) ?_
      refine lv_bipush (v := nI 8) hx hb d_Mo_name_24 (by decide) ?_
      refine lv_lshl (v := lN ((0 * 256 + (tx a0)) * 256)) hx hb d_Mo_name_26 zshl8 ?_
      refine lv_iload hx hb d_Mo_name_27 (lv_at hl 0 rfl) ?_
      refine lv_iload_n hx hb d_Mo_name_29 rfl (lv_at hl 3 rfl) ?_
      refine lv_isub hx hb d_Mo_name_30 ?_
      refine zti (y := nI ((a0 + 1) - a0)) (pk_sub (by omega)) ?_
      refine zti (y := nI 1) (congrArg nI (by omega)) ?_
      refine lv_iload_n hx hb d_Mo_name_31 rfl (lv_at hl 5 rfl) ?_
      refine lv_icmp_ne (tgt := 40) hx hb d_Mo_name_32 (by decide) (fun _ => ?_) (fun h199 => absurd h199 (by decide))
      refine lv_aload_n hx hb d_Mo_name_40 rfl (lv_at hl 2 rfl) ?_
      refine va_get (D := D) (ci := 5) (v := .ref (ad 17)) (C := RMo) (T := TMo) (N := 21) hx hb ht inMo hown hK hP 0 rfl rfl 15 (by decide) (ht _ q561) (fun _ h9 => h9) rfl d_Mo_name_41 ?_
      refine lv_iload hx hb d_Mo_name_44 (lv_at hl 0 rfl) ?_
      refine va_cald hx hb hK hP 5 2 rfl rfl (vp_in_nI (n := a0 + 1) (by omega) (by decide)) d_Mo_name_46 ?_
      refine zti (y := nI (tx (a0 + 1))) (nF_at (by omega)) ?_
      refine lv_i2l (v := lN (tx (a0 + 1))) hx hb d_Mo_name_47 (nI_l (by omega)) ?_
      refine lv_lor hx hb d_Mo_name_48 ?_
      refine ztl (y := lN ((0 * 256 + (tx a0)) * 256 + (tx (a0 + 1)))) (zlor (by omega) (by omega)) ?_
      refine lv_lstore hx hb d_Mo_name_49 hl (by decide) rfl (fun ls hl => ?_)
      have hl : lv_has ls 7 [(4, .long (lN ((0 * 256 + (tx a0)) * 256 + (tx (a0 + 1))))), (6, .int (nI (a0 + 1))), (0, .ref (ad 12)), (1, .int (nI a0)), (2, .int (nI (a0 + 5))), (3, .int (nI 3))] := hl
      refine lv_iinc (k := 1) (v := nI ((a0 + 1) + 1)) hx hb d_Mo_name_51 hl rfl (zinc _) (by decide) rfl (fun ls hl => ?_)
      have hl : lv_has ls 7 [(6, .int (nI ((a0 + 1) + 1))), (4, .long (lN ((0 * 256 + (tx a0)) * 256 + (tx (a0 + 1))))), (0, .ref (ad 12)), (1, .int (nI a0)), (2, .int (nI (a0 + 5))), (3, .int (nI 3))] := hl
      refine lv_goto (tgt := 16) hx hb d_Mo_name_54 (by decide) ?_
      refine lv_iload hx hb d_Mo_name_16 (lv_at hl 0 rfl) ?_
      refine lv_iload_n hx hb d_Mo_name_18 rfl (lv_at hl 4 rfl) ?_
      refine lv_icmp_ge (tgt := 57) hx hb d_Mo_name_19 (by decide) (fun h200 => absurd ((nI_leI (by omega) (by omega)).mp h200) (by omega)) (fun _ => ?_)
      refine lv_lload hx hb d_Mo_name_22 (lv_at hl 1 rfl) ?_
      refine lv_bipush (v := nI 8) hx hb d_Mo_name_24 (by decide) ?_
      refine lv_lshl (v := lN (((0 * 256 + (tx a0)) * 256 + (tx (a0 + 1))) * 256)) hx hb d_Mo_name_26 zshl8 ?_
      refine lv_iload hx hb d_Mo_name_27 (lv_at hl 0 rfl) ?_
      refine lv_iload_n hx hb d_Mo_name_29 rfl (lv_at hl 3 rfl) ?_
      refine lv_isub hx hb d_Mo_name_30 ?_
      refine zti (y := nI (((a0 + 1) + 1) - a0)) (pk_sub (by omega)) ?_
      refine zti (y := nI 2) (congrArg nI (by omega)) ?_
      refine lv_iload_n hx hb d_Mo_name_31 rfl (lv_at hl 5 rfl) ?_
      refine lv_icmp_ne (tgt := 40) hx hb d_Mo_name_32 (by decide) (fun _ => ?_) (fun h201 => absurd h201 (by decide))
      refine lv_aload_n hx hb d_Mo_name_40 rfl (lv_at hl 2 rfl) ?_
      refine va_get (D := D) (ci := 5) (v := .ref (ad 17)) (C := RMo) (T := TMo) (N := 21) hx hb ht inMo hown hK hP 0 rfl rfl 15 (by decide) (ht _ q561) (fun _ h9 => h9) rfl d_Mo_name_41 ?_
      refine lv_iload hx hb d_Mo_name_44 (lv_at hl 0 rfl) ?_
      refine va_cald hx hb hK hP 5 2 rfl rfl (vp_in_nI (n := (a0 + 1) + 1) (by omega) (by decide)) d_Mo_name_46 ?_
      refine zti (y := nI (tx ((a0 + 1) + 1))) (nF_at (by omega)) ?_
      refine lv_i2l (v := lN (tx ((a0 + 1) + 1))) hx hb d_Mo_name_47 (nI_l (by omega)) ?_
      refine lv_lor hx hb d_Mo_name_48 ?_
      refine ztl (y := lN (((0 * 256 + (tx a0)) * 256 + (tx (a0 + 1))) * 256 + (tx ((a0 + 1) + 1)))) (zlor (by omega) (by omega)) ?_
      refine lv_lstore hx hb d_Mo_name_49 hl (by decide) rfl (fun ls hl => ?_)
      have hl : lv_has ls 7 [(4, .long (lN (((0 * 256 + (tx a0)) * 256 + (tx (a0 + 1))) * 256 + (tx ((a0 + 1) + 1))))), (6, .int (nI ((a0 + 1) + 1))), (0, .ref (ad 12)), (1, .int (nI a0)), (2, .int (nI (a0 + 5))), (3, .int (nI 3))] := hl
      refine lv_iinc (k := 1) (v := nI (((a0 + 1) + 1) + 1)) hx hb d_Mo_name_51 hl rfl (zinc _) (by decide) rfl (fun ls hl => ?_)
      have hl : lv_has ls 7 [(6, .int (nI (((a0 + 1) + 1) + 1))), (4, .long (lN (((0 * 256 + (tx a0)) * 256 + (tx (a0 + 1))) * 256 + (tx ((a0 + 1) + 1))))), (0, .ref (ad 12)), (1, .int (nI a0)), (2, .int (nI (a0 + 5))), (3, .int (nI 3))] := hl
      refine lv_goto (tgt := 16) hx hb d_Mo_name_54 (by decide) ?_
      refine lv_iload hx hb d_Mo_name_16 (lv_at hl 0 rfl) ?_
      refine lv_iload_n hx hb d_Mo_name_18 rfl (lv_at hl 4 rfl) ?_
      refine lv_icmp_ge (tgt := 57) hx hb d_Mo_name_19 (by decide) (fun h202 => absurd ((nI_leI (by omega) (by omega)).mp h202) (by omega)) (fun _ => ?_)
      refine lv_lload hx hb d_Mo_name_22 (lv_at hl 1 rfl) ?_
      refine lv_bipush (v := nI 8) hx hb d_Mo_name_24 (by decide) ?_
      refine lv_lshl (v := lN ((((0 * 256 + (tx a0)) * 256 + (tx (a0 + 1))) * 256 + (tx ((a0 + 1) + 1))) * 256)) hx hb d_Mo_name_26 zshl8 ?_
      refine lv_iload hx hb d_Mo_name_27 (lv_at hl 0 rfl) ?_
      refine lv_iload_n hx hb d_Mo_name_29 rfl (lv_at hl 3 rfl) ?_
      refine lv_isub hx hb d_Mo_name_30 ?_
      refine zti (y := nI ((((a0 + 1) + 1) + 1) - a0)) (pk_sub (by omega)) ?_
      refine zti (y := nI 3) (congrArg nI (by omega)) ?_
      refine lv_iload_n hx hb d_Mo_name_31 rfl (lv_at hl 5 rfl) ?_
      refine lv_icmp_ne (tgt := 40) hx hb d_Mo_name_32 (by decide) (fun h203 => absurd (by decide) h203) (fun _ => ?_)
      refine lv_bipush (v := nI 35) hx hb d_Mo_name_35 (by decide) ?_
      refine lv_goto (tgt := 47) hx hb d_Mo_name_37 (by decide) ?_
      refine lv_i2l (v := lN 35) hx hb d_Mo_name_47 (nI_l (by omega)) ?_
      refine lv_lor hx hb d_Mo_name_48 ?_
      refine ztl (y := lN ((((0 * 256 + (tx a0)) * 256 + (tx (a0 + 1))) * 256 + (tx ((a0 + 1) + 1))) * 256 + 35)) (zlor (by omega) (by omega)) ?_
      refine lv_lstore hx hb d_Mo_name_49 hl (by decide) rfl (fun ls hl => ?_)
      have hl : lv_has ls 7 [(4, .long (lN ((((0 * 256 + (tx a0)) * 256 + (tx (a0 + 1))) * 256 + (tx ((a0 + 1) + 1))) * 256 + 35))), (6, .int (nI (((a0 + 1) + 1) + 1))), (0, .ref (ad 12)), (1, .int (nI a0)), (2, .int (nI (a0 + 5))), (3, .int (nI 3))] := hl
      refine lv_iinc (k := 1) (v := nI ((((a0 + 1) + 1) + 1) + 1)) hx hb d_Mo_name_51 hl rfl (zinc _) (by decide) rfl (fun ls hl => ?_)
      have hl : lv_has ls 7 [(6, .int (nI ((((a0 + 1) + 1) + 1) + 1))), (4, .long (lN ((((0 * 256 + (tx a0)) * 256 + (tx (a0 + 1))) * 256 + (tx ((a0 + 1) + 1))) * 256 + 35))), (0, .ref (ad 12)), (1, .int (nI a0)), (2, .int (nI (a0 + 5))), (3, .int (nI 3))] := hl
      refine lv_goto (tgt := 16) hx hb d_Mo_name_54 (by decide) ?_
      refine lv_iload hx hb d_Mo_name_16 (lv_at hl 0 rfl) ?_
      refine lv_iload_n hx hb d_Mo_name_18 rfl (lv_at hl 4 rfl) ?_
      refine lv_icmp_ge (tgt := 57) hx hb d_Mo_name_19 (by decide) (fun h204 => absurd ((nI_leI (by omega) (by omega)).mp h204) (by omega)) (fun _ => ?_)
      refine lv_lload hx hb d_Mo_name_22 (lv_at hl 1 rfl) ?_
      refine lv_bipush (v := nI 8) hx hb d_Mo_name_24 (by decide) ?_
      refine lv_lshl (v := lN (((((0 * 256 + (tx a0)) * 256 + (tx (a0 + 1))) * 256 + (tx ((a0 + 1) + 1))) * 256 + 35) * 256)) hx hb d_Mo_name_26 zshl8 ?_
      refine lv_iload hx hb d_Mo_name_27 (lv_at hl 0 rfl) ?_
      refine lv_iload_n hx hb d_Mo_name_29 rfl (lv_at hl 3 rfl) ?_
      refine lv_isub hx hb d_Mo_name_30 ?_
      refine zti (y := nI (((((a0 + 1) + 1) + 1) + 1) - a0)) (pk_sub (by omega)) ?_
      refine zti (y := nI 4) (congrArg nI (by omega)) ?_
      refine lv_iload_n hx hb d_Mo_name_31 rfl (lv_at hl 5 rfl) ?_
      refine lv_icmp_ne (tgt := 40) hx hb d_Mo_name_32 (by decide) (fun _ => ?_) (fun h205 => absurd h205 (by decide))
      refine lv_aload_n hx hb d_Mo_name_40 rfl (lv_at hl 2 rfl) ?_
      refine va_get (D := D) (ci := 5) (v := .ref (ad 17)) (C := RMo) (T := TMo) (N := 21) hx hb ht inMo hown hK hP 0 rfl rfl 15 (by decide) (ht _ q561) (fun _ h9 => h9) rfl d_Mo_name_41 ?_
      refine lv_iload hx hb d_Mo_name_44 (lv_at hl 0 rfl) ?_
      refine va_cald hx hb hK hP 5 2 rfl rfl (vp_in_nI (n := (((a0 + 1) + 1) + 1) + 1) (by omega) (by decide)) d_Mo_name_46 ?_
      refine zti (y := nI (tx ((((a0 + 1) + 1) + 1) + 1))) (nF_at (by omega)) ?_
      refine lv_i2l (v := lN (tx ((((a0 + 1) + 1) + 1) + 1))) hx hb d_Mo_name_47 (nI_l (by omega)) ?_
      refine lv_lor hx hb d_Mo_name_48 ?_
      refine ztl (y := lN (((((0 * 256 + (tx a0)) * 256 + (tx (a0 + 1))) * 256 + (tx ((a0 + 1) + 1))) * 256 + 35) * 256 + (tx ((((a0 + 1) + 1) + 1) + 1)))) (zlor (by omega) (by omega)) ?_
      refine lv_lstore hx hb d_Mo_name_49 hl (by decide) rfl (fun ls hl => ?_)
      have hl : lv_has ls 7 [(4, .long (lN (((((0 * 256 + (tx a0)) * 256 + (tx (a0 + 1))) * 256 + (tx ((a0 + 1) + 1))) * 256 + 35) * 256 + (tx ((((a0 + 1) + 1) + 1) + 1))))), (6, .int (nI ((((a0 + 1) + 1) + 1) + 1))), (0, .ref (ad 12)), (1, .int (nI a0)), (2, .int (nI (a0 + 5))), (3, .int (nI 3))] := hl
      refine lv_iinc (k := 1) (v := nI (((((a0 + 1) + 1) + 1) + 1) + 1)) hx hb d_Mo_name_51 hl rfl (zinc _) (by decide) rfl (fun ls hl => ?_)
      have hl : lv_has ls 7 [(6, .int (nI (((((a0 + 1) + 1) + 1) + 1) + 1))), (4, .long (lN (((((0 * 256 + (tx a0)) * 256 + (tx (a0 + 1))) * 256 + (tx ((a0 + 1) + 1))) * 256 + 35) * 256 + (tx ((((a0 + 1) + 1) + 1) + 1))))), (0, .ref (ad 12)), (1, .int (nI a0)), (2, .int (nI (a0 + 5))), (3, .int (nI 3))] := hl
      refine lv_goto (tgt := 16) hx hb d_Mo_name_54 (by decide) ?_
      refine lv_iload hx hb d_Mo_name_16 (lv_at hl 0 rfl) ?_
      refine lv_iload_n hx hb d_Mo_name_18 rfl (lv_at hl 4 rfl) ?_
      refine lv_icmp_ge (tgt := 57) hx hb d_Mo_name_19 (by decide) (fun _ => ?_) (fun h206 => absurd ((nI_leI (by omega) (by omega)).mpr (by omega)) h206)
      refine lv_lload hx hb d_Mo_name_57 (lv_at hl 1 rfl) ?_
      exact zret_l C0 hr hAe hP hD hS ⟨by rw [nm_l (by decide)]; rfl, rfl⟩ d_Mo_name_59
    · skip
      refine lv_iload_n hx hb d_Mo_name_0 rfl (lv_at hl 2 rfl) ?_
      refine lv_iload_n hx hb d_Mo_name_1 rfl (lv_at hl 1 rfl) ?_
      refine lv_isub hx hb d_Mo_name_2 ?_
      refine zti (y := nI ((a0 + 6) - a0)) (pk_sub (by omega)) ?_
      refine zti (y := nI 6) (congrArg nI (by omega)) ?_
      refine lv_bipush (v := nI 6) hx hb d_Mo_name_3 (by decide) ?_
      refine lv_icmp_le (tgt := 10) hx hb d_Mo_name_5 (by decide) (fun _ => ?_) (fun h207 => absurd (by decide) h207)
      refine lv_lconst (v := lN 0) hx hb d_Mo_name_10 rfl ?_
      refine lv_lstore hx hb d_Mo_name_11 hl (by decide) rfl (fun ls hl => ?_)
      have hl : lv_has ls 7 [(4, .long (lN 0)), (0, .ref (ad 12)), (1, .int (nI a0)), (2, .int (nI (a0 + 6))), (3, .int (nI 3))] := hl
      refine lv_iload_n hx hb d_Mo_name_13 rfl (lv_at hl 2 rfl) ?_
      refine lv_istore hx hb d_Mo_name_14 hl (by decide) rfl (fun ls hl => ?_)
      have hl : lv_has ls 7 [(6, .int (nI a0)), (4, .long (lN 0)), (0, .ref (ad 12)), (1, .int (nI a0)), (2, .int (nI (a0 + 6))), (3, .int (nI 3))] := hl
      refine lv_iload hx hb d_Mo_name_16 (lv_at hl 0 rfl) ?_
      refine lv_iload_n hx hb d_Mo_name_18 rfl (lv_at hl 4 rfl) ?_
      refine lv_icmp_ge (tgt := 57) hx hb d_Mo_name_19 (by decide) (fun h208 => absurd ((nI_leI (by omega) (by omega)).mp h208) (by omega)) (fun _ => ?_)
      refine lv_lload hx hb d_Mo_name_22 (lv_at hl 1 rfl) ?_
      refine lv_bipush (v := nI 8) hx hb d_Mo_name_24 (by decide) ?_
      refine lv_lshl (v := lN (0 * 256)) hx hb d_Mo_name_26 zshl8 ?_
      refine lv_iload hx hb d_Mo_name_27 (lv_at hl 0 rfl) ?_
      refine lv_iload_n hx hb d_Mo_name_29 rfl (lv_at hl 3 rfl) ?_
      refine lv_isub hx hb d_Mo_name_30 ?_
      refine zti (y := nI (a0 - a0)) (pk_sub (by omega)) ?_
      refine zti (y := nI 0) (congrArg nI (by omega)) ?_
      refine lv_iload_n hx hb d_Mo_name_31 rfl (lv_at hl 5 rfl) ?_
      refine lv_icmp_ne (tgt := 40) hx hb d_Mo_name_32 (by decide) (fun _ => ?_) (fun h209 => absurd h209 (by decide))
      refine lv_aload_n hx hb d_Mo_name_40 rfl (lv_at hl 2 rfl) ?_
      refine va_get (D := D) (ci := 5) (v := .ref (ad 17)) (C := RMo) (T := TMo) (N := 21) hx hb ht inMo hown hK hP 0 rfl rfl 15 (by decide) (ht _ q561) (fun _ h9 => h9) rfl d_Mo_name_41 ?_
      refine lv_iload hx hb d_Mo_name_44 (lv_at hl 0 rfl) ?_
      refine va_cald hx hb hK hP 5 2 rfl rfl (vp_in_nI (n := a0) (by omega) (by decide)) d_Mo_name_46 ?_
      refine zti (y := nI (tx a0)) (nF_at (by omega)) ?_
      refine lv_i2l (v := lN (tx a0)) hx hb d_Mo_name_47 (nI_l (by omega)) ?_
      refine lv_lor hx hb d_Mo_name_48 ?_
      refine ztl (y := lN (0 * 256 + (tx a0))) (zlor (by omega) (by omega)) ?_
      refine lv_lstore hx hb d_Mo_name_49 hl (by decide) rfl (fun ls hl => ?_)
      have hl : lv_has ls 7 [(4, .long (lN (0 * 256 + (tx a0)))), (6, .int (nI a0)), (0, .ref (ad 12)), (1, .int (nI a0)), (2, .int (nI (a0 + 6))), (3, .int (nI 3))] := hl
      refine lv_iinc (k := 1) (v := nI (a0 + 1)) hx hb d_Mo_name_51 hl rfl (zinc _) (by decide) rfl (fun ls hl => ?_)
      have hl : lv_has ls 7 [(6, .int (nI (a0 + 1))), (4, .long (lN (0 * 256 + (tx a0)))), (0, .ref (ad 12)), (1, .int (nI a0)), (2, .int (nI (a0 + 6))), (3, .int (nI 3))] := hl
      refine lv_goto (tgt := 16) hx hb d_Mo_name_54 (by decide) ?_
      refine lv_iload hx hb d_Mo_name_16 (lv_at hl 0 rfl) ?_
      refine lv_iload_n hx hb d_Mo_name_18 rfl (lv_at hl 4 rfl) ?_
      refine lv_icmp_ge (tgt := 57) hx hb d_Mo_name_19 (by decide) (fun h210 => absurd ((nI_leI (by omega) (by omega)).mp h210) (by omega)) (fun _ => ?_)
      refine lv_lload hx hb d_Mo_name_22 (lv_at hl 1 rfl) ?_
      refine lv_bipush (v := nI 8) hx hb d_Mo_name_24 (by decide) ?_
      refine lv_lshl (v := lN ((0 * 256 + (tx a0)) * 256)) hx hb d_Mo_name_26 zshl8 ?_
      refine lv_iload hx hb d_Mo_name_27 (lv_at hl 0 rfl) ?_
      refine lv_iload_n hx hb d_Mo_name_29 rfl (lv_at hl 3 rfl) ?_
      refine lv_isub hx hb d_Mo_name_30 ?_
      refine zti (y := nI ((a0 + 1) - a0)) (pk_sub (by omega)) ?_
      refine zti (y := nI 1) (congrArg nI (by omega)) ?_
      refine lv_iload_n hx hb d_Mo_name_31 rfl (lv_at hl 5 rfl) ?_
      refine lv_icmp_ne (tgt := 40) hx hb d_Mo_name_32 (by decide) (fun _ => ?_) (fun h211 => absurd h211 (by decide))
      refine lv_aload_n hx hb d_Mo_name_40 rfl (lv_at hl 2 rfl) ?_
      refine va_get (D := D) (ci := 5) (v := .ref (ad 17)) (C := RMo) (T := TMo) (N := 21) hx hb ht inMo hown hK hP 0 rfl rfl 15 (by decide) (ht _ q561) (fun _ h9 => h9) rfl d_Mo_name_41 ?_
      refine lv_iload hx hb d_Mo_name_44 (lv_at hl 0 rfl) ?_
      refine va_cald hx hb hK hP 5 2 rfl rfl (vp_in_nI (n := a0 + 1) (by omega) (by decide)) d_Mo_name_46 ?_
      refine zti (y := nI (tx (a0 + 1))) (nF_at (by omega)) ?_
      refine lv_i2l (v := lN (tx (a0 + 1))) hx hb d_Mo_name_47 (nI_l (by omega)) ?_
      refine lv_lor hx hb d_Mo_name_48 ?_
      refine ztl (y := lN ((0 * 256 + (tx a0)) * 256 + (tx (a0 + 1)))) (zlor (by omega) (by omega)) ?_
      refine lv_lstore hx hb d_Mo_name_49 hl (by decide) rfl (fun ls hl => ?_)
      have hl : lv_has ls 7 [(4, .long (lN ((0 * 256 + (tx a0)) * 256 + (tx (a0 + 1))))), (6, .int (nI (a0 + 1))), (0, .ref (ad 12)), (1, .int (nI a0)), (2, .int (nI (a0 + 6))), (3, .int (nI 3))] := hl
      refine lv_iinc (k := 1) (v := nI ((a0 + 1) + 1)) hx hb d_Mo_name_51 hl rfl (zinc _) (by decide) rfl (fun ls hl => ?_)
      have hl : lv_has ls 7 [(6, .int (nI ((a0 + 1) + 1))), (4, .long (lN ((0 * 256 + (tx a0)) * 256 + (tx (a0 + 1))))), (0, .ref (ad 12)), (1, .int (nI a0)), (2, .int (nI (a0 + 6))), (3, .int (nI 3))] := hl
      refine lv_goto (tgt := 16) hx hb d_Mo_name_54 (by decide) ?_
      refine lv_iload hx hb d_Mo_name_16 (lv_at hl 0 rfl) ?_
      refine lv_iload_n hx hb d_Mo_name_18 rfl (lv_at hl 4 rfl) ?_
      refine lv_icmp_ge (tgt := 57) hx hb d_Mo_name_19 (by decide) (fun h212 => absurd ((nI_leI (by omega) (by omega)).mp h212) (by omega)) (fun _ => ?_)
      refine lv_lload hx hb d_Mo_name_22 (lv_at hl 1 rfl) ?_
      refine lv_bipush (v := nI 8) hx hb d_Mo_name_24 (by decide) ?_
      refine lv_lshl (v := lN (((0 * 256 + (tx a0)) * 256 + (tx (a0 + 1))) * 256)) hx hb d_Mo_name_26 zshl8 ?_
      refine lv_iload hx hb d_Mo_name_27 (lv_at hl 0 rfl) ?_
      refine lv_iload_n hx hb d_Mo_name_29 rfl (lv_at hl 3 rfl) ?_
      refine lv_isub hx hb d_Mo_name_30 ?_
      refine zti (y := nI (((a0 + 1) + 1) - a0)) (pk_sub (by omega)) ?_
      refine zti (y := nI 2) (congrArg nI (by omega)) ?_
      refine lv_iload_n hx hb d_Mo_name_31 rfl (lv_at hl 5 rfl) ?_
      refine lv_icmp_ne (tgt := 40) hx hb d_Mo_name_32 (by decide) (fun _ => ?_) (fun h213 => absurd h213 (by decide))
      refine lv_aload_n hx hb d_Mo_name_40 rfl (lv_at hl 2 rfl) ?_
      refine va_get (D := D) (ci := 5) (v := .ref (ad 17)) (C := RMo) (T := TMo) (N := 21) hx hb ht inMo hown hK hP 0 rfl rfl 15 (by decide) (ht _ q561) (fun _ h9 => h9) rfl d_Mo_name_41 ?_
      refine lv_iload hx hb d_Mo_name_44 (lv_at hl 0 rfl) ?_
      refine va_cald hx hb hK hP 5 2 rfl rfl (vp_in_nI (n := (a0 + 1) + 1) (by omega) (by decide)) d_Mo_name_46 ?_
      refine zti (y := nI (tx ((a0 + 1) + 1))) (nF_at (by omega)) ?_
      refine lv_i2l (v := lN (tx ((a0 + 1) + 1))) hx hb d_Mo_name_47 (nI_l (by omega)) ?_
      refine lv_lor hx hb d_Mo_name_48 ?_
      refine ztl (y := lN (((0 * 256 + (tx a0)) * 256 + (tx (a0 + 1))) * 256 + (tx ((a0 + 1) + 1)))) (zlor (by omega) (by omega)) ?_
      refine lv_lstore hx hb d_Mo_name_49 hl (by decide) rfl (fun ls hl => ?_)
      have hl : lv_has ls 7 [(4, .long (lN (((0 * 256 + (tx a0)) * 256 + (tx (a0 + 1))) * 256 + (tx ((a0 + 1) + 1))))), (6, .int (nI ((a0 + 1) + 1))), (0, .ref (ad 12)), (1, .int (nI a0)), (2, .int (nI (a0 + 6))), (3, .int (nI 3))] := hl
      refine lv_iinc (k := 1) (v := nI (((a0 + 1) + 1) + 1)) hx hb d_Mo_name_51 hl rfl (zinc _) (by decide) rfl (fun ls hl => ?_)
      have hl : lv_has ls 7 [(6, .int (nI (((a0 + 1) + 1) + 1))), (4, .long (lN (((0 * 256 + (tx a0)) * 256 + (tx (a0 + 1))) * 256 + (tx ((a0 + 1) + 1))))), (0, .ref (ad 12)), (1, .int (nI a0)), (2, .int (nI (a0 + 6))), (3, .int (nI 3))] := hl
      refine lv_goto (tgt := 16) hx hb d_Mo_name_54 (by decide) ?_
      refine lv_iload hx hb d_Mo_name_16 (lv_at hl 0 rfl) ?_
      refine lv_iload_n hx hb d_Mo_name_18 rfl (lv_at hl 4 rfl) ?_
      refine lv_icmp_ge (tgt := 57) hx hb d_Mo_name_19 (by decide) (fun h214 => absurd ((nI_leI (by omega) (by omega)).mp h214) (by omega)) (fun _ => ?_)
      refine lv_lload hx hb d_Mo_name_22 (lv_at hl 1 rfl) ?_
      refine lv_bipush (v := nI 8) hx hb d_Mo_name_24 (by decide) ?_
      refine lv_lshl (v := lN ((((0 * 256 + (tx a0)) * 256 + (tx (a0 + 1))) * 256 + (tx ((a0 + 1) + 1))) * 256)) hx hb d_Mo_name_26 zshl8 ?_
      refine lv_iload hx hb d_Mo_name_27 (lv_at hl 0 rfl) ?_
      refine lv_iload_n hx hb d_Mo_name_29 rfl (lv_at hl 3 rfl) ?_
      refine lv_isub hx hb d_Mo_name_30 ?_
      refine zti (y := nI ((((a0 + 1) + 1) + 1) - a0)) (pk_sub (by omega)) ?_
      refine zti (y := nI 3) (congrArg nI (by omega)) ?_
      refine lv_iload_n hx hb d_Mo_name_31 rfl (lv_at hl 5 rfl) ?_
      refine lv_icmp_ne (tgt := 40) hx hb d_Mo_name_32 (by decide) (fun h215 => absurd (by decide) h215) (fun _ => ?_)
      refine lv_bipush (v := nI 35) hx hb d_Mo_name_35 (by decide) ?_
      refine lv_goto (tgt := 47) hx hb d_Mo_name_37 (by decide) ?_
      refine lv_i2l (v := lN 35) hx hb d_Mo_name_47 (nI_l (by omega)) ?_
      refine lv_lor hx hb d_Mo_name_48 ?_
      refine ztl (y := lN ((((0 * 256 + (tx a0)) * 256 + (tx (a0 + 1))) * 256 + (tx ((a0 + 1) + 1))) * 256 + 35)) (zlor (by omega) (by omega)) ?_
      refine lv_lstore hx hb d_Mo_name_49 hl (by decide) rfl (fun ls hl => ?_)
      have hl : lv_has ls 7 [(4, .long (lN ((((0 * 256 + (tx a0)) * 256 + (tx (a0 + 1))) * 256 + (tx ((a0 + 1) + 1))) * 256 + 35))), (6, .int (nI (((a0 + 1) + 1) + 1))), (0, .ref (ad 12)), (1, .int (nI a0)), (2, .int (nI (a0 + 6))), (3, .int (nI 3))] := hl
      refine lv_iinc (k := 1) (v := nI ((((a0 + 1) + 1) + 1) + 1)) hx hb d_Mo_name_51 hl rfl (zinc _) (by decide) rfl (fun ls hl => ?_)
      have hl : lv_has ls 7 [(6, .int (nI ((((a0 + 1) + 1) + 1) + 1))), (4, .long (lN ((((0 * 256 + (tx a0)) * 256 + (tx (a0 + 1))) * 256 + (tx ((a0 + 1) + 1))) * 256 + 35))), (0, .ref (ad 12)), (1, .int (nI a0)), (2, .int (nI (a0 + 6))), (3, .int (nI 3))] := hl
      refine lv_goto (tgt := 16) hx hb d_Mo_name_54 (by decide) ?_
      refine lv_iload hx hb d_Mo_name_16 (lv_at hl 0 rfl) ?_
      refine lv_iload_n hx hb d_Mo_name_18 rfl (lv_at hl 4 rfl) ?_
      refine lv_icmp_ge (tgt := 57) hx hb d_Mo_name_19 (by decide) (fun h216 => absurd ((nI_leI (by omega) (by omega)).mp h216) (by omega)) (fun _ => ?_)
      refine lv_lload hx hb d_Mo_name_22 (lv_at hl 1 rfl) ?_
      refine lv_bipush (v := nI 8) hx hb d_Mo_name_24 (by decide) ?_
      refine lv_lshl (v := lN (((((0 * 256 + (tx a0)) * 256 + (tx (a0 + 1))) * 256 + (tx ((a0 + 1) + 1))) * 256 + 35) * 256)) hx hb d_Mo_name_26 zshl8 ?_
      refine lv_iload hx hb d_Mo_name_27 (lv_at hl 0 rfl) ?_
      refine lv_iload_n hx hb d_Mo_name_29 rfl (lv_at hl 3 rfl) ?_
      refine lv_isub hx hb d_Mo_name_30 ?_
      refine zti (y := nI (((((a0 + 1) + 1) + 1) + 1) - a0)) (pk_sub (by omega)) ?_
      refine zti (y := nI 4) (congrArg nI (by omega)) ?_
      refine lv_iload_n hx hb d_Mo_name_31 rfl (lv_at hl 5 rfl) ?_
      refine lv_icmp_ne (tgt := 40) hx hb d_Mo_name_32 (by decide) (fun _ => ?_) (fun h217 => absurd h217 (by decide))
      refine lv_aload_n hx hb d_Mo_name_40 rfl (lv_at hl 2 rfl) ?_
      refine va_get (D := D) (ci := 5) (v := .ref (ad 17)) (C := RMo) (T := TMo) (N := 21) hx hb ht inMo hown hK hP 0 rfl rfl 15 (by decide) (ht _ q561) (fun _ h9 => h9) rfl d_Mo_name_41 ?_
      refine lv_iload hx hb d_Mo_name_44 (lv_at hl 0 rfl) ?_
      refine va_cald hx hb hK hP 5 2 rfl rfl (vp_in_nI (n := (((a0 + 1) + 1) + 1) + 1) (by omega) (by decide)) d_Mo_name_46 ?_
      refine zti (y := nI (tx ((((a0 + 1) + 1) + 1) + 1))) (nF_at (by omega)) ?_
      refine lv_i2l (v := lN (tx ((((a0 + 1) + 1) + 1) + 1))) hx hb d_Mo_name_47 (nI_l (by omega)) ?_
      refine lv_lor hx hb d_Mo_name_48 ?_
      refine ztl (y := lN (((((0 * 256 + (tx a0)) * 256 + (tx (a0 + 1))) * 256 + (tx ((a0 + 1) + 1))) * 256 + 35) * 256 + (tx ((((a0 + 1) + 1) + 1) + 1)))) (zlor (by omega) (by omega)) ?_
      refine lv_lstore hx hb d_Mo_name_49 hl (by decide) rfl (fun ls hl => ?_)
      have hl : lv_has ls 7 [(4, .long (lN (((((0 * 256 + (tx a0)) * 256 + (tx (a0 + 1))) * 256 + (tx ((a0 + 1) + 1))) * 256 + 35) * 256 + (tx ((((a0 + 1) + 1) + 1) + 1))))), (6, .int (nI ((((a0 + 1) + 1) + 1) + 1))), (0, .ref (ad 12)), (1, .int (nI a0)), (2, .int (nI (a0 + 6))), (3, .int (nI 3))] := hl
      refine lv_iinc (k := 1) (v := nI (((((a0 + 1) + 1) + 1) + 1) + 1)) hx hb d_Mo_name_51 hl rfl (zinc _) (by decide) rfl (fun ls hl => ?_)
      have hl : lv_has ls 7 [(6, .int (nI (((((a0 + 1) + 1) + 1) + 1) + 1))), (4, .long (lN (((((0 * 256 + (tx a0)) * 256 + (tx (a0 + 1))) * 256 + (tx ((a0 + 1) + 1))) * 256 + 35) * 256 + (tx ((((a0 + 1) + 1) + 1) + 1))))), (0, .ref (ad 12)), (1, .int (nI a0)), (2, .int (nI (a0 + 6))), (3, .int (nI 3))] := hl
      refine lv_goto (tgt := 16) hx hb d_Mo_name_54 (by decide) ?_
      refine lv_iload hx hb d_Mo_name_16 (lv_at hl 0 rfl) ?_
      refine lv_iload_n hx hb d_Mo_name_18 rfl (lv_at hl 4 rfl) ?_
      refine lv_icmp_ge (tgt := 57) hx hb d_Mo_name_19 (by decide) (fun h218 => absurd ((nI_leI (by omega) (by omega)).mp h218) (by omega)) (fun _ => ?_)
      refine lv_lload hx hb d_Mo_name_22 (lv_at hl 1 rfl) ?_
      refine lv_bipush (v := nI 8) hx hb d_Mo_name_24 (by decide) ?_
      refine lv_lshl (v := lN ((((((0 * 256 + (tx a0)) * 256 + (tx (a0 + 1))) * 256 + (tx ((a0 + 1) + 1))) * 256 + 35) * 256 + (tx ((((a0 + 1) + 1) + 1) + 1))) * 256)) hx hb d_Mo_name_26 zshl8 ?_
      refine lv_iload hx hb d_Mo_name_27 (lv_at hl 0 rfl) ?_
      refine lv_iload_n hx hb d_Mo_name_29 rfl (lv_at hl 3 rfl) ?_
      refine lv_isub hx hb d_Mo_name_30 ?_
      refine zti (y := nI ((((((a0 + 1) + 1) + 1) + 1) + 1) - a0)) (pk_sub (by omega)) ?_
      refine zti (y := nI 5) (congrArg nI (by omega)) ?_
      refine lv_iload_n hx hb d_Mo_name_31 rfl (lv_at hl 5 rfl) ?_
      refine lv_icmp_ne (tgt := 40) hx hb d_Mo_name_32 (by decide) (fun _ => ?_) (fun h219 => absurd h219 (by decide))
      refine lv_aload_n hx hb d_Mo_name_40 rfl (lv_at hl 2 rfl) ?_
      refine va_get (D := D) (ci := 5) (v := .ref (ad 17)) (C := RMo) (T := TMo) (N := 21) hx hb ht inMo hown hK hP 0 rfl rfl 15 (by decide) (ht _ q561) (fun _ h9 => h9) rfl d_Mo_name_41 ?_
      refine lv_iload hx hb d_Mo_name_44 (lv_at hl 0 rfl) ?_
      refine va_cald hx hb hK hP 5 2 rfl rfl (vp_in_nI (n := ((((a0 + 1) + 1) + 1) + 1) + 1) (by omega) (by decide)) d_Mo_name_46 ?_
      refine zti (y := nI (tx (((((a0 + 1) + 1) + 1) + 1) + 1))) (nF_at (by omega)) ?_
      refine lv_i2l (v := lN (tx (((((a0 + 1) + 1) + 1) + 1) + 1))) hx hb d_Mo_name_47 (nI_l (by omega)) ?_
      refine lv_lor hx hb d_Mo_name_48 ?_
      refine ztl (y := lN ((((((0 * 256 + (tx a0)) * 256 + (tx (a0 + 1))) * 256 + (tx ((a0 + 1) + 1))) * 256 + 35) * 256 + (tx ((((a0 + 1) + 1) + 1) + 1))) * 256 + (tx (((((a0 + 1) + 1) + 1) + 1) + 1)))) (zlor (by omega) (by omega)) ?_
      refine lv_lstore hx hb d_Mo_name_49 hl (by decide) rfl (fun ls hl => ?_)
      have hl : lv_has ls 7 [(4, .long (lN ((((((0 * 256 + (tx a0)) * 256 + (tx (a0 + 1))) * 256 + (tx ((a0 + 1) + 1))) * 256 + 35) * 256 + (tx ((((a0 + 1) + 1) + 1) + 1))) * 256 + (tx (((((a0 + 1) + 1) + 1) + 1) + 1))))), (6, .int (nI (((((a0 + 1) + 1) + 1) + 1) + 1))), (0, .ref (ad 12)), (1, .int (nI a0)), (2, .int (nI (a0 + 6))), (3, .int (nI 3))] := hl
      refine lv_iinc (k := 1) (v := nI ((((((a0 + 1) + 1) + 1) + 1) + 1) + 1)) hx hb d_Mo_name_51 hl rfl (zinc _) (by decide) rfl (fun ls hl => ?_)
      have hl : lv_has ls 7 [(6, .int (nI ((((((a0 + 1) + 1) + 1) + 1) + 1) + 1))), (4, .long (lN ((((((0 * 256 + (tx a0)) * 256 + (tx (a0 + 1))) * 256 + (tx ((a0 + 1) + 1))) * 256 + 35) * 256 + (tx ((((a0 + 1) + 1) + 1) + 1))) * 256 + (tx (((((a0 + 1) + 1) + 1) + 1) + 1))))), (0, .ref (ad 12)), (1, .int (nI a0)), (2, .int (nI (a0 + 6))), (3, .int (nI 3))] := hl
      refine lv_goto (tgt := 16) hx hb d_Mo_name_54 (by decide) ?_
      refine lv_iload hx hb d_Mo_name_16 (lv_at hl 0 rfl) ?_
      refine lv_iload_n hx hb d_Mo_name_18 rfl (lv_at hl 4 rfl) ?_
      refine lv_icmp_ge (tgt := 57) hx hb d_Mo_name_19 (by decide) (fun _ => ?_) (fun h220 => absurd ((nI_leI (by omega) (by omega)).mpr (by omega)) h220)
      refine lv_lload hx hb d_Mo_name_57 (lv_at hl 1 rfl) ?_
      exact zret_l C0 hr hAe hP hD hS ⟨by rw [nm_l (by decide)]; rfl, rfl⟩ d_Mo_name_59
