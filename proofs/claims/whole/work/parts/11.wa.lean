set_option maxHeartbeats 4000000 in
set_option maxRecDepth 100000 in
theorem m_Wa_append (l : Launch) (D : va_G) (ca : Nat → ClassId) (k : Nat → Nat) (sz : Nat) (ad : Nat → Nat) (me nu ro : Nat → Nat) (un li pt : Nat) (st : Int32) (cy pl bk en kc : Nat) (x : Int32) (hk3 : kc ≤ 3) : Met l y_Wa_append (zw y_Wa_append c_Wa_append 2 (some .boolean)) { frames := 0, cells := 0, slots := 0, locals := 0 } (va_Pc [.ref (ad 10), .int x] (zPre D (zty ca) k (wP ad ca me nu ro un li pt st cy pl bk en kc) sz)) (va_Qi (fun b w => (kOk x kc ∧ b = nI 1 ∧ w = wP ad ca me nu (uN ro kc x.toNatClampNeg) un li pt st cy pl bk en (kc + 1)) ∨ (¬ kOk x kc ∧ b = nI 0 ∧ w = wP ad ca me nu ro un li pt st cy pl bk en kc)) (zB D (zty ca) (wP ad ca me nu ro un li pt st cy pl bk en kc) sz) (va_A (wP ad ca me nu ro un li pt st cy pl bk en kc) sz)) 0 0 (va_A (wP ad ca me nu ro un li pt st cy pl bk en kc) sz) := by
  refine zOf (own := "DigitChip$Waiting") (by decide +kernel) rfl (Nat.le_of_ble_eq_true rfl) ?_
  intro p e s m below meth c A ls C0 hr hnm hAe hsz hl hP hD hS
  have hl : lv_has ls 2 [(0, .ref (ad 10)), (1, .int x)] := hl
  obtain ⟨hx, hb, hml, hown, ht, hK, hX, hA, hlk⟩ := id C0
  refine lv_iload_n hx hb d_Wa_append_0 rfl (lv_at hl 1 rfl) ?_
  refine lv_if_lt (tgt := 18) hx hb d_Wa_append_1 (by decide) (fun h1 => ?_) (fun h1 => ?_)
  · skip
    refine lv_iconst (v := nI 0) hx hb d_Wa_append_18 (by decide) ?_
    exact zret_z C0 hr (zbn (by omega)) hAe hP hD hS (Or.inr ⟨fun z => z.1 h1, rfl, rfl⟩) d_Wa_append_19
  · skip
    obtain ⟨j, hj, rfl⟩ := nI_of h1
    refine lv_iload_n hx hb d_Wa_append_4 rfl (lv_at hl 1 rfl) ?_
    refine lv_bipush (v := nI 16) hx hb d_Wa_append_5 (by decide) ?_
    refine lv_icmp_ge (tgt := 18) hx hb d_Wa_append_7 (by decide) (fun h2 => ?_) (fun h2 => ?_)
    · skip
      have h2 : (16 ≤ j) := (nI_leI (by omega) (by omega)).mp h2
      refine lv_iconst (v := nI 0) hx hb d_Wa_append_18 (by decide) ?_
      exact zret_z C0 hr (zbn (by omega)) hAe hP hD hS (Or.inr ⟨fun z => z.2.1 (nI_le (by omega) (by omega)), rfl, rfl⟩) d_Wa_append_19
    · skip
      have h2 : ¬ (16 ≤ j) := fun z => h2 ((nI_leI (by omega) (by omega)).mpr z)
      refine lv_aload_n hx hb d_Wa_append_10 rfl (lv_at hl 0 rfl) ?_
      refine va_get (D := D) (ci := 3) (v := .int (nI kc)) (C := RWa) (T := TWa) (N := 2) hx hb ht inWa hown hK hP 4 rfl rfl 1 (by decide) (ht _ q107) (fun _ h9 => h9) rfl d_Wa_append_11 ?_
      refine lv_iconst (v := nI 3) hx hb d_Wa_append_14 (by decide) ?_
      refine lv_icmp_lt (tgt := 20) hx hb d_Wa_append_15 (by decide) (fun h3 => ?_) (fun h3 => ?_)
      · skip
        have h3 : (kc < 3) := (nI_ltI (by omega) (by omega)).mp h3
        refine lv_aload_n hx hb d_Wa_append_20 rfl (lv_at hl 0 rfl) ?_
        refine va_get (D := D) (ci := 3) (v := .ref (ad 11)) (C := RWa) (T := TWa) (N := 2) hx hb ht inWa hown hK hP 4 rfl rfl 0 (by decide) (ht _ q106) (fun _ h9 => h9) rfl d_Wa_append_21 ?_
        refine lv_aload_n hx hb d_Wa_append_24 rfl (lv_at hl 0 rfl) ?_
        refine va_get (D := D) (ci := 3) (v := .int (nI kc)) (C := RWa) (T := TWa) (N := 2) hx hb ht inWa hown hK hP 4 rfl rfl 1 (by decide) (ht _ q107) (fun _ h9 => h9) rfl d_Wa_append_25 ?_
        refine lv_iload_n hx hb d_Wa_append_28 rfl (lv_at hl 1 rfl) ?_
        refine va_iast hx hb hK hP hD hS 5 0 rfl rfl (vp_in_nI (n := kc) (by omega) (by decide)) d_Wa_append_29 (fun H locs hP hD hS => ?_)
        rw [nF_up (by omega)] at hP hD
        have hP : va_P D vCl (wP ad ca me nu (uN ro kc j) un li pt st cy pl bk en kc) H := hP
        have hD : va_D A (wP ad ca me nu (uN ro kc j) un li pt st cy pl bk en kc) := hD
        refine lv_aload_n hx hb d_Wa_append_30 rfl (lv_at hl 0 rfl) ?_
        refine lv_dup hx hb d_Wa_append_31 rfl ?_
        refine va_get (D := D) (ci := 3) (v := .int (nI kc)) (C := RWa) (T := TWa) (N := 2) hx hb ht inWa hown hK hP 4 rfl rfl 1 (by decide) (ht _ q107) (fun _ h9 => h9) rfl d_Wa_append_32 ?_
        refine lv_iconst (v := nI 1) hx hb d_Wa_append_35 (by decide) ?_
        refine lv_iadd hx hb d_Wa_append_36 ?_
        refine zti (y := nI (kc + 1)) (nI_add _ _) ?_
        refine va_put (D := D) (ci := 3) (v := .int (nI (kc + 1))) (ty := .int) (C := RWa) (T := TWa) (N := 2) hx hb ht inWa tyWa tyWa_ok nmWa hown hK hP hD hS 4 rfl rfl 1 (by decide) (ht _ q107) (fun _ h9 => h9) rfl (by decide +kernel) rfl rfl (Nat.le_of_ble_eq_true rfl) d_Wa_append_37 (fun H locs hP hD hS => ?_)
        have hP : va_P D vCl (wP ad ca me nu (uN ro kc j) un li pt st cy pl bk en (kc + 1)) H := hP
        have hD : va_D A (wP ad ca me nu (uN ro kc j) un li pt st cy pl bk en (kc + 1)) := hD
        refine lv_iconst (v := nI 1) hx hb d_Wa_append_40 (by decide) ?_
        exact zret_z C0 hr (zbn (by omega)) hAe hP hD hS (Or.inl ⟨⟨nI_pos (by omega), fun z => by have := (nI_leI (by decide) (by omega)).mp z; omega, by omega⟩, rfl, by rw [nI_clamp (by omega)]⟩) d_Wa_append_41
      · skip
        have h3 : ¬ (kc < 3) := fun z => h3 ((nI_ltI (by omega) (by omega)).mpr z)
        refine lv_iconst (v := nI 0) hx hb d_Wa_append_18 (by decide) ?_
        exact zret_z C0 hr (zbn (by omega)) hAe hP hD hS (Or.inr ⟨fun z => by have := z.2.2; omega, rfl, rfl⟩) d_Wa_append_19
set_option maxHeartbeats 4000000 in
set_option maxRecDepth 100000 in
theorem m_Wa_takeFirst (l : Launch) (D : va_G) (ca : Nat → ClassId) (k : Nat → Nat) (sz : Nat) (ad : Nat → Nat) (me nu ro : Nat → Nat) (un li pt : Nat) (st : Int32) (cy pl bk en kc : Nat) (hk3 : kc ≤ 3) : Met l y_Wa_takeFirst (zw y_Wa_takeFirst c_Wa_takeFirst 3 (some .int)) { frames := 0, cells := 0, slots := 0, locals := 0 } (va_Pc [.ref (ad 10)] (zPre D (zty ca) k (wP ad ca me nu ro un li pt st cy pl bk en kc) sz)) (va_Qi (fun x w => (kc = 0 ∧ x = (-1) ∧ w = wP ad ca me nu ro un li pt st cy pl bk en kc) ∨ (0 < kc ∧ x = nI (ro 0) ∧ w = wP ad ca me nu (shC ro kc) un li pt st cy pl bk en (kc - 1))) (zB D (zty ca) (wP ad ca me nu ro un li pt st cy pl bk en kc) sz) (va_A (wP ad ca me nu ro un li pt st cy pl bk en kc) sz)) 0 0 (va_A (wP ad ca me nu ro un li pt st cy pl bk en kc) sz) := by
  refine zOf (own := "DigitChip$Waiting") (by decide +kernel) rfl (Nat.le_of_ble_eq_true rfl) ?_
  intro p e s m below meth c A ls C0 hr hnm hAe hsz hl hP hD hS
  have hl : lv_has ls 3 [(0, .ref (ad 10))] := hl
  obtain ⟨hx, hb, hml, hown, ht, hK, hX, hA, hlk⟩ := id C0
  rcases (show kc = 0 ∨ kc = 1 ∨ kc = 2 ∨ kc = 3 from by omega) with rfl | rfl | rfl | rfl
  · skip
    refine lv_aload_n hx hb d_Wa_takeFirst_0 rfl (lv_at hl 0 rfl) ?_
    refine va_get (D := D) (ci := 3) (v := .int (nI 0)) (C := RWa) (T := TWa) (N := 2) hx hb ht inWa hown hK hP 4 rfl rfl 1 (by decide) (ht _ q107) (fun _ h9 => h9) rfl d_Wa_takeFirst_1 ?_
    refine lv_if_ne (tgt := 9) hx hb d_Wa_takeFirst_4 (by decide) (fun h1 => absurd (by decide) h1) (fun _ => ?_)
    refine lv_iconst (v := (-1)) hx hb d_Wa_takeFirst_7 (by decide) ?_
    exact zret_i C0 hr hAe hP hD hS (Or.inl ⟨rfl, rfl, rfl⟩) d_Wa_takeFirst_8
  · skip
    refine lv_aload_n hx hb d_Wa_takeFirst_0 rfl (lv_at hl 0 rfl) ?_
    refine va_get (D := D) (ci := 3) (v := .int (nI 1)) (C := RWa) (T := TWa) (N := 2) hx hb ht inWa hown hK hP 4 rfl rfl 1 (by decide) (ht _ q107) (fun _ h9 => h9) rfl d_Wa_takeFirst_1 ?_
    refine lv_if_ne (tgt := 9) hx hb d_Wa_takeFirst_4 (by decide) (fun _ => ?_) (fun h2 => absurd h2 (by decide))
    refine lv_aload_n hx hb d_Wa_takeFirst_9 rfl (lv_at hl 0 rfl) ?_
    refine va_get (D := D) (ci := 3) (v := .ref (ad 11)) (C := RWa) (T := TWa) (N := 2) hx hb ht inWa hown hK hP 4 rfl rfl 0 (by decide) (ht _ q106) (fun _ h9 => h9) rfl d_Wa_takeFirst_10 ?_
    refine lv_iconst (v := nI 0) hx hb d_Wa_takeFirst_13 (by decide) ?_
    refine va_iald hx hb hK hP 5 0 rfl rfl (vp_in_nI (n := 0) (by omega) (by decide)) d_Wa_takeFirst_14 ?_
    refine zti (y := nI (ro 0)) (nF_at (by omega)) ?_
    refine lv_istore_n hx hb d_Wa_takeFirst_15 rfl hl (by decide) rfl (fun ls hl => ?_)
    have hl : lv_has ls 3 [(1, .int (nI (ro 0))), (0, .ref (ad 10))] := hl
    refine lv_aload_n hx hb d_Wa_takeFirst_16 rfl (lv_at hl 1 rfl) ?_
    refine lv_dup hx hb d_Wa_takeFirst_17 rfl ?_
    refine va_get (D := D) (ci := 3) (v := .int (nI 1)) (C := RWa) (T := TWa) (N := 2) hx hb ht inWa hown hK hP 4 rfl rfl 1 (by decide) (ht _ q107) (fun _ h9 => h9) rfl d_Wa_takeFirst_18 ?_
    refine lv_iconst (v := nI 1) hx hb d_Wa_takeFirst_21 (by decide) ?_
    refine lv_isub hx hb d_Wa_takeFirst_22 ?_
    refine zti (y := nI 0) (by decide) ?_
    refine va_put (D := D) (ci := 3) (v := .int (nI 0)) (ty := .int) (C := RWa) (T := TWa) (N := 2) hx hb ht inWa tyWa tyWa_ok nmWa hown hK hP hD hS 4 rfl rfl 1 (by decide) (ht _ q107) (fun _ h9 => h9) rfl (by decide +kernel) rfl rfl (Nat.le_of_ble_eq_true rfl) d_Wa_takeFirst_23 (fun H locs hP hD hS => ?_)
    have hP : va_P D vCl (wP ad ca me nu ro un li pt st cy pl bk en 0) H := hP
    have hD : va_D A (wP ad ca me nu ro un li pt st cy pl bk en 0) := hD
    refine lv_iconst (v := nI 0) hx hb d_Wa_takeFirst_26 (by decide) ?_
    refine lv_istore_n hx hb d_Wa_takeFirst_27 rfl hl (by decide) rfl (fun ls hl => ?_)
    have hl : lv_has ls 3 [(2, .int (nI 0)), (1, .int (nI (ro 0))), (0, .ref (ad 10))] := hl
    refine lv_iload_n hx hb d_Wa_takeFirst_28 rfl (lv_at hl 0 rfl) ?_
    refine lv_aload_n hx hb d_Wa_takeFirst_29 rfl (lv_at hl 2 rfl) ?_
    refine va_get (D := D) (ci := 3) (v := .int (nI 0)) (C := RWa) (T := TWa) (N := 2) hx hb ht inWa hown hK hP 4 rfl rfl 1 (by decide) (ht _ q107) (fun _ h9 => h9) rfl d_Wa_takeFirst_30 ?_
    refine lv_icmp_ge (tgt := 56) hx hb d_Wa_takeFirst_33 (by decide) (fun _ => ?_) (fun h3 => absurd (by decide) h3)
    refine lv_iload_n hx hb d_Wa_takeFirst_56 rfl (lv_at hl 1 rfl) ?_
    exact zret_i C0 hr hAe hP hD hS (Or.inr ⟨by decide, rfl, rfl⟩) d_Wa_takeFirst_57
  · skip
    refine lv_aload_n hx hb d_Wa_takeFirst_0 rfl (lv_at hl 0 rfl) ?_
    refine va_get (D := D) (ci := 3) (v := .int (nI 2)) (C := RWa) (T := TWa) (N := 2) hx hb ht inWa hown hK hP 4 rfl rfl 1 (by decide) (ht _ q107) (fun _ h9 => h9) rfl d_Wa_takeFirst_1 ?_
    refine lv_if_ne (tgt := 9) hx hb d_Wa_takeFirst_4 (by decide) (fun _ => ?_) (fun h4 => absurd h4 (by decide))
    refine lv_aload_n hx hb d_Wa_takeFirst_9 rfl (lv_at hl 0 rfl) ?_
    refine va_get (D := D) (ci := 3) (v := .ref (ad 11)) (C := RWa) (T := TWa) (N := 2) hx hb ht inWa hown hK hP 4 rfl rfl 0 (by decide) (ht _ q106) (fun _ h9 => h9) rfl d_Wa_takeFirst_10 ?_
    refine lv_iconst (v := nI 0) hx hb d_Wa_takeFirst_13 (by decide) ?_
    refine va_iald hx hb hK hP 5 0 rfl rfl (vp_in_nI (n := 0) (by omega) (by decide)) d_Wa_takeFirst_14 ?_
    refine zti (y := nI (ro 0)) (nF_at (by omega)) ?_
    refine lv_istore_n hx hb d_Wa_takeFirst_15 rfl hl (by decide) rfl (fun ls hl => ?_)
    have hl : lv_has ls 3 [(1, .int (nI (ro 0))), (0, .ref (ad 10))] := hl
    refine lv_aload_n hx hb d_Wa_takeFirst_16 rfl (lv_at hl 1 rfl) ?_
    refine lv_dup hx hb d_Wa_takeFirst_17 rfl ?_
    refine va_get (D := D) (ci := 3) (v := .int (nI 2)) (C := RWa) (T := TWa) (N := 2) hx hb ht inWa hown hK hP 4 rfl rfl 1 (by decide) (ht _ q107) (fun _ h9 => h9) rfl d_Wa_takeFirst_18 ?_
    refine lv_iconst (v := nI 1) hx hb d_Wa_takeFirst_21 (by decide) ?_
    refine lv_isub hx hb d_Wa_takeFirst_22 ?_
    refine zti (y := nI 1) (by decide) ?_
    refine va_put (D := D) (ci := 3) (v := .int (nI 1)) (ty := .int) (C := RWa) (T := TWa) (N := 2) hx hb ht inWa tyWa tyWa_ok nmWa hown hK hP hD hS 4 rfl rfl 1 (by decide) (ht _ q107) (fun _ h9 => h9) rfl (by decide +kernel) rfl rfl (Nat.le_of_ble_eq_true rfl) d_Wa_takeFirst_23 (fun H locs hP hD hS => ?_)
    have hP : va_P D vCl (wP ad ca me nu ro un li pt st cy pl bk en 1) H := hP
    have hD : va_D A (wP ad ca me nu ro un li pt st cy pl bk en 1) := hD
    refine lv_iconst (v := nI 0) hx hb d_Wa_takeFirst_26 (by decide) ?_
    refine lv_istore_n hx hb d_Wa_takeFirst_27 rfl hl (by decide) rfl (fun ls hl => ?_)
    have hl : lv_has ls 3 [(2, .int (nI 0)), (1, .int (nI (ro 0))), (0, .ref (ad 10))] := hl
    refine lv_iload_n hx hb d_Wa_takeFirst_28 rfl (lv_at hl 0 rfl) ?_
    refine lv_aload_n hx hb d_Wa_takeFirst_29 rfl (lv_at hl 2 rfl) ?_
    refine va_get (D := D) (ci := 3) (v := .int (nI 1)) (C := RWa) (T := TWa) (N := 2) hx hb ht inWa hown hK hP 4 rfl rfl 1 (by decide) (ht _ q107) (fun _ h9 => h9) rfl d_Wa_takeFirst_30 ?_
    refine lv_icmp_ge (tgt := 56) hx hb d_Wa_takeFirst_33 (by decide) (fun h5 => absurd h5 (by decide)) (fun _ => ?_)
    refine lv_aload_n hx hb d_Wa_takeFirst_36 rfl (lv_at hl 2 rfl) ?_
    refine va_get (D := D) (ci := 3) (v := .ref (ad 11)) (C := RWa) (T := TWa) (N := 2) hx hb ht inWa hown hK hP 4 rfl rfl 0 (by decide) (ht _ q106) (fun _ h9 => h9) rfl d_Wa_takeFirst_37 ?_
    refine lv_iload_n hx hb d_Wa_takeFirst_40 rfl (lv_at hl 0 rfl) ?_
    refine lv_aload_n hx hb d_Wa_takeFirst_41 rfl (lv_at hl 2 rfl) ?_
    refine va_get (D := D) (ci := 3) (v := .ref (ad 11)) (C := RWa) (T := TWa) (N := 2) hx hb ht inWa hown hK hP 4 rfl rfl 0 (by decide) (ht _ q106) (fun _ h9 => h9) rfl d_Wa_takeFirst_42 ?_
    refine lv_iload_n hx hb d_Wa_takeFirst_45 rfl (lv_at hl 0 rfl) ?_
    refine lv_iconst (v := nI 1) hx hb d_Wa_takeFirst_46 (by decide) ?_
    refine lv_iadd hx hb d_Wa_takeFirst_47 ?_
    refine zti (y := nI 1) (by decide) ?_
    refine va_iald hx hb hK hP 5 0 rfl rfl (vp_in_nI (n := 1) (by omega) (by decide)) d_Wa_takeFirst_48 ?_
    refine zti (y := nI (ro 1)) (nF_at (by omega)) ?_
    refine va_iast hx hb hK hP hD hS 5 0 rfl rfl (vp_in_nI (n := 0) (by omega) (by decide)) d_Wa_takeFirst_49 (fun H locs hP hD hS => ?_)
    rw [nF_up (by omega)] at hP hD
    have hP : va_P D vCl (wP ad ca me nu (uN ro 0 (ro 1)) un li pt st cy pl bk en 1) H := hP
    have hD : va_D A (wP ad ca me nu (uN ro 0 (ro 1)) un li pt st cy pl bk en 1) := hD
    refine lv_iinc (k := 0) (v := nI (1)) hx hb d_Wa_takeFirst_50 hl rfl (by decide) (by decide) rfl (fun ls hl => ?_)
    have hl : lv_has ls 3 [(2, .int (nI 1)), (1, .int (nI (ro 0))), (0, .ref (ad 10))] := hl
    refine lv_goto (tgt := 28) hx hb d_Wa_takeFirst_53 (by decide) ?_
    refine lv_iload_n hx hb d_Wa_takeFirst_28 rfl (lv_at hl 0 rfl) ?_
    refine lv_aload_n hx hb d_Wa_takeFirst_29 rfl (lv_at hl 2 rfl) ?_
    refine va_get (D := D) (ci := 3) (v := .int (nI 1)) (C := RWa) (T := TWa) (N := 2) hx hb ht inWa hown hK hP 4 rfl rfl 1 (by decide) (ht _ q107) (fun _ h9 => h9) rfl d_Wa_takeFirst_30 ?_
    refine lv_icmp_ge (tgt := 56) hx hb d_Wa_takeFirst_33 (by decide) (fun _ => ?_) (fun h6 => absurd (by decide) h6)
    refine lv_iload_n hx hb d_Wa_takeFirst_56 rfl (lv_at hl 1 rfl) ?_
    exact zret_i C0 hr hAe hP hD hS (Or.inr ⟨by decide, rfl, rfl⟩) d_Wa_takeFirst_57
  · skip
    refine lv_aload_n hx hb d_Wa_takeFirst_0 rfl (lv_at hl 0 rfl) ?_
    refine va_get (D := D) (ci := 3) (v := .int (nI 3)) (C := RWa) (T := TWa) (N := 2) hx hb ht inWa hown hK hP 4 rfl rfl 1 (by decide) (ht _ q107) (fun _ h9 => h9) rfl d_Wa_takeFirst_1 ?_
    refine lv_if_ne (tgt := 9) hx hb d_Wa_takeFirst_4 (by decide) (fun _ => ?_) (fun h7 => absurd h7 (by decide))
    refine lv_aload_n hx hb d_Wa_takeFirst_9 rfl (lv_at hl 0 rfl) ?_
    refine va_get (D := D) (ci := 3) (v := .ref (ad 11)) (C := RWa) (T := TWa) (N := 2) hx hb ht inWa hown hK hP 4 rfl rfl 0 (by decide) (ht _ q106) (fun _ h9 => h9) rfl d_Wa_takeFirst_10 ?_
    refine lv_iconst (v := nI 0) hx hb d_Wa_takeFirst_13 (by decide) ?_
    refine va_iald hx hb hK hP 5 0 rfl rfl (vp_in_nI (n := 0) (by omega) (by decide)) d_Wa_takeFirst_14 ?_
    refine zti (y := nI (ro 0)) (nF_at (by omega)) ?_
    refine lv_istore_n hx hb d_Wa_takeFirst_15 rfl hl (by decide) rfl (fun ls hl => ?_)
    have hl : lv_has ls 3 [(1, .int (nI (ro 0))), (0, .ref (ad 10))] := hl
    refine lv_aload_n hx hb d_Wa_takeFirst_16 rfl (lv_at hl 1 rfl) ?_
    refine lv_dup hx hb d_Wa_takeFirst_17 rfl ?_
    refine va_get (D := D) (ci := 3) (v := .int (nI 3)) (C := RWa) (T := TWa) (N := 2) hx hb ht inWa hown hK hP 4 rfl rfl 1 (by decide) (ht _ q107) (fun _ h9 => h9) rfl d_Wa_takeFirst_18 ?_
    refine lv_iconst (v := nI 1) hx hb d_Wa_takeFirst_21 (by decide) ?_
    refine lv_isub hx hb d_Wa_takeFirst_22 ?_
    refine zti (y := nI 2) (by decide) ?_
    refine va_put (D := D) (ci := 3) (v := .int (nI 2)) (ty := .int) (C := RWa) (T := TWa) (N := 2) hx hb ht inWa tyWa tyWa_ok nmWa hown hK hP hD hS 4 rfl rfl 1 (by decide) (ht _ q107) (fun _ h9 => h9) rfl (by decide +kernel) rfl rfl (Nat.le_of_ble_eq_true rfl) d_Wa_takeFirst_23 (fun H locs hP hD hS => ?_)
    have hP : va_P D vCl (wP ad ca me nu ro un li pt st cy pl bk en 2) H := hP
    have hD : va_D A (wP ad ca me nu ro un li pt st cy pl bk en 2) := hD
    refine lv_iconst (v := nI 0) hx hb d_Wa_takeFirst_26 (by decide) ?_
    refine lv_istore_n hx hb d_Wa_takeFirst_27 rfl hl (by decide) rfl (fun ls hl => ?_)
    have hl : lv_has ls 3 [(2, .int (nI 0)), (1, .int (nI (ro 0))), (0, .ref (ad 10))] := hl
    refine lv_iload_n hx hb d_Wa_takeFirst_28 rfl (lv_at hl 0 rfl) ?_
    refine lv_aload_n hx hb d_Wa_takeFirst_29 rfl (lv_at hl 2 rfl) ?_
    refine va_get (D := D) (ci := 3) (v := .int (nI 2)) (C := RWa) (T := TWa) (N := 2) hx hb ht inWa hown hK hP 4 rfl rfl 1 (by decide) (ht _ q107) (fun _ h9 => h9) rfl d_Wa_takeFirst_30 ?_
    refine lv_icmp_ge (tgt := 56) hx hb d_Wa_takeFirst_33 (by decide) (fun h8 => absurd h8 (by decide)) (fun _ => ?_)
    refine lv_aload_n hx hb d_Wa_takeFirst_36 rfl (lv_at hl 2 rfl) ?_
    refine va_get (D := D) (ci := 3) (v := .ref (ad 11)) (C := RWa) (T := TWa) (N := 2) hx hb ht inWa hown hK hP 4 rfl rfl 0 (by decide) (ht _ q106) (fun _ h9 => h9) rfl d_Wa_takeFirst_37 ?_
    refine lv_iload_n hx hb d_Wa_takeFirst_40 rfl (lv_at hl 0 rfl) ?_
    refine lv_aload_n hx hb d_Wa_takeFirst_41 rfl (lv_at hl 2 rfl) ?_
    refine va_get (D := D) (ci := 3) (v := .ref (ad 11)) (C := RWa) (T := TWa) (N := 2) hx hb ht inWa hown hK hP 4 rfl rfl 0 (by decide) (ht _ q106) (fun _ h9 => h9) rfl d_Wa_takeFirst_42 ?_
    refine lv_iload_n hx hb d_Wa_takeFirst_45 rfl (lv_at hl 0 rfl) ?_
    refine lv_iconst (v := nI 1) hx hb d_Wa_takeFirst_46 (by decide) ?_
    refine lv_iadd hx hb d_Wa_takeFirst_47 ?_
    refine zti (y := nI 1) (by decide) ?_
    refine va_iald hx hb hK hP 5 0 rfl rfl (vp_in_nI (n := 1) (by omega) (by decide)) d_Wa_takeFirst_48 ?_
    refine zti (y := nI (ro 1)) (nF_at (by omega)) ?_
    refine va_iast hx hb hK hP hD hS 5 0 rfl rfl (vp_in_nI (n := 0) (by omega) (by decide)) d_Wa_takeFirst_49 (fun H locs hP hD hS => ?_)
    rw [nF_up (by omega)] at hP hD
    have hP : va_P D vCl (wP ad ca me nu (uN ro 0 (ro 1)) un li pt st cy pl bk en 2) H := hP
    have hD : va_D A (wP ad ca me nu (uN ro 0 (ro 1)) un li pt st cy pl bk en 2) := hD
    refine lv_iinc (k := 0) (v := nI (1)) hx hb d_Wa_takeFirst_50 hl rfl (by decide) (by decide) rfl (fun ls hl => ?_)
    have hl : lv_has ls 3 [(2, .int (nI 1)), (1, .int (nI (ro 0))), (0, .ref (ad 10))] := hl
    refine lv_goto (tgt := 28) hx hb d_Wa_takeFirst_53 (by decide) ?_
    refine lv_iload_n hx hb d_Wa_takeFirst_28 rfl (lv_at hl 0 rfl) ?_
    refine lv_aload_n hx hb d_Wa_takeFirst_29 rfl (lv_at hl 2 rfl) ?_
    refine va_get (D := D) (ci := 3) (v := .int (nI 2)) (C := RWa) (T := TWa) (N := 2) hx hb ht inWa hown hK hP 4 rfl rfl 1 (by decide) (ht _ q107) (fun _ h9 => h9) rfl d_Wa_takeFirst_30 ?_
    refine lv_icmp_ge (tgt := 56) hx hb d_Wa_takeFirst_33 (by decide) (fun h9 => absurd h9 (by decide)) (fun _ => ?_)
    refine lv_aload_n hx hb d_Wa_takeFirst_36 rfl (lv_at hl 2 rfl) ?_
    refine va_get (D := D) (ci := 3) (v := .ref (ad 11)) (C := RWa) (T := TWa) (N := 2) hx hb ht inWa hown hK hP 4 rfl rfl 0 (by decide) (ht _ q106) (fun _ h9 => h9) rfl d_Wa_takeFirst_37 ?_
    refine lv_iload_n hx hb d_Wa_takeFirst_40 rfl (lv_at hl 0 rfl) ?_
    refine lv_aload_n hx hb d_Wa_takeFirst_41 rfl (lv_at hl 2 rfl) ?_
    refine va_get (D := D) (ci := 3) (v := .ref (ad 11)) (C := RWa) (T := TWa) (N := 2) hx hb ht inWa hown hK hP 4 rfl rfl 0 (by decide) (ht _ q106) (fun _ h9 => h9) rfl d_Wa_takeFirst_42 ?_
    refine lv_iload_n hx hb d_Wa_takeFirst_45 rfl (lv_at hl 0 rfl) ?_
    refine lv_iconst (v := nI 1) hx hb d_Wa_takeFirst_46 (by decide) ?_
    refine lv_iadd hx hb d_Wa_takeFirst_47 ?_
    refine zti (y := nI 2) (by decide) ?_
    refine va_iald hx hb hK hP 5 0 rfl rfl (vp_in_nI (n := 2) (by omega) (by decide)) d_Wa_takeFirst_48 ?_
    refine zti (y := nI ((uN ro 0 (ro 1)) 2)) (nF_at (by omega)) ?_
    refine va_iast hx hb hK hP hD hS 5 0 rfl rfl (vp_in_nI (n := 1) (by omega) (by decide)) d_Wa_takeFirst_49 (fun H locs hP hD hS => ?_)
    rw [nF_up (by omega)] at hP hD
    have hP : va_P D vCl (wP ad ca me nu (uN (uN ro 0 (ro 1)) 1 ((uN ro 0 (ro 1)) 2)) un li pt st cy pl bk en 2) H := hP
    have hD : va_D A (wP ad ca me nu (uN (uN ro 0 (ro 1)) 1 ((uN ro 0 (ro 1)) 2)) un li pt st cy pl bk en 2) := hD
    refine lv_iinc (k := 0) (v := nI (2)) hx hb d_Wa_takeFirst_50 hl rfl (by decide) (by decide) rfl (fun ls hl => ?_)
    have hl : lv_has ls 3 [(2, .int (nI 2)), (1, .int (nI (ro 0))), (0, .ref (ad 10))] := hl
    refine lv_goto (tgt := 28) hx hb d_Wa_takeFirst_53 (by decide) ?_
    refine lv_iload_n hx hb d_Wa_takeFirst_28 rfl (lv_at hl 0 rfl) ?_
    refine lv_aload_n hx hb d_Wa_takeFirst_29 rfl (lv_at hl 2 rfl) ?_
    refine va_get (D := D) (ci := 3) (v := .int (nI 2)) (C := RWa) (T := TWa) (N := 2) hx hb ht inWa hown hK hP 4 rfl rfl 1 (by decide) (ht _ q107) (fun _ h9 => h9) rfl d_Wa_takeFirst_30 ?_
    refine lv_icmp_ge (tgt := 56) hx hb d_Wa_takeFirst_33 (by decide) (fun _ => ?_) (fun h10 => absurd (by decide) h10)
    refine lv_iload_n hx hb d_Wa_takeFirst_56 rfl (lv_at hl 1 rfl) ?_
    exact zret_i C0 hr hAe hP hD hS (Or.inr ⟨by decide, rfl, rfl⟩) d_Wa_takeFirst_57
