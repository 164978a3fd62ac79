set_option maxHeartbeats 4000000 in
set_option maxRecDepth 100000 in
theorem m_Re_part (l : Launch) (D : va_G) (ca : Nat → ClassId) (k : Nat → Nat) (sz : Nat) (ad : Nat → Nat) (me nu ro : Nat → Nat) (un li pt : Nat) (st : Int32) (cy pl bk en kc : Nat) (r : Nat) (hr7 : r < 7) (hn : ∀ j, nu j < 10 ^ 14) (hu : 0 < un) (hu2 : un ≤ 10 ^ 14) (hl0 : 0 < li) (hl2 : li ≤ 10 ^ 14) : Met l y_Re_part (zw y_Re_part c_Re_part 2 (some .long)) { frames := 0, cells := 0, slots := 0, locals := 0 } (va_Pc [.ref (ad 8), .int (nI r)] (zPre D (zty ca) k (wP ad ca me nu ro un li pt st cy pl bk en kc) sz)) (va_Ql (fun x w => x = lN (pr un li (nu r)) ∧ w = wP ad ca me nu ro un li pt st cy pl bk en kc) (zB D (zty ca) (wP ad ca me nu ro un li pt st cy pl bk en kc) sz) (va_A (wP ad ca me nu ro un li pt st cy pl bk en kc) sz)) 0 0 (va_A (wP ad ca me nu ro un li pt st cy pl bk en kc) sz) := by
  refine zOf (own := "DigitChip$Registers") (by decide +kernel) rfl (Nat.le_of_ble_eq_true rfl) ?_
  intro p e s m below meth c A ls C0 hr hnm hAe hsz hl hP hD hS
  have hl : lv_has ls 2 [(0, .ref (ad 8)), (1, .int (nI r))] := hl
  obtain ⟨hx, hb, hml, hown, ht, hK, hX, hA, hlk⟩ := id C0
  have hb0 := hn r
  have hb1 : nu r / un ≤ nu r := Nat.div_le_self _ _
  refine lv_aload_n hx hb d_Re_part_0 rfl (lv_at hl 0 rfl) ?_
  refine va_get (D := D) (ci := 2) (v := .ref (ad 9)) (C := RRe) (T := TRe) (N := 3) hx hb ht inRe hown hK hP 2 rfl rfl 0 (by decide) (ht _ q86) (fun _ h9 => h9) rfl d_Re_part_1 ?_
  refine lv_iload_n hx hb d_Re_part_4 rfl (lv_at hl 1 rfl) ?_
  refine va_lald hx hb hK hP 3 1 rfl rfl (vp_in_nI (n := r) (by omega) (by decide)) d_Re_part_5 ?_
  refine ztl (y := lN (nu r)) (lF_at (by omega)) ?_
  refine lv_aload_n hx hb d_Re_part_6 rfl (lv_at hl 0 rfl) ?_
  refine va_get (D := D) (ci := 2) (v := .long (lN un)) (C := RRe) (T := TRe) (N := 3) hx hb ht inRe hown hK hP 2 rfl rfl 1 (by decide) (ht _ q89) (fun _ h9 => h9) rfl d_Re_part_7 ?_
  refine lv_ldiv hx hb d_Re_part_10 (zlne (by omega) (by omega)) ?_
  refine ztl (y := lN ((nu r) / un)) (pk_lDiv (by omega) (by omega) (by omega)) ?_
  refine lv_aload_n hx hb d_Re_part_11 rfl (lv_at hl 0 rfl) ?_
  refine va_get (D := D) (ci := 2) (v := .long (lN li)) (C := RRe) (T := TRe) (N := 3) hx hb ht inRe hown hK hP 2 rfl rfl 2 (by decide) (ht _ q90) (fun _ h9 => h9) rfl d_Re_part_12 ?_
  refine lv_lrem hx hb d_Re_part_15 (zlne (by omega) (by omega)) ?_
  refine ztl (y := lN (((nu r) / un) % li)) (pk_lRem (by omega) (by omega) (by omega)) ?_
  exact zret_l C0 hr hAe hP hD hS ⟨rfl, rfl⟩ d_Re_part_16
set_option maxHeartbeats 4000000 in
set_option maxRecDepth 100000 in
theorem m_Re_putPart (l : Launch) (D : va_G) (ca : Nat → ClassId) (k : Nat → Nat) (sz : Nat) (ad : Nat → Nat) (me nu ro : Nat → Nat) (un li pt : Nat) (st : Int32) (cy pl bk en kc : Nat) (r v : Nat) (hr7 : r < 7) (hn : ∀ j, nu j < 10 ^ 14) (hu : 0 < un) (hu2 : un ≤ 10 ^ 14) (hl0 : 0 < li) (hl2 : li ≤ 10 ^ 14) : Met l y_Re_putPart (zw y_Re_putPart c_Re_putPart 4 none) { frames := 1, cells := 0, slots := 0, locals := 21 } (va_Pc [.ref (ad 8), .int (nI r), .long (lN v)] (zPre D (zty ca) k (wP ad ca me nu ro un li pt st cy pl bk en kc) sz)) (va_Qv (fun w => w = wP ad ca me (wr un li nu r v) ro un li pt st cy pl bk en kc) (zB D (zty ca) (wP ad ca me nu ro un li pt st cy pl bk en kc) sz) (va_A (wP ad ca me nu ro un li pt st cy pl bk en kc) sz)) 0 0 (va_A (wP ad ca me nu ro un li pt st cy pl bk en kc) sz) := by
  refine zOf (own := "DigitChip$Registers") (by decide +kernel) rfl (Nat.le_of_ble_eq_true rfl) ?_
  intro p e s m below meth c A ls C0 hr hnm hAe hsz hl hP hD hS
  have hl : lv_has ls 4 [(0, .ref (ad 8)), (1, .int (nI r)), (2, .long (lN v))] := hl
  obtain ⟨hx, hb, hml, hown, ht, hK, hX, hA, hlk⟩ := id C0
  refine lv_aload_n hx hb d_Re_putPart_0 rfl (lv_at hl 0 rfl) ?_
  refine va_get (D := D) (ci := 2) (v := .ref (ad 9)) (C := RRe) (T := TRe) (N := 3) hx hb ht inRe hown hK hP 2 rfl rfl 0 (by decide) (ht _ q86) (fun _ h9 => h9) rfl d_Re_putPart_1 ?_
  refine lv_iload_n hx hb d_Re_putPart_4 rfl (lv_at hl 1 rfl) ?_
  refine lv_dup2_11 hx hb d_Re_putPart_5 rfl rfl ?_
  refine va_lald hx hb hK hP 3 1 rfl rfl (vp_in_nI (n := r) (by omega) (by decide)) d_Re_putPart_6 ?_
  refine ztl (y := lN (nu r)) (lF_at (by omega)) ?_
  refine lv_lload_n hx hb d_Re_putPart_7 rfl (lv_at hl 2 rfl) ?_
  refine lv_aload_n hx hb d_Re_putPart_8 rfl (lv_at hl 0 rfl) ?_
  refine lv_iload_n hx hb d_Re_putPart_9 rfl (lv_at hl 1 rfl) ?_
  refine zgo_l (wr := []) C0 (zrunV (na := 1) (As := [.int (nI r)]) (rest := [.long (lN v), .long (lN (nu r)), .int (nI r), .ref (ad 9)]) C0 hP hD hS [0, 1, 2, 3, 4, 5] rfl rfl (m_Re_part l D ca k s.heap.size ad me nu ro un li pt st cy pl bk en kc r (by omega) hn hu hu2 hl0 hl2) (zg_V q494 q495 q496 q5 q497) (by decide +kernel) rfl rfl ⟨by decide, by decide⟩ 2 rfl rfl rfl hl.1 rfl (Nat.le_of_ble_eq_true rfl) d_Re_putPart_10 ⟨Nat.zero_le _, Nat.zero_le _⟩) hP hD hS [0, 1, 2, 3, 4, 5] [] rfl rfl (by decide) (by decide) (fun r1 w1 H locs hw hP hD hS => ?_)
  obtain ⟨rfl, rfl⟩ := hw
  have hP : va_P D vCl (wP ad ca me nu ro un li pt st cy pl bk en kc) H := hP
  have hD : va_D A (wP ad ca me nu ro un li pt st cy pl bk en kc) := hD
  refine lv_lsub hx hb d_Re_putPart_13 ?_
  refine lv_aload_n hx hb d_Re_putPart_14 rfl (lv_at hl 0 rfl) ?_
  refine va_get (D := D) (ci := 2) (v := .long (lN un)) (C := RRe) (T := TRe) (N := 3) hx hb ht inRe hown hK hP 2 rfl rfl 1 (by decide) (ht _ q89) (fun _ h9 => h9) rfl d_Re_putPart_15 ?_
  refine lv_lmul hx hb d_Re_putPart_18 ?_
  refine lv_ladd hx hb d_Re_putPart_19 ?_
  refine zsl (y := lN (pu un li (nu r) v)) pu_long ?_
  refine va_last hx hb hK hP hD hS 3 1 rfl rfl (vp_in_nI (n := r) (by omega) (by decide)) d_Re_putPart_20 (fun H locs hP hD hS => ?_)
  rw [lF_up (by omega)] at hP hD
  have hP : va_P D vCl (wP ad ca me (uN nu r (pu un li (nu r) v)) ro un li pt st cy pl bk en kc) H := hP
  have hD : va_D A (wP ad ca me (uN nu r (pu un li (nu r) v)) ro un li pt st cy pl bk en kc) := hD
  exact zret_v C0 hr hAe hP hD hS rfl d_Re_putPart_21
set_option maxHeartbeats 4000000 in
set_option maxRecDepth 100000 in
theorem m_Re_digit (l : Launch) (D : va_G) (ca : Nat → ClassId) (k : Nat → Nat) (sz : Nat) (ad : Nat → Nat) (me nu ro : Nat → Nat) (un li pt : Nat) (st : Int32) (cy pl bk en kc : Nat) (r q : Nat) (hr7 : r < 7) (hq : q < 15) (hn : ∀ j, nu j < 10 ^ 14) : Met l y_Re_digit (zw y_Re_digit c_Re_digit 3 (some .int)) { frames := 0, cells := 0, slots := 0, locals := 0 } (va_Pc [.ref (ad 8), .int (nI r), .int (nI q)] (zPre D (zty ca) k (wP ad ca me nu ro un li pt st cy pl bk en kc) sz)) (va_Qi (fun x w => x = nI (nu r / 10 ^ q % 10) ∧ w = wP ad ca me nu ro un li pt st cy pl bk en kc) (zB D (zty ca) (wP ad ca me nu ro un li pt st cy pl bk en kc) sz) (va_A (wP ad ca me nu ro un li pt st cy pl bk en kc) sz)) 0 0 (va_A (wP ad ca me nu ro un li pt st cy pl bk en kc) sz) := by
  refine zOf (own := "DigitChip$Registers") (by decide +kernel) rfl (Nat.le_of_ble_eq_true rfl) ?_
  intro p e s m below meth c A ls C0 hr hnm hAe hsz hl hP hD hS
  have hl : lv_has ls 3 [(0, .ref (ad 8)), (1, .int (nI r)), (2, .int (nI q))] := hl
  obtain ⟨hx, hb, hml, hown, ht, hK, hX, hA, hlk⟩ := id C0
  have hb0 := hn r
  have hb1 : nu r / 10 ^ q ≤ nu r := Nat.div_le_self _ _
  have hb2 : 10 ^ q ≤ 10 ^ 14 := Nat.pow_le_pow_right (by decide) (by omega)
  have hb3 : 0 < 10 ^ q := Nat.pow_pos (by decide)
  refine lv_aload_n hx hb d_Re_digit_0 rfl (lv_at hl 0 rfl) ?_
  refine va_get (D := D) (ci := 2) (v := .ref (ad 9)) (C := RRe) (T := TRe) (N := 3) hx hb ht inRe hown hK hP 2 rfl rfl 0 (by decide) (ht _ q86) (fun _ h9 => h9) rfl d_Re_digit_1 ?_
  refine lv_iload_n hx hb d_Re_digit_4 rfl (lv_at hl 1 rfl) ?_
  refine va_lald hx hb hK hP 3 1 rfl rfl (vp_in_nI (n := r) (by omega) (by decide)) d_Re_digit_5 ?_
  refine ztl (y := lN (nu r)) (lF_at (by omega)) ?_
  refine va_gets hx hb hX.1 hS hown (ht _ q226) (fun _ h9 => h9) d_Re_digit_6 ?_
  refine lv_iload_n hx hb d_Re_digit_9 rfl (lv_at hl 2 rfl) ?_
  refine va_tl hx hb hX.2.1 hS (vp_in_nI (n := q) (by omega) (by decide)) (v := .long (lN (10 ^ q))) (zten (by omega)) d_Re_digit_10 ?_
  refine lv_ldiv hx hb d_Re_digit_11 (zlne (by omega) (by omega)) ?_
  refine ztl (y := lN ((nu r) / (10 ^ q))) (pk_lDiv (by omega) (by omega) (by omega)) ?_
  refine lv_ldc2 hx hb hown (ht _ q227) d_Re_digit_12 ?_
  refine ztl (y := lN 10) (by decide) ?_
  refine lv_lrem hx hb d_Re_digit_15 (zlne (by omega) (by omega)) ?_
  refine ztl (y := lN (((nu r) / (10 ^ q)) % 10)) (pk_lRem (by omega) (by omega) (by omega)) ?_
  refine lv_l2i (v := nI (((nu r) / (10 ^ q)) % 10)) hx hb d_Re_digit_16 (lN_i _) ?_
  exact zret_i C0 hr hAe hP hD hS ⟨rfl, rfl⟩ d_Re_digit_17
set_option maxHeartbeats 4000000 in
set_option maxRecDepth 100000 in
theorem m_Re_chooseDigits (l : Launch) (D : va_G) (ca : Nat → ClassId) (k : Nat → Nat) (sz : Nat) (ad : Nat → Nat) (me nu ro : Nat → Nat) (un li pt : Nat) (st : Int32) (cy pl bk en kc : Nat) (x0 x1 : Nat) (hx0 : x0 ≤ x1) (hx1 : x1 ≤ 13) : Met l y_Re_chooseDigits (zw y_Re_chooseDigits c_Re_chooseDigits 3 none) { frames := 0, cells := 0, slots := 0, locals := 0 } (va_Pc [.ref (ad 8), .int (nI x0), .int (nI x1)] (zPre D (zty ca) k (wP ad ca me nu ro un li pt st cy pl bk en kc) sz)) (va_Qv (fun w => w = wP ad ca me nu ro (10 ^ x0) (10 ^ (x1 - x0 + 1)) pt st cy pl bk en kc) (zB D (zty ca) (wP ad ca me nu ro un li pt st cy pl bk en kc) sz) (va_A (wP ad ca me nu ro un li pt st cy pl bk en kc) sz)) 0 0 (va_A (wP ad ca me nu ro un li pt st cy pl bk en kc) sz) := by
  refine zOf (own := "DigitChip$Registers") (by decide +kernel) rfl (Nat.le_of_ble_eq_true rfl) ?_
  intro p e s m below meth c A ls C0 hr hnm hAe hsz hl hP hD hS
  have hl : lv_has ls 3 [(0, .ref (ad 8)), (1, .int (nI x0)), (2, .int (nI x1))] := hl
  obtain ⟨hx, hb, hml, hown, ht, hK, hX, hA, hlk⟩ := id C0
  refine lv_aload_n hx hb d_Re_chooseDigits_0 rfl (lv_at hl 0 rfl) ?_
  refine va_gets hx hb hX.1 hS hown (ht _ q226) (fun _ h9 => h9) d_Re_chooseDigits_1 ?_
  refine lv_iload_n hx hb d_Re_chooseDigits_4 rfl (lv_at hl 1 rfl) ?_
  refine va_tl hx hb hX.2.1 hS (vp_in_nI (n := x0) (by omega) (by decide)) (v := .long (lN (10 ^ x0))) (zten (by omega)) d_Re_chooseDigits_5 ?_
  refine va_put (D := D) (ci := 2) (v := .long (lN (10 ^ x0))) (ty := .long) (C := RRe) (T := TRe) (N := 3) hx hb ht inRe tyRe tyRe_ok nmRe hown hK hP hD hS 2 rfl rfl 1 (by decide) (ht _ q89) (fun _ h9 => h9) rfl (by decide +kernel) rfl rfl (Nat.le_of_ble_eq_true rfl) d_Re_chooseDigits_6 (fun H locs hP hD hS => ?_)
  have hP : va_P D vCl (wP ad ca me nu ro (10 ^ x0) li pt st cy pl bk en kc) H := hP
  have hD : va_D A (wP ad ca me nu ro (10 ^ x0) li pt st cy pl bk en kc) := hD
  refine lv_aload_n hx hb d_Re_chooseDigits_9 rfl (lv_at hl 0 rfl) ?_
  refine va_gets hx hb hX.1 hS hown (ht _ q226) (fun _ h9 => h9) d_Re_chooseDigits_10 ?_
  refine lv_iload_n hx hb d_Re_chooseDigits_13 rfl (lv_at hl 2 rfl) ?_
  refine lv_iload_n hx hb d_Re_chooseDigits_14 rfl (lv_at hl 1 rfl) ?_
  refine lv_isub hx hb d_Re_chooseDigits_15 ?_
  refine zti (y := nI (x1 - x0)) (pk_sub (by omega)) ?_
  refine lv_iconst (v := nI 1) hx hb d_Re_chooseDigits_16 (by decide) ?_
  refine lv_iadd hx hb d_Re_chooseDigits_17 ?_
  refine zti (y := nI ((x1 - x0) + 1)) (nI_add _ _) ?_
  refine va_tl hx hb hX.2.1 hS (vp_in_nI (n := (x1 - x0) + 1) (by omega) (by decide)) (v := .long (lN (10 ^ ((x1 - x0) + 1)))) (zten (by omega)) d_Re_chooseDigits_18 ?_
  refine va_put (D := D) (ci := 2) (v := .long (lN (10 ^ ((x1 - x0) + 1)))) (ty := .long) (C := RRe) (T := TRe) (N := 3) hx hb ht inRe tyRe tyRe_ok nmRe hown hK hP hD hS 2 rfl rfl 2 (by decide) (ht _ q90) (fun _ h9 => h9) rfl (by decide +kernel) rfl rfl (Nat.le_of_ble_eq_true rfl) d_Re_chooseDigits_19 (fun H locs hP hD hS => ?_)
  have hP : va_P D vCl (wP ad ca me nu ro (10 ^ x0) (10 ^ ((x1 - x0) + 1)) pt st cy pl bk en kc) H := hP
  have hD : va_D A (wP ad ca me nu ro (10 ^ x0) (10 ^ ((x1 - x0) + 1)) pt st cy pl bk en kc) := hD
  exact zret_v C0 hr hAe hP hD hS rfl d_Re_chooseDigits_22
set_option maxHeartbeats 4000000 in
set_option maxRecDepth 100000 in
theorem m_Re_chooseField (l : Launch) (D : va_G) (ca : Nat → ClassId) (k : Nat → Nat) (sz : Nat) (ad : Nat → Nat) (me nu ro : Nat → Nat) (un li pt : Nat) (st : Int32) (cy pl bk en kc : Nat) (f g : Nat) (hf : f < 8) (hg : g < 14) : Met l y_Re_chooseField (zw y_Re_chooseField c_Re_chooseField 3 none) { frames := 1, cells := 0, slots := 0, locals := 22 } (va_Pc [.ref (ad 8), .int (nI f), .int (nI g)] (zPre D (zty ca) k (wP ad ca me nu ro un li pt st cy pl bk en kc) sz)) (va_Qv (fun w => w = wP ad ca me nu ro (fU g f) (fL g f) pt st cy pl bk en kc) (zB D (zty ca) (wP ad ca me nu ro un li pt st cy pl bk en kc) sz) (va_A (wP ad ca me nu ro un li pt st cy pl bk en kc) sz)) 0 0 (va_A (wP ad ca me nu ro un li pt st cy pl bk en kc) sz) := by
  refine zOf (own := "DigitChip$Registers") (by decide +kernel) rfl (Nat.le_of_ble_eq_true rfl) ?_
  intro p e s m below meth c A ls C0 hr hnm hAe hsz hl hP hD hS
  have hl : lv_has ls 3 [(0, .ref (ad 8)), (1, .int (nI f)), (2, .int (nI g))] := hl
  obtain ⟨hx, hb, hml, hown, ht, hK, hX, hA, hlk⟩ := id C0
  rcases (show f = 0 ∨ f = 1 ∨ f = 2 ∨ f = 3 ∨ f = 4 ∨ f = 5 ∨ f = 6 ∨ f = 7 from by omega) with rfl | rfl | rfl | rfl | rfl | rfl | rfl | rfl
  · skip
    refine lv_iload_n hx hb d_Re_chooseField_0 rfl (lv_at hl 1 rfl) ?_
    refine lv_tableIn (off := 43) (tgt := 44) hx hb d_Re_chooseField_1 (by decide) (by decide) (by decide) (by decide) ?_
    refine lv_aload_n hx hb d_Re_chooseField_44 rfl (lv_at hl 0 rfl) ?_
    refine lv_iload_n hx hb d_Re_chooseField_45 rfl (lv_at hl 2 rfl) ?_
    refine lv_iload_n hx hb d_Re_chooseField_46 rfl (lv_at hl 2 rfl) ?_
    refine zgo_v (wr := []) C0 (zrunV (na := 2) (As := [.int (nI g), .int (nI g)]) (rest := []) C0 hP hD hS [0, 1, 2, 3, 4, 5] rfl rfl (m_Re_chooseDigits l D ca k s.heap.size ad me nu ro un li pt st cy pl bk en kc g g (by omega) (by omega)) (zg_V q486 q488 q815 q5 q489) (by decide +kernel) rfl rfl ⟨by decide, by decide⟩ 2 rfl rfl rfl hl.1 rfl (Nat.le_of_ble_eq_true rfl) d_Re_chooseField_47 ⟨Nat.zero_le _, Nat.zero_le _⟩) hP hD hS [0, 1, 2, 3, 4, 5] [] rfl rfl (by decide) (by decide) (fun w1 H locs hw hP hD hS => ?_)
    obtain rfl := hw
    have hP : va_P D vCl (wP ad ca me nu ro (10 ^ g) (10 ^ (g - g + 1)) pt st cy pl bk en kc) H := hP
    have hD : va_D A (wP ad ca me nu ro (10 ^ g) (10 ^ (g - g + 1)) pt st cy pl bk en kc) := hD
    refine lv_goto (tgt := 118) hx hb d_Re_chooseField_50 (by decide) ?_
    exact zret_v C0 hr hAe hP hD hS rfl d_Re_chooseField_118
  · skip
    refine lv_iload_n hx hb d_Re_chooseField_0 rfl (lv_at hl 1 rfl) ?_
    refine lv_tableIn (off := 52) (tgt := 53) hx hb d_Re_chooseField_1 (by decide) (by decide) (by decide) (by decide) ?_
    refine lv_aload_n hx hb d_Re_chooseField_53 rfl (lv_at hl 0 rfl) ?_
    refine lv_iconst (v := nI 0) hx hb d_Re_chooseField_54 (by decide) ?_
    refine lv_iload_n hx hb d_Re_chooseField_55 rfl (lv_at hl 2 rfl) ?_
    refine zgo_v (wr := []) C0 (zrunV (na := 2) (As := [.int (nI 0), .int (nI g)]) (rest := []) C0 hP hD hS [0, 1, 2, 3, 4, 5] rfl rfl (m_Re_chooseDigits l D ca k s.heap.size ad me nu ro un li pt st cy pl bk en kc 0 g (by omega) (by omega)) (zg_V q486 q488 q815 q5 q489) (by decide +kernel) rfl rfl ⟨by decide, by decide⟩ 2 rfl rfl rfl hl.1 rfl (Nat.le_of_ble_eq_true rfl) d_Re_chooseField_56 ⟨Nat.zero_le _, Nat.zero_le _⟩) hP hD hS [0, 1, 2, 3, 4, 5] [] rfl rfl (by decide) (by decide) (fun w1 H locs hw hP hD hS => ?_)
    obtain rfl := hw
    have hP : va_P D vCl (wP ad ca me nu ro (10 ^ 0) (10 ^ (g - 0 + 1)) pt st cy pl bk en kc) H := hP
    have hD : va_D A (wP ad ca me nu ro (10 ^ 0) (10 ^ (g - 0 + 1)) pt st cy pl bk en kc) := hD
    refine lv_goto (tgt := 118) hx hb d_Re_chooseField_59 (by decide) ?_
    exact zret_v C0 hr hAe hP hD hS rfl d_Re_chooseField_118
  · skip
    refine lv_iload_n hx hb d_Re_chooseField_0 rfl (lv_at hl 1 rfl) ?_
    refine lv_tableIn (off := 61) (tgt := 62) hx hb d_Re_chooseField_1 (by decide) (by decide) (by decide) (by decide) ?_
    refine lv_aload_n hx hb d_Re_chooseField_62 rfl (lv_at hl 0 rfl) ?_
    refine lv_iconst (v := nI 2) hx hb d_Re_chooseField_63 (by decide) ?_
    refine lv_iconst (v := nI 2) hx hb d_Re_chooseField_64 (by decide) ?_
    refine zgo_v (wr := []) C0 (zrunV (na := 2) (As := [.int (nI 2), .int (nI 2)]) (rest := []) C0 hP hD hS [0, 1, 2, 3, 4, 5] rfl rfl (m_Re_chooseDigits l D ca k s.heap.size ad me nu ro un li pt st cy pl bk en kc 2 2 (by omega) (by omega)) (zg_V q486 q488 q815 q5 q489) (by decide +kernel) rfl rfl ⟨by decide, by decide⟩ 2 rfl rfl rfl hl.1 rfl (Nat.le_of_ble_eq_true rfl) d_Re_chooseField_65 ⟨Nat.zero_le _, Nat.zero_le _⟩) hP hD hS [0, 1, 2, 3, 4, 5] [] rfl rfl (by decide) (by decide) (fun w1 H locs hw hP hD hS => ?_)
    obtain rfl := hw
    have hP : va_P D vCl (wP ad ca me nu ro (10 ^ 2) (10 ^ (2 - 2 + 1)) pt st cy pl bk en kc) H := hP
    have hD : va_D A (wP ad ca me nu ro (10 ^ 2) (10 ^ (2 - 2 + 1)) pt st cy pl bk en kc) := hD
    refine lv_goto (tgt := 118) hx hb d_Re_chooseField_68 (by decide) ?_
    exact zret_v C0 hr hAe hP hD hS rfl d_Re_chooseField_118
  · skip
    refine lv_iload_n hx hb d_Re_chooseField_0 rfl (lv_at hl 1 rfl) ?_
    refine lv_tableIn (off := 70) (tgt := 71) hx hb d_Re_chooseField_1 (by decide) (by decide) (by decide) (by decide) ?_
    refine lv_aload_n hx hb d_Re_chooseField_71 rfl (lv_at hl 0 rfl) ?_
    refine lv_iconst (v := nI 0) hx hb d_Re_chooseField_72 (by decide) ?_
    refine lv_iconst (v := nI 2) hx hb d_Re_chooseField_73 (by decide) ?_
    refine zgo_v (wr := []) C0 (zrunV (na := 2) (As := [.int (nI 0), .int (nI 2)]) (rest := []) C0 hP hD hS [0, 1, 2, 3, 4, 5] rfl rfl (m_Re_chooseDigits l D ca k s.heap.size ad me nu ro un li pt st cy pl bk en kc 0 2 (by omega) (by omega)) (zg_V q486 q488 q815 q5 q489) (by decide +kernel) rfl rfl ⟨by decide, by decide⟩ 2 rfl rfl rfl hl.1 rfl (Nat.le_of_ble_eq_true rfl) d_Re_chooseField_74 ⟨Nat.zero_le _, Nat.zero_le _⟩) hP hD hS [0, 1, 2, 3, 4, 5] [] rfl rfl (by decide) (by decide) (fun w1 H locs hw hP hD hS => ?_)
    obtain rfl := hw
    have hP : va_P D vCl (wP ad ca me nu ro (10 ^ 0) (10 ^ (2 - 0 + 1)) pt st cy pl bk en kc) H := hP
    have hD : va_D A (wP ad ca me nu ro (10 ^ 0) (10 ^ (2 - 0 + 1)) pt st cy pl bk en kc) := hD
    refine lv_goto (tgt := 118) hx hb d_Re_chooseField_77 (by decide) ?_
    exact zret_v C0 hr hAe hP hD hS rfl d_Re_chooseField_118
  · skip
    refine lv_iload_n hx hb d_Re_chooseField_0 rfl (lv_at hl 1 rfl) ?_
    refine lv_tableIn (off := 79) (tgt := 80) hx hb d_Re_chooseField_1 (by decide) (by decide) (by decide) (by decide) ?_
    refine lv_aload_n hx hb d_Re_chooseField_80 rfl (lv_at hl 0 rfl) ?_
    refine lv_bipush (v := nI 13) hx hb d_Re_chooseField_81 (by decide) ?_
    refine lv_bipush (v := nI 13) hx hb d_Re_chooseField_83 (by decide) ?_
    refine zgo_v (wr := []) C0 (zrunV (na := 2) (As := [.int (nI 13), .int (nI 13)]) (rest := []) C0 hP hD hS [0, 1, 2, 3, 4, 5] rfl rfl (m_Re_chooseDigits l D ca k s.heap.size ad me nu ro un li pt st cy pl bk en kc 13 13 (by omega) (by omega)) (zg_V q486 q488 q815 q5 q489) (by decide +kernel) rfl rfl ⟨by decide, by decide⟩ 2 rfl rfl rfl hl.1 rfl (Nat.le_of_ble_eq_true rfl) d_Re_chooseField_85 ⟨Nat.zero_le _, Nat.zero_le _⟩) hP hD hS [0, 1, 2, 3, 4, 5] [] rfl rfl (by decide) (by decide) (fun w1 H locs hw hP hD hS => ?_)
    obtain rfl := hw
    have hP : va_P D vCl (wP ad ca me nu ro (10 ^ 13) (10 ^ (13 - 13 + 1)) pt st cy pl bk en kc) H := hP
    have hD : va_D A (wP ad ca me nu ro (10 ^ 13) (10 ^ (13 - 13 + 1)) pt st cy pl bk en kc) := hD
    refine lv_goto (tgt := 118) hx hb d_Re_chooseField_88 (by decide) ?_
    exact zret_v C0 hr hAe hP hD hS rfl d_Re_chooseField_118
  · skip
    refine lv_iload_n hx hb d_Re_chooseField_0 rfl (lv_at hl 1 rfl) ?_
    refine lv_tableIn (off := 90) (tgt := 91) hx hb d_Re_chooseField_1 (by decide) (by decide) (by decide) (by decide) ?_
    refine lv_aload_n hx hb d_Re_chooseField_91 rfl (lv_at hl 0 rfl) ?_
    refine lv_iconst (v := nI 3) hx hb d_Re_chooseField_92 (by decide) ?_
    refine lv_bipush (v := nI 12) hx hb d_Re_chooseField_93 (by decide) ?_
    refine zgo_v (wr := []) C0 (zrunV (na := 2) (As := [.int (nI 3), .int (nI 12)]) (rest := []) C0 hP hD hS [0, 1, 2, 3, 4, 5] rfl rfl (m_Re_chooseDigits l D ca k s.heap.size ad me nu ro un li pt st cy pl bk en kc 3 12 (by omega) (by omega)) (zg_V q486 q488 q815 q5 q489) (by decide +kernel) rfl rfl ⟨by decide, by decide⟩ 2 rfl rfl rfl hl.1 rfl (Nat.le_of_ble_eq_true rfl) d_Re_chooseField_95 ⟨Nat.zero_le _, Nat.zero_le _⟩) hP hD hS [0, 1, 2, 3, 4, 5] [] rfl rfl (by decide) (by decide) (fun w1 H locs hw hP hD hS => ?_)
    obtain rfl := hw
    have hP : va_P D vCl (wP ad ca me nu ro (10 ^ 3) (10 ^ (12 - 3 + 1)) pt st cy pl bk en kc) H := hP
    have hD : va_D A (wP ad ca me nu ro (10 ^ 3) (10 ^ (12 - 3 + 1)) pt st cy pl bk en kc) := hD
    refine lv_goto (tgt := 118) hx hb d_Re_chooseField_98 (by decide) ?_
    exact zret_v C0 hr hAe hP hD hS rfl d_Re_chooseField_118
  · skip
    refine lv_iload_n hx hb d_Re_chooseField_0 rfl (lv_at hl 1 rfl) ?_
    refine lv_tableIn (off := 100) (tgt := 101) hx hb d_Re_chooseField_1 (by decide) (by decide) (by decide) (by decide) ?_
    refine lv_aload_n hx hb d_Re_chooseField_101 rfl (lv_at hl 0 rfl) ?_
    refine lv_iconst (v := nI 3) hx hb d_Re_chooseField_102 (by decide) ?_
    refine lv_bipush (v := nI 13) hx hb d_Re_chooseField_103 (by decide) ?_
    refine zgo_v (wr := []) C0 (zrunV (na := 2) (As := [.int (nI 3), .int (nI 13)]) (rest := []) C0 hP hD hS [0, 1, 2, 3, 4, 5] rfl rfl (m_Re_chooseDigits l D ca k s.heap.size ad me nu ro un li pt st cy pl bk en kc 3 13 (by omega) (by omega)) (zg_V q486 q488 q815 q5 q489) (by decide +kernel) rfl rfl ⟨by decide, by decide⟩ 2 rfl rfl rfl hl.1 rfl (Nat.le_of_ble_eq_true rfl) d_Re_chooseField_105 ⟨Nat.zero_le _, Nat.zero_le _⟩) hP hD hS [0, 1, 2, 3, 4, 5] [] rfl rfl (by decide) (by decide) (fun w1 H locs hw hP hD hS => ?_)
    obtain rfl := hw
    have hP : va_P D vCl (wP ad ca me nu ro (10 ^ 3) (10 ^ (13 - 3 + 1)) pt st cy pl bk en kc) H := hP
    have hD : va_D A (wP ad ca me nu ro (10 ^ 3) (10 ^ (13 - 3 + 1)) pt st cy pl bk en kc) := hD
    refine lv_goto (tgt := 118) hx hb d_Re_chooseField_108 (by decide) ?_
    exact zret_v C0 hr hAe hP hD hS rfl d_Re_chooseField_118
  · skip
    refine lv_iload_n hx hb d_Re_chooseField_0 rfl (lv_at hl 1 rfl) ?_
    refine lv_tableOut (tgt := 111) hx hb d_Re_chooseField_1 (by decide) (by decide) ?_
    refine lv_aload_n hx hb d_Re_chooseField_111 rfl (lv_at hl 0 rfl) ?_
    refine lv_iconst (v := nI 0) hx hb d_Re_chooseField_112 (by decide) ?_
    refine lv_bipush (v := nI 13) hx hb d_Re_chooseField_113 (by decide) ?_
    refine zgo_v (wr := []) C0 (zrunV (na := 2) (As := [.int (nI 0), .int (nI 13)]) (rest := []) C0 hP hD hS [0, 1, 2, 3, 4, 5] rfl rfl (m_Re_chooseDigits l D ca k s.heap.size ad me nu ro un li pt st cy pl bk en kc 0 13 (by omega) (by omega)) (zg_V q486 q488 q815 q5 q489) (by decide +kernel) rfl rfl ⟨by decide, by decide⟩ 2 rfl rfl rfl hl.1 rfl (Nat.le_of_ble_eq_true rfl) d_Re_chooseField_115 ⟨Nat.zero_le _, Nat.zero_le _⟩) hP hD hS [0, 1, 2, 3, 4, 5] [] rfl rfl (by decide) (by decide) (fun w1 H locs hw hP hD hS => ?_)
    obtain rfl := hw
    have hP : va_P D vCl (wP ad ca me nu ro (10 ^ 0) (10 ^ (13 - 0 + 1)) pt st cy pl bk en kc) H := hP
    have hD : va_D A (wP ad ca me nu ro (10 ^ 0) (10 ^ (13 - 0 + 1)) pt st cy pl bk en kc) := hD
    exact zret_v C0 hr hAe hP hD hS rfl d_Re_chooseField_118
