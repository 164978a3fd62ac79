set_option maxHeartbeats 4000000 in
set_option maxRecDepth 100000 in
theorem m_Pr_putResult (l : Launch) (D : va_G) (ca : Nat → ClassId) (k : Nat → Nat) (sz : Nat) (ad : Nat → Nat) (me nu ro : Nat → Nat) (un li pt : Nat) (st : Int32) (cy pl bk en kc : Nat) (r : Nat) (z : Int) (hr7 : r < 7) (hz1 : -(10 ^ 15) ≤ z) (hz2 : z ≤ 10 ^ 15) (hn : ∀ j, nu j < 10 ^ 14) (hu : 0 < un) (hu2 : un ≤ 10 ^ 14) (hl0 : 0 < li) (hl2 : li ≤ 10 ^ 14) : Met l y_Pr_putResult (zw y_Pr_putResult c_Pr_putResult 4 none) { frames := 2, cells := 0, slots := 0, locals := 44 } (va_Pc [.ref (ad 6), .int (nI r), .long (Int64.ofInt z)] (zPre D (zty ca) k (wP ad ca me nu ro un li pt st cy pl bk en kc) sz)) (va_Qv (fun w => w = wP ad ca me (wr un li nu r (rz li z)) ro un li pt st (rc li z) pl bk en kc) (zB D (zty ca) (wP ad ca me nu ro un li pt st cy pl bk en kc) sz) (va_A (wP ad ca me nu ro un li pt st cy pl bk en kc) sz)) 0 0 (va_A (wP ad ca me nu ro un li pt st cy pl bk en kc) sz) := by
  refine zOf (own := "DigitChip$Processor") (by decide +kernel) rfl (Nat.le_of_ble_eq_true rfl) ?_
  intro p e s m below meth c A ls C0 hr hnm hAe hsz hl hP hD hS
  have hl : lv_has ls 4 [(0, .ref (ad 6)), (1, .int (nI r)), (2, .long (Int64.ofInt z))] := hl
  obtain ⟨hx, hb, hml, hown, ht, hK, hX, hA, hlk⟩ := id C0
  refine lv_aload_n hx hb d_Pr_putResult_0 rfl (lv_at hl 0 rfl) ?_
  refine lv_lload_n hx hb d_Pr_putResult_1 rfl (lv_at hl 2 rfl) ?_
  refine lv_lconst (v := lN 0) hx hb d_Pr_putResult_2 rfl ?_
  refine W.lcmp hx hb d_Pr_putResult_3 ?_
  refine lv_if_lt (tgt := 19) hx hb d_Pr_putResult_4 (by decide) (fun h1 => ?_) (fun h1 => ?_)
  · skip
    have h1 : (z < ((0 : Nat) : Int)) := (zc_lt (by omega) (by omega)).mp ((lg_cmp_lt _ _).mp h1)
    refine lv_iconst (v := nI 1) hx hb d_Pr_putResult_19 (by decide) ?_
    refine lv_goto (tgt := 24) hx hb d_Pr_putResult_20 (by decide) ?_
    refine va_put (D := D) (ci := 1) (v := .int (nI 1)) (ty := .boolean) (C := RPr) (T := TPr) (N := 9) hx hb ht inPr tyPr tyPr_ok nmPr hown hK hP hD hS 0 rfl rfl 5 (by decide) (ht _ q124) (fun _ h9 => h9) rfl (by decide +kernel) (zbn (by omega)) (zbf (by omega)) (Nat.le_of_ble_eq_true rfl) d_Pr_putResult_24 (fun H locs hP hD hS => ?_)
    have hP : va_P D vCl (wP ad ca me nu ro un li pt st 1 pl bk en kc) H := hP
    have hD : va_D A (wP ad ca me nu ro un li pt st 1 pl bk en kc) := hD
    refine lv_aload_n hx hb d_Pr_putResult_27 rfl (lv_at hl 0 rfl) ?_
    refine va_get (D := D) (ci := 1) (v := .ref (ad 8)) (C := RPr) (T := TPr) (N := 9) hx hb ht inPr hown hK hP 0 rfl rfl 1 (by decide) (ht _ q116) (fun _ h9 => h9) rfl d_Pr_putResult_28 ?_
    refine lv_iload_n hx hb d_Pr_putResult_31 rfl (lv_at hl 1 rfl) ?_
    refine lv_lload_n hx hb d_Pr_putResult_32 rfl (lv_at hl 2 rfl) ?_
    refine lv_aload_n hx hb d_Pr_putResult_33 rfl (lv_at hl 0 rfl) ?_
    refine va_get (D := D) (ci := 1) (v := .ref (ad 8)) (C := RPr) (T := TPr) (N := 9) hx hb ht inPr hown hK hP 0 rfl rfl 1 (by decide) (ht _ q116) (fun _ h9 => h9) rfl d_Pr_putResult_34 ?_
    refine va_get (D := D) (ci := 2) (v := .long (lN li)) (C := RRe) (T := TRe) (N := 3) hx hb ht inRe hown hK hP 2 rfl rfl 2 (by decide) (ht _ q91) (fun _ h9 => h9) rfl d_Pr_putResult_37 ?_
    refine zgo_l (wr := wP ad ca me nu ro un li pt st 1 pl bk en kc) C0 (zrunS (na := 2) (As := [.long (Int64.ofInt z), .long (lN li)]) (rest := [.int (nI r), .ref (ad 8)]) C0 hP hD hS [] rfl rfl (m_Ma_floorMod l D ca k H.size ad z li (by omega) (by omega) (by omega)) (zg_S q535 q536 q12 q537) (by decide +kernel) rfl rfl ⟨by decide, by decide⟩ rfl hl.1 rfl (Nat.le_of_ble_eq_true rfl) d_Pr_putResult_40 ⟨Nat.zero_le _, Nat.zero_le _⟩) hP hD hS [] [0, 1, 2, 3, 4, 5] rfl rfl (by decide) (by decide) (fun r2 w1 H locs hw hP hD hS => ?_)
    obtain ⟨rfl, rfl⟩ := hw
    have hP : va_P D vCl (wP ad ca me nu ro un li pt st 1 pl bk en kc) H := hP
    have hD : va_D A (wP ad ca me nu ro un li pt st 1 pl bk en kc) := hD
    refine zgo_v (wr := []) C0 (zrunV (na := 2) (As := [.int (nI r), .long (lN (rz li z))]) (rest := []) C0 hP hD hS [0, 1, 2, 3, 4, 5] rfl rfl (m_Re_putPart l D ca k H.size ad me nu ro un li pt st 1 pl bk en kc r (rz li z) (by omega) hn hu hu2 hl0 hl2) (zg_V q490 q491 q492 q5 q493) (by decide +kernel) rfl rfl ⟨by decide, by decide⟩ 2 rfl rfl rfl hl.1 rfl (Nat.le_of_ble_eq_true rfl) d_Pr_putResult_43 ⟨Nat.zero_le _, Nat.zero_le _⟩) hP hD hS [0, 1, 2, 3, 4, 5] [] rfl rfl (by decide) (by decide) (fun w1 H locs hw hP hD hS => ?_)
    obtain rfl := hw
    have hP : va_P D vCl (wP ad ca me (wr un li nu r (rz li z)) ro un li pt st 1 pl bk en kc) H := hP
    have hD : va_D A (wP ad ca me (wr un li nu r (rz li z)) ro un li pt st 1 pl bk en kc) := hD
    exact zret_v C0 hr hAe hP hD hS (by rw [show rc li z = 1 from if_pos (by omega)]) d_Pr_putResult_46
  · skip
    have h1 : ¬ (z < ((0 : Nat) : Int)) := fun z => h1 ((lg_cmp_lt _ _).mpr ((zc_lt (by omega) (by omega)).mpr z))
    refine lv_lload_n hx hb d_Pr_putResult_7 rfl (lv_at hl 2 rfl) ?_
    refine lv_aload_n hx hb d_Pr_putResult_8 rfl (lv_at hl 0 rfl) ?_
    refine va_get (D := D) (ci := 1) (v := .ref (ad 8)) (C := RPr) (T := TPr) (N := 9) hx hb ht inPr hown hK hP 0 rfl rfl 1 (by decide) (ht _ q116) (fun _ h9 => h9) rfl d_Pr_putResult_9 ?_
    refine va_get (D := D) (ci := 2) (v := .long (lN li)) (C := RRe) (T := TRe) (N := 3) hx hb ht inRe hown hK hP 2 rfl rfl 2 (by decide) (ht _ q91) (fun _ h9 => h9) rfl d_Pr_putResult_12 ?_
    refine W.lcmp hx hb d_Pr_putResult_15 ?_
    refine lv_if_lt (tgt := 23) hx hb d_Pr_putResult_16 (by decide) (fun h4 => ?_) (fun h4 => ?_)
    · skip
      have h4 : (z < ((li : Nat) : Int)) := (zc_lt (by omega) (by omega)).mp ((lg_cmp_lt _ _).mp h4)
      refine lv_iconst (v := nI 0) hx hb d_Pr_putResult_23 (by decide) ?_
      refine va_put (D := D) (ci := 1) (v := .int (nI 0)) (ty := .boolean) (C := RPr) (T := TPr) (N := 9) hx hb ht inPr tyPr tyPr_ok nmPr hown hK hP hD hS 0 rfl rfl 5 (by decide) (ht _ q124) (fun _ h9 => h9) rfl (by decide +kernel) (zbn (by omega)) (zbf (by omega)) (Nat.le_of_ble_eq_true rfl) d_Pr_putResult_24 (fun H locs hP hD hS => ?_)
      have hP : va_P D vCl (wP ad ca me nu ro un li pt st 0 pl bk en kc) H := hP
      have hD : va_D A (wP ad ca me nu ro un li pt st 0 pl bk en kc) := hD
      refine lv_aload_n hx hb d_Pr_putResult_27 rfl (lv_at hl 0 rfl) ?_
      refine va_get (D := D) (ci := 1) (v := .ref (ad 8)) (C := RPr) (T := TPr) (N := 9) hx hb ht inPr hown hK hP 0 rfl rfl 1 (by decide) (ht _ q116) (fun _ h9 => h9) rfl d_Pr_putResult_28 ?_
      refine lv_iload_n hx hb d_Pr_putResult_31 rfl (lv_at hl 1 rfl) ?_
      refine lv_lload_n hx hb d_Pr_putResult_32 rfl (lv_at hl 2 rfl) ?_
      refine lv_aload_n hx hb d_Pr_putResult_33 rfl (lv_at hl 0 rfl) ?_
      refine va_get (D := D) (ci := 1) (v := .ref (ad 8)) (C := RPr) (T := TPr) (N := 9) hx hb ht inPr hown hK hP 0 rfl rfl 1 (by decide) (ht _ q116) (fun _ h9 => h9) rfl d_Pr_putResult_34 ?_
      refine va_get (D := D) (ci := 2) (v := .long (lN li)) (C := RRe) (T := TRe) (N := 3) hx hb ht inRe hown hK hP 2 rfl rfl 2 (by decide) (ht _ q91) (fun _ h9 => h9) rfl d_Pr_putResult_37 ?_
      refine zgo_l (wr := wP ad ca me nu ro un li pt st 0 pl bk en kc) C0 (zrunS (na := 2) (As := [.long (Int64.ofInt z), .long (lN li)]) (rest := [.int (nI r), .ref (ad 8)]) C0 hP hD hS [] rfl rfl (m_Ma_floorMod l D ca k H.size ad z li (by omega) (by omega) (by omega)) (zg_S q535 q536 q12 q537) (by decide +kernel) rfl rfl ⟨by decide, by decide⟩ rfl hl.1 rfl (Nat.le_of_ble_eq_true rfl) d_Pr_putResult_40 ⟨Nat.zero_le _, Nat.zero_le _⟩) hP hD hS [] [0, 1, 2, 3, 4, 5] rfl rfl (by decide) (by decide) (fun r5 w1 H locs hw hP hD hS => ?_)
      obtain ⟨rfl, rfl⟩ := hw
      have hP : va_P D vCl (wP ad ca me nu ro un li pt st 0 pl bk en kc) H := hP
      have hD : va_D A (wP ad ca me nu ro un li pt st 0 pl bk en kc) := hD
      refine zgo_v (wr := []) C0 (zrunV (na := 2) (As := [.int (nI r), .long (lN (rz li z))]) (rest := []) C0 hP hD hS [0, 1, 2, 3, 4, 5] rfl rfl (m_Re_putPart l D ca k H.size ad me nu ro un li pt st 0 pl bk en kc r (rz li z) (by omega) hn hu hu2 hl0 hl2) (zg_V q490 q491 q492 q5 q493) (by decide +kernel) rfl rfl ⟨by decide, by decide⟩ 2 rfl rfl rfl hl.1 rfl (Nat.le_of_ble_eq_true rfl) d_Pr_putResult_43 ⟨Nat.zero_le _, Nat.zero_le _⟩) hP hD hS [0, 1, 2, 3, 4, 5] [] rfl rfl (by decide) (by decide) (fun w1 H locs hw hP hD hS => ?_)
      obtain rfl := hw
      have hP : va_P D vCl (wP ad ca me (wr un li nu r (rz li z)) ro un li pt st 0 pl bk en kc) H := hP
      have hD : va_D A (wP ad ca me (wr un li nu r (rz li z)) ro un li pt st 0 pl bk en kc) := hD
      exact zret_v C0 hr hAe hP hD hS (by rw [show rc li z = 0 from if_neg (by omega)]) d_Pr_putResult_46
    · skip
      have h4 : ¬ (z < ((li : Nat) : Int)) := fun z => h4 ((lg_cmp_lt _ _).mpr ((zc_lt (by omega) (by omega)).mpr z))
      refine lv_iconst (v := nI 1) hx hb d_Pr_putResult_19 (by decide) ?_
      refine lv_goto (tgt := 24) hx hb d_Pr_putResult_20 (by decide) ?_
      refine va_put (D := D) (ci := 1) (v := .int (nI 1)) (ty := .boolean) (C := RPr) (T := TPr) (N := 9) hx hb ht inPr tyPr tyPr_ok nmPr hown hK hP hD hS 0 rfl rfl 5 (by decide) (ht _ q124) (fun _ h9 => h9) rfl (by decide +kernel) (zbn (by omega)) (zbf (by omega)) (Nat.le_of_ble_eq_true rfl) d_Pr_putResult_24 (fun H locs hP hD hS => ?_)
      have hP : va_P D vCl (wP ad ca me nu ro un li pt st 1 pl bk en kc) H := hP
      have hD : va_D A (wP ad ca me nu ro un li pt st 1 pl bk en kc) := hD
      refine lv_aload_n hx hb d_Pr_putResult_27 rfl (lv_at hl 0 rfl) ?_
      refine va_get (D := D) (ci := 1) (v := .ref (ad 8)) (C := RPr) (T := TPr) (N := 9) hx hb ht inPr hown hK hP 0 rfl rfl 1 (by decide) (ht _ q116) (fun _ h9 => h9) rfl d_Pr_putResult_28 ?_
      refine lv_iload_n hx hb d_Pr_putResult_31 rfl (lv_at hl 1 rfl) ?_
      refine lv_lload_n hx hb d_Pr_putResult_32 rfl (lv_at hl 2 rfl) ?_
      refine lv_aload_n hx hb d_Pr_putResult_33 rfl (lv_at hl 0 rfl) ?_
      refine va_get (D := D) (ci := 1) (v := .ref (ad 8)) (C := RPr) (T := TPr) (N := 9) hx hb ht inPr hown hK hP 0 rfl rfl 1 (by decide) (ht _ q116) (fun _ h9 => h9) rfl d_Pr_putResult_34 ?_
      refine va_get (D := D) (ci := 2) (v := .long (lN li)) (C := RRe) (T := TRe) (N := 3) hx hb ht inRe hown hK hP 2 rfl rfl 2 (by decide) (ht _ q91) (fun _ h9 => h9) rfl d_Pr_putResult_37 ?_
      refine zgo_l (wr := wP ad ca me nu ro un li pt st 1 pl bk en kc) C0 (zrunS (na := 2) (As := [.long (Int64.ofInt z), .long (lN li)]) (rest := [.int (nI r), .ref (ad 8)]) C0 hP hD hS [] rfl rfl (m_Ma_floorMod l D ca k H.size ad z li (by omega) (by omega) (by omega)) (zg_S q535 q536 q12 q537) (by decide +kernel) rfl rfl ⟨by decide, by decide⟩ rfl hl.1 rfl (Nat.le_of_ble_eq_true rfl) d_Pr_putResult_40 ⟨Nat.zero_le _, Nat.zero_le _⟩) hP hD hS [] [0, 1, 2, 3, 4, 5] rfl rfl (by decide) (by decide) (fun r7 w1 H locs hw hP hD hS => ?_)
      obtain ⟨rfl, rfl⟩ := hw
      have hP : va_P D vCl (wP ad ca me nu ro un li pt st 1 pl bk en kc) H := hP
      have hD : va_D A (wP ad ca me nu ro un li pt st 1 pl bk en kc) := hD
      refine zgo_v (wr := []) C0 (zrunV (na := 2) (As := [.int (nI r), .long (lN (rz li z))]) (rest := []) C0 hP hD hS [0, 1, 2, 3, 4, 5] rfl rfl (m_Re_putPart l D ca k H.size ad me nu ro un li pt st 1 pl bk en kc r (rz li z) (by omega) hn hu hu2 hl0 hl2) (zg_V q490 q491 q492 q5 q493) (by decide +kernel) rfl rfl ⟨by decide, by decide⟩ 2 rfl rfl rfl hl.1 rfl (Nat.le_of_ble_eq_true rfl) d_Pr_putResult_43 ⟨Nat.zero_le _, Nat.zero_le _⟩) hP hD hS [0, 1, 2, 3, 4, 5] [] rfl rfl (by decide) (by decide) (fun w1 H locs hw hP hD hS => ?_)
      obtain rfl := hw
      have hP : va_P D vCl (wP ad ca me (wr un li nu r (rz li z)) ro un li pt st 1 pl bk en kc) H := hP
      have hD : va_D A (wP ad ca me (wr un li nu r (rz li z)) ro un li pt st 1 pl bk en kc) := hD
      exact zret_v C0 hr hAe hP hD hS (by rw [show rc li z = 1 from if_pos (by omega)]) d_Pr_putResult_46
