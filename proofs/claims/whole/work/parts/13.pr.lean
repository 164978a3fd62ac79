set_option maxHeartbeats 4000000 in
set_option maxRecDepth 100000 in
theorem m_Pr_setStatus (l : Launch) (D : va_G) (ca : Nat → ClassId) (k : Nat → Nat) (sz : Nat) (ad : Nat → Nat) (me nu ro : Nat → Nat) (un li pt : Nat) (st : Int32) (cy pl bk en kc : Nat) (g : Nat) (hg : g < 16) : Met l y_Pr_setStatus (zw y_Pr_setStatus c_Pr_setStatus 2 none) { frames := 0, cells := 0, slots := 0, locals := 0 } (va_Pc [.ref (ad 6), .int (nI g)] (zPre D (zty ca) k (wP ad ca me nu ro un li pt st cy pl bk en kc) sz)) (va_Qv (fun w => w = wP ad ca me nu ro un li pt (sSt g st) cy pl bk en kc) (zB D (zty ca) (wP ad ca me nu ro un li pt st cy pl bk en kc) sz) (va_A (wP ad ca me nu ro un li pt st cy pl bk en kc) sz)) 0 0 (va_A (wP ad ca me nu ro un li pt st cy pl bk en kc) sz) := by
  refine zOf (own := "DigitChip$Processor") (by decide +kernel) rfl (Nat.le_of_ble_eq_true rfl) ?_
  intro p e s m below meth c A ls C0 hr hnm hAe hsz hl hP hD hS
  have hl : lv_has ls 2 [(0, .ref (ad 6)), (1, .int (nI g))] := hl
  obtain ⟨hx, hb, hml, hown, ht, hK, hX, hA, hlk⟩ := id C0
  refine lv_iload_n hx hb d_Pr_setStatus_0 rfl (lv_at hl 1 rfl) ?_
  refine lv_bipush (v := nI 12) hx hb d_Pr_setStatus_1 (by decide) ?_
  refine lv_icmp_ge (tgt := 18) hx hb d_Pr_setStatus_3 (by decide) (fun h1 => ?_) (fun h1 => ?_)
  · skip
    have h1 : (12 ≤ g) := (nI_leI (by omega) (by omega)).mp h1
    exact zret_v C0 hr hAe hP hD hS (by rw [show sSt g st = st from if_neg (by omega)]) d_Pr_setStatus_18
  · skip
    have h1 : ¬ (12 ≤ g) := fun z => h1 ((nI_leI (by omega) (by omega)).mpr z)
    refine lv_aload_n hx hb d_Pr_setStatus_6 rfl (lv_at hl 0 rfl) ?_
    refine lv_dup hx hb d_Pr_setStatus_7 rfl ?_
    refine va_get (D := D) (ci := 1) (v := .int st) (C := RPr) (T := TPr) (N := 9) hx hb ht inPr hown hK hP 0 rfl rfl 4 (by decide) (ht _ q122) (fun _ h9 => h9) rfl d_Pr_setStatus_8 ?_
    refine lv_iconst (v := nI 1) hx hb d_Pr_setStatus_11 (by decide) ?_
    refine lv_iload_n hx hb d_Pr_setStatus_12 rfl (lv_at hl 1 rfl) ?_
    refine lv_ishl hx hb d_Pr_setStatus_13 ?_
    refine lv_ior hx hb d_Pr_setStatus_14 ?_
    refine va_put (D := D) (ci := 1) (v := .int (st ||| ((nI 1) <<< ((nI g) &&& 31)))) (ty := .int) (C := RPr) (T := TPr) (N := 9) hx hb ht inPr tyPr tyPr_ok nmPr hown hK hP hD hS 0 rfl rfl 4 (by decide) (ht _ q122) (fun _ h9 => h9) rfl (by decide +kernel) rfl rfl (Nat.le_of_ble_eq_true rfl) d_Pr_setStatus_15 (fun H locs hP hD hS => ?_)
    have hP : va_P D vCl (wP ad ca me nu ro un li pt (st ||| ((nI 1) <<< ((nI g) &&& 31))) cy pl bk en kc) H := hP
    have hD : va_D A (wP ad ca me nu ro un li pt (st ||| ((nI 1) <<< ((nI g) &&& 31))) cy pl bk en kc) := hD
    exact zret_v C0 hr hAe hP hD hS (by rw [show sSt g st = _ from if_pos (by omega)]) d_Pr_setStatus_18
set_option maxHeartbeats 4000000 in
set_option maxRecDepth 100000 in
theorem m_Pr_clearStatus (l : Launch) (D : va_G) (ca : Nat → ClassId) (k : Nat → Nat) (sz : Nat) (ad : Nat → Nat) (me nu ro : Nat → Nat) (un li pt : Nat) (st : Int32) (cy pl bk en kc : Nat) (g : Nat) (hg : g < 16) : Met l y_Pr_clearStatus (zw y_Pr_clearStatus c_Pr_clearStatus 2 none) { frames := 0, cells := 0, slots := 0, locals := 0 } (va_Pc [.ref (ad 6), .int (nI g)] (zPre D (zty ca) k (wP ad ca me nu ro un li pt st cy pl bk en kc) sz)) (va_Qv (fun w => w = wP ad ca me nu ro un li pt (cSt g st) cy pl bk en kc) (zB D (zty ca) (wP ad ca me nu ro un li pt st cy pl bk en kc) sz) (va_A (wP ad ca me nu ro un li pt st cy pl bk en kc) sz)) 0 0 (va_A (wP ad ca me nu ro un li pt st cy pl bk en kc) sz) := by
  refine zOf (own := "DigitChip$Processor") (by decide +kernel) rfl (Nat.le_of_ble_eq_true rfl) ?_
  intro p e s m below meth c A ls C0 hr hnm hAe hsz hl hP hD hS
  have hl : lv_has ls 2 [(0, .ref (ad 6)), (1, .int (nI g))] := hl
  obtain ⟨hx, hb, hml, hown, ht, hK, hX, hA, hlk⟩ := id C0
  refine lv_iload_n hx hb d_Pr_clearStatus_0 rfl (lv_at hl 1 rfl) ?_
  refine lv_bipush (v := nI 12) hx hb d_Pr_clearStatus_1 (by decide) ?_
  refine lv_icmp_ge (tgt := 20) hx hb d_Pr_clearStatus_3 (by decide) (fun h1 => ?_) (fun h1 => ?_)
  · skip
    have h1 : (12 ≤ g) := (nI_leI (by omega) (by omega)).mp h1
    exact zret_v C0 hr hAe hP hD hS (by rw [show cSt g st = st from if_neg (by omega)]) d_Pr_clearStatus_20
  · skip
    have h1 : ¬ (12 ≤ g) := fun z => h1 ((nI_leI (by omega) (by omega)).mpr z)
    refine lv_aload_n hx hb d_Pr_clearStatus_6 rfl (lv_at hl 0 rfl) ?_
    refine lv_dup hx hb d_Pr_clearStatus_7 rfl ?_
    refine va_get (D := D) (ci := 1) (v := .int st) (C := RPr) (T := TPr) (N := 9) hx hb ht inPr hown hK hP 0 rfl rfl 4 (by decide) (ht _ q122) (fun _ h9 => h9) rfl d_Pr_clearStatus_8 ?_
    refine lv_iconst (v := nI 1) hx hb d_Pr_clearStatus_11 (by decide) ?_
    refine lv_iload_n hx hb d_Pr_clearStatus_12 rfl (lv_at hl 1 rfl) ?_
    refine lv_ishl hx hb d_Pr_clearStatus_13 ?_
    refine lv_iconst (v := (-1)) hx hb d_Pr_clearStatus_14 (by decide) ?_
    refine lv_ixor hx hb d_Pr_clearStatus_15 ?_
    refine lv_iand hx hb d_Pr_clearStatus_16 ?_
    refine va_put (D := D) (ci := 1) (v := .int (st &&& (((nI 1) <<< ((nI g) &&& 31)) ^^^ (-1)))) (ty := .int) (C := RPr) (T := TPr) (N := 9) hx hb ht inPr tyPr tyPr_ok nmPr hown hK hP hD hS 0 rfl rfl 4 (by decide) (ht _ q122) (fun _ h9 => h9) rfl (by decide +kernel) rfl rfl (Nat.le_of_ble_eq_true rfl) d_Pr_clearStatus_17 (fun H locs hP hD hS => ?_)
    have hP : va_P D vCl (wP ad ca me nu ro un li pt (st &&& (((nI 1) <<< ((nI g) &&& 31)) ^^^ (-1))) cy pl bk en kc) H := hP
    have hD : va_D A (wP ad ca me nu ro un li pt (st &&& (((nI 1) <<< ((nI g) &&& 31)) ^^^ (-1))) cy pl bk en kc) := hD
    exact zret_v C0 hr hAe hP hD hS (by rw [show cSt g st = _ from if_pos (by omega)]) d_Pr_clearStatus_20
set_option maxHeartbeats 4000000 in
set_option maxRecDepth 100000 in
theorem m_Pr_hasStatus (l : Launch) (D : va_G) (ca : Nat → ClassId) (k : Nat → Nat) (sz : Nat) (ad : Nat → Nat) (me nu ro : Nat → Nat) (un li pt : Nat) (st : Int32) (cy pl bk en kc : Nat) (g : Nat) (hg : g < 16) : Met l y_Pr_hasStatus (zw y_Pr_hasStatus c_Pr_hasStatus 2 (some .boolean)) { frames := 0, cells := 0, slots := 0, locals := 0 } (va_Pc [.ref (ad 6), .int (nI g)] (zPre D (zty ca) k (wP ad ca me nu ro un li pt st cy pl bk en kc) sz)) (va_Qi (fun x w => x = nI (hSt g st) ∧ w = wP ad ca me nu ro un li pt st cy pl bk en kc) (zB D (zty ca) (wP ad ca me nu ro un li pt st cy pl bk en kc) sz) (va_A (wP ad ca me nu ro un li pt st cy pl bk en kc) sz)) 0 0 (va_A (wP ad ca me nu ro un li pt st cy pl bk en kc) sz) := by
  refine zOf (own := "DigitChip$Processor") (by decide +kernel) rfl (Nat.le_of_ble_eq_true rfl) ?_
  intro p e s m below meth c A ls C0 hr hnm hAe hsz hl hP hD hS
  have hl : lv_has ls 2 [(0, .ref (ad 6)), (1, .int (nI g))] := hl
  obtain ⟨hx, hb, hml, hown, ht, hK, hX, hA, hlk⟩ := id C0
  refine lv_iload_n hx hb d_Pr_hasStatus_0 rfl (lv_at hl 1 rfl) ?_
  refine lv_bipush (v := nI 12) hx hb d_Pr_hasStatus_1 (by decide) ?_
  refine lv_icmp_ge (tgt := 22) hx hb d_Pr_hasStatus_3 (by decide) (fun h1 => ?_) (fun h1 => ?_)
  · skip
    have h1 : (12 ≤ g) := (nI_leI (by omega) (by omega)).mp h1
    refine lv_iconst (v := nI 0) hx hb d_Pr_hasStatus_22 (by decide) ?_
    exact zret_z C0 hr (zbn (by omega)) hAe hP hD hS ⟨(by rw [show hSt g st = 0 from if_neg (fun z => by omega)]), rfl⟩ d_Pr_hasStatus_23
  · skip
    have h1 : ¬ (12 ≤ g) := fun z => h1 ((nI_leI (by omega) (by omega)).mpr z)
    refine lv_aload_n hx hb d_Pr_hasStatus_6 rfl (lv_at hl 0 rfl) ?_
    refine va_get (D := D) (ci := 1) (v := .int st) (C := RPr) (T := TPr) (N := 9) hx hb ht inPr hown hK hP 0 rfl rfl 4 (by decide) (ht _ q122) (fun _ h9 => h9) rfl d_Pr_hasStatus_7 ?_
    refine lv_iload_n hx hb d_Pr_hasStatus_10 rfl (lv_at hl 1 rfl) ?_
    refine lv_ishr hx hb d_Pr_hasStatus_11 ?_
    refine lv_iconst (v := nI 1) hx hb d_Pr_hasStatus_12 (by decide) ?_
    refine lv_iand hx hb d_Pr_hasStatus_13 ?_
    refine lv_iconst (v := nI 1) hx hb d_Pr_hasStatus_14 (by decide) ?_
    refine lv_icmp_ne (tgt := 22) hx hb d_Pr_hasStatus_15 (by decide) (fun h2 => ?_) (fun h2 => ?_)
    · skip
      refine lv_iconst (v := nI 0) hx hb d_Pr_hasStatus_22 (by decide) ?_
      exact zret_z C0 hr (zbn (by omega)) hAe hP hD hS ⟨(by rw [show hSt g st = 0 from if_neg (fun z => h2 z.2)]), rfl⟩ d_Pr_hasStatus_23
    · skip
      refine lv_iconst (v := nI 1) hx hb d_Pr_hasStatus_18 (by decide) ?_
      refine lv_goto (tgt := 23) hx hb d_Pr_hasStatus_19 (by decide) ?_
      exact zret_z C0 hr (zbn (by omega)) hAe hP hD hS ⟨(by rw [show hSt g st = 1 from if_pos ⟨by omega, h2⟩]), rfl⟩ d_Pr_hasStatus_23
set_option maxHeartbeats 4000000 in
set_option maxRecDepth 100000 in
theorem m_Pr_lowerPointer (l : Launch) (D : va_G) (ca : Nat → ClassId) (k : Nat → Nat) (sz : Nat) (ad : Nat → Nat) (me nu ro : Nat → Nat) (un li pt : Nat) (st : Int32) (cy pl bk en kc : Nat) (hp : pt < 14) : Met l y_Pr_lowerPointer (zw y_Pr_lowerPointer c_Pr_lowerPointer 1 none) { frames := 0, cells := 0, slots := 0, locals := 0 } (va_Pc [.ref (ad 6)] (zPre D (zty ca) k (wP ad ca me nu ro un li pt st cy pl bk en kc) sz)) (va_Qv (fun w => w = wP ad ca me nu ro un li ((pt + 14 - 1) % 14) st cy pl bk en kc) (zB D (zty ca) (wP ad ca me nu ro un li pt st cy pl bk en kc) sz) (va_A (wP ad ca me nu ro un li pt st cy pl bk en kc) sz)) 0 0 (va_A (wP ad ca me nu ro un li pt st cy pl bk en kc) sz) := by
  refine zOf (own := "DigitChip$Processor") (by decide +kernel) rfl (Nat.le_of_ble_eq_true rfl) ?_
  intro p e s m below meth c A ls C0 hr hnm hAe hsz hl hP hD hS
  have hl : lv_has ls 1 [(0, .ref (ad 6))] := hl
  obtain ⟨hx, hb, hml, hown, ht, hK, hX, hA, hlk⟩ := id C0
  refine lv_aload_n hx hb d_Pr_lowerPointer_0 rfl (lv_at hl 0 rfl) ?_
  refine lv_aload_n hx hb d_Pr_lowerPointer_1 rfl (lv_at hl 0 rfl) ?_
  refine va_get (D := D) (ci := 1) (v := .int (nI pt)) (C := RPr) (T := TPr) (N := 9) hx hb ht inPr hown hK hP 0 rfl rfl 3 (by decide) (ht _ q120) (fun _ h9 => h9) rfl d_Pr_lowerPointer_2 ?_
  refine lv_bipush (v := nI 14) hx hb d_Pr_lowerPointer_5 (by decide) ?_
  refine lv_iadd hx hb d_Pr_lowerPointer_7 ?_
  refine zti (y := nI (pt + 14)) (nI_add _ _) ?_
  refine lv_iconst (v := nI 1) hx hb d_Pr_lowerPointer_8 (by decide) ?_
  refine lv_isub hx hb d_Pr_lowerPointer_9 ?_
  refine zti (y := nI ((pt + 14) - 1)) (pk_sub (by omega)) ?_
  refine lv_bipush (v := nI 14) hx hb d_Pr_lowerPointer_10 (by decide) ?_
  refine lv_irem hx hb d_Pr_lowerPointer_12 (nI_ne0 (by omega) (by omega)) ?_
  refine zti (y := nI (((pt + 14) - 1) % 14)) (pk_rem (by omega) (by omega) (by omega)) ?_
  refine va_put (D := D) (ci := 1) (v := .int (nI (((pt + 14) - 1) % 14))) (ty := .int) (C := RPr) (T := TPr) (N := 9) hx hb ht inPr tyPr tyPr_ok nmPr hown hK hP hD hS 0 rfl rfl 3 (by decide) (ht _ q120) (fun _ h9 => h9) rfl (by decide +kernel) rfl rfl (Nat.le_of_ble_eq_true rfl) d_Pr_lowerPointer_13 (fun H locs hP hD hS => ?_)
  have hP : va_P D vCl (wP ad ca me nu ro un li (((pt + 14) - 1) % 14) st cy pl bk en kc) H := hP
  have hD : va_D A (wP ad ca me nu ro un li (((pt + 14) - 1) % 14) st cy pl bk en kc) := hD
  exact zret_v C0 hr hAe hP hD hS rfl d_Pr_lowerPointer_16
set_option maxHeartbeats 4000000 in
set_option maxRecDepth 100000 in
theorem m_Pr_copy (l : Launch) (D : va_G) (ca : Nat → ClassId) (k : Nat → Nat) (sz : Nat) (ad : Nat → Nat) (me nu ro : Nat → Nat) (un li pt : Nat) (st : Int32) (cy pl bk en kc : Nat) (a0 b0 : Nat) (ha0 : a0 < 7) (hb0 : b0 < 7) : Met l y_Pr_copy (zw y_Pr_copy c_Pr_copy 3 none) { frames := 0, cells := 0, slots := 0, locals := 0 } (va_Pc [.ref (ad 6), .int (nI a0), .int (nI b0)] (zPre D (zty ca) k (wP ad ca me nu ro un li pt st cy pl bk en kc) sz)) (va_Qv (fun w => w = wP ad ca me (cpN nu a0 b0) ro un li pt st cy pl bk en kc) (zB D (zty ca) (wP ad ca me nu ro un li pt st cy pl bk en kc) sz) (va_A (wP ad ca me nu ro un li pt st cy pl bk en kc) sz)) 0 0 (va_A (wP ad ca me nu ro un li pt st cy pl bk en kc) sz) := by
  refine zOf (own := "DigitChip$Processor") (by decide +kernel) rfl (Nat.le_of_ble_eq_true rfl) ?_
  intro p e s m below meth c A ls C0 hr hnm hAe hsz hl hP hD hS
  have hl : lv_has ls 3 [(0, .ref (ad 6)), (1, .int (nI a0)), (2, .int (nI b0))] := hl
  obtain ⟨hx, hb, hml, hown, ht, hK, hX, hA, hlk⟩ := id C0
  refine lv_aload_n hx hb d_Pr_copy_0 rfl (lv_at hl 0 rfl) ?_
  refine va_get (D := D) (ci := 1) (v := .ref (ad 8)) (C := RPr) (T := TPr) (N := 9) hx hb ht inPr hown hK hP 0 rfl rfl 1 (by decide) (ht _ q116) (fun _ h9 => h9) rfl d_Pr_copy_1 ?_
  refine va_get (D := D) (ci := 2) (v := .ref (ad 9)) (C := RRe) (T := TRe) (N := 3) hx hb ht inRe hown hK hP 2 rfl rfl 0 (by decide) (ht _ q88) (fun _ h9 => h9) rfl d_Pr_copy_4 ?_
  refine lv_iload_n hx hb d_Pr_copy_7 rfl (lv_at hl 2 rfl) ?_
  refine lv_aload_n hx hb d_Pr_copy_8 rfl (lv_at hl 0 rfl) ?_
  refine va_get (D := D) (ci := 1) (v := .ref (ad 8)) (C := RPr) (T := TPr) (N := 9) hx hb ht inPr hown hK hP 0 rfl rfl 1 (by decide) (ht _ q116) (fun _ h9 => h9) rfl d_Pr_copy_9 ?_
  refine va_get (D := D) (ci := 2) (v := .ref (ad 9)) (C := RRe) (T := TRe) (N := 3) hx hb ht inRe hown hK hP 2 rfl rfl 0 (by decide) (ht _ q88) (fun _ h9 => h9) rfl d_Pr_copy_12 ?_
  refine lv_iload_n hx hb d_Pr_copy_15 rfl (lv_at hl 1 rfl) ?_
  refine va_lald hx hb hK hP 3 1 rfl rfl (vp_in_nI (n := a0) (by omega) (by decide)) d_Pr_copy_16 ?_
  refine ztl (y := lN (nu a0)) (lF_at (by omega)) ?_
  refine va_last hx hb hK hP hD hS 3 1 rfl rfl (vp_in_nI (n := b0) (by omega) (by decide)) d_Pr_copy_17 (fun H locs hP hD hS => ?_)
  rw [lF_up (by omega)] at hP hD
  have hP : va_P D vCl (wP ad ca me (uN nu b0 (nu a0)) ro un li pt st cy pl bk en kc) H := hP
  have hD : va_D A (wP ad ca me (uN nu b0 (nu a0)) ro un li pt st cy pl bk en kc) := hD
  exact zret_v C0 hr hAe hP hD hS rfl d_Pr_copy_18
set_option maxHeartbeats 4000000 in
set_option maxRecDepth 100000 in
theorem m_Pr_push (l : Launch) (D : va_G) (ca : Nat → ClassId) (k : Nat → Nat) (sz : Nat) (ad : Nat → Nat) (me nu ro : Nat → Nat) (un li pt : Nat) (st : Int32) (cy pl bk en kc : Nat)  : Met l y_Pr_push (zw y_Pr_push c_Pr_push 1 none) { frames := 1, cells := 0, slots := 0, locals := 22 } (va_Pc [.ref (ad 6)] (zPre D (zty ca) k (wP ad ca me nu ro un li pt st cy pl bk en kc) sz)) (va_Qv (fun w => w = wP ad ca me (cpN (cpN (cpN nu 4 5) 3 4) 2 3) ro un li pt st cy pl bk en kc) (zB D (zty ca) (wP ad ca me nu ro un li pt st cy pl bk en kc) sz) (va_A (wP ad ca me nu ro un li pt st cy pl bk en kc) sz)) 0 0 (va_A (wP ad ca me nu ro un li pt st cy pl bk en kc) sz) := by
  refine zOf (own := "DigitChip$Processor") (by decide +kernel) rfl (Nat.le_of_ble_eq_true rfl) ?_
  intro p e s m below meth c A ls C0 hr hnm hAe hsz hl hP hD hS
  have hl : lv_has ls 1 [(0, .ref (ad 6))] := hl
  obtain ⟨hx, hb, hml, hown, ht, hK, hX, hA, hlk⟩ := id C0
  refine lv_aload_n hx hb d_Pr_push_0 rfl (lv_at hl 0 rfl) ?_
  refine lv_iconst (v := nI 4) hx hb d_Pr_push_1 (by decide) ?_
  refine lv_iconst (v := nI 5) hx hb d_Pr_push_2 (by decide) ?_
  refine zgo_v (wr := []) C0 (zrunV (na := 2) (As := [.int (nI 4), .int (nI 5)]) (rest := []) C0 hP hD hS [0, 1, 2, 3, 4, 5] rfl rfl (m_Pr_copy l D ca k s.heap.size ad me nu ro un li pt st cy pl bk en kc 4 5 (by omega) (by omega)) (zg_V q506 q508 q818 q4 q509) (by decide +kernel) rfl rfl ⟨by decide, by decide⟩ 0 rfl rfl rfl hl.1 rfl (Nat.le_of_ble_eq_true rfl) d_Pr_push_3 ⟨Nat.zero_le _, Nat.zero_le _⟩) hP hD hS [0, 1, 2, 3, 4, 5] [] rfl rfl (by decide) (by decide) (fun w1 H locs hw hP hD hS => ?_)
  obtain rfl := hw
  have hP : va_P D vCl (wP ad ca me (cpN nu 4 5) ro un li pt st cy pl bk en kc) H := hP
  have hD : va_D A (wP ad ca me (cpN nu 4 5) ro un li pt st cy pl bk en kc) := hD
  refine lv_aload_n hx hb d_Pr_push_6 rfl (lv_at hl 0 rfl) ?_
  refine lv_iconst (v := nI 3) hx hb d_Pr_push_7 (by decide) ?_
  refine lv_iconst (v := nI 4) hx hb d_Pr_push_8 (by decide) ?_
  refine zgo_v (wr := []) C0 (zrunV (na := 2) (As := [.int (nI 3), .int (nI 4)]) (rest := []) C0 hP hD hS [0, 1, 2, 3, 4, 5] rfl rfl (m_Pr_copy l D ca k H.size ad me (cpN nu 4 5) ro un li pt st cy pl bk en kc 3 4 (by omega) (by omega)) (zg_V q506 q508 q818 q4 q509) (by decide +kernel) rfl rfl ⟨by decide, by decide⟩ 0 rfl rfl rfl hl.1 rfl (Nat.le_of_ble_eq_true rfl) d_Pr_push_9 ⟨Nat.zero_le _, Nat.zero_le _⟩) hP hD hS [0, 1, 2, 3, 4, 5] [] rfl rfl (by decide) (by decide) (fun w1 H locs hw hP hD hS => ?_)
  obtain rfl := hw
  have hP : va_P D vCl (wP ad ca me (cpN (cpN nu 4 5) 3 4) ro un li pt st cy pl bk en kc) H := hP
  have hD : va_D A (wP ad ca me (cpN (cpN nu 4 5) 3 4) ro un li pt st cy pl bk en kc) := hD
  refine lv_aload_n hx hb d_Pr_push_12 rfl (lv_at hl 0 rfl) ?_
  refine lv_iconst (v := nI 2) hx hb d_Pr_push_13 (by decide) ?_
  refine lv_iconst (v := nI 3) hx hb d_Pr_push_14 (by decide) ?_
  refine zgo_v (wr := []) C0 (zrunV (na := 2) (As := [.int (nI 2), .int (nI 3)]) (rest := []) C0 hP hD hS [0, 1, 2, 3, 4, 5] rfl rfl (m_Pr_copy l D ca k H.size ad me (cpN (cpN nu 4 5) 3 4) ro un li pt st cy pl bk en kc 2 3 (by omega) (by omega)) (zg_V q506 q508 q818 q4 q509) (by decide +kernel) rfl rfl ⟨by decide, by decide⟩ 0 rfl rfl rfl hl.1 rfl (Nat.le_of_ble_eq_true rfl) d_Pr_push_15 ⟨Nat.zero_le _, Nat.zero_le _⟩) hP hD hS [0, 1, 2, 3, 4, 5] [] rfl rfl (by decide) (by decide) (fun w1 H locs hw hP hD hS => ?_)
  obtain rfl := hw
  have hP : va_P D vCl (wP ad ca me (cpN (cpN (cpN nu 4 5) 3 4) 2 3) ro un li pt st cy pl bk en kc) H := hP
  have hD : va_D A (wP ad ca me (cpN (cpN (cpN nu 4 5) 3 4) 2 3) ro un li pt st cy pl bk en kc) := hD
  exact zret_v C0 hr hAe hP hD hS rfl d_Pr_push_18
set_option maxHeartbeats 4000000 in
set_option maxRecDepth 100000 in
theorem m_Pr_lowerStack (l : Launch) (D : va_G) (ca : Nat → ClassId) (k : Nat → Nat) (sz : Nat) (ad : Nat → Nat) (me nu ro : Nat → Nat) (un li pt : Nat) (st : Int32) (cy pl bk en kc : Nat)  : Met l y_Pr_lowerStack (zw y_Pr_lowerStack c_Pr_lowerStack 1 none) { frames := 1, cells := 0, slots := 0, locals := 22 } (va_Pc [.ref (ad 6)] (zPre D (zty ca) k (wP ad ca me nu ro un li pt st cy pl bk en kc) sz)) (va_Qv (fun w => w = wP ad ca me (cpN (cpN nu 4 3) 5 4) ro un li pt st cy pl bk en kc) (zB D (zty ca) (wP ad ca me nu ro un li pt st cy pl bk en kc) sz) (va_A (wP ad ca me nu ro un li pt st cy pl bk en kc) sz)) 0 0 (va_A (wP ad ca me nu ro un li pt st cy pl bk en kc) sz) := by
  refine zOf (own := "DigitChip$Processor") (by decide +kernel) rfl (Nat.le_of_ble_eq_true rfl) ?_
  intro p e s m below meth c A ls C0 hr hnm hAe hsz hl hP hD hS
  have hl : lv_has ls 1 [(0, .ref (ad 6))] := hl
  obtain ⟨hx, hb, hml, hown, ht, hK, hX, hA, hlk⟩ := id C0
  refine lv_aload_n hx hb d_Pr_lowerStack_0 rfl (lv_at hl 0 rfl) ?_
  refine lv_iconst (v := nI 4) hx hb d_Pr_lowerStack_1 (by decide) ?_
  refine lv_iconst (v := nI 3) hx hb d_Pr_lowerStack_2 (by decide) ?_
  refine zgo_v (wr := []) C0 (zrunV (na := 2) (As := [.int (nI 4), .int (nI 3)]) (rest := []) C0 hP hD hS [0, 1, 2, 3, 4, 5] rfl rfl (m_Pr_copy l D ca k s.heap.size ad me nu ro un li pt st cy pl bk en kc 4 3 (by omega) (by omega)) (zg_V q506 q508 q818 q4 q509) (by decide +kernel) rfl rfl ⟨by decide, by decide⟩ 0 rfl rfl rfl hl.1 rfl (Nat.le_of_ble_eq_true rfl) d_Pr_lowerStack_3 ⟨Nat.zero_le _, Nat.zero_le _⟩) hP hD hS [0, 1, 2, 3, 4, 5] [] rfl rfl (by decide) (by decide) (fun w1 H locs hw hP hD hS => ?_)
  obtain rfl := hw
  have hP : va_P D vCl (wP ad ca me (cpN nu 4 3) ro un li pt st cy pl bk en kc) H := hP
  have hD : va_D A (wP ad ca me (cpN nu 4 3) ro un li pt st cy pl bk en kc) := hD
  refine lv_aload_n hx hb d_Pr_lowerStack_6 rfl (lv_at hl 0 rfl) ?_
  refine lv_iconst (v := nI 5) hx hb d_Pr_lowerStack_7 (by decide) ?_
  refine lv_iconst (v := nI 4) hx hb d_Pr_lowerStack_8 (by decide) ?_
  refine zgo_v (wr := []) C0 (zrunV (na := 2) (As := [.int (nI 5), .int (nI 4)]) (rest := []) C0 hP hD hS [0, 1, 2, 3, 4, 5] rfl rfl (m_Pr_copy l D ca k H.size ad me (cpN nu 4 3) ro un li pt st cy pl bk en kc 5 4 (by omega) (by omega)) (zg_V q506 q508 q818 q4 q509) (by decide +kernel) rfl rfl ⟨by decide, by decide⟩ 0 rfl rfl rfl hl.1 rfl (Nat.le_of_ble_eq_true rfl) d_Pr_lowerStack_9 ⟨Nat.zero_le _, Nat.zero_le _⟩) hP hD hS [0, 1, 2, 3, 4, 5] [] rfl rfl (by decide) (by decide) (fun w1 H locs hw hP hD hS => ?_)
  obtain rfl := hw
  have hP : va_P D vCl (wP ad ca me (cpN (cpN nu 4 3) 5 4) ro un li pt st cy pl bk en kc) H := hP
  have hD : va_D A (wP ad ca me (cpN (cpN nu 4 3) 5 4) ro un li pt st cy pl bk en kc) := hD
  exact zret_v C0 hr hAe hP hD hS rfl d_Pr_lowerStack_12
set_option maxHeartbeats 4000000 in
set_option maxRecDepth 100000 in
theorem m_Pr_exchangeMemory (l : Launch) (D : va_G) (ca : Nat → ClassId) (k : Nat → Nat) (sz : Nat) (ad : Nat → Nat) (me nu ro : Nat → Nat) (un li pt : Nat) (st : Int32) (cy pl bk en kc : Nat)  : Met l y_Pr_exchangeMemory (zw y_Pr_exchangeMemory c_Pr_exchangeMemory 3 none) { frames := 1, cells := 0, slots := 0, locals := 22 } (va_Pc [.ref (ad 6)] (zPre D (zty ca) k (wP ad ca me nu ro un li pt st cy pl bk en kc) sz)) (va_Qv (fun w => w = wP ad ca me (uN (cpN nu 6 2) 6 (nu 2)) ro un li pt st cy pl bk en kc) (zB D (zty ca) (wP ad ca me nu ro un li pt st cy pl bk en kc) sz) (va_A (wP ad ca me nu ro un li pt st cy pl bk en kc) sz)) 0 0 (va_A (wP ad ca me nu ro un li pt st cy pl bk en kc) sz) := by
  refine zOf (own := "DigitChip$Processor") (by decide +kernel) rfl (Nat.le_of_ble_eq_true rfl) ?_
  intro p e s m below meth c A ls C0 hr hnm hAe hsz hl hP hD hS
  have hl : lv_has ls 3 [(0, .ref (ad 6))] := hl
  obtain ⟨hx, hb, hml, hown, ht, hK, hX, hA, hlk⟩ := id C0
  refine lv_aload_n hx hb d_Pr_exchangeMemory_0 rfl (lv_at hl 0 rfl) ?_
  refine va_get (D := D) (ci := 1) (v := .ref (ad 8)) (C := RPr) (T := TPr) (N := 9) hx hb ht inPr hown hK hP 0 rfl rfl 1 (by decide) (ht _ q116) (fun _ h9 => h9) rfl d_Pr_exchangeMemory_1 ?_
  refine va_get (D := D) (ci := 2) (v := .ref (ad 9)) (C := RRe) (T := TRe) (N := 3) hx hb ht inRe hown hK hP 2 rfl rfl 0 (by decide) (ht _ q88) (fun _ h9 => h9) rfl d_Pr_exchangeMemory_4 ?_
  refine lv_iconst (v := nI 2) hx hb d_Pr_exchangeMemory_7 (by decide) ?_
  refine va_lald hx hb hK hP 3 1 rfl rfl (vp_in_nI (n := 2) (by omega) (by decide)) d_Pr_exchangeMemory_8 ?_
  refine ztl (y := lN (nu 2)) (lF_at (by omega)) ?_
  refine lv_lstore_n hx hb d_Pr_exchangeMemory_9 rfl hl (by decide) rfl (fun ls hl => ?_)
  have hl : lv_has ls 3 [(1, .long (lN (nu 2))), (0, .ref (ad 6))] := hl
  refine lv_aload_n hx hb d_Pr_exchangeMemory_10 rfl (lv_at hl 1 rfl) ?_
  refine lv_bipush (v := nI 6) hx hb d_Pr_exchangeMemory_11 (by decide) ?_
  refine lv_iconst (v := nI 2) hx hb d_Pr_exchangeMemory_13 (by decide) ?_
  refine zgo_v (wr := []) C0 (zrunV (na := 2) (As := [.int (nI 6), .int (nI 2)]) (rest := []) C0 hP hD hS [0, 1, 2, 3, 4, 5] rfl rfl (m_Pr_copy l D ca k s.heap.size ad me nu ro un li pt st cy pl bk en kc 6 2 (by omega) (by omega)) (zg_V q506 q508 q818 q4 q509) (by decide +kernel) rfl rfl ⟨by decide, by decide⟩ 0 rfl rfl rfl hl.1 rfl (Nat.le_of_ble_eq_true rfl) d_Pr_exchangeMemory_14 ⟨Nat.zero_le _, Nat.zero_le _⟩) hP hD hS [0, 1, 2, 3, 4, 5] [] rfl rfl (by decide) (by decide) (fun w1 H locs hw hP hD hS => ?_)
  obtain rfl := hw
  have hP : va_P D vCl (wP ad ca me (cpN nu 6 2) ro un li pt st cy pl bk en kc) H := hP
  have hD : va_D A (wP ad ca me (cpN nu 6 2) ro un li pt st cy pl bk en kc) := hD
  refine lv_aload_n hx hb d_Pr_exchangeMemory_17 rfl (lv_at hl 1 rfl) ?_
  refine va_get (D := D) (ci := 1) (v := .ref (ad 8)) (C := RPr) (T := TPr) (N := 9) hx hb ht inPr hown hK hP 0 rfl rfl 1 (by decide) (ht _ q116) (fun _ h9 => h9) rfl d_Pr_exchangeMemory_18 ?_
  refine va_get (D := D) (ci := 2) (v := .ref (ad 9)) (C := RRe) (T := TRe) (N := 3) hx hb ht inRe hown hK hP 2 rfl rfl 0 (by decide) (ht _ q88) (fun _ h9 => h9) rfl d_Pr_exchangeMemory_21 ?_
  refine lv_bipush (v := nI 6) hx hb d_Pr_exchangeMemory_24 (by decide) ?_
  refine lv_lload_n hx hb d_Pr_exchangeMemory_26 rfl (lv_at hl 0 rfl) ?_
  refine va_last hx hb hK hP hD hS 3 1 rfl rfl (vp_in_nI (n := 6) (by omega) (by decide)) d_Pr_exchangeMemory_27 (fun H locs hP hD hS => ?_)
  rw [lF_up (by omega)] at hP hD
  have hP : va_P D vCl (wP ad ca me (uN (cpN nu 6 2) 6 (nu 2)) ro un li pt st cy pl bk en kc) H := hP
  have hD : va_D A (wP ad ca me (uN (cpN nu 6 2) 6 (nu 2)) ro un li pt st cy pl bk en kc) := hD
  exact zret_v C0 hr hAe hP hD hS rfl d_Pr_exchangeMemory_28
set_option maxHeartbeats 4000000 in
set_option maxRecDepth 100000 in
theorem m_Pr_putDigit (l : Launch) (D : va_G) (ca : Nat → ClassId) (k : Nat → Nat) (sz : Nat) (ad : Nat → Nat) (me nu ro : Nat → Nat) (un li pt : Nat) (st : Int32) (cy pl bk en kc : Nat) (g : Nat) (hg : g < 16) (hp : pt < 14) (hn : ∀ j, nu j < 10 ^ 14) : Met l y_Pr_putDigit (zw y_Pr_putDigit c_Pr_putDigit 2 none) { frames := 2, cells := 0, slots := 0, locals := 44 } (va_Pc [.ref (ad 6), .int (nI g)] (zPre D (zty ca) k (wP ad ca me nu ro un li pt st cy pl bk en kc) sz)) (va_Qv (fun w => w = wP ad ca me (wr (fU pt 0) (fL pt 0) nu 2 g) ro (fU pt 0) (fL pt 0) ((pt + 14 - 1) % 14) st cy pl bk en kc) (zB D (zty ca) (wP ad ca me nu ro un li pt st cy pl bk en kc) sz) (va_A (wP ad ca me nu ro un li pt st cy pl bk en kc) sz)) 0 0 (va_A (wP ad ca me nu ro un li pt st cy pl bk en kc) sz) := by
  refine zOf (own := "DigitChip$Processor") (by decide +kernel) rfl (Nat.le_of_ble_eq_true rfl) ?_
  intro p e s m below meth c A ls C0 hr hnm hAe hsz hl hP hD hS
  have hl : lv_has ls 2 [(0, .ref (ad 6)), (1, .int (nI g))] := hl
  obtain ⟨hx, hb, hml, hown, ht, hK, hX, hA, hlk⟩ := id C0
  refine lv_aload_n hx hb d_Pr_putDigit_0 rfl (lv_at hl 0 rfl) ?_
  refine va_get (D := D) (ci := 1) (v := .ref (ad 8)) (C := RPr) (T := TPr) (N := 9) hx hb ht inPr hown hK hP 0 rfl rfl 1 (by decide) (ht _ q116) (fun _ h9 => h9) rfl d_Pr_putDigit_1 ?_
  refine lv_iconst (v := nI 0) hx hb d_Pr_putDigit_4 (by decide) ?_
  refine lv_aload_n hx hb d_Pr_putDigit_5 rfl (lv_at hl 0 rfl) ?_
  refine va_get (D := D) (ci := 1) (v := .int (nI pt)) (C := RPr) (T := TPr) (N := 9) hx hb ht inPr hown hK hP 0 rfl rfl 3 (by decide) (ht _ q120) (fun _ h9 => h9) rfl d_Pr_putDigit_6 ?_
  refine zgo_v (wr := []) C0 (zrunV (na := 2) (As := [.int (nI 0), .int (nI pt)]) (rest := []) C0 hP hD hS [0, 1, 2, 3, 4, 5] rfl rfl (m_Re_chooseField l D ca k s.heap.size ad me nu ro un li pt st cy pl bk en kc 0 pt (by omega) (by omega)) (zg_V q482 q483 q484 q5 q485) (by decide +kernel) rfl rfl ⟨by decide, by decide⟩ 2 rfl rfl rfl hl.1 rfl (Nat.le_of_ble_eq_true rfl) d_Pr_putDigit_9 ⟨Nat.zero_le _, Nat.zero_le _⟩) hP hD hS [0, 1, 2, 3, 4, 5] [] rfl rfl (by decide) (by decide) (fun w1 H locs hw hP hD hS => ?_)
  obtain rfl := hw
  have hP : va_P D vCl (wP ad ca me nu ro (fU pt 0) (fL pt 0) pt st cy pl bk en kc) H := hP
  have hD : va_D A (wP ad ca me nu ro (fU pt 0) (fL pt 0) pt st cy pl bk en kc) := hD
  refine lv_aload_n hx hb d_Pr_putDigit_12 rfl (lv_at hl 0 rfl) ?_
  refine va_get (D := D) (ci := 1) (v := .ref (ad 8)) (C := RPr) (T := TPr) (N := 9) hx hb ht inPr hown hK hP 0 rfl rfl 1 (by decide) (ht _ q116) (fun _ h9 => h9) rfl d_Pr_putDigit_13 ?_
  refine lv_iconst (v := nI 2) hx hb d_Pr_putDigit_16 (by decide) ?_
  refine lv_iload_n hx hb d_Pr_putDigit_17 rfl (lv_at hl 1 rfl) ?_
  refine lv_i2l (v := lN g) hx hb d_Pr_putDigit_18 (nI_l (by omega)) ?_
  refine zgo_v (wr := []) C0 (zrunV (na := 2) (As := [.int (nI 2), .long (lN g)]) (rest := []) C0 hP hD hS [0, 1, 2, 3, 4, 5] rfl rfl (m_Re_putPart l D ca k H.size ad me nu ro (fU pt 0) (fL pt 0) pt st cy pl bk en kc 2 g (by omega) hn (fU_pos _ _) (fU_le hp) (fL_pos _ _) (fL_le hp)) (zg_V q490 q491 q492 q5 q493) (by decide +kernel) rfl rfl ⟨by decide, by decide⟩ 2 rfl rfl rfl hl.1 rfl (Nat.le_of_ble_eq_true rfl) d_Pr_putDigit_19 ⟨Nat.zero_le _, Nat.zero_le _⟩) hP hD hS [0, 1, 2, 3, 4, 5] [] rfl rfl (by decide) (by decide) (fun w1 H locs hw hP hD hS => ?_)
  obtain rfl := hw
  have hP : va_P D vCl (wP ad ca me (wr (fU pt 0) (fL pt 0) nu 2 g) ro (fU pt 0) (fL pt 0) pt st cy pl bk en kc) H := hP
  have hD : va_D A (wP ad ca me (wr (fU pt 0) (fL pt 0) nu 2 g) ro (fU pt 0) (fL pt 0) pt st cy pl bk en kc) := hD
  refine lv_aload_n hx hb d_Pr_putDigit_22 rfl (lv_at hl 0 rfl) ?_
  refine zgo_v (wr := []) C0 (zrunV (na := 0) (As := []) (rest := []) C0 hP hD hS [0, 1, 2, 3, 4, 5] rfl rfl (m_Pr_lowerPointer l D ca k H.size ad me (wr (fU pt 0) (fL pt 0) nu 2 g) ro (fU pt 0) (fL pt 0) pt st cy pl bk en kc (by omega)) (zg_V q498 q500 q816 q4 q501) (by decide +kernel) rfl rfl ⟨by decide, by decide⟩ 0 rfl rfl rfl hl.1 rfl (Nat.le_of_ble_eq_true rfl) d_Pr_putDigit_23 ⟨Nat.zero_le _, Nat.zero_le _⟩) hP hD hS [0, 1, 2, 3, 4, 5] [] rfl rfl (by decide) (by decide) (fun w1 H locs hw hP hD hS => ?_)
  obtain rfl := hw
  have hP : va_P D vCl (wP ad ca me (wr (fU pt 0) (fL pt 0) nu 2 g) ro (fU pt 0) (fL pt 0) ((pt + 14 - 1) % 14) st cy pl bk en kc) H := hP
  have hD : va_D A (wP ad ca me (wr (fU pt 0) (fL pt 0) nu 2 g) ro (fU pt 0) (fL pt 0) ((pt + 14 - 1) % 14) st cy pl bk en kc) := hD
  exact zret_v C0 hr hAe hP hD hS rfl d_Pr_putDigit_26
set_option maxHeartbeats 4000000 in
set_option maxRecDepth 100000 in
theorem m_Pr_takeKey (l : Launch) (D : va_G) (ca : Nat → ClassId) (k : Nat → Nat) (sz : Nat) (ad : Nat → Nat) (me nu ro : Nat → Nat) (un li pt : Nat) (st : Int32) (cy pl bk en kc : Nat) (hp : pl < 64) (hk3 : kc ≤ 3) (hro : ∀ j, ro j < 16) : Met l y_Pr_takeKey (zw y_Pr_takeKey c_Pr_takeKey 2 none) { frames := 1, cells := 0, slots := 0, locals := 22 } (va_Pc [.ref (ad 6)] (zPre D (zty ca) k (wP ad ca me nu ro un li pt st cy pl bk en kc) sz)) (va_Qv (fun w => (kc = 0 ∧ w = wP ad ca me nu ro un li pt st cy ((pl + 64 - 1) % 64) bk 1 kc) ∨ (0 < kc ∧ w = wP ad ca me nu (shC ro kc) un li pt st cy (ro 0 * 8 % 64) bk en (kc - 1))) (zB D (zty ca) (wP ad ca me nu ro un li pt st cy pl bk en kc) sz) (va_A (wP ad ca me nu ro un li pt st cy pl bk en kc) sz)) 0 0 (va_A (wP ad ca me nu ro un li pt st cy pl bk en kc) sz) := by
  refine zOf (own := "DigitChip$Processor") (by decide +kernel) rfl (Nat.le_of_ble_eq_true rfl) ?_
  intro p e s m below meth c A ls C0 hr hnm hAe hsz hl hP hD hS
  have hl : lv_has ls 2 [(0, .ref (ad 6))] := hl
  obtain ⟨hx, hb, hml, hown, ht, hK, hX, hA, hlk⟩ := id C0
  have hr0 := hro 0
  refine lv_aload_n hx hb d_Pr_takeKey_0 rfl (lv_at hl 0 rfl) ?_
  refine va_get (D := D) (ci := 1) (v := .ref (ad 10)) (C := RPr) (T := TPr) (N := 9) hx hb ht inPr hown hK hP 0 rfl rfl 2 (by decide) (ht _ q118) (fun _ h9 => h9) rfl d_Pr_takeKey_1 ?_
  refine zgo_i (wr := []) C0 (zrunV (na := 0) (As := []) (rest := []) C0 hP hD hS [0, 1, 2, 3, 4, 5] rfl rfl (m_Wa_takeFirst l D ca k s.heap.size ad me nu ro un li pt st cy pl bk en kc (by omega)) (zg_V q518 q519 q520 q6 q521) (by decide +kernel) rfl rfl ⟨by decide, by decide⟩ 4 rfl rfl rfl hl.1 rfl (Nat.le_of_ble_eq_true rfl) d_Pr_takeKey_4 ⟨Nat.zero_le _, Nat.zero_le _⟩) hP hD hS [0, 1, 2, 3, 4, 5] [] rfl rfl (by decide) (by decide) (fun r1 w1 H locs hw hP hD hS => ?_)
  rcases hw with ⟨hk1, rfl, rfl⟩ | ⟨hk1, rfl, rfl⟩
  · skip
    have hP : va_P D vCl (wP ad ca me nu ro un li pt st cy pl bk en kc) H := hP
    have hD : va_D A (wP ad ca me nu ro un li pt st cy pl bk en kc) := hD
    refine lv_istore_n hx hb d_Pr_takeKey_7 rfl hl (by decide) rfl (fun ls hl => ?_)
    have hl : lv_has ls 2 [(1, .int (-1)), (0, .ref (ad 6))] := hl
    refine lv_iload_n hx hb d_Pr_takeKey_8 rfl (lv_at hl 0 rfl) ?_
    refine lv_iconst (v := (-1)) hx hb d_Pr_takeKey_9 (by decide) ?_
    refine lv_icmp_ne (tgt := 37) hx hb d_Pr_takeKey_10 (by decide) (fun h2 => (h2 rfl).elim) (fun _ => ?_)
    refine lv_aload_n hx hb d_Pr_takeKey_13 rfl (lv_at hl 1 rfl) ?_
    refine lv_aload_n hx hb d_Pr_takeKey_14 rfl (lv_at hl 1 rfl) ?_
    refine va_get (D := D) (ci := 1) (v := .int (nI pl)) (C := RPr) (T := TPr) (N := 9) hx hb ht inPr hown hK hP 0 rfl rfl 6 (by decide) (ht _ q126) (fun _ h9 => h9) rfl d_Pr_takeKey_15 ?_
    refine lv_bipush (v := nI 64) hx hb d_Pr_takeKey_18 (by decide) ?_
    refine lv_iadd hx hb d_Pr_takeKey_20 ?_
    refine zti (y := nI (pl + 64)) (nI_add _ _) ?_
    refine lv_iconst (v := nI 1) hx hb d_Pr_takeKey_21 (by decide) ?_
    refine lv_isub hx hb d_Pr_takeKey_22 ?_
    refine zti (y := nI ((pl + 64) - 1)) (pk_sub (by omega)) ?_
    refine lv_bipush (v := nI 64) hx hb d_Pr_takeKey_23 (by decide) ?_
    refine lv_irem hx hb d_Pr_takeKey_25 (nI_ne0 (by omega) (by omega)) ?_
    refine zti (y := nI (((pl + 64) - 1) % 64)) (pk_rem (by omega) (by omega) (by omega)) ?_
    refine va_put (D := D) (ci := 1) (v := .int (nI (((pl + 64) - 1) % 64))) (ty := .int) (C := RPr) (T := TPr) (N := 9) hx hb ht inPr tyPr tyPr_ok nmPr hown hK hP hD hS 0 rfl rfl 6 (by decide) (ht _ q126) (fun _ h9 => h9) rfl (by decide +kernel) rfl rfl (Nat.le_of_ble_eq_true rfl) d_Pr_takeKey_26 (fun H locs hP hD hS => ?_)
    have hP : va_P D vCl (wP ad ca me nu ro un li pt st cy (((pl + 64) - 1) % 64) bk en kc) H := hP
    have hD : va_D A (wP ad ca me nu ro un li pt st cy (((pl + 64) - 1) % 64) bk en kc) := hD
    refine lv_aload_n hx hb d_Pr_takeKey_29 rfl (lv_at hl 1 rfl) ?_
    refine lv_iconst (v := nI 1) hx hb d_Pr_takeKey_30 (by decide) ?_
    refine va_put (D := D) (ci := 1) (v := .int (nI 1)) (ty := .boolean) (C := RPr) (T := TPr) (N := 9) hx hb ht inPr tyPr tyPr_ok nmPr hown hK hP hD hS 0 rfl rfl 8 (by decide) (ht _ q130) (fun _ h9 => h9) rfl (by decide +kernel) (zbn (by omega)) (zbf (by omega)) (Nat.le_of_ble_eq_true rfl) d_Pr_takeKey_31 (fun H locs hP hD hS => ?_)
    have hP : va_P D vCl (wP ad ca me nu ro un li pt st cy (((pl + 64) - 1) % 64) bk 1 kc) H := hP
    have hD : va_D A (wP ad ca me nu ro un li pt st cy (((pl + 64) - 1) % 64) bk 1 kc) := hD
    refine lv_goto (tgt := 48) hx hb d_Pr_takeKey_34 (by decide) ?_
    exact zret_v C0 hr hAe hP hD hS (Or.inl ⟨hk1, rfl⟩) d_Pr_takeKey_48
  · skip
    have hP : va_P D vCl (wP ad ca me nu (shC ro kc) un li pt st cy pl bk en (kc - 1)) H := hP
    have hD : va_D A (wP ad ca me nu (shC ro kc) un li pt st cy pl bk en (kc - 1)) := hD
    refine lv_istore_n hx hb d_Pr_takeKey_7 rfl hl (by decide) rfl (fun ls hl => ?_)
    have hl : lv_has ls 2 [(1, .int (nI (ro 0))), (0, .ref (ad 6))] := hl
    refine lv_iload_n hx hb d_Pr_takeKey_8 rfl (lv_at hl 0 rfl) ?_
    refine lv_iconst (v := (-1)) hx hb d_Pr_takeKey_9 (by decide) ?_
    refine lv_icmp_ne (tgt := 37) hx hb d_Pr_takeKey_10 (by decide) (fun _ => ?_) (fun h3 => (zm1 (by omega) h3).elim)
    refine lv_aload_n hx hb d_Pr_takeKey_37 rfl (lv_at hl 1 rfl) ?_
    refine lv_iload_n hx hb d_Pr_takeKey_38 rfl (lv_at hl 0 rfl) ?_
    refine lv_bipush (v := nI 8) hx hb d_Pr_takeKey_39 (by decide) ?_
    refine lv_imul hx hb d_Pr_takeKey_41 ?_
    refine zti (y := nI ((ro 0) * 8)) (pk_mul _ _) ?_
    refine lv_bipush (v := nI 64) hx hb d_Pr_takeKey_42 (by decide) ?_
    refine lv_irem hx hb d_Pr_takeKey_44 (nI_ne0 (by omega) (by omega)) ?_
    refine zti (y := nI (((ro 0) * 8) % 64)) (pk_rem (by omega) (by omega) (by omega)) ?_
    refine va_put (D := D) (ci := 1) (v := .int (nI (((ro 0) * 8) % 64))) (ty := .int) (C := RPr) (T := TPr) (N := 9) hx hb ht inPr tyPr tyPr_ok nmPr hown hK hP hD hS 0 rfl rfl 6 (by decide) (ht _ q126) (fun _ h9 => h9) rfl (by decide +kernel) rfl rfl (Nat.le_of_ble_eq_true rfl) d_Pr_takeKey_45 (fun H locs hP hD hS => ?_)
    have hP : va_P D vCl (wP ad ca me nu (shC ro kc) un li pt st cy (((ro 0) * 8) % 64) bk en (kc - 1)) H := hP
    have hD : va_D A (wP ad ca me nu (shC ro kc) un li pt st cy (((ro 0) * 8) % 64) bk en (kc - 1)) := hD
    exact zret_v C0 hr hAe hP hD hS (Or.inr ⟨hk1, rfl⟩) d_Pr_takeKey_48
