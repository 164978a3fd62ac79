set_option maxHeartbeats 4000000 in
set_option maxRecDepth 100000 in
theorem m_Mo_thrown (l : Launch) (D : va_G) (ca : Nat → ClassId) (k : Nat → Nat) (sz : Nat) (ad : Nat → Nat) (cd : Nat) (po nu : Nat → Nat) (pt : Nat) (st : Int32) (cy pl bk : Nat) (me : Nat → Nat) (kc : Nat) (ro : Nat → Nat) (en un li tn : Nat) (tx : Nat → Nat) (ia : Int32) (ct : Nat) (md : Nat → Nat) (lb wn : Nat → Int32)  : Met l y_Mo_thrown (zw y_Mo_thrown c_Mo_thrown 1 (some .int)) { frames := 0, cells := 0, slots := 0, locals := 0 } (va_Pc [.ref (ad 12)] (zPre D (zty ca) k (wM ad ca cd po nu pt st cy pl bk me kc ro en un li tn tx ia ct md lb wn) sz)) (va_Qi (fun r w => r = nI cd ∧ w = wM ad ca cd po nu pt st cy pl bk me kc ro en un li tn tx ia ct md lb wn) (zB D (zty ca) (wM ad ca cd po nu pt st cy pl bk me kc ro en un li tn tx ia ct md lb wn) sz) (va_A (wM ad ca cd po nu pt st cy pl bk me kc ro en un li tn tx ia ct md lb wn) sz)) 0 0 (va_A (wM ad ca cd po nu pt st cy pl bk me kc ro en un li tn tx ia ct md lb wn) sz) := by
  refine zOf (own := "DigitChipModel") (by decide +kernel) rfl (Nat.le_of_ble_eq_true rfl) ?_
  intro p e s m below meth c A ls C0 hr hnm hAe hsz hl hP hD hS
  have hl : lv_has ls 1 [(0, .ref (ad 12))] := hl
  obtain ⟨hx, hb, hml, hown, ht, hK, hX, hA, hlk⟩ := id C0
  refine lv_aload_n hx hb d_Mo_thrown_0 rfl (lv_at hl 0 rfl) ?_
  refine va_get (D := D) (ci := 5) (v := .int (nI cd)) (C := RMo) (T := TMo) (N := 21) hx hb ht inMo hown hK hP 0 rfl rfl 0 (by decide) (ht _ q546) (fun _ h9 => h9) rfl d_Mo_thrown_1 ?_
  exact zret_i C0 hr hAe hP hD hS ⟨rfl, rfl⟩ d_Mo_thrown_4
set_option maxHeartbeats 4000000 in
set_option maxRecDepth 100000 in
theorem m_Mo_illAt (l : Launch) (D : va_G) (ca : Nat → ClassId) (k : Nat → Nat) (sz : Nat) (ad : Nat → Nat) (cd : Nat) (po nu : Nat → Nat) (pt : Nat) (st : Int32) (cy pl bk : Nat) (me : Nat → Nat) (kc : Nat) (ro : Nat → Nat) (en un li tn : Nat) (tx : Nat → Nat) (ia : Int32) (ct : Nat) (md : Nat → Nat) (lb wn : Nat → Int32)  : Met l y_Mo_illAt (zw y_Mo_illAt c_Mo_illAt 1 (some .int)) { frames := 0, cells := 0, slots := 0, locals := 0 } (va_Pc [.ref (ad 12)] (zPre D (zty ca) k (wM ad ca cd po nu pt st cy pl bk me kc ro en un li tn tx ia ct md lb wn) sz)) (va_Qi (fun r w => r = ia ∧ w = wM ad ca 0 po nu pt st cy pl bk me kc ro en un li tn tx ia ct md lb wn) (zB D (zty ca) (wM ad ca cd po nu pt st cy pl bk me kc ro en un li tn tx ia ct md lb wn) sz) (va_A (wM ad ca cd po nu pt st cy pl bk me kc ro en un li tn tx ia ct md lb wn) sz)) 0 0 (va_A (wM ad ca cd po nu pt st cy pl bk me kc ro en un li tn tx ia ct md lb wn) sz) := by
  refine zOf (own := "DigitChipModel") (by decide +kernel) rfl (Nat.le_of_ble_eq_true rfl) ?_
  intro p e s m below meth c A ls C0 hr hnm hAe hsz hl hP hD hS
  have hl : lv_has ls 1 [(0, .ref (ad 12))] := hl
  obtain ⟨hx, hb, hml, hown, ht, hK, hX, hA, hlk⟩ := id C0
  refine lv_aload_n hx hb d_Mo_illAt_0 rfl (lv_at hl 0 rfl) ?_
  refine lv_iconst (v := nI 0) hx hb d_Mo_illAt_1 (by decide) ?_
  refine va_put (D := D) (ci := 5) (v := .int (nI 0)) (ty := .int) (C := RMo) (T := TMo) (N := 21) hx hb ht inMo tyMo tyMo_ok nmMo hown hK hP hD hS 0 rfl rfl 0 (by decide) (ht _ q546) (fun _ h9 => h9) rfl (by decide +kernel) rfl rfl (Nat.le_of_ble_eq_true rfl) d_Mo_illAt_2 (fun H locs hP hD hS => ?_)
  have hP : va_P D vCl (wM ad ca 0 po nu pt st cy pl bk me kc ro en un li tn tx ia ct md lb wn) H := hP
  have hD : va_D A (wM ad ca 0 po nu pt st cy pl bk me kc ro en un li tn tx ia ct md lb wn) := hD
  refine lv_aload_n hx hb d_Mo_illAt_5 rfl (lv_at hl 0 rfl) ?_
  refine va_get (D := D) (ci := 5) (v := .int ia) (C := RMo) (T := TMo) (N := 21) hx hb ht inMo hown hK hP 0 rfl rfl 16 (by decide) (ht _ q562) (fun _ h9 => h9) rfl d_Mo_illAt_6 ?_
  exact zret_i C0 hr hAe hP hD hS ⟨rfl, rfl⟩ d_Mo_illAt_9
set_option maxHeartbeats 4000000 in
set_option maxRecDepth 100000 in
theorem m_Mo_keys (l : Launch) (D : va_G) (ca : Nat → ClassId) (k : Nat → Nat) (sz : Nat) (ad : Nat → Nat) (cd : Nat) (po nu : Nat → Nat) (pt : Nat) (st : Int32) (cy pl bk : Nat) (me : Nat → Nat) (kc : Nat) (ro : Nat → Nat) (en un li tn : Nat) (tx : Nat → Nat) (ia : Int32) (ct : Nat) (md : Nat → Nat) (lb wn : Nat → Int32)  : Met l y_Mo_keys (zw y_Mo_keys c_Mo_keys 1 (some .int)) { frames := 0, cells := 0, slots := 0, locals := 0 } (va_Pc [.ref (ad 12)] (zPre D (zty ca) k (wM ad ca cd po nu pt st cy pl bk me kc ro en un li tn tx ia ct md lb wn) sz)) (va_Qi (fun r w => r = nI kc ∧ w = wM ad ca 0 po nu pt st cy pl bk me kc ro en un li tn tx ia ct md lb wn) (zB D (zty ca) (wM ad ca cd po nu pt st cy pl bk me kc ro en un li tn tx ia ct md lb wn) sz) (va_A (wM ad ca cd po nu pt st cy pl bk me kc ro en un li tn tx ia ct md lb wn) sz)) 0 0 (va_A (wM ad ca cd po nu pt st cy pl bk me kc ro en un li tn tx ia ct md lb wn) sz) := by
  refine zOf (own := "DigitChipModel") (by decide +kernel) rfl (Nat.le_of_ble_eq_true rfl) ?_
  intro p e s m below meth c A ls C0 hr hnm hAe hsz hl hP hD hS
  have hl : lv_has ls 1 [(0, .ref (ad 12))] := hl
  obtain ⟨hx, hb, hml, hown, ht, hK, hX, hA, hlk⟩ := id C0
  refine lv_aload_n hx hb d_Mo_keys_0 rfl (lv_at hl 0 rfl) ?_
  refine lv_iconst (v := nI 0) hx hb d_Mo_keys_1 (by decide) ?_
  refine va_put (D := D) (ci := 5) (v := .int (nI 0)) (ty := .int) (C := RMo) (T := TMo) (N := 21) hx hb ht inMo tyMo tyMo_ok nmMo hown hK hP hD hS 0 rfl rfl 0 (by decide) (ht _ q546) (fun _ h9 => h9) rfl (by decide +kernel) rfl rfl (Nat.le_of_ble_eq_true rfl) d_Mo_keys_2 (fun H locs hP hD hS => ?_)
  have hP : va_P D vCl (wM ad ca 0 po nu pt st cy pl bk me kc ro en un li tn tx ia ct md lb wn) H := hP
  have hD : va_D A (wM ad ca 0 po nu pt st cy pl bk me kc ro en un li tn tx ia ct md lb wn) := hD
  refine lv_aload_n hx hb d_Mo_keys_5 rfl (lv_at hl 0 rfl) ?_
  refine va_get (D := D) (ci := 5) (v := .int (nI kc)) (C := RMo) (T := TMo) (N := 21) hx hb ht inMo hown hK hP 0 rfl rfl 9 (by decide) (ht _ q555) (fun _ h9 => h9) rfl d_Mo_keys_6 ?_
  exact zret_i C0 hr hAe hP hD hS ⟨rfl, rfl⟩ d_Mo_keys_9
set_option maxHeartbeats 4000000 in
set_option maxRecDepth 100000 in
theorem m_Mo_word (l : Launch) (D : va_G) (ca : Nat → ClassId) (k : Nat → Nat) (sz : Nat) (ad : Nat → Nat) (cd : Nat) (po nu : Nat → Nat) (pt : Nat) (st : Int32) (cy pl bk : Nat) (me : Nat → Nat) (kc : Nat) (ro : Nat → Nat) (en un li tn : Nat) (tx : Nat → Nat) (ia : Int32) (ct : Nat) (md : Nat → Nat) (lb wn : Nat → Int32) (x : Int32) : Met l y_Mo_word (zw y_Mo_word c_Mo_word 2 (some .int)) { frames := 0, cells := 0, slots := 0, locals := 0 } (va_Pc [.ref (ad 12), .int x] (zPre D (zty ca) k (wM ad ca cd po nu pt st cy pl bk me kc ro en un li tn tx ia ct md lb wn) sz)) (va_Qi (fun r w => (inR x 64 ∧ r = nI (me x.toNatClampNeg) ∧ w = wM ad ca 0 po nu pt st cy pl bk me kc ro en un li tn tx ia ct md lb wn) ∨ (¬ inR x 64 ∧ r = (-1) ∧ w = wM ad ca 0 po nu pt st cy pl bk me kc ro en un li tn tx ia ct md lb wn)) (zB D (zty ca) (wM ad ca cd po nu pt st cy pl bk me kc ro en un li tn tx ia ct md lb wn) sz) (va_A (wM ad ca cd po nu pt st cy pl bk me kc ro en un li tn tx ia ct md lb wn) sz)) 0 0 (va_A (wM ad ca cd po nu pt st cy pl bk me kc ro en un li tn tx ia ct md lb wn) sz) := by
  refine zOf (own := "DigitChipModel") (by decide +kernel) rfl (Nat.le_of_ble_eq_true rfl) ?_
  intro p e s m below meth c A ls C0 hr hnm hAe hsz hl hP hD hS
  have hl : lv_has ls 2 [(0, .ref (ad 12)), (1, .int x)] := hl
  obtain ⟨hx, hb, hml, hown, ht, hK, hX, hA, hlk⟩ := id C0
  refine lv_aload_n hx hb d_Mo_word_0 rfl (lv_at hl 0 rfl) ?_
  refine lv_iconst (v := nI 0) hx hb d_Mo_word_1 (by decide) ?_
  refine va_put (D := D) (ci := 5) (v := .int (nI 0)) (ty := .int) (C := RMo) (T := TMo) (N := 21) hx hb ht inMo tyMo tyMo_ok nmMo hown hK hP hD hS 0 rfl rfl 0 (by decide) (ht _ q546) (fun _ h9 => h9) rfl (by decide +kernel) rfl rfl (Nat.le_of_ble_eq_true rfl) d_Mo_word_2 (fun H locs hP hD hS => ?_)
  have hP : va_P D vCl (wM ad ca 0 po nu pt st cy pl bk me kc ro en un li tn tx ia ct md lb wn) H := hP
  have hD : va_D A (wM ad ca 0 po nu pt st cy pl bk me kc ro en un li tn tx ia ct md lb wn) := hD
  refine lv_iload_n hx hb d_Mo_word_5 rfl (lv_at hl 1 rfl) ?_
  refine lv_if_lt (tgt := 24) hx hb d_Mo_word_6 (by decide) (fun h1 => ?_) (fun h1 => ?_)
  · skip
    refine lv_iconst (v := (-1)) hx hb d_Mo_word_24 (by decide) ?_
    exact zret_i C0 hr hAe hP hD hS (Or.inr ⟨inR_1 (by decide) h1, rfl, rfl⟩) d_Mo_word_25
  · skip
    obtain ⟨j, hj, rfl⟩ := nI_of h1
    refine lv_iload_n hx hb d_Mo_word_9 rfl (lv_at hl 1 rfl) ?_
    refine lv_bipush (v := nI 64) hx hb d_Mo_word_10 (by decide) ?_
    refine lv_icmp_ge (tgt := 24) hx hb d_Mo_word_12 (by decide) (fun h2 => ?_) (fun h2 => ?_)
    · skip
      have h2 : (64 ≤ j) := (nI_leI (by omega) (by omega)).mp h2
      refine lv_iconst (v := (-1)) hx hb d_Mo_word_24 (by decide) ?_
      exact zret_i C0 hr hAe hP hD hS (Or.inr ⟨inR_2 (by decide) (by omega) (by omega), rfl, rfl⟩) d_Mo_word_25
    · skip
      have h2 : ¬ (64 ≤ j) := fun z => h2 ((nI_leI (by omega) (by omega)).mpr z)
      refine lv_aload_n hx hb d_Mo_word_15 rfl (lv_at hl 0 rfl) ?_
      refine va_get (D := D) (ci := 5) (v := .ref (ad 15)) (C := RMo) (T := TMo) (N := 21) hx hb ht inMo hown hK hP 0 rfl rfl 8 (by decide) (ht _ q554) (fun _ h9 => h9) rfl d_Mo_word_16 ?_
      refine lv_iload_n hx hb d_Mo_word_19 rfl (lv_at hl 1 rfl) ?_
      refine va_iald hx hb hK hP 3 0 rfl rfl (vp_in_nI (n := j) (by omega) (by decide)) d_Mo_word_20 ?_
      refine zti (y := nI (me j)) (nF_at (by omega)) ?_
      refine lv_goto (tgt := 25) hx hb d_Mo_word_21 (by decide) ?_
      exact zret_i C0 hr hAe hP hD hS (Or.inl ⟨inR_y (by omega), by rw [nI_clamp (by omega)], rfl⟩) d_Mo_word_25
set_option maxHeartbeats 4000000 in
set_option maxRecDepth 100000 in
theorem m_Mo_value (l : Launch) (D : va_G) (ca : Nat → ClassId) (k : Nat → Nat) (sz : Nat) (ad : Nat → Nat) (cd : Nat) (po nu : Nat → Nat) (pt : Nat) (st : Int32) (cy pl bk : Nat) (me : Nat → Nat) (kc : Nat) (ro : Nat → Nat) (en un li tn : Nat) (tx : Nat → Nat) (ia : Int32) (ct : Nat) (md : Nat → Nat) (lb wn : Nat → Int32) (x : Int32) : Met l y_Mo_value (zw y_Mo_value c_Mo_value 2 (some .long)) { frames := 0, cells := 0, slots := 0, locals := 0 } (va_Pc [.ref (ad 12), .int x] (zPre D (zty ca) k (wM ad ca cd po nu pt st cy pl bk me kc ro en un li tn tx ia ct md lb wn) sz)) (va_Ql (fun r w => (inR x 7 ∧ r = lN (nu x.toNatClampNeg) ∧ w = wM ad ca 0 po nu pt st cy pl bk me kc ro en un li tn tx ia ct md lb wn) ∨ (¬ inR x 7 ∧ r = (-1) ∧ w = wM ad ca 0 po nu pt st cy pl bk me kc ro en un li tn tx ia ct md lb wn)) (zB D (zty ca) (wM ad ca cd po nu pt st cy pl bk me kc ro en un li tn tx ia ct md lb wn) sz) (va_A (wM ad ca cd po nu pt st cy pl bk me kc ro en un li tn tx ia ct md lb wn) sz)) 0 0 (va_A (wM ad ca cd po nu pt st cy pl bk me kc ro en un li tn tx ia ct md lb wn) sz) := by
  refine zOf (own := "DigitChipModel") (by decide +kernel) rfl (Nat.le_of_ble_eq_true rfl) ?_
  intro p e s m below meth c A ls C0 hr hnm hAe hsz hl hP hD hS
  have hl : lv_has ls 2 [(0, .ref (ad 12)), (1, .int x)] := hl
  obtain ⟨hx, hb, hml, hown, ht, hK, hX, hA, hlk⟩ := id C0
  refine lv_aload_n hx hb d_Mo_value_0 rfl (lv_at hl 0 rfl) ?_
  refine lv_iconst (v := nI 0) hx hb d_Mo_value_1 (by decide) ?_
  refine va_put (D := D) (ci := 5) (v := .int (nI 0)) (ty := .int) (C := RMo) (T := TMo) (N := 21) hx hb ht inMo tyMo tyMo_ok nmMo hown hK hP hD hS 0 rfl rfl 0 (by decide) (ht _ q546) (fun _ h9 => h9) rfl (by decide +kernel) rfl rfl (Nat.le_of_ble_eq_true rfl) d_Mo_value_2 (fun H locs hP hD hS => ?_)
  have hP : va_P D vCl (wM ad ca 0 po nu pt st cy pl bk me kc ro en un li tn tx ia ct md lb wn) H := hP
  have hD : va_D A (wM ad ca 0 po nu pt st cy pl bk me kc ro en un li tn tx ia ct md lb wn) := hD
  refine lv_iload_n hx hb d_Mo_value_5 rfl (lv_at hl 1 rfl) ?_
  refine lv_if_lt (tgt := 24) hx hb d_Mo_value_6 (by decide) (fun h1 => ?_) (fun h1 => ?_)
  · skip
    refine lv_ldc2 hx hb hown (ht _ q773) d_Mo_value_24 ?_
    refine ztl (y := (-1)) (by decide) ?_
    exact zret_l C0 hr hAe hP hD hS (Or.inr ⟨inR_1 (by decide) h1, rfl, rfl⟩) d_Mo_value_27
  · skip
    obtain ⟨j, hj, rfl⟩ := nI_of h1
    refine lv_iload_n hx hb d_Mo_value_9 rfl (lv_at hl 1 rfl) ?_
    refine lv_bipush (v := nI 7) hx hb d_Mo_value_10 (by decide) ?_
    refine lv_icmp_ge (tgt := 24) hx hb d_Mo_value_12 (by decide) (fun h2 => ?_) (fun h2 => ?_)
    · skip
      have h2 : (7 ≤ j) := (nI_leI (by omega) (by omega)).mp h2
      refine lv_ldc2 hx hb hown (ht _ q773) d_Mo_value_24 ?_
      refine ztl (y := (-1)) (by decide) ?_
      exact zret_l C0 hr hAe hP hD hS (Or.inr ⟨inR_2 (by decide) (by omega) (by omega), rfl, rfl⟩) d_Mo_value_27
    · skip
      have h2 : ¬ (7 ≤ j) := fun z => h2 ((nI_leI (by omega) (by omega)).mpr z)
      refine lv_aload_n hx hb d_Mo_value_15 rfl (lv_at hl 0 rfl) ?_
      refine va_get (D := D) (ci := 5) (v := .ref (ad 14)) (C := RMo) (T := TMo) (N := 21) hx hb ht inMo hown hK hP 0 rfl rfl 2 (by decide) (ht _ q548) (fun _ h9 => h9) rfl d_Mo_value_16 ?_
      refine lv_iload_n hx hb d_Mo_value_19 rfl (lv_at hl 1 rfl) ?_
      refine va_lald hx hb hK hP 2 1 rfl rfl (vp_in_nI (n := j) (by omega) (by decide)) d_Mo_value_20 ?_
      refine ztl (y := lN (nu j)) (lF_at (by omega)) ?_
      refine lv_goto (tgt := 27) hx hb d_Mo_value_21 (by decide) ?_
      exact zret_l C0 hr hAe hP hD hS (Or.inl ⟨inR_y (by omega), by rw [nI_clamp (by omega)], rfl⟩) d_Mo_value_27
set_option maxHeartbeats 4000000 in
set_option maxRecDepth 100000 in
theorem m_Mo_poke (l : Launch) (D : va_G) (ca : Nat → ClassId) (k : Nat → Nat) (sz : Nat) (ad : Nat → Nat) (cd : Nat) (po nu : Nat → Nat) (pt : Nat) (st : Int32) (cy pl bk : Nat) (me : Nat → Nat) (kc : Nat) (ro : Nat → Nat) (en un li tn : Nat) (tx : Nat → Nat) (ia : Int32) (ct : Nat) (md : Nat → Nat) (lb wn : Nat → Int32) (x x1 : Int32) : Met l y_Mo_poke (zw y_Mo_poke c_Mo_poke 3 (some .boolean)) { frames := 0, cells := 0, slots := 0, locals := 0 } (va_Pc [.ref (ad 12), .int x, .int x1] (zPre D (zty ca) k (wM ad ca cd po nu pt st cy pl bk me kc ro en un li tn tx ia ct md lb wn) sz)) (va_Qi (fun r w => ((inR x 64 ∧ inR x1 1024) ∧ r = nI 1 ∧ w = wM ad ca 0 po nu pt st cy pl bk (uN me x.toNatClampNeg x1.toNatClampNeg) kc ro en un li tn tx ia ct md lb wn) ∨ (¬ (inR x 64 ∧ inR x1 1024) ∧ r = nI 0 ∧ w = wM ad ca 0 po nu pt st cy pl bk me kc ro en un li tn tx ia ct md lb wn)) (zB D (zty ca) (wM ad ca cd po nu pt st cy pl bk me kc ro en un li tn tx ia ct md lb wn) sz) (va_A (wM ad ca cd po nu pt st cy pl bk me kc ro en un li tn tx ia ct md lb wn) sz)) 0 0 (va_A (wM ad ca cd po nu pt st cy pl bk me kc ro en un li tn tx ia ct md lb wn) sz) := by
  refine zOf (own := "DigitChipModel") (by decide +kernel) rfl (Nat.le_of_ble_eq_true rfl) ?_
  intro p e s m below meth c A ls C0 hr hnm hAe hsz hl hP hD hS
  have hl : lv_has ls 3 [(0, .ref (ad 12)), (1, .int x), (2, .int x1)] := hl
  obtain ⟨hx, hb, hml, hown, ht, hK, hX, hA, hlk⟩ := id C0
  refine lv_aload_n hx hb d_Mo_poke_0 rfl (lv_at hl 0 rfl) ?_
  refine lv_iconst (v := nI 0) hx hb d_Mo_poke_1 (by decide) ?_
  refine va_put (D := D) (ci := 5) (v := .int (nI 0)) (ty := .int) (C := RMo) (T := TMo) (N := 21) hx hb ht inMo tyMo tyMo_ok nmMo hown hK hP hD hS 0 rfl rfl 0 (by decide) (ht _ q546) (fun _ h9 => h9) rfl (by decide +kernel) rfl rfl (Nat.le_of_ble_eq_true rfl) d_Mo_poke_2 (fun H locs hP hD hS => ?_)
  have hP : va_P D vCl (wM ad ca 0 po nu pt st cy pl bk me kc ro en un li tn tx ia ct md lb wn) H := hP
  have hD : va_D A (wM ad ca 0 po nu pt st cy pl bk me kc ro en un li tn tx ia ct md lb wn) := hD
  refine lv_iload_n hx hb d_Mo_poke_5 rfl (lv_at hl 1 rfl) ?_
  refine lv_if_lt (tgt := 26) hx hb d_Mo_poke_6 (by decide) (fun h1 => ?_) (fun h1 => ?_)
  · skip
    refine lv_iconst (v := nI 0) hx hb d_Mo_poke_26 (by decide) ?_
    exact zret_z C0 hr (zbn (by omega)) hAe hP hD hS (Or.inr ⟨fun z => inR_1 (by decide) h1 z.1, rfl, rfl⟩) d_Mo_poke_27
  · skip
    obtain ⟨j, hj, rfl⟩ := nI_of h1
    refine lv_iload_n hx hb d_Mo_poke_9 rfl (lv_at hl 1 rfl) ?_
    refine lv_bipush (v := nI 63) hx hb d_Mo_poke_10 (by decide) ?_
    refine lv_icmp_gt (tgt := 26) hx hb d_Mo_poke_12 (by decide) (fun h2 => ?_) (fun h2 => ?_)
    · skip
      have h2 : (63 < j) := (nI_ltI (by omega) (by omega)).mp h2
      refine lv_iconst (v := nI 0) hx hb d_Mo_poke_26 (by decide) ?_
      exact zret_z C0 hr (zbn (by omega)) hAe hP hD hS (Or.inr ⟨fun z => inR_2 (by decide) (by omega) (by omega) z.1, rfl, rfl⟩) d_Mo_poke_27
    · skip
      have h2 : ¬ (63 < j) := fun z => h2 ((nI_ltI (by omega) (by omega)).mpr z)
      refine lv_iload_n hx hb d_Mo_poke_15 rfl (lv_at hl 2 rfl) ?_
      refine lv_if_lt (tgt := 26) hx hb d_Mo_poke_16 (by decide) (fun h3 => ?_) (fun h3 => ?_)
      · skip
        refine lv_iconst (v := nI 0) hx hb d_Mo_poke_26 (by decide) ?_
        exact zret_z C0 hr (zbn (by omega)) hAe hP hD hS (Or.inr ⟨fun z => inR_1 (by decide) h3 z.2, rfl, rfl⟩) d_Mo_poke_27
      · skip
        obtain ⟨i, hi, rfl⟩ := nI_of h3
        refine lv_iload_n hx hb d_Mo_poke_19 rfl (lv_at hl 2 rfl) ?_
        refine lv_sipush (v := nI 1023) hx hb d_Mo_poke_20 (by decide) ?_
        refine lv_icmp_le (tgt := 28) hx hb d_Mo_poke_23 (by decide) (fun h4 => ?_) (fun h4 => ?_)
        · skip
          have h4 : (i ≤ 1023) := (nI_leI (by omega) (by omega)).mp h4
          refine lv_aload_n hx hb d_Mo_poke_28 rfl (lv_at hl 0 rfl) ?_
          refine va_get (D := D) (ci := 5) (v := .ref (ad 15)) (C := RMo) (T := TMo) (N := 21) hx hb ht inMo hown hK hP 0 rfl rfl 8 (by decide) (ht _ q554) (fun _ h9 => h9) rfl d_Mo_poke_29 ?_
          refine lv_iload_n hx hb d_Mo_poke_32 rfl (lv_at hl 1 rfl) ?_
          refine lv_iload_n hx hb d_Mo_poke_33 rfl (lv_at hl 2 rfl) ?_
          refine va_iast hx hb hK hP hD hS 3 0 rfl rfl (vp_in_nI (n := j) (by omega) (by decide)) d_Mo_poke_34 (fun H locs hP hD hS => ?_)
          rw [nF_up (by omega)] at hP hD
          have hP : va_P D vCl (wM ad ca 0 po nu pt st cy pl bk (uN me j i) kc ro en un li tn tx ia ct md lb wn) H := hP
          have hD : va_D A (wM ad ca 0 po nu pt st cy pl bk (uN me j i) kc ro en un li tn tx ia ct md lb wn) := hD
          refine lv_iconst (v := nI 1) hx hb d_Mo_poke_35 (by decide) ?_
          exact zret_z C0 hr (zbn (by omega)) hAe hP hD hS (Or.inl ⟨⟨inR_y (by omega), inR_y (by omega)⟩, rfl, by rw [nI_clamp (by omega), nI_clamp (by omega)]⟩) d_Mo_poke_36
        · skip
          have h4 : ¬ (i ≤ 1023) := fun z => h4 ((nI_leI (by omega) (by omega)).mpr z)
          refine lv_iconst (v := nI 0) hx hb d_Mo_poke_26 (by decide) ?_
          exact zret_z C0 hr (zbn (by omega)) hAe hP hD hS (Or.inr ⟨fun z => inR_2 (by decide) (by omega) (by omega) z.2, rfl, rfl⟩) d_Mo_poke_27
set_option maxHeartbeats 4000000 in
set_option maxRecDepth 100000 in
theorem m_Mo_go (l : Launch) (D : va_G) (ca : Nat → ClassId) (k : Nat → Nat) (sz : Nat) (ad : Nat → Nat) (cd : Nat) (po nu : Nat → Nat) (pt : Nat) (st : Int32) (cy pl bk : Nat) (me : Nat → Nat) (kc : Nat) (ro : Nat → Nat) (en un li tn : Nat) (tx : Nat → Nat) (ia : Int32) (ct : Nat) (md : Nat → Nat) (lb wn : Nat → Int32) (x : Int32) : Met l y_Mo_go (zw y_Mo_go c_Mo_go 2 (some .boolean)) { frames := 0, cells := 0, slots := 0, locals := 0 } (va_Pc [.ref (ad 12), .int x] (zPre D (zty ca) k (wM ad ca cd po nu pt st cy pl bk me kc ro en un li tn tx ia ct md lb wn) sz)) (va_Qi (fun r w => (inR x 64 ∧ r = nI 1 ∧ w = wM ad ca 0 po nu pt st cy x.toNatClampNeg bk me kc ro en un li tn tx ia ct md lb wn) ∨ (¬ inR x 64 ∧ r = nI 0 ∧ w = wM ad ca 0 po nu pt st cy pl bk me kc ro en un li tn tx ia ct md lb wn)) (zB D (zty ca) (wM ad ca cd po nu pt st cy pl bk me kc ro en un li tn tx ia ct md lb wn) sz) (va_A (wM ad ca cd po nu pt st cy pl bk me kc ro en un li tn tx ia ct md lb wn) sz)) 0 0 (va_A (wM ad ca cd po nu pt st cy pl bk me kc ro en un li tn tx ia ct md lb wn) sz) := by
  refine zOf (own := "DigitChipModel") (by decide +kernel) rfl (Nat.le_of_ble_eq_true rfl) ?_
  intro p e s m below meth c A ls C0 hr hnm hAe hsz hl hP hD hS
  have hl : lv_has ls 2 [(0, .ref (ad 12)), (1, .int x)] := hl
  obtain ⟨hx, hb, hml, hown, ht, hK, hX, hA, hlk⟩ := id C0
  refine lv_aload_n hx hb d_Mo_go_0 rfl (lv_at hl 0 rfl) ?_
  refine lv_iconst (v := nI 0) hx hb d_Mo_go_1 (by decide) ?_
  refine va_put (D := D) (ci := 5) (v := .int (nI 0)) (ty := .int) (C := RMo) (T := TMo) (N := 21) hx hb ht inMo tyMo tyMo_ok nmMo hown hK hP hD hS 0 rfl rfl 0 (by decide) (ht _ q546) (fun _ h9 => h9) rfl (by decide +kernel) rfl rfl (Nat.le_of_ble_eq_true rfl) d_Mo_go_2 (fun H locs hP hD hS => ?_)
  have hP : va_P D vCl (wM ad ca 0 po nu pt st cy pl bk me kc ro en un li tn tx ia ct md lb wn) H := hP
  have hD : va_D A (wM ad ca 0 po nu pt st cy pl bk me kc ro en un li tn tx ia ct md lb wn) := hD
  refine lv_iload_n hx hb d_Mo_go_5 rfl (lv_at hl 1 rfl) ?_
  refine lv_if_lt (tgt := 15) hx hb d_Mo_go_6 (by decide) (fun h1 => ?_) (fun h1 => ?_)
  · skip
    refine lv_iconst (v := nI 0) hx hb d_Mo_go_15 (by decide) ?_
    exact zret_z C0 hr (zbn (by omega)) hAe hP hD hS (Or.inr ⟨inR_1 (by decide) h1, rfl, rfl⟩) d_Mo_go_16
  · skip
    obtain ⟨j, hj, rfl⟩ := nI_of h1
    refine lv_iload_n hx hb d_Mo_go_9 rfl (lv_at hl 1 rfl) ?_
    refine lv_bipush (v := nI 63) hx hb d_Mo_go_10 (by decide) ?_
    refine lv_icmp_le (tgt := 17) hx hb d_Mo_go_12 (by decide) (fun h2 => ?_) (fun h2 => ?_)
    · skip
      have h2 : (j ≤ 63) := (nI_leI (by omega) (by omega)).mp h2
      refine lv_aload_n hx hb d_Mo_go_17 rfl (lv_at hl 0 rfl) ?_
      refine lv_iload_n hx hb d_Mo_go_18 rfl (lv_at hl 1 rfl) ?_
      refine va_put (D := D) (ci := 5) (v := .int (nI j)) (ty := .int) (C := RMo) (T := TMo) (N := 21) hx hb ht inMo tyMo tyMo_ok nmMo hown hK hP hD hS 0 rfl rfl 6 (by decide) (ht _ q552) (fun _ h9 => h9) rfl (by decide +kernel) rfl rfl (Nat.le_of_ble_eq_true rfl) d_Mo_go_19 (fun H locs hP hD hS => ?_)
      have hP : va_P D vCl (wM ad ca 0 po nu pt st cy j bk me kc ro en un li tn tx ia ct md lb wn) H := hP
      have hD : va_D A (wM ad ca 0 po nu pt st cy j bk me kc ro en un li tn tx ia ct md lb wn) := hD
      refine lv_iconst (v := nI 1) hx hb d_Mo_go_22 (by decide) ?_
      exact zret_z C0 hr (zbn (by omega)) hAe hP hD hS (Or.inl ⟨inR_y (by omega), rfl, by rw [nI_clamp (by omega)]⟩) d_Mo_go_23
    · skip
      have h2 : ¬ (j ≤ 63) := fun z => h2 ((nI_leI (by omega) (by omega)).mpr z)
      refine lv_iconst (v := nI 0) hx hb d_Mo_go_15 (by decide) ?_
      exact zret_z C0 hr (zbn (by omega)) hAe hP hD hS (Or.inr ⟨inR_2 (by decide) (by omega) (by omega), rfl, rfl⟩) d_Mo_go_16
set_option maxHeartbeats 4000000 in
set_option maxRecDepth 100000 in
theorem m_Mo_set (l : Launch) (D : va_G) (ca : Nat → ClassId) (k : Nat → Nat) (sz : Nat) (ad : Nat → Nat) (cd : Nat) (po nu : Nat → Nat) (pt : Nat) (st : Int32) (cy pl bk : Nat) (me : Nat → Nat) (kc : Nat) (ro : Nat → Nat) (en un li tn : Nat) (tx : Nat → Nat) (ia : Int32) (ct : Nat) (md : Nat → Nat) (lb wn : Nat → Int32) (x : Int32) (v : Int64) (hpo : ∀ j, j < 15 → po j = 10 ^ j) : Met l y_Mo_set (zw y_Mo_set c_Mo_set 4 (some .boolean)) { frames := 0, cells := 0, slots := 0, locals := 0 } (va_Pc [.ref (ad 12), .int x, .long v] (zPre D (zty ca) k (wM ad ca cd po nu pt st cy pl bk me kc ro en un li tn tx ia ct md lb wn) sz)) (va_Qi (fun r w => ((inR x 7 ∧ ¬ v < 0) ∧ r = nI 1 ∧ w = wM ad ca 0 po (uN nu x.toNatClampNeg (v.toNatClampNeg % 10 ^ 14)) pt st cy pl bk me kc ro en un li tn tx ia ct md lb wn) ∨ (¬ (inR x 7 ∧ ¬ v < 0) ∧ r = nI 0 ∧ w = wM ad ca 0 po nu pt st cy pl bk me kc ro en un li tn tx ia ct md lb wn)) (zB D (zty ca) (wM ad ca cd po nu pt st cy pl bk me kc ro en un li tn tx ia ct md lb wn) sz) (va_A (wM ad ca cd po nu pt st cy pl bk me kc ro en un li tn tx ia ct md lb wn) sz)) 0 0 (va_A (wM ad ca cd po nu pt st cy pl bk me kc ro en un li tn tx ia ct md lb wn) sz) := by
  refine zOf (own := "DigitChipModel") (by decide +kernel) rfl (Nat.le_of_ble_eq_true rfl) ?_
  intro p e s m below meth c A ls C0 hr hnm hAe hsz hl hP hD hS
  have hl : lv_has ls 4 [(0, .ref (ad 12)), (1, .int x), (2, .long v)] := hl
  obtain ⟨hx, hb, hml, hown, ht, hK, hX, hA, hlk⟩ := id C0
  refine lv_aload_n hx hb d_Mo_set_0 rfl (lv_at hl 0 rfl) ?_
  refine lv_iconst (v := nI 0) hx hb d_Mo_set_1 (by decide) ?_
  refine va_put (D := D) (ci := 5) (v := .int (nI 0)) (ty := .int) (C := RMo) (T := TMo) (N := 21) hx hb ht inMo tyMo tyMo_ok nmMo hown hK hP hD hS 0 rfl rfl 0 (by decide) (ht _ q546) (fun _ h9 => h9) rfl (by decide +kernel) rfl rfl (Nat.le_of_ble_eq_true rfl) d_Mo_set_2 (fun H locs hP hD hS => ?_)
  have hP : va_P D vCl (wM ad ca 0 po nu pt st cy pl bk me kc ro en un li tn tx ia ct md lb wn) H := hP
  have hD : va_D A (wM ad ca 0 po nu pt st cy pl bk me kc ro en un li tn tx ia ct md lb wn) := hD
  refine lv_iload_n hx hb d_Mo_set_5 rfl (lv_at hl 1 rfl) ?_
  refine lv_if_lt (tgt := 21) hx hb d_Mo_set_6 (by decide) (fun h1 => ?_) (fun h1 => ?_)
  · skip
    refine lv_iconst (v := nI 0) hx hb d_Mo_set_21 (by decide) ?_
    exact zret_z C0 hr (zbn (by omega)) hAe hP hD hS (Or.inr ⟨fun z => inR_1 (by decide) h1 z.1, rfl, rfl⟩) d_Mo_set_22
  · skip
    obtain ⟨j, hj, rfl⟩ := nI_of h1
    refine lv_iload_n hx hb d_Mo_set_9 rfl (lv_at hl 1 rfl) ?_
    refine lv_bipush (v := nI 6) hx hb d_Mo_set_10 (by decide) ?_
    refine lv_icmp_gt (tgt := 21) hx hb d_Mo_set_12 (by decide) (fun h2 => ?_) (fun h2 => ?_)
    · skip
      have h2 : (6 < j) := (nI_ltI (by omega) (by omega)).mp h2
      refine lv_iconst (v := nI 0) hx hb d_Mo_set_21 (by decide) ?_
      exact zret_z C0 hr (zbn (by omega)) hAe hP hD hS (Or.inr ⟨fun z => inR_2 (by decide) (by omega) (by omega) z.1, rfl, rfl⟩) d_Mo_set_22
    · skip
      have h2 : ¬ (6 < j) := fun z => h2 ((nI_ltI (by omega) (by omega)).mpr z)
      refine lv_lload_n hx hb d_Mo_set_15 rfl (lv_at hl 2 rfl) ?_
      refine lv_lconst (v := lN 0) hx hb d_Mo_set_16 rfl ?_
      refine W.lcmp hx hb d_Mo_set_17 ?_
      refine lv_if_ge (tgt := 23) hx hb d_Mo_set_18 (by decide) (fun h3 => ?_) (fun h3 => ?_)
      · skip
        have h3 : (lN 0 ≤ v) := (lg_cmp_ge _ _).mp h3
        obtain ⟨i, hi, rfl⟩ := pk_lOf (Int64.not_lt.mpr h3)
        refine lv_aload_n hx hb d_Mo_set_23 rfl (lv_at hl 0 rfl) ?_
        refine va_get (D := D) (ci := 5) (v := .ref (ad 14)) (C := RMo) (T := TMo) (N := 21) hx hb ht inMo hown hK hP 0 rfl rfl 2 (by decide) (ht _ q548) (fun _ h9 => h9) rfl d_Mo_set_24 ?_
        refine lv_iload_n hx hb d_Mo_set_27 rfl (lv_at hl 1 rfl) ?_
        refine lv_lload_n hx hb d_Mo_set_28 rfl (lv_at hl 2 rfl) ?_
        refine lv_aload_n hx hb d_Mo_set_29 rfl (lv_at hl 0 rfl) ?_
        refine va_get (D := D) (ci := 5) (v := .ref (ad 13)) (C := RMo) (T := TMo) (N := 21) hx hb ht inMo hown hK hP 0 rfl rfl 1 (by decide) (ht _ q547) (fun _ h9 => h9) rfl d_Mo_set_30 ?_
        refine lv_bipush (v := nI 14) hx hb d_Mo_set_33 (by decide) ?_
        refine va_lald hx hb hK hP 1 1 rfl rfl (vp_in_nI (n := 14) (by omega) (by decide)) d_Mo_set_35 ?_
        refine ztl (y := lN (po 14)) (lF_at (by omega)) ?_
        refine ztl (y := lN (10 ^ 14)) (by rw [hpo _ (by omega)]) ?_
        refine lv_lrem hx hb d_Mo_set_36 (zlne (by omega) (by omega)) ?_
        refine ztl (y := lN (i % (10 ^ 14))) (pk_lRem (by omega) (by omega) (by omega)) ?_
        refine va_last hx hb hK hP hD hS 2 1 rfl rfl (vp_in_nI (n := j) (by omega) (by decide)) d_Mo_set_37 (fun H locs hP hD hS => ?_)
        rw [lF_up (by omega)] at hP hD
        have hP : va_P D vCl (wM ad ca 0 po (uN nu j (i % (10 ^ 14))) pt st cy pl bk me kc ro en un li tn tx ia ct md lb wn) H := hP
        have hD : va_D A (wM ad ca 0 po (uN nu j (i % (10 ^ 14))) pt st cy pl bk me kc ro en un li tn tx ia ct md lb wn) := hD
        refine lv_iconst (v := nI 1) hx hb d_Mo_set_38 (by decide) ?_
        exact zret_z C0 hr (zbn (by omega)) hAe hP hD hS (Or.inl ⟨⟨inR_y (by omega), Int64.not_lt.mpr h3⟩, rfl, by rw [nI_clamp (by omega), lN_clamp (by omega)]⟩) d_Mo_set_39
      · skip
        have h3 : ¬ (lN 0 ≤ v) := fun z => h3 ((lg_cmp_ge _ _).mpr z)
        refine lv_iconst (v := nI 0) hx hb d_Mo_set_21 (by decide) ?_
        exact zret_z C0 hr (zbn (by omega)) hAe hP hD hS (Or.inr ⟨fun z => h3 (Int64.not_lt.mp z.2), rfl, rfl⟩) d_Mo_set_22
set_option maxHeartbeats 4000000 in
set_option maxRecDepth 100000 in
theorem m_Mo_key (l : Launch) (D : va_G) (ca : Nat → ClassId) (k : Nat → Nat) (sz : Nat) (ad : Nat → Nat) (cd : Nat) (po nu : Nat → Nat) (pt : Nat) (st : Int32) (cy pl bk : Nat) (me : Nat → Nat) (kc : Nat) (ro : Nat → Nat) (en un li tn : Nat) (tx : Nat → Nat) (ia : Int32) (ct : Nat) (md : Nat → Nat) (lb wn : Nat → Int32) (x : Int32) (hk3 : kc ≤ 3) : Met l y_Mo_key (zw y_Mo_key c_Mo_key 2 (some .boolean)) { frames := 0, cells := 0, slots := 0, locals := 0 } (va_Pc [.ref (ad 12), .int x] (zPre D (zty ca) k (wM ad ca cd po nu pt st cy pl bk me kc ro en un li tn tx ia ct md lb wn) sz)) (va_Qi (fun r w => (kOk x kc ∧ r = nI 1 ∧ w = wM ad ca 0 po nu pt st cy pl bk me (kc + 1) (uN ro kc x.toNatClampNeg) en un li tn tx ia ct md lb wn) ∨ (¬ kOk x kc ∧ r = nI 0 ∧ w = wM ad ca 0 po nu pt st cy pl bk me kc ro en un li tn tx ia ct md lb wn)) (zB D (zty ca) (wM ad ca cd po nu pt st cy pl bk me kc ro en un li tn tx ia ct md lb wn) sz) (va_A (wM ad ca cd po nu pt st cy pl bk me kc ro en un li tn tx ia ct md lb wn) sz)) 0 0 (va_A (wM ad ca cd po nu pt st cy pl bk me kc ro en un li tn tx ia ct md lb wn) sz) := by
  refine zOf (own := "DigitChipModel") (by decide +kernel) rfl (Nat.le_of_ble_eq_true rfl) ?_
  intro p e s m below meth c A ls C0 hr hnm hAe hsz hl hP hD hS
  have hl : lv_has ls 2 [(0, .ref (ad 12)), (1, .int x)] := hl
  obtain ⟨hx, hb, hml, hown, ht, hK, hX, hA, hlk⟩ := id C0
  refine lv_aload_n hx hb d_Mo_key_0 rfl (lv_at hl 0 rfl) ?_
  refine lv_iconst (v := nI 0) hx hb d_Mo_key_1 (by decide) ?_
  refine va_put (D := D) (ci := 5) (v := .int (nI 0)) (ty := .int) (C := RMo) (T := TMo) (N := 21) hx hb ht inMo tyMo tyMo_ok nmMo hown hK hP hD hS 0 rfl rfl 0 (by decide) (ht _ q546) (fun _ h9 => h9) rfl (by decide +kernel) rfl rfl (Nat.le_of_ble_eq_true rfl) d_Mo_key_2 (fun H locs hP hD hS => ?_)
  have hP : va_P D vCl (wM ad ca 0 po nu pt st cy pl bk me kc ro en un li tn tx ia ct md lb wn) H := hP
  have hD : va_D A (wM ad ca 0 po nu pt st cy pl bk me kc ro en un li tn tx ia ct md lb wn) := hD
  refine lv_iload_n hx hb d_Mo_key_5 rfl (lv_at hl 1 rfl) ?_
  refine lv_if_lt (tgt := 23) hx hb d_Mo_key_6 (by decide) (fun h1 => ?_) (fun h1 => ?_)
  · skip
    refine lv_iconst (v := nI 0) hx hb d_Mo_key_23 (by decide) ?_
    exact zret_z C0 hr (zbn (by omega)) hAe hP hD hS (Or.inr ⟨fun z => z.1 h1, rfl, rfl⟩) d_Mo_key_24
  · skip
    obtain ⟨j, hj, rfl⟩ := nI_of h1
    refine lv_iload_n hx hb d_Mo_key_9 rfl (lv_at hl 1 rfl) ?_
    refine lv_bipush (v := nI 15) hx hb d_Mo_key_10 (by decide) ?_
    refine lv_icmp_gt (tgt := 23) hx hb d_Mo_key_12 (by decide) (fun h2 => ?_) (fun h2 => ?_)
    · skip
      have h2 : (15 < j) := (nI_ltI (by omega) (by omega)).mp h2
      refine lv_iconst (v := nI 0) hx hb d_Mo_key_23 (by decide) ?_
      exact zret_z C0 hr (zbn (by omega)) hAe hP hD hS (Or.inr ⟨fun z => z.2.1 (nI_le (by omega) (by omega)), rfl, rfl⟩) d_Mo_key_24
    · skip
      have h2 : ¬ (15 < j) := fun z => h2 ((nI_ltI (by omega) (by omega)).mpr z)
      refine lv_aload_n hx hb d_Mo_key_15 rfl (lv_at hl 0 rfl) ?_
      refine va_get (D := D) (ci := 5) (v := .int (nI kc)) (C := RMo) (T := TMo) (N := 21) hx hb ht inMo hown hK hP 0 rfl rfl 9 (by decide) (ht _ q555) (fun _ h9 => h9) rfl d_Mo_key_16 ?_
      refine lv_iconst (v := nI 3) hx hb d_Mo_key_19 (by decide) ?_
      refine lv_icmp_ne (tgt := 25) hx hb d_Mo_key_20 (by decide) (fun h3 => ?_) (fun h3 => ?_)
      · skip
        have h3 : ¬ (kc = 3) := fun z => h3 ((nI_eq (by omega) (by omega)).mpr z)
        refine lv_aload_n hx hb d_Mo_key_25 rfl (lv_at hl 0 rfl) ?_
        refine va_get (D := D) (ci := 5) (v := .ref (ad 16)) (C := RMo) (T := TMo) (N := 21) hx hb ht inMo hown hK hP 0 rfl rfl 10 (by decide) (ht _ q556) (fun _ h9 => h9) rfl d_Mo_key_26 ?_
        refine lv_aload_n hx hb d_Mo_key_29 rfl (lv_at hl 0 rfl) ?_
        refine va_get (D := D) (ci := 5) (v := .int (nI kc)) (C := RMo) (T := TMo) (N := 21) hx hb ht inMo hown hK hP 0 rfl rfl 9 (by decide) (ht _ q555) (fun _ h9 => h9) rfl d_Mo_key_30 ?_
        refine lv_iload_n hx hb d_Mo_key_33 rfl (lv_at hl 1 rfl) ?_
        refine va_iast hx hb hK hP hD hS 4 0 rfl rfl (vp_in_nI (n := kc) (by omega) (by decide)) d_Mo_key_34 (fun H locs hP hD hS => ?_)
        rw [nF_up (by omega)] at hP hD
        have hP : va_P D vCl (wM ad ca 0 po nu pt st cy pl bk me kc (uN ro kc j) en un li tn tx ia ct md lb wn) H := hP
        have hD : va_D A (wM ad ca 0 po nu pt st cy pl bk me kc (uN ro kc j) en un li tn tx ia ct md lb wn) := hD
        refine lv_aload_n hx hb d_Mo_key_35 rfl (lv_at hl 0 rfl) ?_
        refine lv_dup hx hb d_Mo_key_36 rfl ?_
        refine va_get (D := D) (ci := 5) (v := .int (nI kc)) (C := RMo) (T := TMo) (N := 21) hx hb ht inMo hown hK hP 0 rfl rfl 9 (by decide) (ht _ q555) (fun _ h9 => h9) rfl d_Mo_key_37 ?_
        refine lv_iconst (v := nI 1) hx hb d_Mo_key_40 (by decide) ?_
        refine lv_iadd hx hb d_Mo_key_41 ?_
        refine zti (y := nI (kc + 1)) (nI_add _ _) ?_
        refine va_put (D := D) (ci := 5) (v := .int (nI (kc + 1))) (ty := .int) (C := RMo) (T := TMo) (N := 21) hx hb ht inMo tyMo tyMo_ok nmMo hown hK hP hD hS 0 rfl rfl 9 (by decide) (ht _ q555) (fun _ h9 => h9) rfl (by decide +kernel) rfl rfl (Nat.le_of_ble_eq_true rfl) d_Mo_key_42 (fun H locs hP hD hS => ?_)
        have hP : va_P D vCl (wM ad ca 0 po nu pt st cy pl bk me (kc + 1) (uN ro kc j) en un li tn tx ia ct md lb wn) H := hP
        have hD : va_D A (wM ad ca 0 po nu pt st cy pl bk me (kc + 1) (uN ro kc j) en un li tn tx ia ct md lb wn) := hD
        refine lv_iconst (v := nI 1) hx hb d_Mo_key_45 (by decide) ?_
        exact zret_z C0 hr (zbn (by omega)) hAe hP hD hS (Or.inl ⟨⟨nI_pos (by omega), fun z => by have := (nI_leI (by decide) (by omega)).mp z; omega, by omega⟩, rfl, by rw [nI_clamp (by omega)]⟩) d_Mo_key_46
      · skip
        have h3 : (kc = 3) := (nI_eq (by omega) (by omega)).mp h3
        refine lv_iconst (v := nI 0) hx hb d_Mo_key_23 (by decide) ?_
        exact zret_z C0 hr (zbn (by omega)) hAe hP hD hS (Or.inr ⟨fun z => by have := z.2.2; omega, rfl, rfl⟩) d_Mo_key_24
set_option maxHeartbeats 4000000 in
set_option maxRecDepth 100000 in
theorem m_Mo_type (l : Launch) (D : va_G) (ca : Nat → ClassId) (k : Nat → Nat) (sz : Nat) (ad : Nat → Nat) (cd : Nat) (po nu : Nat → Nat) (pt : Nat) (st : Int32) (cy pl bk : Nat) (me : Nat → Nat) (kc : Nat) (ro : Nat → Nat) (en un li tn : Nat) (tx : Nat → Nat) (ia : Int32) (ct : Nat) (md : Nat → Nat) (lb wn : Nat → Int32) (c0 : Nat) (hc0 : c0 < 65536) (hln : tn ≤ 240) : Met l y_Mo_type (zw y_Mo_type c_Mo_type 2 (some .boolean)) { frames := 0, cells := 0, slots := 0, locals := 0 } (va_Pc [.ref (ad 12), .int (nI c0)] (zPre D (zty ca) k (wM ad ca cd po nu pt st cy pl bk me kc ro en un li tn tx ia ct md lb wn) sz)) (va_Qi (fun r w => ((32 ≤ c0 ∧ c0 ≤ 126 ∧ tn < 240) ∧ r = nI 1 ∧ w = wM ad ca 0 po nu pt st cy pl bk me kc ro en un li (tn + 1) (uN tx tn c0) ia ct md lb wn) ∨ (¬ (32 ≤ c0 ∧ c0 ≤ 126 ∧ tn < 240) ∧ r = nI 0 ∧ w = wM ad ca 0 po nu pt st cy pl bk me kc ro en un li tn tx ia ct md lb wn)) (zB D (zty ca) (wM ad ca cd po nu pt st cy pl bk me kc ro en un li tn tx ia ct md lb wn) sz) (va_A (wM ad ca cd po nu pt st cy pl bk me kc ro en un li tn tx ia ct md lb wn) sz)) 0 0 (va_A (wM ad ca cd po nu pt st cy pl bk me kc ro en un li tn tx ia ct md lb wn) sz) := by
  refine zOf (own := "DigitChipModel") (by decide +kernel) rfl (Nat.le_of_ble_eq_true rfl) ?_
  intro p e s m below meth c A ls C0 hr hnm hAe hsz hl hP hD hS
  have hl : lv_has ls 2 [(0, .ref (ad 12)), (1, .int (nI c0))] := hl
  obtain ⟨hx, hb, hml, hown, ht, hK, hX, hA, hlk⟩ := id C0
  refine lv_aload_n hx hb d_Mo_type_0 rfl (lv_at hl 0 rfl) ?_
  refine lv_iconst (v := nI 0) hx hb d_Mo_type_1 (by decide) ?_
  refine va_put (D := D) (ci := 5) (v := .int (nI 0)) (ty := .int) (C := RMo) (T := TMo) (N := 21) hx hb ht inMo tyMo tyMo_ok nmMo hown hK hP hD hS 0 rfl rfl 0 (by decide) (ht _ q546) (fun _ h9 => h9) rfl (by decide +kernel) rfl rfl (Nat.le_of_ble_eq_true rfl) d_Mo_type_2 (fun H locs hP hD hS => ?_)
  have hP : va_P D vCl (wM ad ca 0 po nu pt st cy pl bk me kc ro en un li tn tx ia ct md lb wn) H := hP
  have hD : va_D A (wM ad ca 0 po nu pt st cy pl bk me kc ro en un li tn tx ia ct md lb wn) := hD
  refine lv_iload_n hx hb d_Mo_type_5 rfl (lv_at hl 1 rfl) ?_
  refine lv_bipush (v := nI 32) hx hb d_Mo_type_6 (by decide) ?_
  refine lv_icmp_lt (tgt := 27) hx hb d_Mo_type_8 (by decide) (fun h1 => ?_) (fun h1 => ?_)
  · skip
    have h1 : (c0 < 32) := (nI_ltI (by omega) (by omega)).mp h1
    refine lv_iconst (v := nI 0) hx hb d_Mo_type_27 (by decide) ?_
    exact zret_z C0 hr (zbn (by omega)) hAe hP hD hS (Or.inr ⟨by omega, rfl, rfl⟩) d_Mo_type_28
  · skip
    have h1 : ¬ (c0 < 32) := fun z => h1 ((nI_ltI (by omega) (by omega)).mpr z)
    refine lv_iload_n hx hb d_Mo_type_11 rfl (lv_at hl 1 rfl) ?_
    refine lv_bipush (v := nI 126) hx hb d_Mo_type_12 (by decide) ?_
    refine lv_icmp_gt (tgt := 27) hx hb d_Mo_type_14 (by decide) (fun h2 => ?_) (fun h2 => ?_)
    · skip
      have h2 : (126 < c0) := (nI_ltI (by omega) (by omega)).mp h2
      refine lv_iconst (v := nI 0) hx hb d_Mo_type_27 (by decide) ?_
      exact zret_z C0 hr (zbn (by omega)) hAe hP hD hS (Or.inr ⟨by omega, rfl, rfl⟩) d_Mo_type_28
    · skip
      have h2 : ¬ (126 < c0) := fun z => h2 ((nI_ltI (by omega) (by omega)).mpr z)
      refine lv_aload_n hx hb d_Mo_type_17 rfl (lv_at hl 0 rfl) ?_
      refine va_get (D := D) (ci := 5) (v := .int (nI tn)) (C := RMo) (T := TMo) (N := 21) hx hb ht inMo hown hK hP 0 rfl rfl 14 (by decide) (ht _ q560) (fun _ h9 => h9) rfl d_Mo_type_18 ?_
      refine lv_sipush (v := nI 240) hx hb d_Mo_type_21 (by decide) ?_
      refine lv_icmp_ne (tgt := 29) hx hb d_Mo_type_24 (by decide) (fun h3 => ?_) (fun h3 => ?_)
      · skip
        have h3 : ¬ (tn = 240) := fun z => h3 ((nI_eq (by omega) (by omega)).mpr z)
        refine lv_aload_n hx hb d_Mo_type_29 rfl (lv_at hl 0 rfl) ?_
        refine va_get (D := D) (ci := 5) (v := .ref (ad 17)) (C := RMo) (T := TMo) (N := 21) hx hb ht inMo hown hK hP 0 rfl rfl 15 (by decide) (ht _ q561) (fun _ h9 => h9) rfl d_Mo_type_30 ?_
        refine lv_aload_n hx hb d_Mo_type_33 rfl (lv_at hl 0 rfl) ?_
        refine va_get (D := D) (ci := 5) (v := .int (nI tn)) (C := RMo) (T := TMo) (N := 21) hx hb ht inMo hown hK hP 0 rfl rfl 14 (by decide) (ht _ q560) (fun _ h9 => h9) rfl d_Mo_type_34 ?_
        refine lv_iload_n hx hb d_Mo_type_37 rfl (lv_at hl 1 rfl) ?_
        refine va_cast hx hb hK hP hD hS 5 2 rfl rfl (vp_in_nI (n := tn) (by omega) (by decide)) d_Mo_type_38 (fun H locs hP hD hS => ?_)
        rw [nF_upc (by omega) (by omega)] at hP hD
        have hP : va_P D vCl (wM ad ca 0 po nu pt st cy pl bk me kc ro en un li tn (uN tx tn c0) ia ct md lb wn) H := hP
        have hD : va_D A (wM ad ca 0 po nu pt st cy pl bk me kc ro en un li tn (uN tx tn c0) ia ct md lb wn) := hD
        refine lv_aload_n hx hb d_Mo_type_39 rfl (lv_at hl 0 rfl) ?_
        refine lv_dup hx hb d_Mo_type_40 rfl ?_
        refine va_get (D := D) (ci := 5) (v := .int (nI tn)) (C := RMo) (T := TMo) (N := 21) hx hb ht inMo hown hK hP 0 rfl rfl 14 (by decide) (ht _ q560) (fun _ h9 => h9) rfl d_Mo_type_41 ?_
        refine lv_iconst (v := nI 1) hx hb d_Mo_type_44 (by decide) ?_
        refine lv_iadd hx hb d_Mo_type_45 ?_
        refine zti (y := nI (tn + 1)) (nI_add _ _) ?_
        refine va_put (D := D) (ci := 5) (v := .int (nI (tn + 1))) (ty := .int) (C := RMo) (T := TMo) (N := 21) hx hb ht inMo tyMo tyMo_ok nmMo hown hK hP hD hS 0 rfl rfl 14 (by decide) (ht _ q560) (fun _ h9 => h9) rfl (by decide +kernel) rfl rfl (Nat.le_of_ble_eq_true rfl) d_Mo_type_46 (fun H locs hP hD hS => ?_)
        have hP : va_P D vCl (wM ad ca 0 po nu pt st cy pl bk me kc ro en un li (tn + 1) (uN tx tn c0) ia ct md lb wn) H := hP
        have hD : va_D A (wM ad ca 0 po nu pt st cy pl bk me kc ro en un li (tn + 1) (uN tx tn c0) ia ct md lb wn) := hD
        refine lv_iconst (v := nI 1) hx hb d_Mo_type_49 (by decide) ?_
        exact zret_z C0 hr (zbn (by omega)) hAe hP hD hS (Or.inl ⟨by omega, rfl, rfl⟩) d_Mo_type_50
      · skip
        have h3 : (tn = 240) := (nI_eq (by omega) (by omega)).mp h3
        refine lv_iconst (v := nI 0) hx hb d_Mo_type_27 (by decide) ?_
        exact zret_z C0 hr (zbn (by omega)) hAe hP hD hS (Or.inr ⟨by omega, rfl, rfl⟩) d_Mo_type_28
set_option maxHeartbeats 4000000 in
set_option maxRecDepth 100000 in
theorem m_Mo_state (l : Launch) (D : va_G) (ca : Nat → ClassId) (k : Nat → Nat) (sz : Nat) (ad : Nat → Nat) (cd : Nat) (po nu : Nat → Nat) (pt : Nat) (st : Int32) (cy pl bk : Nat) (me : Nat → Nat) (kc : Nat) (ro : Nat → Nat) (en un li tn : Nat) (tx : Nat → Nat) (ia : Int32) (ct : Nat) (md : Nat → Nat) (lb wn : Nat → Int32) (x : Int32) (hcy : cy ≤ 1) : Met l y_Mo_state (zw y_Mo_state c_Mo_state 2 (some .int)) { frames := 0, cells := 0, slots := 0, locals := 0 } (va_Pc [.ref (ad 12), .int x] (zPre D (zty ca) k (wM ad ca cd po nu pt st cy pl bk me kc ro en un li tn tx ia ct md lb wn) sz)) (va_Qi (fun r w => r = sta x pt st cy pl bk ∧ w = wM ad ca 0 po nu pt st cy pl bk me kc ro en un li tn tx ia ct md lb wn) (zB D (zty ca) (wM ad ca cd po nu pt st cy pl bk me kc ro en un li tn tx ia ct md lb wn) sz) (va_A (wM ad ca cd po nu pt st cy pl bk me kc ro en un li tn tx ia ct md lb wn) sz)) 0 0 (va_A (wM ad ca cd po nu pt st cy pl bk me kc ro en un li tn tx ia ct md lb wn) sz) := by
  refine zOf (own := "DigitChipModel") (by decide +kernel) rfl (Nat.le_of_ble_eq_true rfl) ?_
  intro p e s m below meth c A ls C0 hr hnm hAe hsz hl hP hD hS
  have hl : lv_has ls 2 [(0, .ref (ad 12)), (1, .int x)] := hl
  obtain ⟨hx, hb, hml, hown, ht, hK, hX, hA, hlk⟩ := id C0
  refine lv_aload_n hx hb d_Mo_state_0 rfl (lv_at hl 0 rfl) ?_
  refine lv_iconst (v := nI 0) hx hb d_Mo_state_1 (by decide) ?_
  refine va_put (D := D) (ci := 5) (v := .int (nI 0)) (ty := .int) (C := RMo) (T := TMo) (N := 21) hx hb ht inMo tyMo tyMo_ok nmMo hown hK hP hD hS 0 rfl rfl 0 (by decide) (ht _ q546) (fun _ h9 => h9) rfl (by decide +kernel) rfl rfl (Nat.le_of_ble_eq_true rfl) d_Mo_state_2 (fun H locs hP hD hS => ?_)
  have hP : va_P D vCl (wM ad ca 0 po nu pt st cy pl bk me kc ro en un li tn tx ia ct md lb wn) H := hP
  have hD : va_D A (wM ad ca 0 po nu pt st cy pl bk me kc ro en un li tn tx ia ct md lb wn) := hD
  refine lv_iload_n hx hb d_Mo_state_5 rfl (lv_at hl 1 rfl) ?_
  refine lv_if_ne (tgt := 16) hx hb d_Mo_state_6 (by decide) (fun h1 => ?_) (fun h1 => ?_)
  · skip
    refine lv_iload_n hx hb d_Mo_state_16 rfl (lv_at hl 1 rfl) ?_
    refine lv_iconst (v := nI 1) hx hb d_Mo_state_17 (by decide) ?_
    refine lv_icmp_ne (tgt := 28) hx hb d_Mo_state_18 (by decide) (fun h2 => ?_) (fun h2 => ?_)
    · skip
      refine lv_iload_n hx hb d_Mo_state_28 rfl (lv_at hl 1 rfl) ?_
      refine lv_iconst (v := nI 2) hx hb d_Mo_state_29 (by decide) ?_
      refine lv_icmp_ne (tgt := 48) hx hb d_Mo_state_30 (by decide) (fun h3 => ?_) (fun h3 => ?_)
      · skip
        refine lv_iload_n hx hb d_Mo_state_48 rfl (lv_at hl 1 rfl) ?_
        refine lv_iconst (v := nI 3) hx hb d_Mo_state_49 (by decide) ?_
        refine lv_icmp_ne (tgt := 60) hx hb d_Mo_state_50 (by decide) (fun h4 => ?_) (fun h4 => ?_)
        · skip
          refine lv_iload_n hx hb d_Mo_state_60 rfl (lv_at hl 1 rfl) ?_
          refine lv_iconst (v := nI 4) hx hb d_Mo_state_61 (by decide) ?_
          refine lv_icmp_ne (tgt := 72) hx hb d_Mo_state_62 (by decide) (fun h5 => ?_) (fun h5 => ?_)
          · skip
            refine lv_iconst (v := (-1)) hx hb d_Mo_state_72 (by decide) ?_
            exact zret_i C0 hr hAe hP hD hS ⟨by unfold sta; rw [if_neg (show ¬ x = nI 0 from h1), if_neg h2, if_neg h3, if_neg h4, if_neg h5], rfl⟩ d_Mo_state_73
          · skip
            refine lv_aload_n hx hb d_Mo_state_65 rfl (lv_at hl 0 rfl) ?_
            refine va_get (D := D) (ci := 5) (v := .int (nI bk)) (C := RMo) (T := TMo) (N := 21) hx hb ht inMo hown hK hP 0 rfl rfl 7 (by decide) (ht _ q553) (fun _ h9 => h9) rfl d_Mo_state_66 ?_
            refine lv_goto (tgt := 73) hx hb d_Mo_state_69 (by decide) ?_
            exact zret_i C0 hr hAe hP hD hS ⟨by unfold sta; rw [if_neg (show ¬ x = nI 0 from h1), if_neg h2, if_neg h3, if_neg h4, if_pos h5], rfl⟩ d_Mo_state_73
        · skip
          refine lv_aload_n hx hb d_Mo_state_53 rfl (lv_at hl 0 rfl) ?_
          refine va_get (D := D) (ci := 5) (v := .int (nI pl)) (C := RMo) (T := TMo) (N := 21) hx hb ht inMo hown hK hP 0 rfl rfl 6 (by decide) (ht _ q552) (fun _ h9 => h9) rfl d_Mo_state_54 ?_
          refine lv_goto (tgt := 73) hx hb d_Mo_state_57 (by decide) ?_
          exact zret_i C0 hr hAe hP hD hS ⟨by unfold sta; rw [if_neg (show ¬ x = nI 0 from h1), if_neg h2, if_neg h3, if_pos h4], rfl⟩ d_Mo_state_73
      · skip
        refine lv_aload_n hx hb d_Mo_state_33 rfl (lv_at hl 0 rfl) ?_
        refine va_get (D := D) (ci := 5) (v := .int (nI cy)) (C := RMo) (T := TMo) (N := 21) hx hb ht inMo hown hK hP 0 rfl rfl 5 (by decide) (ht _ q551) (fun _ h9 => h9) rfl d_Mo_state_34 ?_
        refine lv_if_eq (tgt := 44) hx hb d_Mo_state_37 (by decide) (fun h6 => ?_) (fun h6 => ?_)
        · skip
          have h6 : (cy = 0) := (nI_eq (by omega) (by decide)).mp (h6.trans nI_0.symm)
          refine lv_iconst (v := nI 0) hx hb d_Mo_state_44 (by decide) ?_
          refine lv_goto (tgt := 73) hx hb d_Mo_state_45 (by decide) ?_
          exact zret_i C0 hr hAe hP hD hS ⟨by unfold sta; rw [if_neg (show ¬ x = nI 0 from h1), if_neg h2, if_pos h3]; rw [show cy = 0 by omega], rfl⟩ d_Mo_state_73
        · skip
          have h6 : ¬ (cy = 0) := fun z => h6 (by rw [z]; rfl)
          refine lv_iconst (v := nI 1) hx hb d_Mo_state_40 (by decide) ?_
          refine lv_goto (tgt := 73) hx hb d_Mo_state_41 (by decide) ?_
          exact zret_i C0 hr hAe hP hD hS ⟨by unfold sta; rw [if_neg (show ¬ x = nI 0 from h1), if_neg h2, if_pos h3]; rw [show cy = 1 by omega], rfl⟩ d_Mo_state_73
    · skip
      refine lv_aload_n hx hb d_Mo_state_21 rfl (lv_at hl 0 rfl) ?_
      refine va_get (D := D) (ci := 5) (v := .int st) (C := RMo) (T := TMo) (N := 21) hx hb ht inMo hown hK hP 0 rfl rfl 4 (by decide) (ht _ q550) (fun _ h9 => h9) rfl d_Mo_state_22 ?_
      refine lv_goto (tgt := 73) hx hb d_Mo_state_25 (by decide) ?_
      exact zret_i C0 hr hAe hP hD hS ⟨by unfold sta; rw [if_neg (show ¬ x = nI 0 from h1), if_pos h2], rfl⟩ d_Mo_state_73
  · skip
    refine lv_aload_n hx hb d_Mo_state_9 rfl (lv_at hl 0 rfl) ?_
    refine va_get (D := D) (ci := 5) (v := .int (nI pt)) (C := RMo) (T := TMo) (N := 21) hx hb ht inMo hown hK hP 0 rfl rfl 3 (by decide) (ht _ q549) (fun _ h9 => h9) rfl d_Mo_state_10 ?_
    refine lv_goto (tgt := 73) hx hb d_Mo_state_13 (by decide) ?_
    exact zret_i C0 hr hAe hP hD hS ⟨by unfold sta; rw [if_pos (show x = nI 0 from h1)], rfl⟩ d_Mo_state_73
set_option maxHeartbeats 4000000 in
set_option maxRecDepth 100000 in
theorem m_Mo_digitOf (l : Launch) (D : va_G) (ca : Nat → ClassId) (k : Nat → Nat) (sz : Nat) (ad : Nat → Nat) (cd : Nat) (po nu : Nat → Nat) (pt : Nat) (st : Int32) (cy pl bk : Nat) (me : Nat → Nat) (kc : Nat) (ro : Nat → Nat) (en un li tn : Nat) (tx : Nat → Nat) (ia : Int32) (ct : Nat) (md : Nat → Nat) (lb wn : Nat → Int32) (r q : Nat) (hr7 : r < 7) (hq : q < 15) (hn : ∀ j, nu j < 10 ^ 14) (hpo : ∀ j, j < 15 → po j = 10 ^ j) : Met l y_Mo_digitOf (zw y_Mo_digitOf c_Mo_digitOf 3 (some .int)) { frames := 0, cells := 0, slots := 0, locals := 0 } (va_Pc [.ref (ad 12), .int (nI r), .int (nI q)] (zPre D (zty ca) k (wM ad ca cd po nu pt st cy pl bk me kc ro en un li tn tx ia ct md lb wn) sz)) (va_Qi (fun x w => x = nI (nu r / 10 ^ q % 10) ∧ w = wM ad ca cd po nu pt st cy pl bk me kc ro en un li tn tx ia ct md lb wn) (zB D (zty ca) (wM ad ca cd po nu pt st cy pl bk me kc ro en un li tn tx ia ct md lb wn) sz) (va_A (wM ad ca cd po nu pt st cy pl bk me kc ro en un li tn tx ia ct md lb wn) sz)) 0 0 (va_A (wM ad ca cd po nu pt st cy pl bk me kc ro en un li tn tx ia ct md lb wn) sz) := by
  refine zOf (own := "DigitChipModel") (by decide +kernel) rfl (Nat.le_of_ble_eq_true rfl) ?_
  intro p e s m below meth c A ls C0 hr hnm hAe hsz hl hP hD hS
  have hl : lv_has ls 3 [(0, .ref (ad 12)), (1, .int (nI r)), (2, .int (nI q))] := hl
  obtain ⟨hx, hb, hml, hown, ht, hK, hX, hA, hlk⟩ := id C0
  have hb0 := hn r
  have hb1 : nu r / 10 ^ q ≤ nu r := Nat.div_le_self _ _
  have hb2 : 10 ^ q ≤ 10 ^ 14 := Nat.pow_le_pow_right (by decide) (by omega)
  have hb3 : 0 < 10 ^ q := Nat.pow_pos (by decide)
  refine lv_aload_n hx hb d_Mo_digitOf_0 rfl (lv_at hl 0 rfl) ?_
  refine va_get (D := D) (ci := 5) (v := .ref (ad 14)) (C := RMo) (T := TMo) (N := 21) hx hb ht inMo hown hK hP 0 rfl rfl 2 (by decide) (ht _ q548) (fun _ h9 => h9) rfl d_Mo_digitOf_1 ?_
  refine lv_iload_n hx hb d_Mo_digitOf_4 rfl (lv_at hl 1 rfl) ?_
  refine va_lald hx hb hK hP 2 1 rfl rfl (vp_in_nI (n := r) (by omega) (by decide)) d_Mo_digitOf_5 ?_
  refine ztl (y := lN (nu r)) (lF_at (by omega)) ?_
  refine lv_aload_n hx hb d_Mo_digitOf_6 rfl (lv_at hl 0 rfl) ?_
  refine va_get (D := D) (ci := 5) (v := .ref (ad 13)) (C := RMo) (T := TMo) (N := 21) hx hb ht inMo hown hK hP 0 rfl rfl 1 (by decide) (ht _ q547) (fun _ h9 => h9) rfl d_Mo_digitOf_7 ?_
  refine lv_iload_n hx hb d_Mo_digitOf_10 rfl (lv_at hl 2 rfl) ?_
  refine va_lald hx hb hK hP 1 1 rfl rfl (vp_in_nI (n := q) (by omega) (by decide)) d_Mo_digitOf_11 ?_
  refine ztl (y := lN (po q)) (lF_at (by omega)) ?_
  refine ztl (y := lN (10 ^ q)) (by rw [hpo _ (by omega)]) ?_
  refine lv_ldiv hx hb d_Mo_digitOf_12 (zlne (by omega) (by omega)) ?_
  refine ztl (y := lN ((nu r) / (10 ^ q))) (pk_lDiv (by omega) (by omega) (by omega)) ?_
  refine lv_ldc2 hx hb hown (ht _ q545) d_Mo_digitOf_13 ?_
  refine ztl (y := lN 10) (by decide) ?_
  refine lv_lrem hx hb d_Mo_digitOf_16 (zlne (by omega) (by omega)) ?_
  refine ztl (y := lN (((nu r) / (10 ^ q)) % 10)) (pk_lRem (by omega) (by omega) (by omega)) ?_
  refine lv_l2i (v := nI (((nu r) / (10 ^ q)) % 10)) hx hb d_Mo_digitOf_17 (lN_i _) ?_
  exact zret_i C0 hr hAe hP hD hS ⟨rfl, rfl⟩ d_Mo_digitOf_18
