set_option maxHeartbeats 4000000 in
set_option maxRecDepth 100000 in
theorem m_Ch_isPlace (l : Launch) (D : va_G) (ca : Nat → ClassId) (k : Nat → Nat) (sz : Nat) (ad : Nat → Nat) (x : Int32) : Met l y_Ch_isPlace (zw y_Ch_isPlace c_Ch_isPlace 1 (some .boolean)) { frames := 0, cells := 0, slots := 0, locals := 0 } (va_Pc [.int x] (zPre D (zty ca) k ([]) sz)) (va_Qi (fun r w => (inR x 64 ∧ r = nI 1 ∧ w = []) ∨ (¬ inR x 64 ∧ r = nI 0 ∧ w = [])) (zB D (zty ca) ([]) sz) (va_A ([]) sz)) 0 0 (va_A ([]) sz) := by
  refine zOf (own := "DigitChip") (by decide +kernel) rfl (Nat.le_of_ble_eq_true rfl) ?_
  intro p e s m below meth c A ls C0 hr hnm hAe hsz hl hP hD hS
  have hl : lv_has ls 1 [(0, .int x)] := hl
  obtain ⟨hx, hb, hml, hown, ht, hK, hX, hA, hlk⟩ := id C0
  refine lv_iload_n hx hb d_Ch_isPlace_0 rfl (lv_at hl 0 rfl) ?_
  refine lv_if_lt (tgt := 14) hx hb d_Ch_isPlace_1 (by decide) (fun h1 => ?_) (fun h1 => ?_)
  · skip
    refine lv_iconst (v := nI 0) hx hb d_Ch_isPlace_14 (by decide) ?_
    exact zret_z C0 hr (zbn (by omega)) hAe hP hD hS (Or.inr ⟨inR_1 (by decide) h1, rfl, rfl⟩) d_Ch_isPlace_15
  · skip
    obtain ⟨j, hj, rfl⟩ := nI_of h1
    refine lv_iload_n hx hb d_Ch_isPlace_4 rfl (lv_at hl 0 rfl) ?_
    refine lv_bipush (v := nI 64) hx hb d_Ch_isPlace_5 (by decide) ?_
    refine lv_icmp_ge (tgt := 14) hx hb d_Ch_isPlace_7 (by decide) (fun h2 => ?_) (fun h2 => ?_)
    · skip
      have h2 : (64 ≤ j) := (nI_leI (by omega) (by omega)).mp h2
      refine lv_iconst (v := nI 0) hx hb d_Ch_isPlace_14 (by decide) ?_
      exact zret_z C0 hr (zbn (by omega)) hAe hP hD hS (Or.inr ⟨inR_2 (by decide) (by omega) (by omega), rfl, rfl⟩) d_Ch_isPlace_15
    · skip
      have h2 : ¬ (64 ≤ j) := fun z => h2 ((nI_leI (by omega) (by omega)).mpr z)
      refine lv_iconst (v := nI 1) hx hb d_Ch_isPlace_10 (by decide) ?_
      refine lv_goto (tgt := 15) hx hb d_Ch_isPlace_11 (by decide) ?_
      exact zret_z C0 hr (zbn (by omega)) hAe hP hD hS (Or.inl ⟨inR_y (by omega), rfl, rfl⟩) d_Ch_isPlace_15
set_option maxHeartbeats 4000000 in
set_option maxRecDepth 100000 in
theorem m_Ch_isRegister (l : Launch) (D : va_G) (ca : Nat → ClassId) (k : Nat → Nat) (sz : Nat) (ad : Nat → Nat) (x : Int32) : Met l y_Ch_isRegister (zw y_Ch_isRegister c_Ch_isRegister 1 (some .boolean)) { frames := 0, cells := 0, slots := 0, locals := 0 } (va_Pc [.int x] (zPre D (zty ca) k ([]) sz)) (va_Qi (fun r w => (inR x 7 ∧ r = nI 1 ∧ w = []) ∨ (¬ inR x 7 ∧ r = nI 0 ∧ w = [])) (zB D (zty ca) ([]) sz) (va_A ([]) sz)) 0 0 (va_A ([]) sz) := by
  refine zOf (own := "DigitChip") (by decide +kernel) rfl (Nat.le_of_ble_eq_true rfl) ?_
  intro p e s m below meth c A ls C0 hr hnm hAe hsz hl hP hD hS
  have hl : lv_has ls 1 [(0, .int x)] := hl
  obtain ⟨hx, hb, hml, hown, ht, hK, hX, hA, hlk⟩ := id C0
  refine lv_iload_n hx hb d_Ch_isRegister_0 rfl (lv_at hl 0 rfl) ?_
  refine lv_if_lt (tgt := 14) hx hb d_Ch_isRegister_1 (by decide) (fun h1 => ?_) (fun h1 => ?_)
  · skip
    refine lv_iconst (v := nI 0) hx hb d_Ch_isRegister_14 (by decide) ?_
    exact zret_z C0 hr (zbn (by omega)) hAe hP hD hS (Or.inr ⟨inR_1 (by decide) h1, rfl, rfl⟩) d_Ch_isRegister_15
  · skip
    obtain ⟨j, hj, rfl⟩ := nI_of h1
    refine lv_iload_n hx hb d_Ch_isRegister_4 rfl (lv_at hl 0 rfl) ?_
    refine lv_bipush (v := nI 7) hx hb d_Ch_isRegister_5 (by decide) ?_
    refine lv_icmp_ge (tgt := 14) hx hb d_Ch_isRegister_7 (by decide) (fun h2 => ?_) (fun h2 => ?_)
    · skip
      have h2 : (7 ≤ j) := (nI_leI (by omega) (by omega)).mp h2
      refine lv_iconst (v := nI 0) hx hb d_Ch_isRegister_14 (by decide) ?_
      exact zret_z C0 hr (zbn (by omega)) hAe hP hD hS (Or.inr ⟨inR_2 (by decide) (by omega) (by omega), rfl, rfl⟩) d_Ch_isRegister_15
    · skip
      have h2 : ¬ (7 ≤ j) := fun z => h2 ((nI_leI (by omega) (by omega)).mpr z)
      refine lv_iconst (v := nI 1) hx hb d_Ch_isRegister_10 (by decide) ?_
      refine lv_goto (tgt := 15) hx hb d_Ch_isRegister_11 (by decide) ?_
      exact zret_z C0 hr (zbn (by omega)) hAe hP hD hS (Or.inl ⟨inR_y (by omega), rfl, rfl⟩) d_Ch_isRegister_15
set_option maxHeartbeats 4000000 in
set_option maxRecDepth 100000 in
theorem m_Ch_illAt (l : Launch) (D : va_G) (ca : Nat → ClassId) (k : Nat → Nat) (sz : Nat) (ad : Nat → Nat) (tx : Nat → Nat) (ln : Nat) (lb : Nat → Int32) (bg : Nat → Nat) (ch : Int32) (ct : Nat) (ia : Int32) (wo : Nat → Nat) (me nu ro : Nat → Nat) (un li pt : Nat) (st : Int32) (cy pl bk en kc : Nat)  : Met l y_Ch_illAt (zw y_Ch_illAt c_Ch_illAt 1 (some .int)) { frames := 0, cells := 0, slots := 0, locals := 0 } (va_Pc [.ref (ad 0)] (zPre D (zty ca) k (wX ad ca  ++ (wA ad ca tx ln lb bg ch ct ia ++ (wW ad ca wo ++ (wP ad ca me nu ro un li pt st cy pl bk en kc)))) sz)) (va_Qi (fun r w => r = ia ∧ w = wX ad ca ++ (wA ad ca tx ln lb bg ch ct ia ++ (wW ad ca wo ++ (wP ad ca me nu ro un li pt st cy pl bk en kc)))) (zB D (zty ca) (wX ad ca  ++ (wA ad ca tx ln lb bg ch ct ia ++ (wW ad ca wo ++ (wP ad ca me nu ro un li pt st cy pl bk en kc)))) sz) (va_A (wX ad ca  ++ (wA ad ca tx ln lb bg ch ct ia ++ (wW ad ca wo ++ (wP ad ca me nu ro un li pt st cy pl bk en kc)))) sz)) 0 0 (va_A (wX ad ca  ++ (wA ad ca tx ln lb bg ch ct ia ++ (wW ad ca wo ++ (wP ad ca me nu ro un li pt st cy pl bk en kc)))) sz) := by
  refine zOf (own := "DigitChip") (by decide +kernel) rfl (Nat.le_of_ble_eq_true rfl) ?_
  intro p e s m below meth c A ls C0 hr hnm hAe hsz hl hP hD hS
  have hl : lv_has ls 1 [(0, .ref (ad 0))] := hl
  obtain ⟨hx, hb, hml, hown, ht, hK, hX, hA, hlk⟩ := id C0
  refine lv_aload_n hx hb d_Ch_illAt_0 rfl (lv_at hl 0 rfl) ?_
  refine va_get (D := D) (ci := 4) (v := .ref (ad 1)) (C := RCh) (T := TCh) (N := 2) hx hb ht inCh hown hK hP 0 rfl rfl 0 (by decide) (ht _ q150) (fun _ h9 => h9) rfl d_Ch_illAt_1 ?_
  refine va_get (D := D) (ci := 0) (v := .int ia) (C := RAs) (T := TAs) (N := 8) hx hb ht inAs hown hK hP 1 rfl rfl 7 (by decide) (ht _ q53) (fun _ h9 => h9) rfl d_Ch_illAt_4 ?_
  exact zret_i C0 hr hAe hP hD hS ⟨rfl, rfl⟩ d_Ch_illAt_7
set_option maxHeartbeats 4000000 in
set_option maxRecDepth 100000 in
theorem m_Ch_keys (l : Launch) (D : va_G) (ca : Nat → ClassId) (k : Nat → Nat) (sz : Nat) (ad : Nat → Nat) (tx : Nat → Nat) (ln : Nat) (lb : Nat → Int32) (bg : Nat → Nat) (ch : Int32) (ct : Nat) (ia : Int32) (wo : Nat → Nat) (me nu ro : Nat → Nat) (un li pt : Nat) (st : Int32) (cy pl bk en kc : Nat)  : Met l y_Ch_keys (zw y_Ch_keys c_Ch_keys 1 (some .int)) { frames := 0, cells := 0, slots := 0, locals := 0 } (va_Pc [.ref (ad 0)] (zPre D (zty ca) k (wX ad ca  ++ (wA ad ca tx ln lb bg ch ct ia ++ (wW ad ca wo ++ (wP ad ca me nu ro un li pt st cy pl bk en kc)))) sz)) (va_Qi (fun r w => r = nI kc ∧ w = wX ad ca ++ (wA ad ca tx ln lb bg ch ct ia ++ (wW ad ca wo ++ (wP ad ca me nu ro un li pt st cy pl bk en kc)))) (zB D (zty ca) (wX ad ca  ++ (wA ad ca tx ln lb bg ch ct ia ++ (wW ad ca wo ++ (wP ad ca me nu ro un li pt st cy pl bk en kc)))) sz) (va_A (wX ad ca  ++ (wA ad ca tx ln lb bg ch ct ia ++ (wW ad ca wo ++ (wP ad ca me nu ro un li pt st cy pl bk en kc)))) sz)) 0 0 (va_A (wX ad ca  ++ (wA ad ca tx ln lb bg ch ct ia ++ (wW ad ca wo ++ (wP ad ca me nu ro un li pt st cy pl bk en kc)))) sz) := by
  refine zOf (own := "DigitChip") (by decide +kernel) rfl (Nat.le_of_ble_eq_true rfl) ?_
  intro p e s m below meth c A ls C0 hr hnm hAe hsz hl hP hD hS
  have hl : lv_has ls 1 [(0, .ref (ad 0))] := hl
  obtain ⟨hx, hb, hml, hown, ht, hK, hX, hA, hlk⟩ := id C0
  refine lv_aload_n hx hb d_Ch_keys_0 rfl (lv_at hl 0 rfl) ?_
  refine va_get (D := D) (ci := 4) (v := .ref (ad 6)) (C := RCh) (T := TCh) (N := 2) hx hb ht inCh hown hK hP 0 rfl rfl 1 (by decide) (ht _ q151) (fun _ h9 => h9) rfl d_Ch_keys_1 ?_
  refine va_get (D := D) (ci := 1) (v := .ref (ad 10)) (C := RPr) (T := TPr) (N := 9) hx hb ht inPr hown hK hP 6 rfl rfl 2 (by decide) (ht _ q119) (fun _ h9 => h9) rfl d_Ch_keys_4 ?_
  refine va_get (D := D) (ci := 3) (v := .int (nI kc)) (C := RWa) (T := TWa) (N := 2) hx hb ht inWa hown hK hP 10 rfl rfl 1 (by decide) (ht _ q108) (fun _ h9 => h9) rfl d_Ch_keys_7 ?_
  exact zret_i C0 hr hAe hP hD hS ⟨rfl, rfl⟩ d_Ch_keys_10
set_option maxHeartbeats 4000000 in
set_option maxRecDepth 100000 in
theorem m_Ch_word (l : Launch) (D : va_G) (ca : Nat → ClassId) (k : Nat → Nat) (sz : Nat) (ad : Nat → Nat) (tx : Nat → Nat) (ln : Nat) (lb : Nat → Int32) (bg : Nat → Nat) (ch : Int32) (ct : Nat) (ia : Int32) (wo : Nat → Nat) (me nu ro : Nat → Nat) (un li pt : Nat) (st : Int32) (cy pl bk en kc : Nat) (x : Int32) : Met l y_Ch_word (zw y_Ch_word c_Ch_word 2 (some .int)) { frames := 1, cells := 0, slots := 0, locals := 20 } (va_Pc [.ref (ad 0), .int x] (zPre D (zty ca) k (wX ad ca  ++ (wA ad ca tx ln lb bg ch ct ia ++ (wW ad ca wo ++ (wP ad ca me nu ro un li pt st cy pl bk en kc)))) sz)) (va_Qi (fun r w => (inR x 64 ∧ r = nI (me x.toNatClampNeg) ∧ w = wX ad ca ++ (wA ad ca tx ln lb bg ch ct ia ++ (wW ad ca wo ++ (wP ad ca me nu ro un li pt st cy pl bk en kc)))) ∨ (¬ inR x 64 ∧ r = (-1) ∧ w = wX ad ca ++ (wA ad ca tx ln lb bg ch ct ia ++ (wW ad ca wo ++ (wP ad ca me nu ro un li pt st cy pl bk en kc))))) (zB D (zty ca) (wX ad ca  ++ (wA ad ca tx ln lb bg ch ct ia ++ (wW ad ca wo ++ (wP ad ca me nu ro un li pt st cy pl bk en kc)))) sz) (va_A (wX ad ca  ++ (wA ad ca tx ln lb bg ch ct ia ++ (wW ad ca wo ++ (wP ad ca me nu ro un li pt st cy pl bk en kc)))) sz)) 0 0 (va_A (wX ad ca  ++ (wA ad ca tx ln lb bg ch ct ia ++ (wW ad ca wo ++ (wP ad ca me nu ro un li pt st cy pl bk en kc)))) sz) := by
  refine zOf (own := "DigitChip") (by decide +kernel) rfl (Nat.le_of_ble_eq_true rfl) ?_
  intro p e s m below meth c A ls C0 hr hnm hAe hsz hl hP hD hS
  have hl : lv_has ls 2 [(0, .ref (ad 0)), (1, .int x)] := hl
  obtain ⟨hx, hb, hml, hown, ht, hK, hX, hA, hlk⟩ := id C0
  refine lv_iload_n hx hb d_Ch_word_0 rfl (lv_at hl 1 rfl) ?_
  refine zgo_i (wr := wX ad ca  ++ wA ad ca tx ln lb bg ch ct ia ++ wW ad ca wo ++ wP ad ca me nu ro un li pt st cy pl bk en kc) C0 (zrunS (na := 1) (As := [.int x]) (rest := []) C0 hP hD hS [] rfl rfl (m_Ch_isPlace l D ca k s.heap.size ad x) (zg_S q173 q174 q1 q175) (by decide +kernel) rfl rfl ⟨by decide, by decide⟩ rfl hl.1 rfl (Nat.le_of_ble_eq_true rfl) d_Ch_word_1 ⟨Nat.zero_le _, Nat.zero_le _⟩) hP hD hS [] [0, 1, 2, 3, 4, 5, 6, 7, 8, 9, 10, 11] rfl rfl (by decide) (by decide) (fun r1 w1 H locs hw hP hD hS => ?_)
  rcases hw with ⟨⟨j1, hj1, rfl⟩, rfl, rfl⟩ | ⟨hj1, rfl, rfl⟩
  · skip
    have hP : va_P D vCl (wX ad ca  ++ (wA ad ca tx ln lb bg ch ct ia ++ (wW ad ca wo ++ (wP ad ca me nu ro un li pt st cy pl bk en kc)))) H := hP
    have hD : va_D A (wX ad ca  ++ (wA ad ca tx ln lb bg ch ct ia ++ (wW ad ca wo ++ (wP ad ca me nu ro un li pt st cy pl bk en kc)))) := hD
    refine lv_if_eq (tgt := 19) hx hb d_Ch_word_4 (by decide) (fun h2 => absurd h2 (by decide)) (fun _ => ?_)
    refine lv_aload_n hx hb d_Ch_word_7 rfl (lv_at hl 0 rfl) ?_
    refine va_get (D := D) (ci := 4) (v := .ref (ad 6)) (C := RCh) (T := TCh) (N := 2) hx hb ht inCh hown hK hP 0 rfl rfl 1 (by decide) (ht _ q151) (fun _ h9 => h9) rfl d_Ch_word_8 ?_
    refine va_get (D := D) (ci := 1) (v := .ref (ad 7)) (C := RPr) (T := TPr) (N := 9) hx hb ht inPr hown hK hP 6 rfl rfl 0 (by decide) (ht _ q115) (fun _ h9 => h9) rfl d_Ch_word_11 ?_
    refine lv_iload_n hx hb d_Ch_word_14 rfl (lv_at hl 1 rfl) ?_
    refine va_iald hx hb hK hP 7 0 rfl rfl (vp_in_nI (n := j1) (by omega) (by decide)) d_Ch_word_15 ?_
    refine zti (y := nI (me j1)) (nF_at (by omega)) ?_
    refine lv_goto (tgt := 20) hx hb d_Ch_word_16 (by decide) ?_
    exact zret_i C0 hr hAe hP hD hS (Or.inl ⟨inR_y (by omega), by rw [nI_clamp (by omega)], rfl⟩) d_Ch_word_20
  · skip
    have hP : va_P D vCl (wX ad ca  ++ (wA ad ca tx ln lb bg ch ct ia ++ (wW ad ca wo ++ (wP ad ca me nu ro un li pt st cy pl bk en kc)))) H := hP
    have hD : va_D A (wX ad ca  ++ (wA ad ca tx ln lb bg ch ct ia ++ (wW ad ca wo ++ (wP ad ca me nu ro un li pt st cy pl bk en kc)))) := hD
    refine lv_if_eq (tgt := 19) hx hb d_Ch_word_4 (by decide) (fun _ => ?_) (fun h3 => absurd (by decide) h3)
    refine lv_iconst (v := (-1)) hx hb d_Ch_word_19 (by decide) ?_
    exact zret_i C0 hr hAe hP hD hS (Or.inr ⟨hj1, rfl, rfl⟩) d_Ch_word_20
set_option maxHeartbeats 4000000 in
set_option maxRecDepth 100000 in
theorem m_Ch_value (l : Launch) (D : va_G) (ca : Nat → ClassId) (k : Nat → Nat) (sz : Nat) (ad : Nat → Nat) (tx : Nat → Nat) (ln : Nat) (lb : Nat → Int32) (bg : Nat → Nat) (ch : Int32) (ct : Nat) (ia : Int32) (wo : Nat → Nat) (me nu ro : Nat → Nat) (un li pt : Nat) (st : Int32) (cy pl bk en kc : Nat) (x : Int32) : Met l y_Ch_value (zw y_Ch_value c_Ch_value 2 (some .long)) { frames := 1, cells := 0, slots := 0, locals := 20 } (va_Pc [.ref (ad 0), .int x] (zPre D (zty ca) k (wX ad ca  ++ (wA ad ca tx ln lb bg ch ct ia ++ (wW ad ca wo ++ (wP ad ca me nu ro un li pt st cy pl bk en kc)))) sz)) (va_Ql (fun r w => (inR x 7 ∧ r = lN (nu x.toNatClampNeg) ∧ w = wX ad ca ++ (wA ad ca tx ln lb bg ch ct ia ++ (wW ad ca wo ++ (wP ad ca me nu ro un li pt st cy pl bk en kc)))) ∨ (¬ inR x 7 ∧ r = (-1) ∧ w = wX ad ca ++ (wA ad ca tx ln lb bg ch ct ia ++ (wW ad ca wo ++ (wP ad ca me nu ro un li pt st cy pl bk en kc))))) (zB D (zty ca) (wX ad ca  ++ (wA ad ca tx ln lb bg ch ct ia ++ (wW ad ca wo ++ (wP ad ca me nu ro un li pt st cy pl bk en kc)))) sz) (va_A (wX ad ca  ++ (wA ad ca tx ln lb bg ch ct ia ++ (wW ad ca wo ++ (wP ad ca me nu ro un li pt st cy pl bk en kc)))) sz)) 0 0 (va_A (wX ad ca  ++ (wA ad ca tx ln lb bg ch ct ia ++ (wW ad ca wo ++ (wP ad ca me nu ro un li pt st cy pl bk en kc)))) sz) := by
  refine zOf (own := "DigitChip") (by decide +kernel) rfl (Nat.le_of_ble_eq_true rfl) ?_
  intro p e s m below meth c A ls C0 hr hnm hAe hsz hl hP hD hS
  have hl : lv_has ls 2 [(0, .ref (ad 0)), (1, .int x)] := hl
  obtain ⟨hx, hb, hml, hown, ht, hK, hX, hA, hlk⟩ := id C0
  refine lv_iload_n hx hb d_Ch_value_0 rfl (lv_at hl 1 rfl) ?_
  refine zgo_i (wr := wX ad ca  ++ wA ad ca tx ln lb bg ch ct ia ++ wW ad ca wo ++ wP ad ca me nu ro un li pt st cy pl bk en kc) C0 (zrunS (na := 1) (As := [.int x]) (rest := []) C0 hP hD hS [] rfl rfl (m_Ch_isRegister l D ca k s.heap.size ad x) (zg_S q196 q197 q1 q198) (by decide +kernel) rfl rfl ⟨by decide, by decide⟩ rfl hl.1 rfl (Nat.le_of_ble_eq_true rfl) d_Ch_value_1 ⟨Nat.zero_le _, Nat.zero_le _⟩) hP hD hS [] [0, 1, 2, 3, 4, 5, 6, 7, 8, 9, 10, 11] rfl rfl (by decide) (by decide) (fun r1 w1 H locs hw hP hD hS => ?_)
  rcases hw with ⟨⟨j1, hj1, rfl⟩, rfl, rfl⟩ | ⟨hj1, rfl, rfl⟩
  · skip
    have hP : va_P D vCl (wX ad ca  ++ (wA ad ca tx ln lb bg ch ct ia ++ (wW ad ca wo ++ (wP ad ca me nu ro un li pt st cy pl bk en kc)))) H := hP
    have hD : va_D A (wX ad ca  ++ (wA ad ca tx ln lb bg ch ct ia ++ (wW ad ca wo ++ (wP ad ca me nu ro un li pt st cy pl bk en kc)))) := hD
    refine lv_if_eq (tgt := 22) hx hb d_Ch_value_4 (by decide) (fun h2 => absurd h2 (by decide)) (fun _ => ?_)
    refine lv_aload_n hx hb d_Ch_value_7 rfl (lv_at hl 0 rfl) ?_
    refine va_get (D := D) (ci := 4) (v := .ref (ad 6)) (C := RCh) (T := TCh) (N := 2) hx hb ht inCh hown hK hP 0 rfl rfl 1 (by decide) (ht _ q151) (fun _ h9 => h9) rfl d_Ch_value_8 ?_
    refine va_get (D := D) (ci := 1) (v := .ref (ad 8)) (C := RPr) (T := TPr) (N := 9) hx hb ht inPr hown hK hP 6 rfl rfl 1 (by decide) (ht _ q117) (fun _ h9 => h9) rfl d_Ch_value_11 ?_
    refine va_get (D := D) (ci := 2) (v := .ref (ad 9)) (C := RRe) (T := TRe) (N := 3) hx hb ht inRe hown hK hP 8 rfl rfl 0 (by decide) (ht _ q87) (fun _ h9 => h9) rfl d_Ch_value_14 ?_
    refine lv_iload_n hx hb d_Ch_value_17 rfl (lv_at hl 1 rfl) ?_
    refine va_lald hx hb hK hP 9 1 rfl rfl (vp_in_nI (n := j1) (by omega) (by decide)) d_Ch_value_18 ?_
    refine ztl (y := lN (nu j1)) (lF_at (by omega)) ?_
    refine lv_goto (tgt := 25) hx hb d_Ch_value_19 (by decide) ?_
    exact zret_l C0 hr hAe hP hD hS (Or.inl ⟨inR_y (by omega), by rw [nI_clamp (by omega)], rfl⟩) d_Ch_value_25
  · skip
    have hP : va_P D vCl (wX ad ca  ++ (wA ad ca tx ln lb bg ch ct ia ++ (wW ad ca wo ++ (wP ad ca me nu ro un li pt st cy pl bk en kc)))) H := hP
    have hD : va_D A (wX ad ca  ++ (wA ad ca tx ln lb bg ch ct ia ++ (wW ad ca wo ++ (wP ad ca me nu ro un li pt st cy pl bk en kc)))) := hD
    refine lv_if_eq (tgt := 22) hx hb d_Ch_value_4 (by decide) (fun _ => ?_) (fun h3 => absurd (by decide) h3)
    refine lv_ldc2 hx hb hown (ht _ q199) d_Ch_value_22 ?_
    refine ztl (y := (-1)) (by decide) ?_
    exact zret_l C0 hr hAe hP hD hS (Or.inr ⟨hj1, rfl, rfl⟩) d_Ch_value_25
set_option maxHeartbeats 4000000 in
set_option maxRecDepth 100000 in
theorem m_Ch_poke (l : Launch) (D : va_G) (ca : Nat → ClassId) (k : Nat → Nat) (sz : Nat) (ad : Nat → Nat) (tx : Nat → Nat) (ln : Nat) (lb : Nat → Int32) (bg : Nat → Nat) (ch : Int32) (ct : Nat) (ia : Int32) (wo : Nat → Nat) (me nu ro : Nat → Nat) (un li pt : Nat) (st : Int32) (cy pl bk en kc : Nat) (x x1 : Int32) : Met l y_Ch_poke (zw y_Ch_poke c_Ch_poke 3 (some .boolean)) { frames := 1, cells := 0, slots := 0, locals := 20 } (va_Pc [.ref (ad 0), .int x, .int x1] (zPre D (zty ca) k (wX ad ca  ++ (wA ad ca tx ln lb bg ch ct ia ++ (wW ad ca wo ++ (wP ad ca me nu ro un li pt st cy pl bk en kc)))) sz)) (va_Qi (fun r w => ((inR x 64 ∧ inR x1 1024) ∧ r = nI 1 ∧ w = wX ad ca ++ (wA ad ca tx ln lb bg ch ct ia ++ (wW ad ca wo ++ (wP ad ca (uN me x.toNatClampNeg x1.toNatClampNeg) nu ro un li pt st cy pl bk en kc)))) ∨ (¬ (inR x 64 ∧ inR x1 1024) ∧ r = nI 0 ∧ w = wX ad ca ++ (wA ad ca tx ln lb bg ch ct ia ++ (wW ad ca wo ++ (wP ad ca me nu ro un li pt st cy pl bk en kc))))) (zB D (zty ca) (wX ad ca  ++ (wA ad ca tx ln lb bg ch ct ia ++ (wW ad ca wo ++ (wP ad ca me nu ro un li pt st cy pl bk en kc)))) sz) (va_A (wX ad ca  ++ (wA ad ca tx ln lb bg ch ct ia ++ (wW ad ca wo ++ (wP ad ca me nu ro un li pt st cy pl bk en kc)))) sz)) 0 0 (va_A (wX ad ca  ++ (wA ad ca tx ln lb bg ch ct ia ++ (wW ad ca wo ++ (wP ad ca me nu ro un li pt st cy pl bk en kc)))) sz) := by
  refine zOf (own := "DigitChip") (by decide +kernel) rfl (Nat.le_of_ble_eq_true rfl) ?_
  intro p e s m below meth c A ls C0 hr hnm hAe hsz hl hP hD hS
  have hl : lv_has ls 3 [(0, .ref (ad 0)), (1, .int x), (2, .int x1)] := hl
  obtain ⟨hx, hb, hml, hown, ht, hK, hX, hA, hlk⟩ := id C0
  refine lv_iload_n hx hb d_Ch_poke_0 rfl (lv_at hl 1 rfl) ?_
  refine zgo_i (wr := wX ad ca  ++ wA ad ca tx ln lb bg ch ct ia ++ wW ad ca wo ++ wP ad ca me nu ro un li pt st cy pl bk en kc) C0 (zrunS (na := 1) (As := [.int x]) (rest := []) C0 hP hD hS [] rfl rfl (m_Ch_isPlace l D ca k s.heap.size ad x) (zg_S q173 q174 q1 q175) (by decide +kernel) rfl rfl ⟨by decide, by decide⟩ rfl hl.1 rfl (Nat.le_of_ble_eq_true rfl) d_Ch_poke_1 ⟨Nat.zero_le _, Nat.zero_le _⟩) hP hD hS [] [0, 1, 2, 3, 4, 5, 6, 7, 8, 9, 10, 11] rfl rfl (by decide) (by decide) (fun r1 w1 H locs hw hP hD hS => ?_)
  rcases hw with ⟨⟨j1, hj1, rfl⟩, rfl, rfl⟩ | ⟨hj1, rfl, rfl⟩
  · skip
    have hP : va_P D vCl (wX ad ca  ++ (wA ad ca tx ln lb bg ch ct ia ++ (wW ad ca wo ++ (wP ad ca me nu ro un li pt st cy pl bk en kc)))) H := hP
    have hD : va_D A (wX ad ca  ++ (wA ad ca tx ln lb bg ch ct ia ++ (wW ad ca wo ++ (wP ad ca me nu ro un li pt st cy pl bk en kc)))) := hD
    refine lv_if_eq (tgt := 18) hx hb d_Ch_poke_4 (by decide) (fun h2 => absurd h2 (by decide)) (fun _ => ?_)
    refine lv_iload_n hx hb d_Ch_poke_7 rfl (lv_at hl 2 rfl) ?_
    refine lv_if_lt (tgt := 18) hx hb d_Ch_poke_8 (by decide) (fun h3 => ?_) (fun h3 => ?_)
    · skip
      refine lv_iconst (v := nI 0) hx hb d_Ch_poke_18 (by decide) ?_
      exact zret_z C0 hr (zbn (by omega)) hAe hP hD hS (Or.inr ⟨fun z => inR_1 (by decide) h3 z.2, rfl, rfl⟩) d_Ch_poke_19
    · skip
      obtain ⟨i, hi, rfl⟩ := nI_of h3
      refine lv_iload_n hx hb d_Ch_poke_11 rfl (lv_at hl 2 rfl) ?_
      refine lv_sipush (v := nI 1024) hx hb d_Ch_poke_12 (by decide) ?_
      refine lv_icmp_lt (tgt := 20) hx hb d_Ch_poke_15 (by decide) (fun h4 => ?_) (fun h4 => ?_)
      · skip
        have h4 : (i < 1024) := (nI_ltI (by omega) (by omega)).mp h4
        refine lv_aload_n hx hb d_Ch_poke_20 rfl (lv_at hl 0 rfl) ?_
        refine va_get (D := D) (ci := 4) (v := .ref (ad 6)) (C := RCh) (T := TCh) (N := 2) hx hb ht inCh hown hK hP 0 rfl rfl 1 (by decide) (ht _ q151) (fun _ h9 => h9) rfl d_Ch_poke_21 ?_
        refine va_get (D := D) (ci := 1) (v := .ref (ad 7)) (C := RPr) (T := TPr) (N := 9) hx hb ht inPr hown hK hP 6 rfl rfl 0 (by decide) (ht _ q115) (fun _ h9 => h9) rfl d_Ch_poke_24 ?_
        refine lv_iload_n hx hb d_Ch_poke_27 rfl (lv_at hl 1 rfl) ?_
        refine lv_iload_n hx hb d_Ch_poke_28 rfl (lv_at hl 2 rfl) ?_
        refine va_iast hx hb hK hP hD hS 7 0 rfl rfl (vp_in_nI (n := j1) (by omega) (by decide)) d_Ch_poke_29 (fun H locs hP hD hS => ?_)
        rw [nF_up (by omega)] at hP hD
        have hP : va_P D vCl (wX ad ca  ++ (wA ad ca tx ln lb bg ch ct ia ++ (wW ad ca wo ++ (wP ad ca (uN me j1 i) nu ro un li pt st cy pl bk en kc)))) H := hP
        have hD : va_D A (wX ad ca  ++ (wA ad ca tx ln lb bg ch ct ia ++ (wW ad ca wo ++ (wP ad ca (uN me j1 i) nu ro un li pt st cy pl bk en kc)))) := hD
        refine lv_iconst (v := nI 1) hx hb d_Ch_poke_30 (by decide) ?_
        exact zret_z C0 hr (zbn (by omega)) hAe hP hD hS (Or.inl ⟨⟨inR_y (by omega), inR_y (by omega)⟩, rfl, by rw [nI_clamp (by omega), nI_clamp (by omega)]⟩) d_Ch_poke_31
      · skip
        have h4 : ¬ (i < 1024) := fun z => h4 ((nI_ltI (by omega) (by omega)).mpr z)
        refine lv_iconst (v := nI 0) hx hb d_Ch_poke_18 (by decide) ?_
        exact zret_z C0 hr (zbn (by omega)) hAe hP hD hS (Or.inr ⟨fun z => inR_2 (by decide) (by omega) (by omega) z.2, rfl, rfl⟩) d_Ch_poke_19
  · skip
    have hP : va_P D vCl (wX ad ca  ++ (wA ad ca tx ln lb bg ch ct ia ++ (wW ad ca wo ++ (wP ad ca me nu ro un li pt st cy pl bk en kc)))) H := hP
    have hD : va_D A (wX ad ca  ++ (wA ad ca tx ln lb bg ch ct ia ++ (wW ad ca wo ++ (wP ad ca me nu ro un li pt st cy pl bk en kc)))) := hD
    refine lv_if_eq (tgt := 18) hx hb d_Ch_poke_4 (by decide) (fun _ => ?_) (fun h5 => absurd (by decide) h5)
    refine lv_iconst (v := nI 0) hx hb d_Ch_poke_18 (by decide) ?_
    exact zret_z C0 hr (zbn (by omega)) hAe hP hD hS (Or.inr ⟨fun z => hj1 z.1, rfl, rfl⟩) d_Ch_poke_19
set_option maxHeartbeats 4000000 in
set_option maxRecDepth 100000 in
theorem m_Ch_go (l : Launch) (D : va_G) (ca : Nat → ClassId) (k : Nat → Nat) (sz : Nat) (ad : Nat → Nat) (tx : Nat → Nat) (ln : Nat) (lb : Nat → Int32) (bg : Nat → Nat) (ch : Int32) (ct : Nat) (ia : Int32) (wo : Nat → Nat) (me nu ro : Nat → Nat) (un li pt : Nat) (st : Int32) (cy pl bk en kc : Nat) (x : Int32) : Met l y_Ch_go (zw y_Ch_go c_Ch_go 2 (some .boolean)) { frames := 1, cells := 0, slots := 0, locals := 20 } (va_Pc [.ref (ad 0), .int x] (zPre D (zty ca) k (wX ad ca  ++ (wA ad ca tx ln lb bg ch ct ia ++ (wW ad ca wo ++ (wP ad ca me nu ro un li pt st cy pl bk en kc)))) sz)) (va_Qi (fun r w => (inR x 64 ∧ r = nI 1 ∧ w = wX ad ca ++ (wA ad ca tx ln lb bg ch ct ia ++ (wW ad ca wo ++ (wP ad ca me nu ro un li pt st cy x.toNatClampNeg bk en kc)))) ∨ (¬ inR x 64 ∧ r = nI 0 ∧ w = wX ad ca ++ (wA ad ca tx ln lb bg ch ct ia ++ (wW ad ca wo ++ (wP ad ca me nu ro un li pt st cy pl bk en kc))))) (zB D (zty ca) (wX ad ca  ++ (wA ad ca tx ln lb bg ch ct ia ++ (wW ad ca wo ++ (wP ad ca me nu ro un li pt st cy pl bk en kc)))) sz) (va_A (wX ad ca  ++ (wA ad ca tx ln lb bg ch ct ia ++ (wW ad ca wo ++ (wP ad ca me nu ro un li pt st cy pl bk en kc)))) sz)) 0 0 (va_A (wX ad ca  ++ (wA ad ca tx ln lb bg ch ct ia ++ (wW ad ca wo ++ (wP ad ca me nu ro un li pt st cy pl bk en kc)))) sz) := by
  refine zOf (own := "DigitChip") (by decide +kernel) rfl (Nat.le_of_ble_eq_true rfl) ?_
  intro p e s m below meth c A ls C0 hr hnm hAe hsz hl hP hD hS
  have hl : lv_has ls 2 [(0, .ref (ad 0)), (1, .int x)] := hl
  obtain ⟨hx, hb, hml, hown, ht, hK, hX, hA, hlk⟩ := id C0
  refine lv_iload_n hx hb d_Ch_go_0 rfl (lv_at hl 1 rfl) ?_
  refine zgo_i (wr := wX ad ca  ++ wA ad ca tx ln lb bg ch ct ia ++ wW ad ca wo ++ wP ad ca me nu ro un li pt st cy pl bk en kc) C0 (zrunS (na := 1) (As := [.int x]) (rest := []) C0 hP hD hS [] rfl rfl (m_Ch_isPlace l D ca k s.heap.size ad x) (zg_S q173 q174 q1 q175) (by decide +kernel) rfl rfl ⟨by decide, by decide⟩ rfl hl.1 rfl (Nat.le_of_ble_eq_true rfl) d_Ch_go_1 ⟨Nat.zero_le _, Nat.zero_le _⟩) hP hD hS [] [0, 1, 2, 3, 4, 5, 6, 7, 8, 9, 10, 11] rfl rfl (by decide) (by decide) (fun r1 w1 H locs hw hP hD hS => ?_)
  rcases hw with ⟨⟨j1, hj1, rfl⟩, rfl, rfl⟩ | ⟨hj1, rfl, rfl⟩
  · skip
    have hP : va_P D vCl (wX ad ca  ++ (wA ad ca tx ln lb bg ch ct ia ++ (wW ad ca wo ++ (wP ad ca me nu ro un li pt st cy pl bk en kc)))) H := hP
    have hD : va_D A (wX ad ca  ++ (wA ad ca tx ln lb bg ch ct ia ++ (wW ad ca wo ++ (wP ad ca me nu ro un li pt st cy pl bk en kc)))) := hD
    refine lv_if_ne (tgt := 9) hx hb d_Ch_go_4 (by decide) (fun _ => ?_) (fun h2 => absurd h2 (by decide))
    refine lv_aload_n hx hb d_Ch_go_9 rfl (lv_at hl 0 rfl) ?_
    refine va_get (D := D) (ci := 4) (v := .ref (ad 6)) (C := RCh) (T := TCh) (N := 2) hx hb ht inCh hown hK hP 0 rfl rfl 1 (by decide) (ht _ q151) (fun _ h9 => h9) rfl d_Ch_go_10 ?_
    refine lv_iload_n hx hb d_Ch_go_13 rfl (lv_at hl 1 rfl) ?_
    refine va_put (D := D) (ci := 1) (v := .int (nI j1)) (ty := .int) (C := RPr) (T := TPr) (N := 9) hx hb ht inPr tyPr tyPr_ok nmPr hown hK hP hD hS 6 rfl rfl 6 (by decide) (ht _ q127) (fun _ h9 => h9) rfl (by decide +kernel) rfl rfl (Nat.le_of_ble_eq_true rfl) d_Ch_go_14 (fun H locs hP hD hS => ?_)
    have hP : va_P D vCl (wX ad ca  ++ (wA ad ca tx ln lb bg ch ct ia ++ (wW ad ca wo ++ (wP ad ca me nu ro un li pt st cy j1 bk en kc)))) H := hP
    have hD : va_D A (wX ad ca  ++ (wA ad ca tx ln lb bg ch ct ia ++ (wW ad ca wo ++ (wP ad ca me nu ro un li pt st cy j1 bk en kc)))) := hD
    refine lv_iconst (v := nI 1) hx hb d_Ch_go_17 (by decide) ?_
    exact zret_z C0 hr (zbn (by omega)) hAe hP hD hS (Or.inl ⟨inR_y (by omega), rfl, by rw [nI_clamp (by omega)]⟩) d_Ch_go_18
  · skip
    have hP : va_P D vCl (wX ad ca  ++ (wA ad ca tx ln lb bg ch ct ia ++ (wW ad ca wo ++ (wP ad ca me nu ro un li pt st cy pl bk en kc)))) H := hP
    have hD : va_D A (wX ad ca  ++ (wA ad ca tx ln lb bg ch ct ia ++ (wW ad ca wo ++ (wP ad ca me nu ro un li pt st cy pl bk en kc)))) := hD
    refine lv_if_ne (tgt := 9) hx hb d_Ch_go_4 (by decide) (fun h3 => absurd (by decide) h3) (fun _ => ?_)
    refine lv_iconst (v := nI 0) hx hb d_Ch_go_7 (by decide) ?_
    exact zret_z C0 hr (zbn (by omega)) hAe hP hD hS (Or.inr ⟨hj1, rfl, rfl⟩) d_Ch_go_8
set_option maxHeartbeats 4000000 in
set_option maxRecDepth 100000 in
theorem m_Ch_set (l : Launch) (D : va_G) (ca : Nat → ClassId) (k : Nat → Nat) (sz : Nat) (ad : Nat → Nat) (tx : Nat → Nat) (ln : Nat) (lb : Nat → Int32) (bg : Nat → Nat) (ch : Int32) (ct : Nat) (ia : Int32) (wo : Nat → Nat) (me nu ro : Nat → Nat) (un li pt : Nat) (st : Int32) (cy pl bk en kc : Nat) (x : Int32) (v : Int64) : Met l y_Ch_set (zw y_Ch_set c_Ch_set 4 (some .boolean)) { frames := 1, cells := 0, slots := 0, locals := 20 } (va_Pc [.ref (ad 0), .int x, .long v] (zPre D (zty ca) k (wX ad ca  ++ (wA ad ca tx ln lb bg ch ct ia ++ (wW ad ca wo ++ (wP ad ca me nu ro un li pt st cy pl bk en kc)))) sz)) (va_Qi (fun r w => ((inR x 7 ∧ ¬ v < 0) ∧ r = nI 1 ∧ w = wX ad ca ++ (wA ad ca tx ln lb bg ch ct ia ++ (wW ad ca wo ++ (wP ad ca me (uN nu x.toNatClampNeg (v.toNatClampNeg % 10 ^ 14)) ro un li pt st cy pl bk en kc)))) ∨ (¬ (inR x 7 ∧ ¬ v < 0) ∧ r = nI 0 ∧ w = wX ad ca ++ (wA ad ca tx ln lb bg ch ct ia ++ (wW ad ca wo ++ (wP ad ca me nu ro un li pt st cy pl bk en kc))))) (zB D (zty ca) (wX ad ca  ++ (wA ad ca tx ln lb bg ch ct ia ++ (wW ad ca wo ++ (wP ad ca me nu ro un li pt st cy pl bk en kc)))) sz) (va_A (wX ad ca  ++ (wA ad ca tx ln lb bg ch ct ia ++ (wW ad ca wo ++ (wP ad ca me nu ro un li pt st cy pl bk en kc)))) sz)) 0 0 (va_A (wX ad ca  ++ (wA ad ca tx ln lb bg ch ct ia ++ (wW ad ca wo ++ (wP ad ca me nu ro un li pt st cy pl bk en kc)))) sz) := by
  refine zOf (own := "DigitChip") (by decide +kernel) rfl (Nat.le_of_ble_eq_true rfl) ?_
  intro p e s m below meth c A ls C0 hr hnm hAe hsz hl hP hD hS
  have hl : lv_has ls 4 [(0, .ref (ad 0)), (1, .int x), (2, .long v)] := hl
  obtain ⟨hx, hb, hml, hown, ht, hK, hX, hA, hlk⟩ := id C0
  refine lv_iload_n hx hb d_Ch_set_0 rfl (lv_at hl 1 rfl) ?_
  refine zgo_i (wr := wX ad ca  ++ wA ad ca tx ln lb bg ch ct ia ++ wW ad ca wo ++ wP ad ca me nu ro un li pt st cy pl bk en kc) C0 (zrunS (na := 1) (As := [.int x]) (rest := []) C0 hP hD hS [] rfl rfl (m_Ch_isRegister l D ca k s.heap.size ad x) (zg_S q196 q197 q1 q198) (by decide +kernel) rfl rfl ⟨by decide, by decide⟩ rfl hl.1 rfl (Nat.le_of_ble_eq_true rfl) d_Ch_set_1 ⟨Nat.zero_le _, Nat.zero_le _⟩) hP hD hS [] [0, 1, 2, 3, 4, 5, 6, 7, 8, 9, 10, 11] rfl rfl (by decide) (by decide) (fun r1 w1 H locs hw hP hD hS => ?_)
  rcases hw with ⟨⟨j1, hj1, rfl⟩, rfl, rfl⟩ | ⟨hj1, rfl, rfl⟩
  · skip
    have hP : va_P D vCl (wX ad ca  ++ (wA ad ca tx ln lb bg ch ct ia ++ (wW ad ca wo ++ (wP ad ca me nu ro un li pt st cy pl bk en kc)))) H := hP
    have hD : va_D A (wX ad ca  ++ (wA ad ca tx ln lb bg ch ct ia ++ (wW ad ca wo ++ (wP ad ca me nu ro un li pt st cy pl bk en kc)))) := hD
    refine lv_if_eq (tgt := 13) hx hb d_Ch_set_4 (by decide) (fun h2 => absurd h2 (by decide)) (fun _ => ?_)
    refine lv_lload_n hx hb d_Ch_set_7 rfl (lv_at hl 2 rfl) ?_
    refine lv_lconst (v := lN 0) hx hb d_Ch_set_8 rfl ?_
    refine W.lcmp hx hb d_Ch_set_9 ?_
    refine lv_if_ge (tgt := 15) hx hb d_Ch_set_10 (by decide) (fun h3 => ?_) (fun h3 => ?_)
    · skip
      have h3 : (lN 0 ≤ v) := (lg_cmp_ge _ _).mp h3
      obtain ⟨i, hi, rfl⟩ := pk_lOf (Int64.not_lt.mpr h3)
      refine lv_aload_n hx hb d_Ch_set_15 rfl (lv_at hl 0 rfl) ?_
      refine va_get (D := D) (ci := 4) (v := .ref (ad 6)) (C := RCh) (T := TCh) (N := 2) hx hb ht inCh hown hK hP 0 rfl rfl 1 (by decide) (ht _ q151) (fun _ h9 => h9) rfl d_Ch_set_16 ?_
      refine va_get (D := D) (ci := 1) (v := .ref (ad 8)) (C := RPr) (T := TPr) (N := 9) hx hb ht inPr hown hK hP 6 rfl rfl 1 (by decide) (ht _ q117) (fun _ h9 => h9) rfl d_Ch_set_19 ?_
      refine va_get (D := D) (ci := 2) (v := .ref (ad 9)) (C := RRe) (T := TRe) (N := 3) hx hb ht inRe hown hK hP 8 rfl rfl 0 (by decide) (ht _ q87) (fun _ h9 => h9) rfl d_Ch_set_22 ?_
      refine lv_iload_n hx hb d_Ch_set_25 rfl (lv_at hl 1 rfl) ?_
      refine lv_lload_n hx hb d_Ch_set_26 rfl (lv_at hl 2 rfl) ?_
      refine va_gets hx hb hX.1 hS hown (ht _ q204) (fun _ h9 => h9) d_Ch_set_27 ?_
      refine lv_bipush (v := nI 14) hx hb d_Ch_set_30 (by decide) ?_
      refine va_tl hx hb hX.2.1 hS (vp_in_nI (n := 14) (by omega) (by decide)) (v := .long (lN (10 ^ 14))) (zten (by omega)) d_Ch_set_32 ?_
      refine lv_lrem hx hb d_Ch_set_33 (zlne (by omega) (by omega)) ?_
      refine ztl (y := lN (i % (10 ^ 14))) (pk_lRem (by omega) (by omega) (by omega)) ?_
      refine va_last hx hb hK hP hD hS 9 1 rfl rfl (vp_in_nI (n := j1) (by omega) (by decide)) d_Ch_set_34 (fun H locs hP hD hS => ?_)
      rw [lF_up (by omega)] at hP hD
      have hP : va_P D vCl (wX ad ca  ++ (wA ad ca tx ln lb bg ch ct ia ++ (wW ad ca wo ++ (wP ad ca me (uN nu j1 (i % (10 ^ 14))) ro un li pt st cy pl bk en kc)))) H := hP
      have hD : va_D A (wX ad ca  ++ (wA ad ca tx ln lb bg ch ct ia ++ (wW ad ca wo ++ (wP ad ca me (uN nu j1 (i % (10 ^ 14))) ro un li pt st cy pl bk en kc)))) := hD
      refine lv_iconst (v := nI 1) hx hb d_Ch_set_35 (by decide) ?_
      exact zret_z C0 hr (zbn (by omega)) hAe hP hD hS (Or.inl ⟨⟨inR_y (by omega), Int64.not_lt.mpr h3⟩, rfl, by rw [nI_clamp (by omega), lN_clamp (by omega)]⟩) d_Ch_set_36
    · skip
      have h3 : ¬ (lN 0 ≤ v) := fun z => h3 ((lg_cmp_ge _ _).mpr z)
      refine lv_iconst (v := nI 0) hx hb d_Ch_set_13 (by decide) ?_
      exact zret_z C0 hr (zbn (by omega)) hAe hP hD hS (Or.inr ⟨fun z => h3 (Int64.not_lt.mp z.2), rfl, rfl⟩) d_Ch_set_14
  · skip
    have hP : va_P D vCl (wX ad ca  ++ (wA ad ca tx ln lb bg ch ct ia ++ (wW ad ca wo ++ (wP ad ca me nu ro un li pt st cy pl bk en kc)))) H := hP
    have hD : va_D A (wX ad ca  ++ (wA ad ca tx ln lb bg ch ct ia ++ (wW ad ca wo ++ (wP ad ca me nu ro un li pt st cy pl bk en kc)))) := hD
    refine lv_if_eq (tgt := 13) hx hb d_Ch_set_4 (by decide) (fun _ => ?_) (fun h4 => absurd (by decide) h4)
    refine lv_iconst (v := nI 0) hx hb d_Ch_set_13 (by decide) ?_
    exact zret_z C0 hr (zbn (by omega)) hAe hP hD hS (Or.inr ⟨fun z => hj1 z.1, rfl, rfl⟩) d_Ch_set_14
set_option maxHeartbeats 4000000 in
set_option maxRecDepth 100000 in
theorem m_Ch_key (l : Launch) (D : va_G) (ca : Nat → ClassId) (k : Nat → Nat) (sz : Nat) (ad : Nat → Nat) (tx : Nat → Nat) (ln : Nat) (lb : Nat → Int32) (bg : Nat → Nat) (ch : Int32) (ct : Nat) (ia : Int32) (wo : Nat → Nat) (me nu ro : Nat → Nat) (un li pt : Nat) (st : Int32) (cy pl bk en kc : Nat) (x : Int32) (hk3 : kc ≤ 3) : Met l y_Ch_key (zw y_Ch_key c_Ch_key 2 (some .boolean)) { frames := 1, cells := 0, slots := 0, locals := 21 } (va_Pc [.ref (ad 0), .int x] (zPre D (zty ca) k (wX ad ca  ++ (wA ad ca tx ln lb bg ch ct ia ++ (wW ad ca wo ++ (wP ad ca me nu ro un li pt st cy pl bk en kc)))) sz)) (va_Qi (fun r w => (kOk x kc ∧ r = nI 1 ∧ w = wX ad ca ++ (wA ad ca tx ln lb bg ch ct ia ++ (wW ad ca wo ++ (wP ad ca me nu (uN ro kc x.toNatClampNeg) un li pt st cy pl bk en (kc + 1))))) ∨ (¬ kOk x kc ∧ r = nI 0 ∧ w = wX ad ca ++ (wA ad ca tx ln lb bg ch ct ia ++ (wW ad ca wo ++ (wP ad ca me nu ro un li pt st cy pl bk en kc))))) (zB D (zty ca) (wX ad ca  ++ (wA ad ca tx ln lb bg ch ct ia ++ (wW ad ca wo ++ (wP ad ca me nu ro un li pt st cy pl bk en kc)))) sz) (va_A (wX ad ca  ++ (wA ad ca tx ln lb bg ch ct ia ++ (wW ad ca wo ++ (wP ad ca me nu ro un li pt st cy pl bk en kc)))) sz)) 0 0 (va_A (wX ad ca  ++ (wA ad ca tx ln lb bg ch ct ia ++ (wW ad ca wo ++ (wP ad ca me nu ro un li pt st cy pl bk en kc)))) sz) := by
  refine zOf (own := "DigitChip") (by decide +kernel) rfl (Nat.le_of_ble_eq_true rfl) ?_
  intro p e s m below meth c A ls C0 hr hnm hAe hsz hl hP hD hS
  have hl : lv_has ls 2 [(0, .ref (ad 0)), (1, .int x)] := hl
  obtain ⟨hx, hb, hml, hown, ht, hK, hX, hA, hlk⟩ := id C0
  refine lv_aload_n hx hb d_Ch_key_0 rfl (lv_at hl 0 rfl) ?_
  refine va_get (D := D) (ci := 4) (v := .ref (ad 6)) (C := RCh) (T := TCh) (N := 2) hx hb ht inCh hown hK hP 0 rfl rfl 1 (by decide) (ht _ q151) (fun _ h9 => h9) rfl d_Ch_key_1 ?_
  refine va_get (D := D) (ci := 1) (v := .ref (ad 10)) (C := RPr) (T := TPr) (N := 9) hx hb ht inPr hown hK hP 6 rfl rfl 2 (by decide) (ht _ q119) (fun _ h9 => h9) rfl d_Ch_key_4 ?_
  refine lv_iload_n hx hb d_Ch_key_7 rfl (lv_at hl 1 rfl) ?_
  refine zgo_i (wr := wX ad ca  ++ wA ad ca tx ln lb bg ch ct ia ++ wW ad ca wo) C0 (zrunV (na := 1) (As := [.int x]) (rest := []) C0 hP hD hS [6, 7, 8, 9, 10, 11] rfl rfl (m_Wa_append l D ca k s.heap.size ad me nu ro un li pt st cy pl bk en kc x (by omega)) (zg_V q184 q185 q186 q6 q187) (by decide +kernel) rfl rfl ⟨by decide, by decide⟩ 10 rfl rfl rfl hl.1 rfl (Nat.le_of_ble_eq_true rfl) d_Ch_key_8 ⟨Nat.zero_le _, Nat.zero_le _⟩) hP hD hS [6, 7, 8, 9, 10, 11] [0, 1, 2, 3, 4, 5] rfl rfl (by decide) (by decide) (fun r1 w1 H locs hw hP hD hS => ?_)
  rcases hw with ⟨hk1, rfl, rfl⟩ | ⟨hk1, rfl, rfl⟩
  · skip
    have hP : va_P D vCl (wX ad ca  ++ (wA ad ca tx ln lb bg ch ct ia ++ (wW ad ca wo ++ (wP ad ca me nu (uN ro kc (x).toNatClampNeg) un li pt st cy pl bk en (kc + 1))))) H := hP
    have hD : va_D A (wX ad ca  ++ (wA ad ca tx ln lb bg ch ct ia ++ (wW ad ca wo ++ (wP ad ca me nu (uN ro kc (x).toNatClampNeg) un li pt st cy pl bk en (kc + 1))))) := hD
    exact zret_z C0 hr (zbn (by omega)) hAe hP hD hS (Or.inl ⟨hk1, rfl, rfl⟩) d_Ch_key_11
  · skip
    have hP : va_P D vCl (wX ad ca  ++ (wA ad ca tx ln lb bg ch ct ia ++ (wW ad ca wo ++ (wP ad ca me nu ro un li pt st cy pl bk en kc)))) H := hP
    have hD : va_D A (wX ad ca  ++ (wA ad ca tx ln lb bg ch ct ia ++ (wW ad ca wo ++ (wP ad ca me nu ro un li pt st cy pl bk en kc)))) := hD
    exact zret_z C0 hr (zbn (by omega)) hAe hP hD hS (Or.inr ⟨hk1, rfl, rfl⟩) d_Ch_key_11
