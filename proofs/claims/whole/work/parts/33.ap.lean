set_option maxHeartbeats 4000000 in
set_option maxRecDepth 100000 in
theorem m_As_append (l : Launch) (D : va_G) (ca : Nat → ClassId) (k : Nat → Nat) (sz : Nat) (ad : Nat → Nat) (tx : Nat → Nat) (ln : Nat) (lb : Nat → Int32) (bg : Nat → Nat) (ch : Int32) (ct : Nat) (ia : Int32) (wo : Nat → Nat) (c0 : Nat) (hc0 : c0 < 65536) (hln : ln ≤ 240) : Met l y_As_append (zw y_As_append c_As_append 2 (some .boolean)) { frames := 0, cells := 0, slots := 0, locals := 0 } (va_Pc [.ref (ad 1), .int (nI c0)] (zPre D (zty ca) k (wA ad ca tx ln lb bg ch ct ia ++ (wW ad ca wo)) sz)) (va_Qi (fun r w => ((32 ≤ c0 ∧ c0 ≤ 126 ∧ ln < 240) ∧ r = nI 1 ∧ w = wA ad ca (uN tx ln c0) (ln + 1) lb bg ch ct ia ++ wW ad ca wo) ∨ (¬ (32 ≤ c0 ∧ c0 ≤ 126 ∧ ln < 240) ∧ r = nI 0 ∧ w = wA ad ca tx ln lb bg ch ct ia ++ wW ad ca wo)) (zB D (zty ca) (wA ad ca tx ln lb bg ch ct ia ++ (wW ad ca wo)) sz) (va_A (wA ad ca tx ln lb bg ch ct ia ++ (wW ad ca wo)) sz)) 0 0 (va_A (wA ad ca tx ln lb bg ch ct ia ++ (wW ad ca wo)) sz) := by
  refine zOf (own := "DigitChip$Assembler") (by decide +kernel) rfl (Nat.le_of_ble_eq_true rfl) ?_
  intro p e s m below meth c A ls C0 hr hnm hAe hsz hl hP hD hS
  have hl : lv_has ls 2 [(0, .ref (ad 1)), (1, .int (nI c0))] := hl
  obtain ⟨hx, hb, hml, hown, ht, hK, hX, hA, hlk⟩ := id C0
  refine lv_iload_n hx hb d_As_append_0 rfl (lv_at hl 1 rfl) ?_
  refine lv_bipush (v := nI 32) hx hb d_As_append_1 (by decide) ?_
  refine lv_icmp_lt (tgt := 22) hx hb d_As_append_3 (by decide) (fun h1 => ?_) (fun h1 => ?_)
  · skip
    have h1 : (c0 < 32) := (nI_ltI (by omega) (by omega)).mp h1
    refine lv_iconst (v := nI 0) hx hb d_As_append_22 (by decide) ?_
    exact zret_z C0 hr (zbn (by omega)) hAe hP hD hS (Or.inr ⟨by omega, rfl, rfl⟩) d_As_append_23
  · skip
    have h1 : ¬ (c0 < 32) := fun z => h1 ((nI_ltI (by omega) (by omega)).mpr z)
    refine lv_iload_n hx hb d_As_append_6 rfl (lv_at hl 1 rfl) ?_
    refine lv_bipush (v := nI 126) hx hb d_As_append_7 (by decide) ?_
    refine lv_icmp_gt (tgt := 22) hx hb d_As_append_9 (by decide) (fun h2 => ?_) (fun h2 => ?_)
    · skip
      have h2 : (126 < c0) := (nI_ltI (by omega) (by omega)).mp h2
      refine lv_iconst (v := nI 0) hx hb d_As_append_22 (by decide) ?_
      exact zret_z C0 hr (zbn (by omega)) hAe hP hD hS (Or.inr ⟨by omega, rfl, rfl⟩) d_As_append_23
    · skip
      have h2 : ¬ (126 < c0) := fun z => h2 ((nI_ltI (by omega) (by omega)).mpr z)
      refine lv_aload_n hx hb d_As_append_12 rfl (lv_at hl 0 rfl) ?_
      refine va_get (D := D) (ci := 0) (v := .int (nI ln)) (C := RAs) (T := TAs) (N := 8) hx hb ht inAs hown hK hP 0 rfl rfl 1 (by decide) (ht _ q44) (fun _ h9 => h9) rfl d_As_append_13 ?_
      refine lv_sipush (v := nI 240) hx hb d_As_append_16 (by decide) ?_
      refine lv_icmp_lt (tgt := 24) hx hb d_As_append_19 (by decide) (fun h3 => ?_) (fun h3 => ?_)
      · skip
        have h3 : (ln < 240) := (nI_ltI (by omega) (by omega)).mp h3
        refine lv_aload_n hx hb d_As_append_24 rfl (lv_at hl 0 rfl) ?_
        refine va_get (D := D) (ci := 0) (v := .ref (ad 2)) (C := RAs) (T := TAs) (N := 8) hx hb ht inAs hown hK hP 0 rfl rfl 0 (by decide) (ht _ q43) (fun _ h9 => h9) rfl d_As_append_25 ?_
        refine lv_aload_n hx hb d_As_append_28 rfl (lv_at hl 0 rfl) ?_
        refine va_get (D := D) (ci := 0) (v := .int (nI ln)) (C := RAs) (T := TAs) (N := 8) hx hb ht inAs hown hK hP 0 rfl rfl 1 (by decide) (ht _ q44) (fun _ h9 => h9) rfl d_As_append_29 ?_
        refine lv_iload_n hx hb d_As_append_32 rfl (lv_at hl 1 rfl) ?_
        refine va_cast hx hb hK hP hD hS 1 2 rfl rfl (vp_in_nI (n := ln) (by omega) (by decide)) d_As_append_33 (fun H locs hP hD hS => ?_)
        rw [nF_upc (by omega) (by omega)] at hP hD
        have hP : va_P D vCl (wA ad ca (uN tx ln c0) ln lb bg ch ct ia ++ (wW ad ca wo)) H := hP
        have hD : va_D A (wA ad ca (uN tx ln c0) ln lb bg ch ct ia ++ (wW ad ca wo)) := hD
        refine lv_aload_n hx hb d_As_append_34 rfl (lv_at hl 0 rfl) ?_
        refine lv_dup hx hb d_As_append_35 rfl ?_
        refine va_get (D := D) (ci := 0) (v := .int (nI ln)) (C := RAs) (T := TAs) (N := 8) hx hb ht inAs hown hK hP 0 rfl rfl 1 (by decide) (ht _ q44) (fun _ h9 => h9) rfl d_As_append_36 ?_
        refine lv_iconst (v := nI 1) hx hb d_As_append_39 (by decide) ?_
        refine lv_iadd hx hb d_As_append_40 ?_
        refine zti (y := nI (ln + 1)) (nI_add _ _) ?_
        refine va_put (D := D) (ci := 0) (v := .int (nI (ln + 1))) (ty := .int) (C := RAs) (T := TAs) (N := 8) hx hb ht inAs tyAs tyAs_ok nmAs hown hK hP hD hS 0 rfl rfl 1 (by decide) (ht _ q44) (fun _ h9 => h9) rfl (by decide +kernel) rfl rfl (Nat.le_of_ble_eq_true rfl) d_As_append_41 (fun H locs hP hD hS => ?_)
        have hP : va_P D vCl (wA ad ca (uN tx ln c0) (ln + 1) lb bg ch ct ia ++ (wW ad ca wo)) H := hP
        have hD : va_D A (wA ad ca (uN tx ln c0) (ln + 1) lb bg ch ct ia ++ (wW ad ca wo)) := hD
        refine lv_iconst (v := nI 1) hx hb d_As_append_44 (by decide) ?_
        exact zret_z C0 hr (zbn (by omega)) hAe hP hD hS (Or.inl ⟨by omega, rfl, rfl⟩) d_As_append_45
      · skip
        have h3 : ¬ (ln < 240) := fun z => h3 ((nI_ltI (by omega) (by omega)).mpr z)
        refine lv_iconst (v := nI 0) hx hb d_As_append_22 (by decide) ?_
        exact zret_z C0 hr (zbn (by omega)) hAe hP hD hS (Or.inr ⟨by omega, rfl, rfl⟩) d_As_append_23
set_option maxHeartbeats 4000000 in
set_option maxRecDepth 100000 in
theorem m_Ch_type (l : Launch) (D : va_G) (ca : Nat → ClassId) (k : Nat → Nat) (sz : Nat) (ad : Nat → Nat) (tx : Nat → Nat) (ln : Nat) (lb : Nat → Int32) (bg : Nat → Nat) (ch : Int32) (ct : Nat) (ia : Int32) (wo : Nat → Nat) (me nu ro : Nat → Nat) (un li pt : Nat) (st : Int32) (cy pl bk en kc : Nat) (c0 : Nat) (hc0 : c0 < 65536) (hln : ln ≤ 240) : Met l y_Ch_type (zw y_Ch_type c_Ch_type 2 (some .boolean)) { frames := 1, cells := 0, slots := 0, locals := 21 } (va_Pc [.ref (ad 0), .int (nI c0)] (zPre D (zty ca) k (wX ad ca  ++ (wA ad ca tx ln lb bg ch ct ia ++ (wW ad ca wo ++ (wP ad ca me nu ro un li pt st cy pl bk en kc)))) sz)) (va_Qi (fun r w => ((32 ≤ c0 ∧ c0 ≤ 126 ∧ ln < 240) ∧ r = nI 1 ∧ w = wX ad ca ++ (wA ad ca (uN tx ln c0) (ln + 1) lb bg ch ct ia ++ (wW ad ca wo ++ (wP ad ca me nu ro un li pt st cy pl bk en kc)))) ∨ (¬ (32 ≤ c0 ∧ c0 ≤ 126 ∧ ln < 240) ∧ r = nI 0 ∧ w = wX ad ca ++ (wA ad ca tx ln lb bg ch ct ia ++ (wW ad ca wo ++ (wP ad ca me nu ro un li pt st cy pl bk en kc))))) (zB D (zty ca) (wX ad ca  ++ (wA ad ca tx ln lb bg ch ct ia ++ (wW ad ca wo ++ (wP ad ca me nu ro un li pt st cy pl bk en kc)))) sz) (va_A (wX ad ca  ++ (wA ad ca tx ln lb bg ch ct ia ++ (wW ad ca wo ++ (wP ad ca me nu ro un li pt st cy pl bk en kc)))) sz)) 0 0 (va_A (wX ad ca  ++ (wA ad ca tx ln lb bg ch ct ia ++ (wW ad ca wo ++ (wP ad ca me nu ro un li pt st cy pl bk en kc)))) sz) := by
  refine zOf (own := "DigitChip") (by decide +kernel) rfl (Nat.le_of_ble_eq_true rfl) ?_
  intro p e s m below meth c A ls C0 hr hnm hAe hsz hl hP hD hS
  have hl : lv_has ls 2 [(0, .ref (ad 0)), (1, .int (nI c0))] := hl
  obtain ⟨hx, hb, hml, hown, ht, hK, hX, hA, hlk⟩ := id C0
  refine lv_aload_n hx hb d_Ch_type_0 rfl (lv_at hl 0 rfl) ?_
  refine va_get (D := D) (ci := 4) (v := .ref (ad 1)) (C := RCh) (T := TCh) (N := 2) hx hb ht inCh hown hK hP 0 rfl rfl 0 (by decide) (ht _ q150) (fun _ h9 => h9) rfl d_Ch_type_1 ?_
  refine lv_iload_n hx hb d_Ch_type_4 rfl (lv_at hl 1 rfl) ?_
  refine zgo_i (wr := wX ad ca  ++ wP ad ca me nu ro un li pt st cy pl bk en kc) C0 (zrunV (na := 1) (As := [.int (nI c0)]) (rest := []) C0 hP hD hS [1, 2, 3, 4, 5] rfl rfl (m_As_append l D ca k s.heap.size ad tx ln lb bg ch ct ia wo c0 (by omega) (by omega)) (zg_V q161 q162 q163 q2 q164) (by decide +kernel) rfl rfl ⟨by decide, by decide⟩ 1 rfl rfl rfl hl.1 rfl (Nat.le_of_ble_eq_true rfl) d_Ch_type_5 ⟨Nat.zero_le _, Nat.zero_le _⟩) hP hD hS [1, 2, 3, 4, 5] [0, 6, 7, 8, 9, 10, 11] rfl rfl (by decide) (by decide) (fun r1 w1 H locs hw hP hD hS => ?_)
  rcases hw with ⟨ha1, rfl, rfl⟩ | ⟨ha1, rfl, rfl⟩
  · skip
    have hP : va_P D vCl (wX ad ca  ++ (wP ad ca me nu ro un li pt st cy pl bk en kc ++ (wA ad ca (uN tx ln c0) (ln + 1) lb bg ch ct ia ++ (wW ad ca wo)))) H := hP
    have hD : va_D A (wX ad ca  ++ (wP ad ca me nu ro un li pt st cy pl bk en kc ++ (wA ad ca (uN tx ln c0) (ln + 1) lb bg ch ct ia ++ (wW ad ca wo)))) := hD
    have hP := hP.sub (ws' := wX ad ca  ++ (wA ad ca (uN tx ln c0) (ln + 1) lb bg ch ct ia ++ (wW ad ca wo ++ (wP ad ca me nu ro un li pt st cy pl bk en kc)))) [0, 7, 8, 9, 10, 11, 1, 2, 3, 4, 5, 6] rfl
    have hD := hD.sub (ws' := wX ad ca  ++ (wA ad ca (uN tx ln c0) (ln + 1) lb bg ch ct ia ++ (wW ad ca wo ++ (wP ad ca me nu ro un li pt st cy pl bk en kc)))) [0, 7, 8, 9, 10, 11, 1, 2, 3, 4, 5, 6] (by decide) rfl
    exact zret_z C0 hr (zbn (by omega)) hAe hP hD hS (Or.inl ⟨ha1, rfl, rfl⟩) d_Ch_type_8
  · skip
    have hP : va_P D vCl (wX ad ca  ++ (wP ad ca me nu ro un li pt st cy pl bk en kc ++ (wA ad ca tx ln lb bg ch ct ia ++ (wW ad ca wo)))) H := hP
    have hD : va_D A (wX ad ca  ++ (wP ad ca me nu ro un li pt st cy pl bk en kc ++ (wA ad ca tx ln lb bg ch ct ia ++ (wW ad ca wo)))) := hD
    have hP := hP.sub (ws' := wX ad ca  ++ (wA ad ca tx ln lb bg ch ct ia ++ (wW ad ca wo ++ (wP ad ca me nu ro un li pt st cy pl bk en kc)))) [0, 7, 8, 9, 10, 11, 1, 2, 3, 4, 5, 6] rfl
    have hD := hD.sub (ws' := wX ad ca  ++ (wA ad ca tx ln lb bg ch ct ia ++ (wW ad ca wo ++ (wP ad ca me nu ro un li pt st cy pl bk en kc)))) [0, 7, 8, 9, 10, 11, 1, 2, 3, 4, 5, 6] (by decide) rfl
    exact zret_z C0 hr (zbn (by omega)) hAe hP hD hS (Or.inr ⟨ha1, rfl, rfl⟩) d_Ch_type_8
