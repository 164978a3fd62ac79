set_option maxHeartbeats 4000000 in
set_option maxRecDepth 100000 in
theorem m_As_wordOfName (l : Launch) (D : va_G) (ca : Nat → ClassId) (k : Nat → Nat) (sz : Nat) (ad : Nat → Nat) (tx : Nat → Nat) (ln : Nat) (lb : Nat → Int32) (bg : Nat → Nat) (ch : Int32) (ct : Nat) (ia : Int32) (wo : Nat → Nat) (a0 e0 : Nat) (ha0 : a0 ≤ e0) (he0 : e0 ≤ 240) (htx : ∀ j, tx j < 127) : Met l y_As_wordOfName (zw y_As_wordOfName c_As_wordOfName 4 (some .int)) { frames := 6, cells := 0, slots := 0, locals := 143 } (va_Pc [.ref (ad 1), .int (nI a0), .int (nI e0)] (zPre D (zty ca) k (wA ad ca tx ln lb bg ch ct ia ++ (wW ad ca wo)) sz)) (va_Qi (fun r w => (∃ m0, wN tx a0 e0 = some m0 ∧ m0 < 2 ^ 20 ∧ r = nI m0 ∧ ∃ x, w = wA ad ca tx ln lb bg x ct ia ++ wW ad ca wo) ∨ (wN tx a0 e0 = none ∧ r = (-1) ∧ ∃ x, w = wA ad ca tx ln lb bg x ct ia ++ wW ad ca wo)) (zB D (zty ca) (wA ad ca tx ln lb bg ch ct ia ++ (wW ad ca wo)) sz) (va_A (wA ad ca tx ln lb bg ch ct ia ++ (wW ad ca wo)) sz)) 0 0 (va_A (wA ad ca tx ln lb bg ch ct ia ++ (wW ad ca wo)) sz) := by
  refine zOf (own := "DigitChip$Assembler") (by decide +kernel) rfl (Nat.le_of_ble_eq_true rfl) ?_
  intro p e s m below meth c A ls C0 hr hnm hAe hsz hl hP hD hS
  have hl : lv_has ls 4 [(0, .ref (ad 1)), (1, .int (nI a0)), (2, .int (nI e0))] := hl
  obtain ⟨hx, hb, hml, hown, ht, hK, hX, hA, hlk⟩ := id C0
  refine lv_aload_n hx hb d_As_wordOfName_0 rfl (lv_at hl 0 rfl) ?_
  refine va_ldcS hx hb hown (hX.2.2.2.2.1 2 (by decide)) d_As_wordOfName_1 ?_
  refine lv_iload_n hx hb d_As_wordOfName_3 rfl (lv_at hl 1 rfl) ?_
  refine lv_iload_n hx hb d_As_wordOfName_4 rfl (lv_at hl 2 rfl) ?_
  refine zgo_i (wr := []) C0 (zrunV (na := 3) (As := [.ref (k (2 + 1)), .int (nI a0), .int (nI e0)]) (rest := []) C0 hP hD hS [0, 1, 2, 3, 4] rfl rfl (m_As_findName l D ca k s.heap.size ad tx ln lb bg ch ct ia wo 2 (by decide) a0 e0 (by omega) (by omega) htx) (zg_V q260 q262 q803 q2 q263) (by decide +kernel) rfl rfl ⟨by decide, by decide⟩ 0 rfl rfl rfl hl.1 rfl (Nat.le_of_ble_eq_true rfl) d_As_wordOfName_5 ⟨Nat.zero_le _, Nat.zero_le _⟩) hP hD hS [0, 1, 2, 3, 4] [] rfl rfl (by decide) (by decide) (fun r1 w1 H locs hw hP hD hS => ?_)
  rcases hw with ⟨q1, c1, hf1, hq1, hb1, rfl, rfl⟩ | ⟨hf1, rfl, x1, rfl⟩
  · skip
    have hP : va_P D vCl (wA ad ca tx ln lb bg (nI c1) ct ia ++ (wW ad ca wo)) H := hP
    have hD : va_D A (wA ad ca tx ln lb bg (nI c1) ct ia ++ (wW ad ca wo)) := hD
    refine lv_istore_n hx hb d_As_wordOfName_8 rfl hl (by decide) rfl (fun ls hl => ?_)
    have hl : lv_has ls 4 [(3, .int (nI q1)), (0, .ref (ad 1)), (1, .int (nI a0)), (2, .int (nI e0))] := hl
    refine lv_iload_n hx hb d_As_wordOfName_9 rfl (lv_at hl 0 rfl) ?_
    refine lv_iconst (v := (-1)) hx hb d_As_wordOfName_10 (by decide) ?_
    refine lv_icmp_eq (tgt := 26) hx hb d_As_wordOfName_11 (by decide) (fun h2 => (zm1 (by omega) h2).elim) (fun _ => ?_)
    refine lv_aload_n hx hb d_As_wordOfName_14 rfl (lv_at hl 1 rfl) ?_
    refine va_get (D := D) (ci := 0) (v := .int (nI c1)) (C := RAs) (T := TAs) (N := 8) hx hb ht inAs hown hK hP 0 rfl rfl 4 (by decide) (ht _ q47) (fun _ h9 => h9) rfl d_As_wordOfName_15 ?_
    refine lv_bipush (v := nI 64) hx hb d_As_wordOfName_18 (by decide) ?_
    refine lv_imul hx hb d_As_wordOfName_20 ?_
    refine zti (y := nI (c1 * 64)) (pk_mul _ _) ?_
    refine lv_iload_n hx hb d_As_wordOfName_21 rfl (lv_at hl 0 rfl) ?_
    refine lv_iconst (v := nI 4) hx hb d_As_wordOfName_22 (by decide) ?_
    refine lv_imul hx hb d_As_wordOfName_23 ?_
    refine zti (y := nI (q1 * 4)) (pk_mul _ _) ?_
    refine lv_iadd hx hb d_As_wordOfName_24 ?_
    refine zti (y := nI ((c1 * 64) + (q1 * 4))) (nI_add _ _) ?_
    exact zret_i C0 hr hAe hP hD hS (Or.inl ⟨_, by unfold wN; rw [hf1], by omega, rfl, _, rfl⟩) d_As_wordOfName_25
  · skip
    have hP : va_P D vCl (wA ad ca tx ln lb bg x1 ct ia ++ (wW ad ca wo)) H := hP
    have hD : va_D A (wA ad ca tx ln lb bg x1 ct ia ++ (wW ad ca wo)) := hD
    refine lv_istore_n hx hb d_As_wordOfName_8 rfl hl (by decide) rfl (fun ls hl => ?_)
    have hl : lv_has ls 4 [(3, .int (-1)), (0, .ref (ad 1)), (1, .int (nI a0)), (2, .int (nI e0))] := hl
    refine lv_iload_n hx hb d_As_wordOfName_9 rfl (lv_at hl 0 rfl) ?_
    refine lv_iconst (v := (-1)) hx hb d_As_wordOfName_10 (by decide) ?_
    refine lv_icmp_eq (tgt := 26) hx hb d_As_wordOfName_11 (by decide) (fun _ => ?_) (fun h3 => (h3 rfl).elim)
    refine lv_aload_n hx hb d_As_wordOfName_26 rfl (lv_at hl 1 rfl) ?_
    refine va_ldcS hx hb hown (hX.2.2.2.2.1 3 (by decide)) d_As_wordOfName_27 ?_
    refine lv_iload_n hx hb d_As_wordOfName_29 rfl (lv_at hl 2 rfl) ?_
    refine lv_iload_n hx hb d_As_wordOfName_30 rfl (lv_at hl 3 rfl) ?_
    refine zgo_i (wr := []) C0 (zrunV (na := 3) (As := [.ref (k (3 + 1)), .int (nI a0), .int (nI e0)]) (rest := []) C0 hP hD hS [0, 1, 2, 3, 4] rfl rfl (m_As_findName l D ca k H.size ad tx ln lb bg x1 ct ia wo 3 (by decide) a0 e0 (by omega) (by omega) htx) (zg_V q260 q262 q803 q2 q263) (by decide +kernel) rfl rfl ⟨by decide, by decide⟩ 0 rfl rfl rfl hl.1 rfl (Nat.le_of_ble_eq_true rfl) d_As_wordOfName_31 ⟨Nat.zero_le _, Nat.zero_le _⟩) hP hD hS [0, 1, 2, 3, 4] [] rfl rfl (by decide) (by decide) (fun r4 w1 H locs hw hP hD hS => ?_)
    rcases hw with ⟨q4, c4, hf4, hq4, hb4, rfl, rfl⟩ | ⟨hf4, rfl, x4, rfl⟩
    · skip
      have hP : va_P D vCl (wA ad ca tx ln lb bg (nI c4) ct ia ++ (wW ad ca wo)) H := hP
      have hD : va_D A (wA ad ca tx ln lb bg (nI c4) ct ia ++ (wW ad ca wo)) := hD
      refine lv_istore_n hx hb d_As_wordOfName_34 rfl hl (by decide) rfl (fun ls hl => ?_)
      have hl : lv_has ls 4 [(3, .int (nI q4)), (0, .ref (ad 1)), (1, .int (nI a0)), (2, .int (nI e0))] := hl
      refine lv_iload_n hx hb d_As_wordOfName_35 rfl (lv_at hl 0 rfl) ?_
      refine lv_iconst (v := (-1)) hx hb d_As_wordOfName_36 (by decide) ?_
      refine lv_icmp_eq (tgt := 54) hx hb d_As_wordOfName_37 (by decide) (fun h5 => (zm1 (by omega) h5).elim) (fun _ => ?_)
      refine lv_iload_n hx hb d_As_wordOfName_40 rfl (lv_at hl 0 rfl) ?_
      refine lv_bipush (v := nI 32) hx hb d_As_wordOfName_41 (by decide) ?_
      refine lv_imul hx hb d_As_wordOfName_43 ?_
      refine zti (y := nI (q4 * 32)) (pk_mul _ _) ?_
      refine lv_aload_n hx hb d_As_wordOfName_44 rfl (lv_at hl 1 rfl) ?_
      refine va_get (D := D) (ci := 0) (v := .int (nI c4)) (C := RAs) (T := TAs) (N := 8) hx hb ht inAs hown hK hP 0 rfl rfl 4 (by decide) (ht _ q47) (fun _ h9 => h9) rfl d_As_wordOfName_45 ?_
      refine lv_iconst (v := nI 4) hx hb d_As_wordOfName_48 (by decide) ?_
      refine lv_imul hx hb d_As_wordOfName_49 ?_
      refine zti (y := nI (c4 * 4)) (pk_mul _ _) ?_
      refine lv_iadd hx hb d_As_wordOfName_50 ?_
      refine zti (y := nI ((q4 * 32) + (c4 * 4))) (nI_add _ _) ?_
      refine lv_iconst (v := nI 2) hx hb d_As_wordOfName_51 (by decide) ?_
      refine lv_iadd hx hb d_As_wordOfName_52 ?_
      refine zti (y := nI (((q4 * 32) + (c4 * 4)) + 2)) (nI_add _ _) ?_
      exact zret_i C0 hr hAe hP hD hS (Or.inl ⟨_, by unfold wN; rw [hf1, hf4], by omega, rfl, _, rfl⟩) d_As_wordOfName_53
    · skip
      have hP : va_P D vCl (wA ad ca tx ln lb bg x4 ct ia ++ (wW ad ca wo)) H := hP
      have hD : va_D A (wA ad ca tx ln lb bg x4 ct ia ++ (wW ad ca wo)) := hD
      refine lv_istore_n hx hb d_As_wordOfName_34 rfl hl (by decide) rfl (fun ls hl => ?_)
      have hl : lv_has ls 4 [(3, .int (-1)), (0, .ref (ad 1)), (1, .int (nI a0)), (2, .int (nI e0))] := hl
      refine lv_iload_n hx hb d_As_wordOfName_35 rfl (lv_at hl 0 rfl) ?_
      refine lv_iconst (v := (-1)) hx hb d_As_wordOfName_36 (by decide) ?_
      refine lv_icmp_eq (tgt := 54) hx hb d_As_wordOfName_37 (by decide) (fun _ => ?_) (fun h6 => (h6 rfl).elim)
      refine lv_aload_n hx hb d_As_wordOfName_54 rfl (lv_at hl 1 rfl) ?_
      refine va_ldcS hx hb hown (hX.2.2.2.2.1 1 (by decide)) d_As_wordOfName_55 ?_
      refine lv_iload_n hx hb d_As_wordOfName_57 rfl (lv_at hl 2 rfl) ?_
      refine lv_iload_n hx hb d_As_wordOfName_58 rfl (lv_at hl 3 rfl) ?_
      refine zgo_i (wr := []) C0 (zrunV (na := 3) (As := [.ref (k (1 + 1)), .int (nI a0), .int (nI e0)]) (rest := []) C0 hP hD hS [0, 1, 2, 3, 4] rfl rfl (m_As_findName l D ca k H.size ad tx ln lb bg x4 ct ia wo 1 (by decide) a0 e0 (by omega) (by omega) htx) (zg_V q260 q262 q803 q2 q263) (by decide +kernel) rfl rfl ⟨by decide, by decide⟩ 0 rfl rfl rfl hl.1 rfl (Nat.le_of_ble_eq_true rfl) d_As_wordOfName_59 ⟨Nat.zero_le _, Nat.zero_le _⟩) hP hD hS [0, 1, 2, 3, 4] [] rfl rfl (by decide) (by decide) (fun r7 w1 H locs hw hP hD hS => ?_)
      rcases hw with ⟨q7, c7, hf7, hq7, hb7, rfl, rfl⟩ | ⟨hf7, rfl, x7, rfl⟩
      · skip
        have hP : va_P D vCl (wA ad ca tx ln lb bg (nI c7) ct ia ++ (wW ad ca wo)) H := hP
        have hD : va_D A (wA ad ca tx ln lb bg (nI c7) ct ia ++ (wW ad ca wo)) := hD
        refine lv_istore_n hx hb d_As_wordOfName_62 rfl hl (by decide) rfl (fun ls hl => ?_)
        have hl : lv_has ls 4 [(3, .int (nI q7)), (0, .ref (ad 1)), (1, .int (nI a0)), (2, .int (nI e0))] := hl
        refine lv_iload_n hx hb d_As_wordOfName_63 rfl (lv_at hl 0 rfl) ?_
        refine lv_iconst (v := (-1)) hx hb d_As_wordOfName_64 (by decide) ?_
        refine lv_icmp_ne (tgt := 72) hx hb d_As_wordOfName_65 (by decide) (fun _ => ?_) (fun h8 => (zm1 (by omega) h8).elim)
        refine lv_aload_n hx hb d_As_wordOfName_72 rfl (lv_at hl 1 rfl) ?_
        refine va_get (D := D) (ci := 0) (v := .int (nI c7)) (C := RAs) (T := TAs) (N := 8) hx hb ht inAs hown hK hP 0 rfl rfl 4 (by decide) (ht _ q47) (fun _ h9 => h9) rfl d_As_wordOfName_73 ?_
        refine lv_iconst (v := nI 4) hx hb d_As_wordOfName_76 (by decide) ?_
        refine lv_imul hx hb d_As_wordOfName_77 ?_
        refine zti (y := nI (c7 * 4)) (pk_mul _ _) ?_
        refine lv_iload_n hx hb d_As_wordOfName_78 rfl (lv_at hl 0 rfl) ?_
        refine lv_iconst (v := nI 2) hx hb d_As_wordOfName_79 (by decide) ?_
        refine lv_imul hx hb d_As_wordOfName_80 ?_
        refine zti (y := nI (q7 * 2)) (pk_mul _ _) ?_
        refine lv_iadd hx hb d_As_wordOfName_81 ?_
        refine zti (y := nI ((c7 * 4) + (q7 * 2))) (nI_add _ _) ?_
        refine lv_iconst (v := nI 1) hx hb d_As_wordOfName_82 (by decide) ?_
        refine lv_iadd hx hb d_As_wordOfName_83 ?_
        refine zti (y := nI (((c7 * 4) + (q7 * 2)) + 1)) (nI_add _ _) ?_
        exact zret_i C0 hr hAe hP hD hS (Or.inl ⟨_, by unfold wN; rw [hf1, hf4, hf7], by omega, rfl, _, rfl⟩) d_As_wordOfName_84
      · skip
        have hP : va_P D vCl (wA ad ca tx ln lb bg x7 ct ia ++ (wW ad ca wo)) H := hP
        have hD : va_D A (wA ad ca tx ln lb bg x7 ct ia ++ (wW ad ca wo)) := hD
        refine lv_istore_n hx hb d_As_wordOfName_62 rfl hl (by decide) rfl (fun ls hl => ?_)
        have hl : lv_has ls 4 [(3, .int (-1)), (0, .ref (ad 1)), (1, .int (nI a0)), (2, .int (nI e0))] := hl
        refine lv_iload_n hx hb d_As_wordOfName_63 rfl (lv_at hl 0 rfl) ?_
        refine lv_iconst (v := (-1)) hx hb d_As_wordOfName_64 (by decide) ?_
        refine lv_icmp_ne (tgt := 72) hx hb d_As_wordOfName_65 (by decide) (fun h9 => (h9 rfl).elim) (fun _ => ?_)
        refine lv_iconst (v := (-1)) hx hb d_As_wordOfName_68 (by decide) ?_
        refine lv_goto (tgt := 84) hx hb d_As_wordOfName_69 (by decide) ?_
        exact zret_i C0 hr hAe hP hD hS (Or.inr ⟨by unfold wN; rw [hf1, hf4, hf7], rfl, _, rfl⟩) d_As_wordOfName_84
set_option maxHeartbeats 4000000 in
set_option maxRecDepth 100000 in
theorem m_As_takeLabel (l : Launch) (D : va_G) (ca : Nat → ClassId) (k : Nat → Nat) (sz : Nat) (ad : Nat → Nat) (tx : Nat → Nat) (ln : Nat) (lb : Nat → Int32) (bg : Nat → Nat) (ch : Int32) (ct : Nat) (ia : Int32) (wo : Nat → Nat) (c0 : Nat) (hc0 : c0 < 26) (hct : ct ≤ 64) : Met l y_As_takeLabel (zw y_As_takeLabel c_As_takeLabel 2 (some .boolean)) { frames := 0, cells := 0, slots := 0, locals := 0 } (va_Pc [.ref (ad 1), .int (nI c0)] (zPre D (zty ca) k (wA ad ca tx ln lb bg ch ct ia ++ (wW ad ca wo)) sz)) (va_Qi (fun r w => (lb c0 = (-1) ∧ r = nI 1 ∧ w = wA ad ca tx ln (upd lb c0 (nI (ct % 64))) bg ch ct ia ++ wW ad ca wo) ∨ (¬ lb c0 = (-1) ∧ r = nI 0 ∧ w = wA ad ca tx ln lb bg ch ct ia ++ wW ad ca wo)) (zB D (zty ca) (wA ad ca tx ln lb bg ch ct ia ++ (wW ad ca wo)) sz) (va_A (wA ad ca tx ln lb bg ch ct ia ++ (wW ad ca wo)) sz)) 0 0 (va_A (wA ad ca tx ln lb bg ch ct ia ++ (wW ad ca wo)) sz) := by
  refine zOf (own := "DigitChip$Assembler") (by decide +kernel) rfl (Nat.le_of_ble_eq_true rfl) ?_
  intro p e s m below meth c A ls C0 hr hnm hAe hsz hl hP hD hS
  have hl : lv_has ls 2 [(0, .ref (ad 1)), (1, .int (nI c0))] := hl
  obtain ⟨hx, hb, hml, hown, ht, hK, hX, hA, hlk⟩ := id C0
  refine lv_aload_n hx hb d_As_takeLabel_0 rfl (lv_at hl 0 rfl) ?_
  refine va_get (D := D) (ci := 0) (v := .ref (ad 3)) (C := RAs) (T := TAs) (N := 8) hx hb ht inAs hown hK hP 0 rfl rfl 2 (by decide) (ht _ q45) (fun _ h9 => h9) rfl d_As_takeLabel_1 ?_
  refine lv_iload_n hx hb d_As_takeLabel_4 rfl (lv_at hl 1 rfl) ?_
  refine va_iald hx hb hK hP 2 0 rfl rfl (vp_in_nI (n := c0) (by omega) (by decide)) d_As_takeLabel_5 ?_
  refine zti (y := lb c0) (rF_at (by omega)) ?_
  refine lv_iconst (v := (-1)) hx hb d_As_takeLabel_6 (by decide) ?_
  refine lv_icmp_eq (tgt := 12) hx hb d_As_takeLabel_7 (by decide) (fun h1 => ?_) (fun h1 => ?_)
  · skip
    refine lv_aload_n hx hb d_As_takeLabel_12 rfl (lv_at hl 0 rfl) ?_
    refine va_get (D := D) (ci := 0) (v := .ref (ad 3)) (C := RAs) (T := TAs) (N := 8) hx hb ht inAs hown hK hP 0 rfl rfl 2 (by decide) (ht _ q45) (fun _ h9 => h9) rfl d_As_takeLabel_13 ?_
    refine lv_iload_n hx hb d_As_takeLabel_16 rfl (lv_at hl 1 rfl) ?_
    refine lv_aload_n hx hb d_As_takeLabel_17 rfl (lv_at hl 0 rfl) ?_
    refine va_get (D := D) (ci := 0) (v := .int (nI ct)) (C := RAs) (T := TAs) (N := 8) hx hb ht inAs hown hK hP 0 rfl rfl 6 (by decide) (ht _ q50) (fun _ h9 => h9) rfl d_As_takeLabel_18 ?_
    refine lv_bipush (v := nI 64) hx hb d_As_takeLabel_21 (by decide) ?_
    refine lv_irem hx hb d_As_takeLabel_23 (nI_ne0 (by omega) (by omega)) ?_
    refine zti (y := nI (ct % 64)) (pk_rem (by omega) (by omega) (by omega)) ?_
    refine va_iast hx hb hK hP hD hS 2 0 rfl rfl (vp_in_nI (n := c0) (by omega) (by decide)) d_As_takeLabel_24 (fun H locs hP hD hS => ?_)
    rw [rF_up (by omega)] at hP hD
    have hP : va_P D vCl (wA ad ca tx ln (upd lb c0 (nI (ct % 64))) bg ch ct ia ++ (wW ad ca wo)) H := hP
    have hD : va_D A (wA ad ca tx ln (upd lb c0 (nI (ct % 64))) bg ch ct ia ++ (wW ad ca wo)) := hD
    refine lv_iconst (v := nI 1) hx hb d_As_takeLabel_25 (by decide) ?_
    exact zret_z C0 hr (zbn (by omega)) hAe hP hD hS (Or.inl ⟨h1, rfl, rfl⟩) d_As_takeLabel_26
  · skip
    refine lv_iconst (v := nI 0) hx hb d_As_takeLabel_10 (by decide) ?_
    exact zret_z C0 hr (zbn (by omega)) hAe hP hD hS (Or.inr ⟨h1, rfl, rfl⟩) d_As_takeLabel_11
set_option maxHeartbeats 4000000 in
set_option maxRecDepth 100000 in
theorem m_As_beginsName (l : Launch) (D : va_G) (ca : Nat → ClassId) (k : Nat → Nat) (sz : Nat) (ad : Nat → Nat) (tx : Nat → Nat) (ln : Nat) (lb : Nat → Int32) (bg : Nat → Nat) (ch : Int32) (ct : Nat) (ia : Int32) (wo : Nat → Nat) (a0 : Nat) (ha0 : a0 < 240) (htx : ∀ j, tx j < 127) : Met l y_As_beginsName (zw y_As_beginsName c_As_beginsName 2 (some .boolean)) { frames := 0, cells := 0, slots := 0, locals := 0 } (va_Pc [.ref (ad 1), .int (nI a0)] (zPre D (zty ca) k (wA ad ca tx ln lb bg ch ct ia ++ (wW ad ca wo)) sz)) (va_Qi (fun r w => ((¬ tx a0 = 32 ∧ (a0 = 0 ∨ tx (a0 - 1) = 32)) ∧ r = nI 1 ∧ w = wA ad ca tx ln lb bg ch ct ia ++ wW ad ca wo) ∨ (¬ (¬ tx a0 = 32 ∧ (a0 = 0 ∨ tx (a0 - 1) = 32)) ∧ r = nI 0 ∧ w = wA ad ca tx ln lb bg ch ct ia ++ wW ad ca wo)) (zB D (zty ca) (wA ad ca tx ln lb bg ch ct ia ++ (wW ad ca wo)) sz) (va_A (wA ad ca tx ln lb bg ch ct ia ++ (wW ad ca wo)) sz)) 0 0 (va_A (wA ad ca tx ln lb bg ch ct ia ++ (wW ad ca wo)) sz) := by
  refine zOf (own := "DigitChip$Assembler") (by decide +kernel) rfl (Nat.le_of_ble_eq_true rfl) ?_
  intro p e s m below meth c A ls C0 hr hnm hAe hsz hl hP hD hS
  have hl : lv_has ls 2 [(0, .ref (ad 1)), (1, .int (nI a0))] := hl
  obtain ⟨hx, hb, hml, hown, ht, hK, hX, hA, hlk⟩ := id C0
  have ht0 := htx a0
  have ht1 := htx (a0 - 1)
  refine lv_aload_n hx hb d_As_beginsName_0 rfl (lv_at hl 0 rfl) ?_
  refine va_get (D := D) (ci := 0) (v := .ref (ad 2)) (C := RAs) (T := TAs) (N := 8) hx hb ht inAs hown hK hP 0 rfl rfl 0 (by decide) (ht _ q43) (fun _ h9 => h9) rfl d_As_beginsName_1 ?_
  refine lv_iload_n hx hb d_As_beginsName_4 rfl (lv_at hl 1 rfl) ?_
  refine va_cald hx hb hK hP 1 2 rfl rfl (vp_in_nI (n := a0) (by omega) (by decide)) d_As_beginsName_5 ?_
  refine zti (y := nI (tx a0)) (nF_at (by omega)) ?_
  refine lv_bipush (v := nI 32) hx hb d_As_beginsName_6 (by decide) ?_
  refine lv_icmp_eq (tgt := 32) hx hb d_As_beginsName_8 (by decide) (fun h1 => ?_) (fun h1 => ?_)
  · skip
    have h1 : ((tx a0) = 32) := (nI_eq (by omega) (by omega)).mp h1
    refine lv_iconst (v := nI 0) hx hb d_As_beginsName_32 (by decide) ?_
    exact zret_z C0 hr (zbn (by omega)) hAe hP hD hS (Or.inr ⟨by omega, rfl, rfl⟩) d_As_beginsName_33
  · skip
    have h1 : ¬ ((tx a0) = 32) := fun z => h1 ((nI_eq (by omega) (by omega)).mpr z)
    refine lv_iload_n hx hb d_As_beginsName_11 rfl (lv_at hl 1 rfl) ?_
    refine lv_if_eq (tgt := 28) hx hb d_As_beginsName_12 (by decide) (fun h2 => ?_) (fun h2 => ?_)
    · skip
      have h2 : (a0 = 0) := (nI_eq (by omega) (by decide)).mp (h2.trans nI_0.symm)
      refine lv_iconst (v := nI 1) hx hb d_As_beginsName_28 (by decide) ?_
      refine lv_goto (tgt := 33) hx hb d_As_beginsName_29 (by decide) ?_
      exact zret_z C0 hr (zbn (by omega)) hAe hP hD hS (Or.inl ⟨by omega, rfl, rfl⟩) d_As_beginsName_33
    · skip
      have h2 : ¬ (a0 = 0) := fun z => h2 (by rw [z]; rfl)
      refine lv_aload_n hx hb d_As_beginsName_15 rfl (lv_at hl 0 rfl) ?_
      refine va_get (D := D) (ci := 0) (v := .ref (ad 2)) (C := RAs) (T := TAs) (N := 8) hx hb ht inAs hown hK hP 0 rfl rfl 0 (by decide) (ht _ q43) (fun _ h9 => h9) rfl d_As_beginsName_16 ?_
      refine lv_iload_n hx hb d_As_beginsName_19 rfl (lv_at hl 1 rfl) ?_
      refine lv_iconst (v := nI 1) hx hb d_As_beginsName_20 (by decide) ?_
      refine lv_isub hx hb d_As_beginsName_21 ?_
      refine zti (y := nI (a0 - 1)) (pk_sub (by omega)) ?_
      refine va_cald hx hb hK hP 1 2 rfl rfl (vp_in_nI (n := a0 - 1) (by omega) (by decide)) d_As_beginsName_22 ?_
      refine zti (y := nI (tx (a0 - 1))) (nF_at (by omega)) ?_
      refine lv_bipush (v := nI 32) hx hb d_As_beginsName_23 (by decide) ?_
      refine lv_icmp_ne (tgt := 32) hx hb d_As_beginsName_25 (by decide) (fun h3 => ?_) (fun h3 => ?_)
      · skip
        have h3 : ¬ ((tx (a0 - 1)) = 32) := fun z => h3 ((nI_eq (by omega) (by omega)).mpr z)
        refine lv_iconst (v := nI 0) hx hb d_As_beginsName_32 (by decide) ?_
        exact zret_z C0 hr (zbn (by omega)) hAe hP hD hS (Or.inr ⟨by omega, rfl, rfl⟩) d_As_beginsName_33
      · skip
        have h3 : ((tx (a0 - 1)) = 32) := (nI_eq (by omega) (by omega)).mp h3
        refine lv_iconst (v := nI 1) hx hb d_As_beginsName_28 (by decide) ?_
        refine lv_goto (tgt := 33) hx hb d_As_beginsName_29 (by decide) ?_
        exact zret_z C0 hr (zbn (by omega)) hAe hP hD hS (Or.inl ⟨by omega, rfl, rfl⟩) d_As_beginsName_33
set_option maxHeartbeats 4000000 in
set_option maxRecDepth 100000 in
theorem m_As_endOfName (l : Launch) (D : va_G) (ca : Nat → ClassId) (k : Nat → Nat) (sz : Nat) (ad : Nat → Nat) (tx : Nat → Nat) (ln : Nat) (lb : Nat → Int32) (bg : Nat → Nat) (ch : Int32) (ct : Nat) (ia : Int32) (wo : Nat → Nat) (a0 : Nat) (ha0 : a0 ≤ ln) (hln : ln ≤ 240) (htx : ∀ j, tx j < 127) : Met l y_As_endOfName (zw y_As_endOfName c_As_endOfName 3 (some .int)) { frames := 0, cells := 0, slots := 0, locals := 0 } (va_Pc [.ref (ad 1), .int (nI a0)] (zPre D (zty ca) k (wA ad ca tx ln lb bg ch ct ia ++ (wW ad ca wo)) sz)) (va_Qi (fun r w => r = nI (eN tx ln (ln - a0) a0) ∧ w = wA ad ca tx ln lb bg ch ct ia ++ wW ad ca wo) (zB D (zty ca) (wA ad ca tx ln lb bg ch ct ia ++ (wW ad ca wo)) sz) (va_A (wA ad ca tx ln lb bg ch ct ia ++ (wW ad ca wo)) sz)) 0 0 (va_A (wA ad ca tx ln lb bg ch ct ia ++ (wW ad ca wo)) sz) := by
  refine zOf (own := "DigitChip$Assembler") (by decide +kernel) rfl (Nat.le_of_ble_eq_true rfl) ?_
  intro p e s m below meth c A ls C0 hr hnm hAe hsz hl hP hD hS
  have hl : lv_has ls 3 [(0, .ref (ad 1)), (1, .int (nI a0))] := hl
  obtain ⟨hx, hb, hml, hown, ht, hK, hX, hA, hlk⟩ := id C0
  refine lv_iload_n hx hb d_As_endOfName_0 rfl (lv_at hl 1 rfl) ?_
  refine lv_istore_n hx hb d_As_endOfName_1 rfl hl (by decide) rfl (fun ls hl => ?_)
  have hl : lv_has ls 3 [(2, .int (nI a0)), (0, .ref (ad 1)), (1, .int (nI a0))] := hl
  have loop_lp : ∀ (n_lp : Nat) (j : Nat) (H : Heap) (locs : List Loc) (ls : Array Slot), ln - j < n_lp → (a0 ≤ j ∧ j ≤ ln) → (eN tx ln (ln - a0) a0 = eN tx ln (ln - j) j) → lv_has ls 3 [(2, .int (nI j)), (0, .ref (ad 1)), (1, .int (nI a0))] → va_P D vCl (wA ad ca tx ln lb bg ch ct ia ++ (wW ad ca wo)) H → va_D A (wA ad ca tx ln lb bg ch ct ia ++ (wW ad ca wo)) → va_S A s.heap H locs → W p l e { frames := 0, cells := 0, slots := 0, locals := 0 } s m ([.ref (ad 1), .int (nI a0)] : List Value).toArray below meth c H locs 0 0 (MQ below (va_Qi (fun r w => r = nI (eN tx ln (ln - a0) a0) ∧ w = wA ad ca tx ln lb bg ch ct ia ++ wW ad ca wo) (zB D (zty ca) (wA ad ca tx ln lb bg ch ct ia ++ (wW ad ca wo)) sz) (va_A (wA ad ca tx ln lb bg ch ct ia ++ (wW ad ca wo)) sz)) ([.ref (ad 1), .int (nI a0)] : List Value).toArray s 0 0 (va_A (wA ad ca tx ln lb bg ch ct ia ++ (wW ad ca wo)) sz)) (F0 m 2 ls []) := by
    intro n_lp
    induction n_lp with
    | zero => intro j H locs ls hm; exact absurd hm (Nat.not_lt_zero _)
    | succ n_lp ih_lp =>
      intro j H locs ls hm hj hL hl hP hD hS
      have ht0 := htx j
      refine lv_iload_n hx hb d_As_endOfName_2 rfl (lv_at hl 0 rfl) ?_
      refine lv_aload_n hx hb d_As_endOfName_3 rfl (lv_at hl 1 rfl) ?_
      refine va_get (D := D) (ci := 0) (v := .int (nI ln)) (C := RAs) (T := TAs) (N := 8) hx hb ht inAs hown hK hP 0 rfl rfl 1 (by decide) (ht _ q44) (fun _ h9 => h9) rfl d_As_endOfName_4 ?_
      refine lv_icmp_ge (tgt := 27) hx hb d_As_endOfName_7 (by decide) (fun h1 => ?_) (fun h1 => ?_)
      · skip
        have h1 : (ln ≤ j) := (nI_leI (by omega) (by omega)).mp h1
        refine lv_iload_n hx hb d_As_endOfName_27 rfl (lv_at hl 0 rfl) ?_
        rw [show ln - j = 0 by omega, e_0] at hL
        exact zret_i C0 hr hAe hP hD hS ⟨by rw [hL], rfl⟩ d_As_endOfName_28
      · skip
        have h1 : ¬ (ln ≤ j) := fun z => h1 ((nI_leI (by omega) (by omega)).mpr z)
        refine lv_aload_n hx hb d_As_endOfName_10 rfl (lv_at hl 1 rfl) ?_
        refine va_get (D := D) (ci := 0) (v := .ref (ad 2)) (C := RAs) (T := TAs) (N := 8) hx hb ht inAs hown hK hP 0 rfl rfl 0 (by decide) (ht _ q43) (fun _ h9 => h9) rfl d_As_endOfName_11 ?_
        refine lv_iload_n hx hb d_As_endOfName_14 rfl (lv_at hl 0 rfl) ?_
        refine va_cald hx hb hK hP 1 2 rfl rfl (vp_in_nI (n := j) (by omega) (by decide)) d_As_endOfName_15 ?_
        refine zti (y := nI (tx j)) (nF_at (by omega)) ?_
        refine lv_bipush (v := nI 32) hx hb d_As_endOfName_16 (by decide) ?_
        refine lv_icmp_eq (tgt := 27) hx hb d_As_endOfName_18 (by decide) (fun h2 => ?_) (fun h2 => ?_)
        · skip
          have h2 : ((tx j) = 32) := (nI_eq (by omega) (by omega)).mp h2
          refine lv_iload_n hx hb d_As_endOfName_27 rfl (lv_at hl 0 rfl) ?_
          rw [show ln - j = (ln - (j + 1)) + 1 by omega, e_s h2] at hL
          exact zret_i C0 hr hAe hP hD hS ⟨by rw [hL], rfl⟩ d_As_endOfName_28
        · skip
          have h2 : ¬ ((tx j) = 32) := fun z => h2 ((nI_eq (by omega) (by omega)).mpr z)
          refine lv_iinc (k := 0) (v := nI (j + 1)) hx hb d_As_endOfName_21 hl rfl (zinc _) (by decide) rfl (fun ls hl => ?_)
          have hl : lv_has ls 3 [(2, .int (nI (j + 1))), (0, .ref (ad 1)), (1, .int (nI a0))] := hl
          refine lv_goto (tgt := 2) hx hb d_As_endOfName_24 (by decide) ?_
          rw [show ln - j = (ln - (j + 1)) + 1 by omega, e_n h2] at hL
          exact ih_lp (j + 1) H locs ls (by omega) (by omega) hL hl hP hD hS
  exact loop_lp (ln - a0 + 1) a0 _ _ _ (by omega) (by omega) rfl (lv_sub hl [0, 1, 2] rfl) hP hD hS
