set_option maxHeartbeats 4000000 in
set_option maxRecDepth 100000 in
theorem m_As_takeName (l : Launch) (D : va_G) (ca : Nat → ClassId) (k : Nat → Nat) (sz : Nat) (ad : Nat → Nat) (tx : Nat → Nat) (ln : Nat) (lb : Nat → Int32) (bg : Nat → Nat) (ch : Int32) (ct : Nat) (ia : Int32) (wo : Nat → Nat) (a0 e0 : Nat) (ha0 : a0 ≤ e0) (he0 : e0 ≤ 240) (hct : ct ≤ 64) (htx : ∀ j, tx j < 127) : Met l y_As_takeName (zw y_As_takeName c_As_takeName 4 (some .boolean)) { frames := 7, cells := 0, slots := 0, locals := 166 } (va_Pc [.ref (ad 1), .int (nI a0), .int (nI e0)] (zPre D (zty ca) k (wA ad ca tx ln lb bg ch ct ia ++ (wW ad ca wo)) sz)) (va_Qi (fun r w => (∃ T, tN tx a0 e0 (lb, ct, wo, bg) = some T ∧ r = nI 1 ∧ ∃ x, w = wA ad ca tx ln ((T).1) ((T).2.2.2) x ((T).2.1) ia ++ wW ad ca ((T).2.2.1)) ∨ (tN tx a0 e0 (lb, ct, wo, bg) = none ∧ r = nI 0 ∧ ∃ x, w = wA ad ca tx ln lb bg x ct ia ++ wW ad ca wo)) (zB D (zty ca) (wA ad ca tx ln lb bg ch ct ia ++ (wW ad ca wo)) sz) (va_A (wA ad ca tx ln lb bg ch ct ia ++ (wW ad ca wo)) sz)) 0 0 (va_A (wA ad ca tx ln lb bg ch ct ia ++ (wW ad ca wo)) sz) := by
  refine zOf (own := "DigitChip$Assembler") (by decide +kernel) rfl (Nat.le_of_ble_eq_true rfl) ?_
  intro p e s m below meth c A ls C0 hr hnm hAe hsz hl hP hD hS
  have hl : lv_has ls 4 [(0, .ref (ad 1)), (1, .int (nI a0)), (2, .int (nI e0))] := hl
  obtain ⟨hx, hb, hml, hown, ht, hK, hX, hA, hlk⟩ := id C0
  refine lv_aload_n hx hb d_As_takeName_0 rfl (lv_at hl 0 rfl) ?_
  refine va_ldcS hx hb hown (hX.2.2.2.2.1 0 (by decide)) d_As_takeName_1 ?_
  refine lv_iload_n hx hb d_As_takeName_3 rfl (lv_at hl 1 rfl) ?_
  refine lv_iload_n hx hb d_As_takeName_4 rfl (lv_at hl 2 rfl) ?_
  refine zgo_i (wr := []) C0 (zrunV (na := 3) (As := [.ref (k (0 + 1)), .int (nI a0), .int (nI e0)]) (rest := []) C0 hP hD hS [0, 1, 2, 3, 4] rfl rfl (m_As_findName l D ca k s.heap.size ad tx ln lb bg ch ct ia wo 0 (by decide) a0 e0 (by omega) (by omega) htx) (zg_V q260 q262 q803 q2 q263) (by decide +kernel) rfl rfl ⟨by decide, by decide⟩ 0 rfl rfl rfl hl.1 rfl (Nat.le_of_ble_eq_true rfl) d_As_takeName_5 ⟨Nat.zero_le _, Nat.zero_le _⟩) hP hD hS [0, 1, 2, 3, 4] [] rfl rfl (by decide) (by decide) (fun r1 w1 H locs hw hP hD hS => ?_)
  rcases hw with ⟨q1, c1, hf1, hq1, hb1, rfl, rfl⟩ | ⟨hf1, rfl, x1, rfl⟩
  · skip
    have hP : va_P D vCl (wA ad ca tx ln lb bg (nI c1) ct ia ++ (wW ad ca wo)) H := hP
    have hD : va_D A (wA ad ca tx ln lb bg (nI c1) ct ia ++ (wW ad ca wo)) := hD
    refine lv_iconst (v := (-1)) hx hb d_As_takeName_8 (by decide) ?_
    refine lv_icmp_eq (tgt := 21) hx hb d_As_takeName_9 (by decide) (fun h2 => (zm1 (by omega) h2).elim) (fun _ => ?_)
    refine lv_aload_n hx hb d_As_takeName_12 rfl (lv_at hl 0 rfl) ?_
    refine lv_aload_n hx hb d_As_takeName_13 rfl (lv_at hl 0 rfl) ?_
    refine va_get (D := D) (ci := 0) (v := .int (nI c1)) (C := RAs) (T := TAs) (N := 8) hx hb ht inAs hown hK hP 0 rfl rfl 4 (by decide) (ht _ q47) (fun _ h9 => h9) rfl d_As_takeName_14 ?_
    refine zgo_i (wr := []) C0 (zrunV (na := 1) (As := [.int (nI c1)]) (rest := []) C0 hP hD hS [0, 1, 2, 3, 4] rfl rfl (m_As_takeLabel l D ca k H.size ad tx ln lb bg (nI c1) ct ia wo c1 (by omega) (by omega)) (zg_V q367 q369 q805 q2 q370) (by decide +kernel) rfl rfl ⟨by decide, by decide⟩ 0 rfl rfl rfl hl.1 rfl (Nat.le_of_ble_eq_true rfl) d_As_takeName_17 ⟨Nat.zero_le _, Nat.zero_le _⟩) hP hD hS [0, 1, 2, 3, 4] [] rfl rfl (by decide) (by decide) (fun r3 w1 H locs hw hP hD hS => ?_)
    rcases hw with ⟨hl3, rfl, rfl⟩ | ⟨hl3, rfl, rfl⟩
    · skip
      have hP : va_P D vCl (wA ad ca tx ln (upd lb c1 (nI (ct % 64))) bg (nI c1) ct ia ++ (wW ad ca wo)) H := hP
      have hD : va_D A (wA ad ca tx ln (upd lb c1 (nI (ct % 64))) bg (nI c1) ct ia ++ (wW ad ca wo)) := hD
      exact zret_z C0 hr (zbn (by omega)) hAe hP hD hS (Or.inl ⟨_, by unfold tN; dsimp only; rw [hf1]; dsimp only; rw [if_pos hl3], rfl, _, rfl⟩) d_As_takeName_20
    · skip
      have hP : va_P D vCl (wA ad ca tx ln lb bg (nI c1) ct ia ++ (wW ad ca wo)) H := hP
      have hD : va_D A (wA ad ca tx ln lb bg (nI c1) ct ia ++ (wW ad ca wo)) := hD
      exact zret_z C0 hr (zbn (by omega)) hAe hP hD hS (Or.inr ⟨by unfold tN; dsimp only; rw [hf1]; dsimp only; rw [if_neg hl3], rfl, _, rfl⟩) d_As_takeName_20
  · skip
    have hP : va_P D vCl (wA ad ca tx ln lb bg x1 ct ia ++ (wW ad ca wo)) H := hP
    have hD : va_D A (wA ad ca tx ln lb bg x1 ct ia ++ (wW ad ca wo)) := hD
    refine lv_iconst (v := (-1)) hx hb d_As_takeName_8 (by decide) ?_
    refine lv_icmp_eq (tgt := 21) hx hb d_As_takeName_9 (by decide) (fun _ => ?_) (fun h4 => (h4 rfl).elim)
    refine lv_aload_n hx hb d_As_takeName_21 rfl (lv_at hl 0 rfl) ?_
    refine lv_iload_n hx hb d_As_takeName_22 rfl (lv_at hl 1 rfl) ?_
    refine lv_iload_n hx hb d_As_takeName_23 rfl (lv_at hl 2 rfl) ?_
    refine zgo_i (wr := []) C0 (zrunV (na := 2) (As := [.int (nI a0), .int (nI e0)]) (rest := []) C0 hP hD hS [0, 1, 2, 3, 4] rfl rfl (m_As_wordOfName l D ca k H.size ad tx ln lb bg x1 ct ia wo a0 e0 (by omega) (by omega) htx) (zg_V q371 q373 q806 q2 q374) (by decide +kernel) rfl rfl ⟨by decide, by decide⟩ 0 rfl rfl rfl hl.1 rfl (Nat.le_of_ble_eq_true rfl) d_As_takeName_24 ⟨Nat.zero_le _, Nat.zero_le _⟩) hP hD hS [0, 1, 2, 3, 4] [] rfl rfl (by decide) (by decide) (fun r5 w1 H locs hw hP hD hS => ?_)
    rcases hw with ⟨m5, hf5, hm5, rfl, x5, rfl⟩ | ⟨hf5, rfl, x5, rfl⟩
    · skip
      have hP : va_P D vCl (wA ad ca tx ln lb bg x5 ct ia ++ (wW ad ca wo)) H := hP
      have hD : va_D A (wA ad ca tx ln lb bg x5 ct ia ++ (wW ad ca wo)) := hD
      refine lv_istore_n hx hb d_As_takeName_27 rfl hl (by decide) rfl (fun ls hl => ?_)
      have hl : lv_has ls 4 [(3, .int (nI m5)), (0, .ref (ad 1)), (1, .int (nI a0)), (2, .int (nI e0))] := hl
      refine lv_iload_n hx hb d_As_takeName_28 rfl (lv_at hl 0 rfl) ?_
      refine lv_iconst (v := (-1)) hx hb d_As_takeName_29 (by decide) ?_
      refine lv_icmp_eq (tgt := 42) hx hb d_As_takeName_30 (by decide) (fun h6 => (zm1 (by omega) h6).elim) (fun _ => ?_)
      refine lv_aload_n hx hb d_As_takeName_33 rfl (lv_at hl 1 rfl) ?_
      refine va_get (D := D) (ci := 0) (v := .int (nI ct)) (C := RAs) (T := TAs) (N := 8) hx hb ht inAs hown hK hP 0 rfl rfl 6 (by decide) (ht _ q50) (fun _ h9 => h9) rfl d_As_takeName_34 ?_
      refine lv_bipush (v := nI 64) hx hb d_As_takeName_37 (by decide) ?_
      refine lv_icmp_lt (tgt := 44) hx hb d_As_takeName_39 (by decide) (fun h7 => ?_) (fun h7 => ?_)
      · skip
        have h7 : (ct < 64) := (nI_ltI (by omega) (by omega)).mp h7
        refine lv_aload_n hx hb d_As_takeName_44 rfl (lv_at hl 1 rfl) ?_
        refine va_get (D := D) (ci := 0) (v := .ref (ad 5)) (C := RAs) (T := TAs) (N := 8) hx hb ht inAs hown hK hP 0 rfl rfl 5 (by decide) (ht _ q48) (fun _ h9 => h9) rfl d_As_takeName_45 ?_
        refine lv_aload_n hx hb d_As_takeName_48 rfl (lv_at hl 1 rfl) ?_
        refine va_get (D := D) (ci := 0) (v := .int (nI ct)) (C := RAs) (T := TAs) (N := 8) hx hb ht inAs hown hK hP 0 rfl rfl 6 (by decide) (ht _ q50) (fun _ h9 => h9) rfl d_As_takeName_49 ?_
        refine lv_iload_n hx hb d_As_takeName_52 rfl (lv_at hl 0 rfl) ?_
        refine va_iast hx hb hK hP hD hS 4 0 rfl rfl (vp_in_nI (n := ct) (by omega) (by decide)) d_As_takeName_53 (fun H locs hP hD hS => ?_)
        rw [nF_up (by omega)] at hP hD
        have hP : va_P D vCl (wA ad ca tx ln lb bg x5 ct ia ++ (wW ad ca (uN wo ct m5))) H := hP
        have hD : va_D A (wA ad ca tx ln lb bg x5 ct ia ++ (wW ad ca (uN wo ct m5))) := hD
        refine lv_aload_n hx hb d_As_takeName_54 rfl (lv_at hl 1 rfl) ?_
        refine va_get (D := D) (ci := 0) (v := .ref (ad 4)) (C := RAs) (T := TAs) (N := 8) hx hb ht inAs hown hK hP 0 rfl rfl 3 (by decide) (ht _ q46) (fun _ h9 => h9) rfl d_As_takeName_55 ?_
        refine lv_aload_n hx hb d_As_takeName_58 rfl (lv_at hl 1 rfl) ?_
        refine va_get (D := D) (ci := 0) (v := .int (nI ct)) (C := RAs) (T := TAs) (N := 8) hx hb ht inAs hown hK hP 0 rfl rfl 6 (by decide) (ht _ q50) (fun _ h9 => h9) rfl d_As_takeName_59 ?_
        refine lv_iload_n hx hb d_As_takeName_62 rfl (lv_at hl 2 rfl) ?_
        refine va_iast hx hb hK hP hD hS 3 0 rfl rfl (vp_in_nI (n := ct) (by omega) (by decide)) d_As_takeName_63 (fun H locs hP hD hS => ?_)
        rw [nF_up (by omega)] at hP hD
        have hP : va_P D vCl (wA ad ca tx ln lb (uN bg ct a0) x5 ct ia ++ (wW ad ca (uN wo ct m5))) H := hP
        have hD : va_D A (wA ad ca tx ln lb (uN bg ct a0) x5 ct ia ++ (wW ad ca (uN wo ct m5))) := hD
        refine lv_aload_n hx hb d_As_takeName_64 rfl (lv_at hl 1 rfl) ?_
        refine lv_dup hx hb d_As_takeName_65 rfl ?_
        refine va_get (D := D) (ci := 0) (v := .int (nI ct)) (C := RAs) (T := TAs) (N := 8) hx hb ht inAs hown hK hP 0 rfl rfl 6 (by decide) (ht _ q50) (fun _ h9 => h9) rfl d_As_takeName_66 ?_
        refine lv_iconst (v := nI 1) hx hb d_As_takeName_69 (by decide) ?_
        refine lv_iadd hx hb d_As_takeName_70 ?_
        refine zti (y := nI (ct + 1)) (nI_add _ _) ?_
        refine va_put (D := D) (ci := 0) (v := .int (nI (ct + 1))) (ty := .int) (C := RAs) (T := TAs) (N := 8) hx hb ht inAs tyAs tyAs_ok nmAs hown hK hP hD hS 0 rfl rfl 6 (by decide) (ht _ q50) (fun _ h9 => h9) rfl (by decide +kernel) rfl rfl (Nat.le_of_ble_eq_true rfl) d_As_takeName_71 (fun H locs hP hD hS => ?_)
        have hP : va_P D vCl (wA ad ca tx ln lb (uN bg ct a0) x5 (ct + 1) ia ++ (wW ad ca (uN wo ct m5))) H := hP
        have hD : va_D A (wA ad ca tx ln lb (uN bg ct a0) x5 (ct + 1) ia ++ (wW ad ca (uN wo ct m5))) := hD
        refine lv_iconst (v := nI 1) hx hb d_As_takeName_74 (by decide) ?_
        exact zret_z C0 hr (zbn (by omega)) hAe hP hD hS (Or.inl ⟨_, by unfold tN; dsimp only; rw [hf1]; dsimp only; rw [hf5]; dsimp only; rw [if_pos (by omega)], rfl, _, rfl⟩) d_As_takeName_75
      · skip
        have h7 : ¬ (ct < 64) := fun z => h7 ((nI_ltI (by omega) (by omega)).mpr z)
        refine lv_iconst (v := nI 0) hx hb d_As_takeName_42 (by decide) ?_
        exact zret_z C0 hr (zbn (by omega)) hAe hP hD hS (Or.inr ⟨by unfold tN; dsimp only; rw [hf1]; dsimp only; rw [hf5]; dsimp only; rw [if_neg (by omega)], rfl, _, rfl⟩) d_As_takeName_43
    · skip
      have hP : va_P D vCl (wA ad ca tx ln lb bg x5 ct ia ++ (wW ad ca wo)) H := hP
      have hD : va_D A (wA ad ca tx ln lb bg x5 ct ia ++ (wW ad ca wo)) := hD
      refine lv_istore_n hx hb d_As_takeName_27 rfl hl (by decide) rfl (fun ls hl => ?_)
      have hl : lv_has ls 4 [(3, .int (-1)), (0, .ref (ad 1)), (1, .int (nI a0)), (2, .int (nI e0))] := hl
      refine lv_iload_n hx hb d_As_takeName_28 rfl (lv_at hl 0 rfl) ?_
      refine lv_iconst (v := (-1)) hx hb d_As_takeName_29 (by decide) ?_
      refine lv_icmp_eq (tgt := 42) hx hb d_As_takeName_30 (by decide) (fun _ => ?_) (fun h8 => (h8 rfl).elim)
      refine lv_iconst (v := nI 0) hx hb d_As_takeName_42 (by decide) ?_
      exact zret_z C0 hr (zbn (by omega)) hAe hP hD hS (Or.inr ⟨by unfold tN; dsimp only; rw [hf1]; dsimp only; rw [hf5], rfl, _, rfl⟩) d_As_takeName_43
