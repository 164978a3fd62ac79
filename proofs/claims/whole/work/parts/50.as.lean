set_option maxHeartbeats 4000000 in
set_option maxRecDepth 100000 in
theorem m_As_fill_a (l : Launch) (D : va_G) (ca : Nat → ClassId) (k : Nat → Nat) (sz : Nat) (ad : Nat → Nat) (tx : Nat → Nat) (ln : Nat) (lb : Nat → Int32) (bg : Nat → Nat) (ch : Int32) (ct : Nat) (ia : Int32) (wo : Nat → Nat) (hct : ct ≤ 64) (hwo : okW 0 ct wo) (hlb : ∀ j, j < 26 → (lb j = (-1) ∨ ∃ t, t < 64 ∧ lb j = nI t)) (hbg : ∀ j, bg j < 240) : Met l y_As_fillInLabels (zw y_As_fillInLabels c_As_fillInLabels 3 none) { frames := 0, cells := 0, slots := 0, locals := 0 } (va_Pc [.ref (ad 1)] (zPre D (zty ca) k (wA ad ca tx ln lb bg ch ct (-1) ++ (wW ad ca wo)) sz)) (va_Qv (fun w => w = wA ad ca tx ln lb bg ch ct ((fl_ lb bg ct 0 wo).1) ++ wW ad ca ((fl_ lb bg ct 0 wo).2)) (zB D (zty ca) (wA ad ca tx ln lb bg ch ct (-1) ++ (wW ad ca wo)) sz) (va_A (wA ad ca tx ln lb bg ch ct (-1) ++ (wW ad ca wo)) sz)) 0 0 (va_A (wA ad ca tx ln lb bg ch ct (-1) ++ (wW ad ca wo)) sz) := by
  refine zOf (own := "DigitChip$Assembler") (by decide +kernel) rfl (Nat.le_of_ble_eq_true rfl) ?_
  intro p e s m below meth c A ls C0 hr hnm hAe hsz hl hP hD hS
  have hl : lv_has ls 3 [(0, .ref (ad 1))] := hl
  obtain ⟨hx, hb, hml, hown, ht, hK, hX, hA, hlk⟩ := id C0
  refine lv_iconst (v := nI 0) hx hb d_As_fillInLabels_0 (by decide) ?_
  refine lv_istore_n hx hb d_As_fillInLabels_1 rfl hl (by decide) rfl (fun ls hl => ?_)
  have hl : lv_has ls 3 [(1, .int (nI 0)), (0, .ref (ad 1))] := hl
  have loop_lp : ∀ (n_lp : Nat) (i : Nat) (wo0 : Nat → Nat) (ia0 : Int32) (H : Heap) (locs : List Loc) (ls : Array Slot), ct - i < n_lp → (i ≤ ct) → (okW i ct wo0) → ((ia0 = (-1) ∧ fl_ lb bg ct 0 wo = fl_ lb bg (ct - i) i wo0) ∨ (∃ b, ia0 = nI b ∧ b < 240 ∧ fl_ lb bg ct 0 wo = (nI b, wo0))) → lv_has ls 3 [(1, .int (nI i)), (0, .ref (ad 1))] → va_P D vCl (wA ad ca tx ln lb bg ch ct ia0 ++ (wW ad ca wo0)) H → va_D A (wA ad ca tx ln lb bg ch ct ia0 ++ (wW ad ca wo0)) → va_S A s.heap H locs → W p l e { frames := 0, cells := 0, slots := 0, locals := 0 } s m ([.ref (ad 1)] : List Value).toArray below meth c H locs 0 0 (MQ below (va_Qv (fun w => w = wA ad ca tx ln lb bg ch ct ((fl_ lb bg ct 0 wo).1) ++ wW ad ca ((fl_ lb bg ct 0 wo).2)) (zB D (zty ca) (wA ad ca tx ln lb bg ch ct (-1) ++ (wW ad ca wo)) sz) (va_A (wA ad ca tx ln lb bg ch ct (-1) ++ (wW ad ca wo)) sz)) ([.ref (ad 1)] : List Value).toArray s 0 0 (va_A (wA ad ca tx ln lb bg ch ct (-1) ++ (wW ad ca wo)) sz)) (F0 m 2 ls []) := by
    intro n_lp
    induction n_lp with
    | zero => intro i wo0 ia0 H locs ls hm; exact absurd hm (Nat.not_lt_zero _)
    | succ n_lp ih_lp =>
      intro i wo0 ia0 H locs ls hm hi hwo0 hL hl hP hD hS
      have hwi := hwo0.2 i
      have hbi := hbg i
      rcases hL with ⟨rfl, hL⟩ | ⟨b0, rfl, hb0, hL⟩
      · skip
        refine lv_iload_n hx hb d_As_fillInLabels_2 rfl (lv_at hl 0 rfl) ?_
        refine lv_aload_n hx hb d_As_fillInLabels_3 rfl (lv_at hl 1 rfl) ?_
        refine va_get (D := D) (ci := 0) (v := .int (nI ct)) (C := RAs) (T := TAs) (N := 8) hx hb ht inAs hown hK hP 0 rfl rfl 6 (by decide) (ht _ q50) (fun _ h9 => h9) rfl d_As_fillInLabels_4 ?_
        refine lv_icmp_ge (tgt := 88) hx hb d_As_fillInLabels_7 (by decide) (fun h1 => ?_) (fun h1 => ?_)
        · skip
          have h1 : (ct ≤ i) := (nI_leI (by omega) (by omega)).mp h1
          rw [show ct - i = 0 by omega, l_0] at hL
          exact zret_v C0 hr hAe hP hD hS (by rw [hL]) d_As_fillInLabels_88
        · skip
          have h1 : ¬ (ct ≤ i) := fun z => h1 ((nI_leI (by omega) (by omega)).mpr z)
          refine lv_aload_n hx hb d_As_fillInLabels_10 rfl (lv_at hl 1 rfl) ?_
          refine va_get (D := D) (ci := 0) (v := .int (-1)) (C := RAs) (T := TAs) (N := 8) hx hb ht inAs hown hK hP 0 rfl rfl 7 (by decide) (ht _ q52) (fun _ h9 => h9) rfl d_As_fillInLabels_11 ?_
          refine lv_iconst (v := (-1)) hx hb d_As_fillInLabels_14 (by decide) ?_
          refine lv_icmp_ne (tgt := 88) hx hb d_As_fillInLabels_15 (by decide) (fun h2 => (h2 rfl).elim) (fun _ => ?_)
          refine lv_aload_n hx hb d_As_fillInLabels_18 rfl (lv_at hl 1 rfl) ?_
          refine va_get (D := D) (ci := 0) (v := .ref (ad 5)) (C := RAs) (T := TAs) (N := 8) hx hb ht inAs hown hK hP 0 rfl rfl 5 (by decide) (ht _ q48) (fun _ h9 => h9) rfl d_As_fillInLabels_19 ?_
          refine lv_iload_n hx hb d_As_fillInLabels_22 rfl (lv_at hl 0 rfl) ?_
          refine va_iald hx hb hK hP 4 0 rfl rfl (vp_in_nI (n := i) (by omega) (by decide)) d_As_fillInLabels_23 ?_
          refine zti (y := nI (wo0 i)) (nF_at (by omega)) ?_
          refine lv_iconst (v := nI 2) hx hb d_As_fillInLabels_24 (by decide) ?_
          refine lv_irem hx hb d_As_fillInLabels_25 (nI_ne0 (by omega) (by omega)) ?_
          refine zti (y := nI ((wo0 i) % 2)) (pk_rem (by omega) (by omega) (by omega)) ?_
          refine lv_if_ne (tgt := 32) hx hb d_As_fillInLabels_26 (by decide) (fun h3 => ?_) (fun h3 => ?_)
          · skip
            have h3 : ¬ (((wo0 i) % 2) = 0) := fun z => h3 (by rw [z]; rfl)
            refine lv_aload_n hx hb d_As_fillInLabels_32 rfl (lv_at hl 1 rfl) ?_
            refine va_get (D := D) (ci := 0) (v := .ref (ad 3)) (C := RAs) (T := TAs) (N := 8) hx hb ht inAs hown hK hP 0 rfl rfl 2 (by decide) (ht _ q45) (fun _ h9 => h9) rfl d_As_fillInLabels_33 ?_
            refine lv_aload_n hx hb d_As_fillInLabels_36 rfl (lv_at hl 1 rfl) ?_
            refine va_get (D := D) (ci := 0) (v := .ref (ad 5)) (C := RAs) (T := TAs) (N := 8) hx hb ht inAs hown hK hP 0 rfl rfl 5 (by decide) (ht _ q48) (fun _ h9 => h9) rfl d_As_fillInLabels_37 ?_
            refine lv_iload_n hx hb d_As_fillInLabels_40 rfl (lv_at hl 0 rfl) ?_
            refine va_iald hx hb hK hP 4 0 rfl rfl (vp_in_nI (n := i) (by omega) (by decide)) d_As_fillInLabels_41 ?_
            refine zti (y := nI (wo0 i)) (nF_at (by omega)) ?_
            refine lv_iconst (v := nI 4) hx hb d_As_fillInLabels_42 (by decide) ?_
            refine lv_idiv hx hb d_As_fillInLabels_43 (nI_ne0 (by omega) (by omega)) ?_
            refine zti (y := nI ((wo0 i) / 4)) (pk_div (by omega) (by omega) (by omega)) ?_
            have hq0 := hwo0.1 i (Nat.le_refl _) (by omega) (by omega)
            refine va_iald hx hb hK hP 2 0 rfl rfl (vp_in_nI (n := (wo0 i) / 4) (by omega) (by decide)) d_As_fillInLabels_44 ?_
            refine zti (y := lb ((wo0 i) / 4)) (rF_at (by omega)) ?_
            refine lv_istore_n hx hb d_As_fillInLabels_45 rfl hl (by decide) rfl (fun ls hl => ?_)
            have hl : lv_has ls 3 [(2, .int (lb ((wo0 i) / 4))), (1, .int (nI i)), (0, .ref (ad 1))] := hl
            rcases hlb (wo0 i / 4) (by omega) with hg | ⟨t0, ht0, hg⟩
            · skip
              rw [hg] at hl
              refine lv_iload_n hx hb d_As_fillInLabels_46 rfl (lv_at hl 0 rfl) ?_
              refine lv_iconst (v := (-1)) hx hb d_As_fillInLabels_47 (by decide) ?_
              refine lv_icmp_ne (tgt := 64) hx hb d_As_fillInLabels_48 (by decide) (fun h4 => (h4 rfl).elim) (fun _ => ?_)
              refine lv_aload_n hx hb d_As_fillInLabels_51 rfl (lv_at hl 2 rfl) ?_
              refine lv_aload_n hx hb d_As_fillInLabels_52 rfl (lv_at hl 2 rfl) ?_
              refine va_get (D := D) (ci := 0) (v := .ref (ad 4)) (C := RAs) (T := TAs) (N := 8) hx hb ht inAs hown hK hP 0 rfl rfl 3 (by decide) (ht _ q46) (fun _ h9 => h9) rfl d_As_fillInLabels_53 ?_
              refine lv_iload_n hx hb d_As_fillInLabels_56 rfl (lv_at hl 1 rfl) ?_
              refine va_iald hx hb hK hP 3 0 rfl rfl (vp_in_nI (n := i) (by omega) (by decide)) d_As_fillInLabels_57 ?_
              refine zti (y := nI (bg i)) (nF_at (by omega)) ?_
              refine va_put (D := D) (ci := 0) (v := .int (nI (bg i))) (ty := .int) (C := RAs) (T := TAs) (N := 8) hx hb ht inAs tyAs tyAs_ok nmAs hown hK hP hD hS 0 rfl rfl 7 (by decide) (ht _ q52) (fun _ h9 => h9) rfl (by decide +kernel) rfl rfl (Nat.le_of_ble_eq_true rfl) d_As_fillInLabels_58 (fun H locs hP hD hS => ?_)
              have hP : va_P D vCl (wA ad ca tx ln lb bg ch ct (nI (bg i)) ++ (wW ad ca wo0)) H := hP
              have hD : va_D A (wA ad ca tx ln lb bg ch ct (nI (bg i)) ++ (wW ad ca wo0)) := hD
              refine lv_goto (tgt := 82) hx hb d_As_fillInLabels_61 (by decide) ?_
              refine lv_iinc (k := 1) (v := nI (i + 1)) hx hb d_As_fillInLabels_82 hl rfl (zinc _) (by decide) rfl (fun ls hl => ?_)
              have hl : lv_has ls 3 [(1, .int (nI (i + 1))), (2, .int (-1)), (0, .ref (ad 1))] := hl
              refine lv_goto (tgt := 2) hx hb d_As_fillInLabels_85 (by decide) ?_
              rw [show ct - i = (ct - (i + 1)) + 1 by omega, l_w] at hL
              rw [if_neg h3] at hL
              rw [if_pos hg] at hL
              exact ih_lp (i + 1) wo0 (nI (bg i)) H locs ls (by omega) (by omega) (okW_s hwo0) (Or.inr ⟨_, rfl, hbg i, hL⟩) (lv_sub hl [0, 2] rfl) hP hD hS
            · skip
              rw [hg] at hl
              refine lv_iload_n hx hb d_As_fillInLabels_46 rfl (lv_at hl 0 rfl) ?_
              refine lv_iconst (v := (-1)) hx hb d_As_fillInLabels_47 (by decide) ?_
              refine lv_icmp_ne (tgt := 64) hx hb d_As_fillInLabels_48 (by decide) (fun _ => ?_) (fun h5 => (zm1 (by omega) h5).elim)
              refine lv_aload_n hx hb d_As_fillInLabels_64 rfl (lv_at hl 2 rfl) ?_
              refine va_get (D := D) (ci := 0) (v := .ref (ad 5)) (C := RAs) (T := TAs) (N := 8) hx hb ht inAs hown hK hP 0 rfl rfl 5 (by decide) (ht _ q48) (fun _ h9 => h9) rfl d_As_fillInLabels_65 ?_
              refine lv_iload_n hx hb d_As_fillInLabels_68 rfl (lv_at hl 1 rfl) ?_
              refine lv_iload_n hx hb d_As_fillInLabels_69 rfl (lv_at hl 0 rfl) ?_
              refine lv_iconst (v := nI 4) hx hb d_As_fillInLabels_70 (by decide) ?_
              refine lv_imul hx hb d_As_fillInLabels_71 ?_
              refine zti (y := nI (t0 * 4)) (pk_mul _ _) ?_
              refine lv_aload_n hx hb d_As_fillInLabels_72 rfl (lv_at hl 2 rfl) ?_
              refine va_get (D := D) (ci := 0) (v := .ref (ad 5)) (C := RAs) (T := TAs) (N := 8) hx hb ht inAs hown hK hP 0 rfl rfl 5 (by decide) (ht _ q48) (fun _ h9 => h9) rfl d_As_fillInLabels_73 ?_
              refine lv_iload_n hx hb d_As_fillInLabels_76 rfl (lv_at hl 1 rfl) ?_
              refine va_iald hx hb hK hP 4 0 rfl rfl (vp_in_nI (n := i) (by omega) (by decide)) d_As_fillInLabels_77 ?_
              refine zti (y := nI (wo0 i)) (nF_at (by omega)) ?_
              refine lv_iconst (v := nI 4) hx hb d_As_fillInLabels_78 (by decide) ?_
              refine lv_irem hx hb d_As_fillInLabels_79 (nI_ne0 (by omega) (by omega)) ?_
              refine zti (y := nI ((wo0 i) % 4)) (pk_rem (by omega) (by omega) (by omega)) ?_
              refine lv_iadd hx hb d_As_fillInLabels_80 ?_
              refine zti (y := nI ((t0 * 4) + ((wo0 i) % 4))) (nI_add _ _) ?_
              refine va_iast hx hb hK hP hD hS 4 0 rfl rfl (vp_in_nI (n := i) (by omega) (by decide)) d_As_fillInLabels_81 (fun H locs hP hD hS => ?_)
              rw [nF_up (by omega)] at hP hD
              have hP : va_P D vCl (wA ad ca tx ln lb bg ch ct (-1) ++ (wW ad ca (uN wo0 i ((t0 * 4) + ((wo0 i) % 4))))) H := hP
              have hD : va_D A (wA ad ca tx ln lb bg ch ct (-1) ++ (wW ad ca (uN wo0 i ((t0 * 4) + ((wo0 i) % 4))))) := hD
              refine lv_iinc (k := 1) (v := nI (i + 1)) hx hb d_As_fillInLabels_82 hl rfl (zinc _) (by decide) rfl (fun ls hl => ?_)
              have hl : lv_has ls 3 [(1, .int (nI (i + 1))), (2, .int (nI t0)), (0, .ref (ad 1))] := hl
              refine lv_goto (tgt := 2) hx hb d_As_fillInLabels_85 (by decide) ?_
              rw [show ct - i = (ct - (i + 1)) + 1 by omega, l_w] at hL
              rw [if_neg h3] at hL
              rw [if_neg (fun z => zm1 (n := t0) (by omega) (hg.symm.trans z)), hg, nI_clamp (by omega)] at hL
              exact ih_lp (i + 1) (uN wo0 i (t0 * 4 + wo0 i % 4)) (-1) H locs ls (by omega) (by omega) (okW_u hwo0 ht0) (Or.inl ⟨rfl, hL⟩) (lv_sub hl [0, 2] rfl) hP hD hS
          · skip
            have h3 : (((wo0 i) % 2) = 0) := (nI_eq (by omega) (by decide)).mp (h3.trans nI_0.symm)
            refine lv_goto (tgt := 82) hx hb d_As_fillInLabels_29 (by decide) ?_
            refine lv_iinc (k := 0) (v := nI (i + 1)) hx hb d_As_fillInLabels_82 hl rfl (zinc _) (by decide) rfl (fun ls hl => ?_)
            have hl : lv_has ls 3 [(1, .int (nI (i + 1))), (0, .ref (ad 1))] := hl
            refine lv_goto (tgt := 2) hx hb d_As_fillInLabels_85 (by decide) ?_
            rw [show ct - i = (ct - (i + 1)) + 1 by omega, l_w] at hL
            rw [if_pos h3] at hL
            exact ih_lp (i + 1) wo0 (-1) H locs ls (by omega) (by omega) (okW_s hwo0) (Or.inl ⟨rfl, hL⟩) hl hP hD hS
      · skip
        refine lv_iload_n hx hb d_As_fillInLabels_2 rfl (lv_at hl 0 rfl) ?_
        refine lv_aload_n hx hb d_As_fillInLabels_3 rfl (lv_at hl 1 rfl) ?_
        refine va_get (D := D) (ci := 0) (v := .int (nI ct)) (C := RAs) (T := TAs) (N := 8) hx hb ht inAs hown hK hP 0 rfl rfl 6 (by decide) (ht _ q50) (fun _ h9 => h9) rfl d_As_fillInLabels_4 ?_
        refine lv_icmp_ge (tgt := 88) hx hb d_As_fillInLabels_7 (by decide) (fun h6 => ?_) (fun h6 => ?_)
        · skip
          have h6 : (ct ≤ i) := (nI_leI (by omega) (by omega)).mp h6
          exact zret_v C0 hr hAe hP hD hS (by rw [hL]) d_As_fillInLabels_88
        · skip
          have h6 : ¬ (ct ≤ i) := fun z => h6 ((nI_leI (by omega) (by omega)).mpr z)
          refine lv_aload_n hx hb d_As_fillInLabels_10 rfl (lv_at hl 1 rfl) ?_
          refine va_get (D := D) (ci := 0) (v := .int (nI b0)) (C := RAs) (T := TAs) (N := 8) hx hb ht inAs hown hK hP 0 rfl rfl 7 (by decide) (ht _ q52) (fun _ h9 => h9) rfl d_As_fillInLabels_11 ?_
          refine lv_iconst (v := (-1)) hx hb d_As_fillInLabels_14 (by decide) ?_
          refine lv_icmp_ne (tgt := 88) hx hb d_As_fillInLabels_15 (by decide) (fun _ => ?_) (fun h7 => (zm1 (by omega) h7).elim)
          exact zret_v C0 hr hAe hP hD hS (by rw [hL]) d_As_fillInLabels_88
  exact loop_lp (ct + 1) 0 wo (-1) _ _ _ (by omega) (by omega) hwo (Or.inl ⟨rfl, rfl⟩) (lv_sub hl [0, 1] rfl) hP hD hS
set_option maxHeartbeats 4000000 in
set_option maxRecDepth 100000 in
theorem m_As_fill_b (l : Launch) (D : va_G) (ca : Nat → ClassId) (k : Nat → Nat) (sz : Nat) (ad : Nat → Nat) (tx : Nat → Nat) (ln : Nat) (lb : Nat → Int32) (bg : Nat → Nat) (ch : Int32) (ct : Nat) (ia : Int32) (wo : Nat → Nat) (b0 : Nat) (hb0 : b0 < 240) (hct : ct ≤ 64) : Met l y_As_fillInLabels (zw y_As_fillInLabels c_As_fillInLabels 3 none) { frames := 0, cells := 0, slots := 0, locals := 0 } (va_Pc [.ref (ad 1)] (zPre D (zty ca) k (wA ad ca tx ln lb bg ch ct (nI b0) ++ (wW ad ca wo)) sz)) (va_Qv (fun w => w = wA ad ca tx ln lb bg ch ct (nI b0) ++ wW ad ca wo) (zB D (zty ca) (wA ad ca tx ln lb bg ch ct (nI b0) ++ (wW ad ca wo)) sz) (va_A (wA ad ca tx ln lb bg ch ct (nI b0) ++ (wW ad ca wo)) sz)) 0 0 (va_A (wA ad ca tx ln lb bg ch ct (nI b0) ++ (wW ad ca wo)) sz) := by
  refine zOf (own := "DigitChip$Assembler") (by decide +kernel) rfl (Nat.le_of_ble_eq_true rfl) ?_
  intro p e s m below meth c A ls C0 hr hnm hAe hsz hl hP hD hS
  have hl : lv_has ls 3 [(0, .ref (ad 1))] := hl
  obtain ⟨hx, hb, hml, hown, ht, hK, hX, hA, hlk⟩ := id C0
  refine lv_iconst (v := nI 0) hx hb d_As_fillInLabels_0 (by decide) ?_
  refine lv_istore_n hx hb d_As_fillInLabels_1 rfl hl (by decide) rfl (fun ls hl => ?_)
  have hl : lv_has ls 3 [(1, .int (nI 0)), (0, .ref (ad 1))] := hl
  refine lv_iload_n hx hb d_As_fillInLabels_2 rfl (lv_at hl 0 rfl) ?_
  refine lv_aload_n hx hb d_As_fillInLabels_3 rfl (lv_at hl 1 rfl) ?_
  refine va_get (D := D) (ci := 0) (v := .int (nI ct)) (C := RAs) (T := TAs) (N := 8) hx hb ht inAs hown hK hP 0 rfl rfl 6 (by decide) (ht _ q50) (fun _ h9 => h9) rfl d_As_fillInLabels_4 ?_
  refine lv_icmp_ge (tgt := 88) hx hb d_As_fillInLabels_7 (by decide) (fun h1 => ?_) (fun h1 => ?_)
  · skip
    have h1 : (ct ≤ 0) := (nI_leI (by omega) (by omega)).mp h1
    exact zret_v C0 hr hAe hP hD hS rfl d_As_fillInLabels_88
  · skip
    have h1 : ¬ (ct ≤ 0) := fun z => h1 ((nI_leI (by omega) (by omega)).mpr z)
    refine lv_aload_n hx hb d_As_fillInLabels_10 rfl (lv_at hl 1 rfl) ?_
    refine va_get (D := D) (ci := 0) (v := .int (nI b0)) (C := RAs) (T := TAs) (N := 8) hx hb ht inAs hown hK hP 0 rfl rfl 7 (by decide) (ht _ q52) (fun _ h9 => h9) rfl d_As_fillInLabels_11 ?_
    refine lv_iconst (v := (-1)) hx hb d_As_fillInLabels_14 (by decide) ?_
    refine lv_icmp_ne (tgt := 88) hx hb d_As_fillInLabels_15 (by decide) (fun _ => ?_) (fun h2 => (zm1 (by omega) h2).elim)
    exact zret_v C0 hr hAe hP hD hS rfl d_As_fillInLabels_88
