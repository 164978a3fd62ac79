set_option maxHeartbeats 4000000 in
set_option maxRecDepth 100000 in
theorem m_As_takeText (l : Launch) (D : va_G) (ca : Nat → ClassId) (k : Nat → Nat) (sz : Nat) (ad : Nat → Nat) (tx : Nat → Nat) (ln : Nat) (lb : Nat → Int32) (bg : Nat → Nat) (ch : Int32) (ct : Nat) (ia : Int32) (wo : Nat → Nat) (hln : ln ≤ 240) (hwb : ∀ j, wo j < 1024) (hbg : ∀ j, bg j < 240) (htx : ∀ j, tx j < 127) : Met l y_As_takeText (zw y_As_takeText c_As_takeText 2 (some .boolean)) { frames := 8, cells := 0, slots := 0, locals := 189 } (va_Pc [.ref (ad 1)] (zPre D (zty ca) k (wA ad ca tx ln lb bg ch ct ia ++ (wW ad ca wo)) sz)) (va_Qi (fun r w => ((asm tx ln lb wo bg).1 = (-1) ∧ r = nI 1 ∧ ∃ x, w = wA ad ca tx 0 ((asm tx ln lb wo bg).2.1) ((asm tx ln lb wo bg).2.2.2.2) x ((asm tx ln lb wo bg).2.2.1) ((asm tx ln lb wo bg).1) ++ wW ad ca ((asm tx ln lb wo bg).2.2.2.1)) ∨ (¬ (asm tx ln lb wo bg).1 = (-1) ∧ r = nI 0 ∧ ∃ x, w = wA ad ca tx 0 ((asm tx ln lb wo bg).2.1) ((asm tx ln lb wo bg).2.2.2.2) x ((asm tx ln lb wo bg).2.2.1) ((asm tx ln lb wo bg).1) ++ wW ad ca ((asm tx ln lb wo bg).2.2.2.1))) (zB D (zty ca) (wA ad ca tx ln lb bg ch ct ia ++ (wW ad ca wo)) sz) (va_A (wA ad ca tx ln lb bg ch ct ia ++ (wW ad ca wo)) sz)) 0 0 (va_A (wA ad ca tx ln lb bg ch ct ia ++ (wW ad ca wo)) sz) := by
  refine zOf (own := "DigitChip$Assembler") (by decide +kernel) rfl (Nat.le_of_ble_eq_true rfl) ?_
  intro p e s m below meth c A ls C0 hr hnm hAe hsz hl hP hD hS
  have hl : lv_has ls 2 [(0, .ref (ad 1))] := hl
  obtain ⟨hx, hb, hml, hown, ht, hK, hX, hA, hlk⟩ := id C0
  refine lv_aload_n hx hb d_As_takeText_0 rfl (lv_at hl 0 rfl) ?_
  refine lv_iconst (v := nI 0) hx hb d_As_takeText_1 (by decide) ?_
  refine va_put (D := D) (ci := 0) (v := .int (nI 0)) (ty := .int) (C := RAs) (T := TAs) (N := 8) hx hb ht inAs tyAs tyAs_ok nmAs hown hK hP hD hS 0 rfl rfl 6 (by decide) (ht _ q50) (fun _ h9 => h9) rfl (by decide +kernel) rfl rfl (Nat.le_of_ble_eq_true rfl) d_As_takeText_2 (fun H locs hP hD hS => ?_)
  have hP : va_P D vCl (wA ad ca tx ln lb bg ch 0 ia ++ (wW ad ca wo)) H := hP
  have hD : va_D A (wA ad ca tx ln lb bg ch 0 ia ++ (wW ad ca wo)) := hD
  refine lv_aload_n hx hb d_As_takeText_5 rfl (lv_at hl 0 rfl) ?_
  refine lv_iconst (v := (-1)) hx hb d_As_takeText_6 (by decide) ?_
  refine va_put (D := D) (ci := 0) (v := .int (-1)) (ty := .int) (C := RAs) (T := TAs) (N := 8) hx hb ht inAs tyAs tyAs_ok nmAs hown hK hP hD hS 0 rfl rfl 7 (by decide) (ht _ q52) (fun _ h9 => h9) rfl (by decide +kernel) rfl rfl (Nat.le_of_ble_eq_true rfl) d_As_takeText_7 (fun H locs hP hD hS => ?_)
  have hP : va_P D vCl (wA ad ca tx ln lb bg ch 0 (-1) ++ (wW ad ca wo)) H := hP
  have hD : va_D A (wA ad ca tx ln lb bg ch 0 (-1) ++ (wW ad ca wo)) := hD
  refine lv_aload_n hx hb d_As_takeText_10 rfl (lv_at hl 0 rfl) ?_
  refine va_get (D := D) (ci := 0) (v := .ref (ad 3)) (C := RAs) (T := TAs) (N := 8) hx hb ht inAs hown hK hP 0 rfl rfl 2 (by decide) (ht _ q45) (fun _ h9 => h9) rfl d_As_takeText_11 ?_
  refine lv_iconst (v := (-1)) hx hb d_As_takeText_14 (by decide) ?_
  refine zgo_v (wr := wW ad ca wo) C0 (zrunS (na := 2) (As := [.ref (ad 3), .int (-1)]) (rest := []) C0 hP hD hS [0, 1, 2, 3] rfl rfl (m_Ar_fill l D ca k H.size ad tx ln lb bg ch 0 (-1) (-1)) (zg_S q244 q245 q8 q246) (by decide +kernel) rfl rfl ⟨by decide, by decide⟩ rfl hl.1 rfl (Nat.le_of_ble_eq_true rfl) d_As_takeText_15 ⟨Nat.zero_le _, Nat.zero_le _⟩) hP hD hS [0, 1, 2, 3] [4] rfl rfl (by decide) (by decide) (fun w1 H locs hw hP hD hS => ?_)
  obtain rfl := hw
  have hP : va_P D vCl (wW ad ca wo ++ (wA ad ca tx ln (fil lb (-1) 26) bg ch 0 (-1))) H := hP
  have hD : va_D A (wW ad ca wo ++ (wA ad ca tx ln (fil lb (-1) 26) bg ch 0 (-1))) := hD
  have hP := hP.sub (ws' := wA ad ca tx ln (fil lb (-1) 26) bg ch 0 (-1) ++ (wW ad ca wo)) [1, 2, 3, 4, 0] rfl
  have hD := hD.sub (ws' := wA ad ca tx ln (fil lb (-1) 26) bg ch 0 (-1) ++ (wW ad ca wo)) [1, 2, 3, 4, 0] (by decide) rfl
  refine lv_iconst (v := nI 0) hx hb d_As_takeText_18 (by decide) ?_
  refine lv_istore_n hx hb d_As_takeText_19 rfl hl (by decide) rfl (fun ls hl => ?_)
  have hl : lv_has ls 2 [(1, .int (nI 0)), (0, .ref (ad 1))] := hl
  have loop_lp : ∀ (n_lp : Nat) (a0 : Nat) (T0 : AS) (x0 : Int32) (ia0 : Int32) (H : Heap) (locs : List Loc) (ls : Array Slot), ln - a0 < n_lp → (a0 ≤ ln) → (okT T0) → ((ia0 = (-1) ∧ tR tx ln ln 0 (fil lb (-1) 26, 0, wo, bg) = tR tx ln (ln - a0) a0 T0) ∨ (∃ b, ia0 = nI b ∧ b < 240 ∧ tR tx ln ln 0 (fil lb (-1) 26, 0, wo, bg) = (nI b, T0))) → lv_has ls 2 [(1, .int (nI a0)), (0, .ref (ad 1))] → va_P D vCl (wA ad ca tx ln T0.1 T0.2.2.2 x0 T0.2.1 ia0 ++ (wW ad ca T0.2.2.1)) H → va_D A (wA ad ca tx ln T0.1 T0.2.2.2 x0 T0.2.1 ia0 ++ (wW ad ca T0.2.2.1)) → va_S A s.heap H locs → W p l e { frames := 8, cells := 0, slots := 0, locals := 189 } s m ([.ref (ad 1)] : List Value).toArray below meth c H locs 0 0 (MQ below (va_Qi (fun r w => ((asm tx ln lb wo bg).1 = (-1) ∧ r = nI 1 ∧ ∃ x, w = wA ad ca tx 0 ((asm tx ln lb wo bg).2.1) ((asm tx ln lb wo bg).2.2.2.2) x ((asm tx ln lb wo bg).2.2.1) ((asm tx ln lb wo bg).1) ++ wW ad ca ((asm tx ln lb wo bg).2.2.2.1)) ∨ (¬ (asm tx ln lb wo bg).1 = (-1) ∧ r = nI 0 ∧ ∃ x, w = wA ad ca tx 0 ((asm tx ln lb wo bg).2.1) ((asm tx ln lb wo bg).2.2.2.2) x ((asm tx ln lb wo bg).2.2.1) ((asm tx ln lb wo bg).1) ++ wW ad ca ((asm tx ln lb wo bg).2.2.2.1))) (zB D (zty ca) (wA ad ca tx ln lb bg ch ct ia ++ (wW ad ca wo)) sz) (va_A (wA ad ca tx ln lb bg ch ct ia ++ (wW ad ca wo)) sz)) ([.ref (ad 1)] : List Value).toArray s 0 0 (va_A (wA ad ca tx ln lb bg ch ct ia ++ (wW ad ca wo)) sz)) (F0 m 20 ls []) := by
    intro n_lp
    induction n_lp with
    | zero => intro a0 T0 x0 ia0 H locs ls hm; exact absurd hm (Nat.not_lt_zero _)
    | succ n_lp ih_lp =>
      intro a0 T0 x0 ia0 H locs ls hm hi okT0 hL hl hP hD hS
      have hct0 := okT0.1
      rcases hL with ⟨rfl, hL⟩ | ⟨b0, rfl, hb0, hL⟩
      · skip
        refine lv_iload_n hx hb d_As_takeText_20 rfl (lv_at hl 0 rfl) ?_
        refine lv_aload_n hx hb d_As_takeText_21 rfl (lv_at hl 1 rfl) ?_
        refine va_get (D := D) (ci := 0) (v := .int (nI ln)) (C := RAs) (T := TAs) (N := 8) hx hb ht inAs hown hK hP 0 rfl rfl 1 (by decide) (ht _ q44) (fun _ h9 => h9) rfl d_As_takeText_22 ?_
        refine lv_icmp_ge (tgt := 68) hx hb d_As_takeText_25 (by decide) (fun h2 => ?_) (fun h2 => ?_)
        · skip
          have h2 : (ln ≤ a0) := (nI_leI (by omega) (by omega)).mp h2
          refine lv_aload_n hx hb d_As_takeText_68 rfl (lv_at hl 1 rfl) ?_
          refine zgo_v (wr := []) C0 (zrunV (na := 0) (As := []) (rest := []) C0 hP hD hS [0, 1, 2, 3, 4] rfl rfl (m_As_fill_a l D ca k H.size ad tx ln T0.1 T0.2.2.2 x0 T0.2.1 (-1) T0.2.2.1 okT0.1 ⟨fun j _ => okT0.2.1 j, okT0.2.2.1⟩ okT0.2.2.2.1 okT0.2.2.2.2) (zg_V q378 q380 q807 q2 q381) (by decide +kernel) rfl rfl ⟨by decide, by decide⟩ 0 rfl rfl rfl hl.1 rfl (Nat.le_of_ble_eq_true rfl) d_As_takeText_69 ⟨Nat.zero_le _, Nat.zero_le _⟩) hP hD hS [0, 1, 2, 3, 4] [] rfl rfl (by decide) (by decide) (fun w1 H locs hw hP hD hS => ?_)
          obtain rfl := hw
          have hP : va_P D vCl (wA ad ca tx ln T0.1 T0.2.2.2 x0 T0.2.1 ((fl_ T0.1 T0.2.2.2 T0.2.1 0 T0.2.2.1).1) ++ (wW ad ca ((fl_ T0.1 T0.2.2.2 T0.2.1 0 T0.2.2.1).2))) H := hP
          have hD : va_D A (wA ad ca tx ln T0.1 T0.2.2.2 x0 T0.2.1 ((fl_ T0.1 T0.2.2.2 T0.2.1 0 T0.2.2.1).1) ++ (wW ad ca ((fl_ T0.1 T0.2.2.2 T0.2.1 0 T0.2.2.1).2))) := hD
          refine lv_aload_n hx hb d_As_takeText_72 rfl (lv_at hl 1 rfl) ?_
          refine lv_iconst (v := nI 0) hx hb d_As_takeText_73 (by decide) ?_
          refine va_put (D := D) (ci := 0) (v := .int (nI 0)) (ty := .int) (C := RAs) (T := TAs) (N := 8) hx hb ht inAs tyAs tyAs_ok nmAs hown hK hP hD hS 0 rfl rfl 1 (by decide) (ht _ q44) (fun _ h9 => h9) rfl (by decide +kernel) rfl rfl (Nat.le_of_ble_eq_true rfl) d_As_takeText_74 (fun H locs hP hD hS => ?_)
          have hP : va_P D vCl (wA ad ca tx 0 T0.1 T0.2.2.2 x0 T0.2.1 ((fl_ T0.1 T0.2.2.2 T0.2.1 0 T0.2.2.1).1) ++ (wW ad ca ((fl_ T0.1 T0.2.2.2 T0.2.1 0 T0.2.2.1).2))) H := hP
          have hD : va_D A (wA ad ca tx 0 T0.1 T0.2.2.2 x0 T0.2.1 ((fl_ T0.1 T0.2.2.2 T0.2.1 0 T0.2.2.1).1) ++ (wW ad ca ((fl_ T0.1 T0.2.2.2 T0.2.1 0 T0.2.2.1).2))) := hD
          refine lv_aload_n hx hb d_As_takeText_77 rfl (lv_at hl 1 rfl) ?_
          refine va_get (D := D) (ci := 0) (v := .int ((fl_ T0.1 T0.2.2.2 T0.2.1 0 T0.2.2.1).1)) (C := RAs) (T := TAs) (N := 8) hx hb ht inAs hown hK hP 0 rfl rfl 7 (by decide) (ht _ q52) (fun _ h9 => h9) rfl d_As_takeText_78 ?_
          refine lv_iconst (v := (-1)) hx hb d_As_takeText_81 (by decide) ?_
          refine lv_icmp_ne (tgt := 89) hx hb d_As_takeText_82 (by decide) (fun h4 => ?_) (fun h4 => ?_)
          · skip
            refine lv_iconst (v := nI 0) hx hb d_As_takeText_89 (by decide) ?_
            rw [show ln - a0 = 0 by omega, t_0] at hL
            exact zret_z C0 hr (zbn (by omega)) hAe hP hD hS (Or.inr ⟨by rw [asm_a hL]; exact h4, rfl, _, by rw [asm_a hL]⟩) d_As_takeText_90
          · skip
            refine lv_iconst (v := nI 1) hx hb d_As_takeText_85 (by decide) ?_
            refine lv_goto (tgt := 90) hx hb d_As_takeText_86 (by decide) ?_
            rw [show ln - a0 = 0 by omega, t_0] at hL
            exact zret_z C0 hr (zbn (by omega)) hAe hP hD hS (Or.inl ⟨by rw [asm_a hL]; exact h4, rfl, _, by rw [asm_a hL]⟩) d_As_takeText_90
        · skip
          have h2 : ¬ (ln ≤ a0) := fun z => h2 ((nI_leI (by omega) (by omega)).mpr z)
          refine lv_aload_n hx hb d_As_takeText_28 rfl (lv_at hl 1 rfl) ?_
          refine va_get (D := D) (ci := 0) (v := .int (-1)) (C := RAs) (T := TAs) (N := 8) hx hb ht inAs hown hK hP 0 rfl rfl 7 (by decide) (ht _ q52) (fun _ h9 => h9) rfl d_As_takeText_29 ?_
          refine lv_iconst (v := (-1)) hx hb d_As_takeText_32 (by decide) ?_
          refine lv_icmp_ne (tgt := 68) hx hb d_As_takeText_33 (by decide) (fun h5 => (h5 rfl).elim) (fun _ => ?_)
          refine lv_aload_n hx hb d_As_takeText_36 rfl (lv_at hl 1 rfl) ?_
          refine lv_iload_n hx hb d_As_takeText_37 rfl (lv_at hl 0 rfl) ?_
          refine zgo_i (wr := []) C0 (zrunV (na := 1) (As := [.int (nI a0)]) (rest := []) C0 hP hD hS [0, 1, 2, 3, 4] rfl rfl (m_As_beginsName l D ca k H.size ad tx ln T0.1 T0.2.2.2 x0 T0.2.1 (-1) T0.2.2.1 a0 (by omega) htx) (zg_V q247 q249 q800 q2 q250) (by decide +kernel) rfl rfl ⟨by decide, by decide⟩ 0 rfl rfl rfl hl.1 rfl (Nat.le_of_ble_eq_true rfl) d_As_takeText_38 ⟨Nat.zero_le _, Nat.zero_le _⟩) hP hD hS [0, 1, 2, 3, 4] [] rfl rfl (by decide) (by decide) (fun r6 w1 H locs hw hP hD hS => ?_)
          rcases hw with ⟨hn6, rfl, rfl⟩ | ⟨hn6, rfl, rfl⟩
          · skip
            have hP : va_P D vCl (wA ad ca tx ln T0.1 T0.2.2.2 x0 T0.2.1 (-1) ++ (wW ad ca T0.2.2.1)) H := hP
            have hD : va_D A (wA ad ca tx ln T0.1 T0.2.2.2 x0 T0.2.1 (-1) ++ (wW ad ca T0.2.2.1)) := hD
            refine lv_if_eq (tgt := 62) hx hb d_As_takeText_41 (by decide) (fun h7 => absurd h7 (by decide)) (fun _ => ?_)
            refine lv_aload_n hx hb d_As_takeText_44 rfl (lv_at hl 1 rfl) ?_
            refine lv_iload_n hx hb d_As_takeText_45 rfl (lv_at hl 0 rfl) ?_
            refine lv_aload_n hx hb d_As_takeText_46 rfl (lv_at hl 1 rfl) ?_
            refine lv_iload_n hx hb d_As_takeText_47 rfl (lv_at hl 0 rfl) ?_
            refine zgo_i (wr := []) C0 (zrunV (na := 1) (As := [.int (nI a0)]) (rest := [.int (nI a0), .ref (ad 1)]) C0 hP hD hS [0, 1, 2, 3, 4] rfl rfl (m_As_endOfName l D ca k H.size ad tx ln T0.1 T0.2.2.2 x0 T0.2.1 (-1) T0.2.2.1 a0 (by omega) (by omega) htx) (zg_V q251 q253 q801 q2 q254) (by decide +kernel) rfl rfl ⟨by decide, by decide⟩ 0 rfl rfl rfl hl.1 rfl (Nat.le_of_ble_eq_true rfl) d_As_takeText_48 ⟨Nat.zero_le _, Nat.zero_le _⟩) hP hD hS [0, 1, 2, 3, 4] [] rfl rfl (by decide) (by decide) (fun r8 w1 H locs hw hP hD hS => ?_)
            obtain ⟨rfl, rfl⟩ := hw
            have he8 := e_le (tx := tx) (ln := ln) (r := ln - a0) (j := a0)
            have hP : va_P D vCl (wA ad ca tx ln T0.1 T0.2.2.2 x0 T0.2.1 (-1) ++ (wW ad ca T0.2.2.1)) H := hP
            have hD : va_D A (wA ad ca tx ln T0.1 T0.2.2.2 x0 T0.2.1 (-1) ++ (wW ad ca T0.2.2.1)) := hD
            refine zgo_i (wr := []) C0 (zrunV (na := 2) (As := [.int (nI a0), .int (nI (eN tx ln (ln - a0) a0))]) (rest := []) C0 hP hD hS [0, 1, 2, 3, 4] rfl rfl (m_As_takeName l D ca k H.size ad tx ln T0.1 T0.2.2.2 x0 T0.2.1 (-1) T0.2.2.1 a0 (eN tx ln (ln - a0) a0) (by omega) (by omega) (by omega) htx) (zg_V q255 q257 q802 q2 q258) (by decide +kernel) rfl rfl ⟨by decide, by decide⟩ 0 rfl rfl rfl hl.1 rfl (Nat.le_of_ble_eq_true rfl) d_As_takeText_51 ⟨Nat.zero_le _, Nat.zero_le _⟩) hP hD hS [0, 1, 2, 3, 4] [] rfl rfl (by decide) (by decide) (fun r9 w1 H locs hw hP hD hS => ?_)
            rcases hw with ⟨T9, hT9, rfl, x9, rfl⟩ | ⟨hT9, rfl, x9, rfl⟩
            · skip
              have hP : va_P D vCl (wA ad ca tx ln T9.1 T9.2.2.2 x9 T9.2.1 (-1) ++ (wW ad ca T9.2.2.1)) H := hP
              have hD : va_D A (wA ad ca tx ln T9.1 T9.2.2.2 x9 T9.2.1 (-1) ++ (wW ad ca T9.2.2.1)) := hD
              refine lv_if_ne (tgt := 62) hx hb d_As_takeText_54 (by decide) (fun _ => ?_) (fun h10 => absurd h10 (by decide))
              refine lv_iinc (k := 0) (v := nI (a0 + 1)) hx hb d_As_takeText_62 hl rfl (zinc _) (by decide) rfl (fun ls hl => ?_)
              have hl : lv_has ls 2 [(1, .int (nI (a0 + 1))), (0, .ref (ad 1))] := hl
              refine lv_goto (tgt := 20) hx hb d_As_takeText_65 (by decide) ?_
              rw [show ln - a0 = (ln - (a0 + 1)) + 1 by omega, t_w] at hL
              rw [if_pos hn6] at hL
              rw [hT9] at hL
              exact ih_lp (a0 + 1) T9 x9 (-1) H locs ls (by omega) (by omega) (okT_t (by omega) okT0 hT9) (Or.inl ⟨rfl, hL⟩) hl hP hD hS
            · skip
              have hP : va_P D vCl (wA ad ca tx ln T0.1 T0.2.2.2 x9 T0.2.1 (-1) ++ (wW ad ca T0.2.2.1)) H := hP
              have hD : va_D A (wA ad ca tx ln T0.1 T0.2.2.2 x9 T0.2.1 (-1) ++ (wW ad ca T0.2.2.1)) := hD
              refine lv_if_ne (tgt := 62) hx hb d_As_takeText_54 (by decide) (fun h11 => absurd (by decide) h11) (fun _ => ?_)
              refine lv_aload_n hx hb d_As_takeText_57 rfl (lv_at hl 1 rfl) ?_
              refine lv_iload_n hx hb d_As_takeText_58 rfl (lv_at hl 0 rfl) ?_
              refine va_put (D := D) (ci := 0) (v := .int (nI a0)) (ty := .int) (C := RAs) (T := TAs) (N := 8) hx hb ht inAs tyAs tyAs_ok nmAs hown hK hP hD hS 0 rfl rfl 7 (by decide) (ht _ q52) (fun _ h9 => h9) rfl (by decide +kernel) rfl rfl (Nat.le_of_ble_eq_true rfl) d_As_takeText_59 (fun H locs hP hD hS => ?_)
              have hP : va_P D vCl (wA ad ca tx ln T0.1 T0.2.2.2 x9 T0.2.1 (nI a0) ++ (wW ad ca T0.2.2.1)) H := hP
              have hD : va_D A (wA ad ca tx ln T0.1 T0.2.2.2 x9 T0.2.1 (nI a0) ++ (wW ad ca T0.2.2.1)) := hD
              refine lv_iinc (k := 0) (v := nI (a0 + 1)) hx hb d_As_takeText_62 hl rfl (zinc _) (by decide) rfl (fun ls hl => ?_)
              have hl : lv_has ls 2 [(1, .int (nI (a0 + 1))), (0, .ref (ad 1))] := hl
              refine lv_goto (tgt := 20) hx hb d_As_takeText_65 (by decide) ?_
              rw [show ln - a0 = (ln - (a0 + 1)) + 1 by omega, t_w] at hL
              rw [if_pos hn6] at hL
              rw [hT9] at hL
              exact ih_lp (a0 + 1) T0 x9 (nI a0) H locs ls (by omega) (by omega) okT0 (Or.inr ⟨_, rfl, by omega, hL⟩) hl hP hD hS
          · skip
            have hP : va_P D vCl (wA ad ca tx ln T0.1 T0.2.2.2 x0 T0.2.1 (-1) ++ (wW ad ca T0.2.2.1)) H := hP
            have hD : va_D A (wA ad ca tx ln T0.1 T0.2.2.2 x0 T0.2.1 (-1) ++ (wW ad ca T0.2.2.1)) := hD
            refine lv_if_eq (tgt := 62) hx hb d_As_takeText_41 (by decide) (fun _ => ?_) (fun h12 => absurd (by decide) h12)
            refine lv_iinc (k := 0) (v := nI (a0 + 1)) hx hb d_As_takeText_62 hl rfl (zinc _) (by decide) rfl (fun ls hl => ?_)
            have hl : lv_has ls 2 [(1, .int (nI (a0 + 1))), (0, .ref (ad 1))] := hl
            refine lv_goto (tgt := 20) hx hb d_As_takeText_65 (by decide) ?_
            rw [show ln - a0 = (ln - (a0 + 1)) + 1 by omega, t_w] at hL
            rw [if_neg hn6] at hL
            exact ih_lp (a0 + 1) T0 x0 (-1) H locs ls (by omega) (by omega) okT0 (Or.inl ⟨rfl, hL⟩) hl hP hD hS
      · skip
        refine lv_iload_n hx hb d_As_takeText_20 rfl (lv_at hl 0 rfl) ?_
        refine lv_aload_n hx hb d_As_takeText_21 rfl (lv_at hl 1 rfl) ?_
        refine va_get (D := D) (ci := 0) (v := .int (nI ln)) (C := RAs) (T := TAs) (N := 8) hx hb ht inAs hown hK hP 0 rfl rfl 1 (by decide) (ht _ q44) (fun _ h9 => h9) rfl d_As_takeText_22 ?_
        refine lv_icmp_ge (tgt := 68) hx hb d_As_takeText_25 (by decide) (fun h13 => ?_) (fun h13 => ?_)
        · skip
          have h13 : (ln ≤ a0) := (nI_leI (by omega) (by omega)).mp h13
          refine lv_aload_n hx hb d_As_takeText_68 rfl (lv_at hl 1 rfl) ?_
          refine zgo_v (wr := []) C0 (zrunV (na := 0) (As := []) (rest := []) C0 hP hD hS [0, 1, 2, 3, 4] rfl rfl (m_As_fill_b l D ca k H.size ad tx ln T0.1 T0.2.2.2 x0 T0.2.1 (nI b0) T0.2.2.1 b0 (by omega) okT0.1) (zg_V q378 q380 q807 q2 q381) (by decide +kernel) rfl rfl ⟨by decide, by decide⟩ 0 rfl rfl rfl hl.1 rfl (Nat.le_of_ble_eq_true rfl) d_As_takeText_69 ⟨Nat.zero_le _, Nat.zero_le _⟩) hP hD hS [0, 1, 2, 3, 4] [] rfl rfl (by decide) (by decide) (fun w1 H locs hw hP hD hS => ?_)
          obtain rfl := hw
          have hP : va_P D vCl (wA ad ca tx ln T0.1 T0.2.2.2 x0 T0.2.1 (nI b0) ++ (wW ad ca T0.2.2.1)) H := hP
          have hD : va_D A (wA ad ca tx ln T0.1 T0.2.2.2 x0 T0.2.1 (nI b0) ++ (wW ad ca T0.2.2.1)) := hD
          refine lv_aload_n hx hb d_As_takeText_72 rfl (lv_at hl 1 rfl) ?_
          refine lv_iconst (v := nI 0) hx hb d_As_takeText_73 (by decide) ?_
          refine va_put (D := D) (ci := 0) (v := .int (nI 0)) (ty := .int) (C := RAs) (T := TAs) (N := 8) hx hb ht inAs tyAs tyAs_ok nmAs hown hK hP hD hS 0 rfl rfl 1 (by decide) (ht _ q44) (fun _ h9 => h9) rfl (by decide +kernel) rfl rfl (Nat.le_of_ble_eq_true rfl) d_As_takeText_74 (fun H locs hP hD hS => ?_)
          have hP : va_P D vCl (wA ad ca tx 0 T0.1 T0.2.2.2 x0 T0.2.1 (nI b0) ++ (wW ad ca T0.2.2.1)) H := hP
          have hD : va_D A (wA ad ca tx 0 T0.1 T0.2.2.2 x0 T0.2.1 (nI b0) ++ (wW ad ca T0.2.2.1)) := hD
          refine lv_aload_n hx hb d_As_takeText_77 rfl (lv_at hl 1 rfl) ?_
          refine va_get (D := D) (ci := 0) (v := .int (nI b0)) (C := RAs) (T := TAs) (N := 8) hx hb ht inAs hown hK hP 0 rfl rfl 7 (by decide) (ht _ q52) (fun _ h9 => h9) rfl d_As_takeText_78 ?_
          refine lv_iconst (v := (-1)) hx hb d_As_takeText_81 (by decide) ?_
          refine lv_icmp_ne (tgt := 89) hx hb d_As_takeText_82 (by decide) (fun _ => ?_) (fun h15 => (zm1 (by omega) h15).elim)
          refine lv_iconst (v := nI 0) hx hb d_As_takeText_89 (by decide) ?_
          exact zret_z C0 hr (zbn (by omega)) hAe hP hD hS (Or.inr ⟨by rw [asm_b hb0 hL]; exact fun z => zm1 (by omega) z, rfl, _, by rw [asm_b hb0 hL]⟩) d_As_takeText_90
        · skip
          have h13 : ¬ (ln ≤ a0) := fun z => h13 ((nI_leI (by omega) (by omega)).mpr z)
          refine lv_aload_n hx hb d_As_takeText_28 rfl (lv_at hl 1 rfl) ?_
          refine va_get (D := D) (ci := 0) (v := .int (nI b0)) (C := RAs) (T := TAs) (N := 8) hx hb ht inAs hown hK hP 0 rfl rfl 7 (by decide) (ht _ q52) (fun _ h9 => h9) rfl d_As_takeText_29 ?_
          refine lv_iconst (v := (-1)) hx hb d_As_takeText_32 (by decide) ?_
          refine lv_icmp_ne (tgt := 68) hx hb d_As_takeText_33 (by decide) (fun _ => ?_) (fun h16 => (zm1 (by omega) h16).elim)
          refine lv_aload_n hx hb d_As_takeText_68 rfl (lv_at hl 1 rfl) ?_
          refine zgo_v (wr := []) C0 (zrunV (na := 0) (As := []) (rest := []) C0 hP hD hS [0, 1, 2, 3, 4] rfl rfl (m_As_fill_b l D ca k H.size ad tx ln T0.1 T0.2.2.2 x0 T0.2.1 (nI b0) T0.2.2.1 b0 (by omega) okT0.1) (zg_V q378 q380 q807 q2 q381) (by decide +kernel) rfl rfl ⟨by decide, by decide⟩ 0 rfl rfl rfl hl.1 rfl (Nat.le_of_ble_eq_true rfl) d_As_takeText_69 ⟨Nat.zero_le _, Nat.zero_le _⟩) hP hD hS [0, 1, 2, 3, 4] [] rfl rfl (by decide) (by decide) (fun w1 H locs hw hP hD hS => ?_)
          obtain rfl := hw
          have hP : va_P D vCl (wA ad ca tx ln T0.1 T0.2.2.2 x0 T0.2.1 (nI b0) ++ (wW ad ca T0.2.2.1)) H := hP
          have hD : va_D A (wA ad ca tx ln T0.1 T0.2.2.2 x0 T0.2.1 (nI b0) ++ (wW ad ca T0.2.2.1)) := hD
          refine lv_aload_n hx hb d_As_takeText_72 rfl (lv_at hl 1 rfl) ?_
          refine lv_iconst (v := nI 0) hx hb d_As_takeText_73 (by decide) ?_
          refine va_put (D := D) (ci := 0) (v := .int (nI 0)) (ty := .int) (C := RAs) (T := TAs) (N := 8) hx hb ht inAs tyAs tyAs_ok nmAs hown hK hP hD hS 0 rfl rfl 1 (by decide) (ht _ q44) (fun _ h9 => h9) rfl (by decide +kernel) rfl rfl (Nat.le_of_ble_eq_true rfl) d_As_takeText_74 (fun H locs hP hD hS => ?_)
          have hP : va_P D vCl (wA ad ca tx 0 T0.1 T0.2.2.2 x0 T0.2.1 (nI b0) ++ (wW ad ca T0.2.2.1)) H := hP
          have hD : va_D A (wA ad ca tx 0 T0.1 T0.2.2.2 x0 T0.2.1 (nI b0) ++ (wW ad ca T0.2.2.1)) := hD
          refine lv_aload_n hx hb d_As_takeText_77 rfl (lv_at hl 1 rfl) ?_
          refine va_get (D := D) (ci := 0) (v := .int (nI b0)) (C := RAs) (T := TAs) (N := 8) hx hb ht inAs hown hK hP 0 rfl rfl 7 (by decide) (ht _ q52) (fun _ h9 => h9) rfl d_As_takeText_78 ?_
          refine lv_iconst (v := (-1)) hx hb d_As_takeText_81 (by decide) ?_
          refine lv_icmp_ne (tgt := 89) hx hb d_As_takeText_82 (by decide) (fun _ => ?_) (fun h18 => (zm1 (by omega) h18).elim)
          refine lv_iconst (v := nI 0) hx hb d_As_takeText_89 (by decide) ?_
          exact zret_z C0 hr (zbn (by omega)) hAe hP hD hS (Or.inr ⟨by rw [asm_b hb0 hL]; exact fun z => zm1 (by omega) z, rfl, _, by rw [asm_b hb0 hL]⟩) d_As_takeText_90
  exact loop_lp (ln + 1) 0 (fil lb (-1) 26, 0, wo, bg) ch (-1) _ _ _ (by omega) (by omega) (okT_0 hwb hbg) (Or.inl ⟨rfl, rfl⟩) (lv_sub hl [0, 1] rfl) hP hD hS
