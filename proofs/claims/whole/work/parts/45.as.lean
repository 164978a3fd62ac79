set_option maxHeartbeats 4000000 in
set_option maxRecDepth 100000 in
theorem m_As_isName (l : Launch) (D : va_G) (ca : Nat → ClassId) (k : Nat → Nat) (sz : Nat) (ad : Nat → Nat) (tx : Nat → Nat) (ln : Nat) (lb : Nat → Int32) (bg : Nat → Nat) (ch : Int32) (ct : Nat) (ia : Int32) (wo : Nat → Nat) (sn : Nat) (hsn : sn < 7) (sp a0 e0 : Nat) (hsp : sp < (zS sn).length) (ha0 : a0 ≤ e0) (he0 : e0 ≤ 240) (htx : ∀ j, tx j < 127) : Met l y_As_isName (zw y_As_isName c_As_isName 8 (some .boolean)) { frames := 4, cells := 0, slots := 0, locals := 91 } (va_Pc [.ref (ad 1), .ref (k (sn + 1)), .int (nI sp), .int (nI a0), .int (nI e0)] (zPre D (zty ca) k (wA ad ca tx ln lb bg ch ct ia ++ (wW ad ca wo)) sz)) (va_Qi (fun r w => (∃ c, isN (zS sn) sp tx a0 e0 = some c ∧ c < 26 ∧ r = nI 1 ∧ w = wA ad ca tx ln lb bg (nI c) ct ia ++ wW ad ca wo) ∨ (isN (zS sn) sp tx a0 e0 = none ∧ r = nI 0 ∧ ∃ x, w = wA ad ca tx ln lb bg x ct ia ++ wW ad ca wo)) (zB D (zty ca) (wA ad ca tx ln lb bg ch ct ia ++ (wW ad ca wo)) sz) (va_A (wA ad ca tx ln lb bg ch ct ia ++ (wW ad ca wo)) sz)) 0 0 (va_A (wA ad ca tx ln lb bg ch ct ia ++ (wW ad ca wo)) sz) := by
  refine zOf (own := "DigitChip$Assembler") (by decide +kernel) rfl (Nat.le_of_ble_eq_true rfl) ?_
  intro p e s m below meth c A ls C0 hr hnm hAe hsz hl hP hD hS
  have hl : lv_has ls 8 [(0, .ref (ad 1)), (1, .ref (k (sn + 1))), (2, .int (nI sp)), (3, .int (nI a0)), (4, .int (nI e0))] := hl
  obtain ⟨hx, hb, hml, hown, ht, hK, hX, hA, hlk⟩ := id C0
  have hlen := zSl_all sn hsn
  have hl2 : (zS sn).length < 256 := zSl2 sn hsn
  refine lv_iload_n hx hb d_As_isName_0 rfl (lv_at hl 2 rfl) ?_
  refine lv_iload hx hb d_As_isName_1 (lv_at hl 4 rfl) ?_
  refine lv_iadd hx hb d_As_isName_3 ?_
  refine zti (y := nI (sp + e0)) (nI_add _ _) ?_
  refine lv_iload_n hx hb d_As_isName_4 rfl (lv_at hl 3 rfl) ?_
  refine lv_isub hx hb d_As_isName_5 ?_
  refine zti (y := nI ((sp + e0) - a0)) (pk_sub (by omega)) ?_
  refine lv_istore hx hb d_As_isName_6 hl (by decide) rfl (fun ls hl => ?_)
  have hl : lv_has ls 8 [(5, .int (nI ((sp + e0) - a0))), (0, .ref (ad 1)), (1, .ref (k (sn + 1))), (2, .int (nI sp)), (3, .int (nI a0)), (4, .int (nI e0))] := hl
  refine lv_iload hx hb d_As_isName_8 (lv_at hl 0 rfl) ?_
  refine lv_aload_n hx hb d_As_isName_10 rfl (lv_at hl 2 rfl) ?_
  refine zgo_i (wr := wA ad ca tx ln lb bg ch ct ia ++ wW ad ca wo) C0 (zrunR (na := 0) (As := []) (rest := [.int (nI ((sp + e0) - a0))]) C0 hP hD hS [] rfl rfl (m_St_length l D ca k s.heap.size ad sn hsn) (zg_V q33 q34 q35 q3 q36) (by decide +kernel) rfl rfl ⟨by decide, by decide⟩ (vk_recv (i := sn) hX.2.2.2.1 hsn hS) rfl hl.1 rfl (Nat.le_of_ble_eq_true rfl) d_As_isName_11 ⟨Nat.zero_le _, Nat.zero_le _⟩) hP hD hS [] [0, 1, 2, 3, 4] rfl rfl (by decide) (by decide) (fun r1 w1 H locs hw hP hD hS => ?_)
  obtain ⟨rfl, rfl⟩ := hw
  have hP : va_P D vCl (wA ad ca tx ln lb bg ch ct ia ++ (wW ad ca wo)) H := hP
  have hD : va_D A (wA ad ca tx ln lb bg ch ct ia ++ (wW ad ca wo)) := hD
  refine lv_icmp_gt (tgt := 37) hx hb d_As_isName_14 (by decide) (fun h2 => ?_) (fun h2 => ?_)
  · skip
    have h2 : (((zS sn).length) < ((sp + e0) - a0)) := (nI_ltI (by omega) (by omega)).mp h2
    refine lv_iconst (v := nI 0) hx hb d_As_isName_37 (by decide) ?_
    exact zret_z C0 hr (zbn (by omega)) hAe hP hD hS (Or.inr ⟨by unfold isN; rw [if_pos (by omega)], rfl, _, rfl⟩) d_As_isName_38
  · skip
    have h2 : ¬ (((zS sn).length) < ((sp + e0) - a0)) := fun z => h2 ((nI_ltI (by omega) (by omega)).mpr z)
    refine lv_iload hx hb d_As_isName_17 (lv_at hl 0 rfl) ?_
    refine lv_aload_n hx hb d_As_isName_19 rfl (lv_at hl 2 rfl) ?_
    refine zgo_i (wr := wA ad ca tx ln lb bg ch ct ia ++ wW ad ca wo) C0 (zrunR (na := 0) (As := []) (rest := [.int (nI ((sp + e0) - a0))]) C0 hP hD hS [] rfl rfl (m_St_length l D ca k H.size ad sn hsn) (zg_V q33 q34 q35 q3 q36) (by decide +kernel) rfl rfl ⟨by decide, by decide⟩ (vk_recv (i := sn) hX.2.2.2.1 hsn hS) rfl hl.1 rfl (Nat.le_of_ble_eq_true rfl) d_As_isName_20 ⟨Nat.zero_le _, Nat.zero_le _⟩) hP hD hS [] [0, 1, 2, 3, 4] rfl rfl (by decide) (by decide) (fun r3 w1 H locs hw hP hD hS => ?_)
    obtain ⟨rfl, rfl⟩ := hw
    have hP : va_P D vCl (wA ad ca tx ln lb bg ch ct ia ++ (wW ad ca wo)) H := hP
    have hD : va_D A (wA ad ca tx ln lb bg ch ct ia ++ (wW ad ca wo)) := hD
    refine lv_icmp_ge (tgt := 39) hx hb d_As_isName_23 (by decide) (fun h4 => ?_) (fun h4 => ?_)
    · skip
      have h4 : (((zS sn).length) ≤ ((sp + e0) - a0)) := (nI_leI (by omega) (by omega)).mp h4
      refine lv_aload_n hx hb d_As_isName_39 rfl (lv_at hl 1 rfl) ?_
      refine lv_iconst (v := nI 0) hx hb d_As_isName_40 (by decide) ?_
      refine va_put (D := D) (ci := 0) (v := .int (nI 0)) (ty := .int) (C := RAs) (T := TAs) (N := 8) hx hb ht inAs tyAs tyAs_ok nmAs hown hK hP hD hS 0 rfl rfl 4 (by decide) (ht _ q47) (fun _ h9 => h9) rfl (by decide +kernel) rfl rfl (Nat.le_of_ble_eq_true rfl) d_As_isName_41 (fun H locs hP hD hS => ?_)
      have hP : va_P D vCl (wA ad ca tx ln lb bg (nI 0) ct ia ++ (wW ad ca wo)) H := hP
      have hD : va_D A (wA ad ca tx ln lb bg (nI 0) ct ia ++ (wW ad ca wo)) := hD
      refine lv_iload_n hx hb d_As_isName_44 rfl (lv_at hl 4 rfl) ?_
      refine lv_istore hx hb d_As_isName_45 hl (by decide) rfl (fun ls hl => ?_)
      have hl : lv_has ls 8 [(6, .int (nI a0)), (5, .int (nI ((sp + e0) - a0))), (0, .ref (ad 1)), (1, .ref (k (sn + 1))), (2, .int (nI sp)), (3, .int (nI a0)), (4, .int (nI e0))] := hl
      have loop_lp : ∀ (n_lp : Nat) (j : Nat) (ch0 : Nat) (H : Heap) (locs : List Loc) (ls : Array Slot), e0 - j < n_lp → (a0 ≤ j ∧ j ≤ e0) → (ch0 < 26) → (pmR (zS sn) sp a0 tx (e0 - a0) a0 0 = pmR (zS sn) sp a0 tx (e0 - j) j ch0) → lv_has ls 8 [(6, .int (nI j)), (5, .int (nI (sp + e0 - a0))), (0, .ref (ad 1)), (1, .ref (k (sn + 1))), (2, .int (nI sp)), (3, .int (nI a0)), (4, .int (nI e0))] → va_P D vCl (wA ad ca tx ln lb bg (nI ch0) ct ia ++ (wW ad ca wo)) H → va_D A (wA ad ca tx ln lb bg (nI ch0) ct ia ++ (wW ad ca wo)) → va_S A s.heap H locs → W p l e { frames := 4, cells := 0, slots := 0, locals := 91 } s m ([.ref (ad 1), .ref (k (sn + 1)), .int (nI sp), .int (nI a0), .int (nI e0)] : List Value).toArray below meth c H locs 0 0 (MQ below (va_Qi (fun r w => (∃ c, isN (zS sn) sp tx a0 e0 = some c ∧ c < 26 ∧ r = nI 1 ∧ w = wA ad ca tx ln lb bg (nI c) ct ia ++ wW ad ca wo) ∨ (isN (zS sn) sp tx a0 e0 = none ∧ r = nI 0 ∧ ∃ x, w = wA ad ca tx ln lb bg x ct ia ++ wW ad ca wo)) (zB D (zty ca) (wA ad ca tx ln lb bg ch ct ia ++ (wW ad ca wo)) sz) (va_A (wA ad ca tx ln lb bg ch ct ia ++ (wW ad ca wo)) sz)) ([.ref (ad 1), .ref (k (sn + 1)), .int (nI sp), .int (nI a0), .int (nI e0)] : List Value).toArray s 0 0 (va_A (wA ad ca tx ln lb bg ch ct ia ++ (wW ad ca wo)) sz)) (F0 m 47 ls []) := by
        intro n_lp
        induction n_lp with
        | zero => intro j ch0 H locs ls hm; exact absurd hm (Nat.not_lt_zero _)
        | succ n_lp ih_lp =>
          intro j ch0 H locs ls hm hj hc0 hL hl hP hD hS
          have htj := htx j
          refine lv_iload hx hb d_As_isName_47 (lv_at hl 0 rfl) ?_
          refine lv_iload hx hb d_As_isName_49 (lv_at hl 6 rfl) ?_
          refine lv_icmp_ge (tgt := 173) hx hb d_As_isName_51 (by decide) (fun h5 => ?_) (fun h5 => ?_)
          · skip
            have h5 : (e0 ≤ j) := (nI_leI (by omega) (by omega)).mp h5
            refine lv_iconst (v := nI 1) hx hb d_As_isName_173 (by decide) ?_
            rw [show e0 - j = 0 by omega, pm_0] at hL
            exact zret_z C0 hr (zbn (by omega)) hAe hP hD hS (Or.inl ⟨ch0, by unfold isN; rw [if_neg (by omega)]; exact hL, by omega, rfl, rfl⟩) d_As_isName_174
          · skip
            have h5 : ¬ (e0 ≤ j) := fun z => h5 ((nI_leI (by omega) (by omega)).mpr z)
            refine lv_aload_n hx hb d_As_isName_54 rfl (lv_at hl 3 rfl) ?_
            refine lv_iload_n hx hb d_As_isName_55 rfl (lv_at hl 4 rfl) ?_
            refine lv_iload hx hb d_As_isName_56 (lv_at hl 0 rfl) ?_
            refine lv_iadd hx hb d_As_isName_58 ?_
            refine zti (y := nI (sp + j)) (nI_add _ _) ?_
            refine lv_iload_n hx hb d_As_isName_59 rfl (lv_at hl 5 rfl) ?_
            refine lv_isub hx hb d_As_isName_60 ?_
            refine zti (y := nI ((sp + j) - a0)) (pk_sub (by omega)) ?_
            refine zgo_i (wr := wA ad ca tx ln lb bg (nI ch0) ct ia ++ wW ad ca wo) C0 (zrunR (na := 1) (As := [.int (nI ((sp + j) - a0))]) (rest := []) C0 hP hD hS [] rfl rfl (m_St_charAt l D ca k H.size ad sn hsn ((sp + j) - a0) (by omega)) (zg_V q264 q265 q266 q3 q267) (by decide +kernel) rfl rfl ⟨by decide, by decide⟩ (vk_recv (i := sn) hX.2.2.2.1 hsn hS) rfl hl.1 rfl (Nat.le_of_ble_eq_true rfl) d_As_isName_61 ⟨Nat.zero_le _, Nat.zero_le _⟩) hP hD hS [] [0, 1, 2, 3, 4] rfl rfl (by decide) (by decide) (fun r6 w1 H locs hw hP hD hS => ?_)
            obtain ⟨rfl, rfl⟩ := hw
            have hzb6 := zS_b (i := sn) hsn ((sp + j) - a0)
            have hP : va_P D vCl (wA ad ca tx ln lb bg (nI ch0) ct ia ++ (wW ad ca wo)) H := hP
            have hD : va_D A (wA ad ca tx ln lb bg (nI ch0) ct ia ++ (wW ad ca wo)) := hD
            refine lv_istore hx hb d_As_isName_64 hl (by decide) rfl (fun ls hl => ?_)
            have hl : lv_has ls 8 [(7, .int (nI ((zS sn).getD ((sp + j) - a0) 0))), (6, .int (nI j)), (5, .int (nI (sp + e0 - a0))), (0, .ref (ad 1)), (1, .ref (k (sn + 1))), (2, .int (nI sp)), (3, .int (nI a0)), (4, .int (nI e0))] := hl
            refine lv_iload hx hb d_As_isName_66 (lv_at hl 0 rfl) ?_
            refine lv_bipush (v := nI 78) hx hb d_As_isName_68 (by decide) ?_
            refine lv_icmp_ne (tgt := 92) hx hb d_As_isName_70 (by decide) (fun h7 => ?_) (fun h7 => ?_)
            · skip
              have h7 : ¬ (((zS sn).getD ((sp + j) - a0) 0) = 78) := fun z => h7 ((nI_eq (by omega) (by omega)).mpr z)
              refine lv_iload hx hb d_As_isName_92 (lv_at hl 0 rfl) ?_
              refine lv_bipush (v := nI 70) hx hb d_As_isName_94 (by decide) ?_
              refine lv_icmp_ne (tgt := 118) hx hb d_As_isName_96 (by decide) (fun h8 => ?_) (fun h8 => ?_)
              · skip
                have h8 : ¬ (((zS sn).getD ((sp + j) - a0) 0) = 70) := fun z => h8 ((nI_eq (by omega) (by omega)).mpr z)
                refine lv_iload hx hb d_As_isName_118 (lv_at hl 0 rfl) ?_
                refine lv_bipush (v := nI 76) hx hb d_As_isName_120 (by decide) ?_
                refine lv_icmp_ne (tgt := 144) hx hb d_As_isName_122 (by decide) (fun h9 => ?_) (fun h9 => ?_)
                · skip
                  have h9 : ¬ (((zS sn).getD ((sp + j) - a0) 0) = 76) := fun z => h9 ((nI_eq (by omega) (by omega)).mpr z)
                  refine lv_iload hx hb d_As_isName_144 (lv_at hl 0 rfl) ?_
                  refine lv_aload_n hx hb d_As_isName_146 rfl (lv_at hl 3 rfl) ?_
                  refine va_get (D := D) (ci := 0) (v := .ref (ad 2)) (C := RAs) (T := TAs) (N := 8) hx hb ht inAs hown hK hP 0 rfl rfl 0 (by decide) (ht _ q43) (fun _ h9 => h9) rfl d_As_isName_147 ?_
                  refine lv_iload hx hb d_As_isName_150 (lv_at hl 1 rfl) ?_
                  refine va_cald hx hb hK hP 1 2 rfl rfl (vp_in_nI (n := j) (by omega) (by decide)) d_As_isName_152 ?_
                  refine zti (y := nI (tx j)) (nF_at (by omega)) ?_
                  refine lv_icmp_eq (tgt := 158) hx hb d_As_isName_153 (by decide) (fun h10 => ?_) (fun h10 => ?_)
                  · skip
                    have h10 : (((zS sn).getD ((sp + j) - a0) 0) = (tx j)) := (nI_eq (by omega) (by omega)).mp h10
                    refine lv_aload_n hx hb d_As_isName_158 rfl (lv_at hl 3 rfl) ?_
                    refine va_get (D := D) (ci := 0) (v := .int (nI ch0)) (C := RAs) (T := TAs) (N := 8) hx hb ht inAs hown hK hP 0 rfl rfl 4 (by decide) (ht _ q47) (fun _ h9 => h9) rfl d_As_isName_159 ?_
                    refine lv_if_ge (tgt := 167) hx hb d_As_isName_162 (by decide) (fun _ => ?_) (fun h11 => (h11 (nI_pos' (by omega))).elim)
                    refine lv_iinc (k := 1) (v := nI (j + 1)) hx hb d_As_isName_167 hl rfl (zinc _) (by decide) rfl (fun ls hl => ?_)
                    have hl : lv_has ls 8 [(6, .int (nI (j + 1))), (7, .int (nI ((zS sn).getD ((sp + j) - a0) 0))), (5, .int (nI (sp + e0 - a0))), (0, .ref (ad 1)), (1, .ref (k (sn + 1))), (2, .int (nI sp)), (3, .int (nI a0)), (4, .int (nI e0))] := hl
                    refine lv_goto (tgt := 47) hx hb d_As_isName_170 (by decide) ?_
                    rw [show e0 - j = (e0 - (j + 1)) + 1 by omega, pm_w] at hL
                    rw [if_neg h7, if_neg h8, if_neg h9, if_pos h10] at hL
                    exact ih_lp (j + 1) ch0 H locs ls (by omega) (by omega) (by omega) hL (lv_sub hl [0, 2, 3, 4, 5, 6, 7] rfl) hP hD hS
                  · skip
                    have h10 : ¬ (((zS sn).getD ((sp + j) - a0) 0) = (tx j)) := fun z => h10 ((nI_eq (by omega) (by omega)).mpr z)
                    refine lv_iconst (v := nI 0) hx hb d_As_isName_156 (by decide) ?_
                    rw [show e0 - j = (e0 - (j + 1)) + 1 by omega, pm_w] at hL
                    rw [if_neg h7, if_neg h8, if_neg h9, if_neg h10] at hL
                    exact zret_z C0 hr (zbn (by omega)) hAe hP hD hS (Or.inr ⟨by unfold isN; rw [if_neg (by omega)]; exact hL, rfl, _, rfl⟩) d_As_isName_157
                · skip
                  have h9 : (((zS sn).getD ((sp + j) - a0) 0) = 76) := (nI_eq (by omega) (by omega)).mp h9
                  refine lv_aload_n hx hb d_As_isName_125 rfl (lv_at hl 3 rfl) ?_
                  refine va_ldcS hx hb hown (hX.2.2.2.2.1 6 (by decide)) d_As_isName_126 ?_
                  refine lv_aload_n hx hb d_As_isName_128 rfl (lv_at hl 3 rfl) ?_
                  refine va_get (D := D) (ci := 0) (v := .ref (ad 2)) (C := RAs) (T := TAs) (N := 8) hx hb ht inAs hown hK hP 0 rfl rfl 0 (by decide) (ht _ q43) (fun _ h9 => h9) rfl d_As_isName_129 ?_
                  refine lv_iload hx hb d_As_isName_132 (lv_at hl 1 rfl) ?_
                  refine va_cald hx hb hK hP 1 2 rfl rfl (vp_in_nI (n := j) (by omega) (by decide)) d_As_isName_134 ?_
                  refine zti (y := nI (tx j)) (nF_at (by omega)) ?_
                  refine zgo_i (wr := wA ad ca tx ln lb bg (nI ch0) ct ia ++ wW ad ca wo) C0 (zrunR (na := 1) (As := [.int (nI (tx j))]) (rest := [.ref (ad 1)]) C0 hP hD hS [] rfl rfl (m_St_indexOf0 l D ca k H.size ad 6 (by decide) (tx j) (by omega)) (zg_V q307 q308 q309 q3 q310) (by decide +kernel) rfl rfl ⟨by decide, by decide⟩ (vk_recv (i := 6) hX.2.2.2.1 (by decide) hS) rfl hl.1 rfl (Nat.le_of_ble_eq_true rfl) d_As_isName_135 ⟨Nat.zero_le _, Nat.zero_le _⟩) hP hD hS [] [0, 1, 2, 3, 4] rfl rfl (by decide) (by decide) (fun r12 w1 H locs hw hP hD hS => ?_)
                  obtain ⟨rfl, rfl⟩ := hw
                  have hP : va_P D vCl (wA ad ca tx ln lb bg (nI ch0) ct ia ++ (wW ad ca wo)) H := hP
                  have hD : va_D A (wA ad ca tx ln lb bg (nI ch0) ct ia ++ (wW ad ca wo)) := hD
                  rcases hix : ixO (zS 6) (tx j) 0 with _ | c1
                  · skip
                    refine zti (y := (-1)) rfl ?_
                    refine va_put (D := D) (ci := 0) (v := .int (-1)) (ty := .int) (C := RAs) (T := TAs) (N := 8) hx hb ht inAs tyAs tyAs_ok nmAs hown hK hP hD hS 0 rfl rfl 4 (by decide) (ht _ q47) (fun _ h9 => h9) rfl (by decide +kernel) rfl rfl (Nat.le_of_ble_eq_true rfl) d_As_isName_138 (fun H locs hP hD hS => ?_)
                    have hP : va_P D vCl (wA ad ca tx ln lb bg (-1) ct ia ++ (wW ad ca wo)) H := hP
                    have hD : va_D A (wA ad ca tx ln lb bg (-1) ct ia ++ (wW ad ca wo)) := hD
                    refine lv_goto (tgt := 158) hx hb d_As_isName_141 (by decide) ?_
                    refine lv_aload_n hx hb d_As_isName_158 rfl (lv_at hl 3 rfl) ?_
                    refine va_get (D := D) (ci := 0) (v := .int (-1)) (C := RAs) (T := TAs) (N := 8) hx hb ht inAs hown hK hP 0 rfl rfl 4 (by decide) (ht _ q47) (fun _ h9 => h9) rfl d_As_isName_159 ?_
                    refine lv_if_ge (tgt := 167) hx hb d_As_isName_162 (by decide) (fun h13 => absurd h13 (by decide)) (fun _ => ?_)
                    refine lv_iconst (v := nI 0) hx hb d_As_isName_165 (by decide) ?_
                    rw [show e0 - j = (e0 - (j + 1)) + 1 by omega, pm_w] at hL
                    rw [if_neg h7, if_neg h8, if_pos h9] at hL
                    rw [hix] at hL
                    exact zret_z C0 hr (zbn (by omega)) hAe hP hD hS (Or.inr ⟨by unfold isN; rw [if_neg (by omega)]; exact hL, rfl, _, rfl⟩) d_As_isName_166
                  · skip
                    refine zti (y := nI c1) rfl ?_
                    have hc1 : c1 < 26 := Nat.lt_of_lt_of_le (ixO_lt hix) (by decide)
                    refine va_put (D := D) (ci := 0) (v := .int (nI c1)) (ty := .int) (C := RAs) (T := TAs) (N := 8) hx hb ht inAs tyAs tyAs_ok nmAs hown hK hP hD hS 0 rfl rfl 4 (by decide) (ht _ q47) (fun _ h9 => h9) rfl (by decide +kernel) rfl rfl (Nat.le_of_ble_eq_true rfl) d_As_isName_138 (fun H locs hP hD hS => ?_)
                    have hP : va_P D vCl (wA ad ca tx ln lb bg (nI c1) ct ia ++ (wW ad ca wo)) H := hP
                    have hD : va_D A (wA ad ca tx ln lb bg (nI c1) ct ia ++ (wW ad ca wo)) := hD
                    refine lv_goto (tgt := 158) hx hb d_As_isName_141 (by decide) ?_
                    refine lv_aload_n hx hb d_As_isName_158 rfl (lv_at hl 3 rfl) ?_
                    refine va_get (D := D) (ci := 0) (v := .int (nI c1)) (C := RAs) (T := TAs) (N := 8) hx hb ht inAs hown hK hP 0 rfl rfl 4 (by decide) (ht _ q47) (fun _ h9 => h9) rfl d_As_isName_159 ?_
                    refine lv_if_ge (tgt := 167) hx hb d_As_isName_162 (by decide) (fun _ => ?_) (fun h14 => (h14 (nI_pos' (by omega))).elim)
                    refine lv_iinc (k := 1) (v := nI (j + 1)) hx hb d_As_isName_167 hl rfl (zinc _) (by decide) rfl (fun ls hl => ?_)
                    have hl : lv_has ls 8 [(6, .int (nI (j + 1))), (7, .int (nI ((zS sn).getD ((sp + j) - a0) 0))), (5, .int (nI (sp + e0 - a0))), (0, .ref (ad 1)), (1, .ref (k (sn + 1))), (2, .int (nI sp)), (3, .int (nI a0)), (4, .int (nI e0))] := hl
                    refine lv_goto (tgt := 47) hx hb d_As_isName_170 (by decide) ?_
                    rw [show e0 - j = (e0 - (j + 1)) + 1 by omega, pm_w] at hL
                    rw [if_neg h7, if_neg h8, if_pos h9] at hL
                    rw [hix] at hL
                    exact ih_lp (j + 1) c1 H locs ls (by omega) (by omega) (by omega) hL (lv_sub hl [0, 2, 3, 4, 5, 6, 7] rfl) hP hD hS
              · skip
                have h8 : (((zS sn).getD ((sp + j) - a0) 0) = 70) := (nI_eq (by omega) (by omega)).mp h8
                refine lv_aload_n hx hb d_As_isName_99 rfl (lv_at hl 3 rfl) ?_
                refine va_ldcS hx hb hown (hX.2.2.2.2.1 5 (by decide)) d_As_isName_100 ?_
                refine lv_aload_n hx hb d_As_isName_102 rfl (lv_at hl 3 rfl) ?_
                refine va_get (D := D) (ci := 0) (v := .ref (ad 2)) (C := RAs) (T := TAs) (N := 8) hx hb ht inAs hown hK hP 0 rfl rfl 0 (by decide) (ht _ q43) (fun _ h9 => h9) rfl d_As_isName_103 ?_
                refine lv_iload hx hb d_As_isName_106 (lv_at hl 1 rfl) ?_
                refine va_cald hx hb hK hP 1 2 rfl rfl (vp_in_nI (n := j) (by omega) (by decide)) d_As_isName_108 ?_
                refine zti (y := nI (tx j)) (nF_at (by omega)) ?_
                refine zgo_i (wr := wA ad ca tx ln lb bg (nI ch0) ct ia ++ wW ad ca wo) C0 (zrunR (na := 1) (As := [.int (nI (tx j))]) (rest := [.ref (ad 1)]) C0 hP hD hS [] rfl rfl (m_St_indexOf0 l D ca k H.size ad 5 (by decide) (tx j) (by omega)) (zg_V q307 q308 q309 q3 q310) (by decide +kernel) rfl rfl ⟨by decide, by decide⟩ (vk_recv (i := 5) hX.2.2.2.1 (by decide) hS) rfl hl.1 rfl (Nat.le_of_ble_eq_true rfl) d_As_isName_109 ⟨Nat.zero_le _, Nat.zero_le _⟩) hP hD hS [] [0, 1, 2, 3, 4] rfl rfl (by decide) (by decide) (fun r15 w1 H locs hw hP hD hS => ?_)
                obtain ⟨rfl, rfl⟩ := hw
                have hP : va_P D vCl (wA ad ca tx ln lb bg (nI ch0) ct ia ++ (wW ad ca wo)) H := hP
                have hD : va_D A (wA ad ca tx ln lb bg (nI ch0) ct ia ++ (wW ad ca wo)) := hD
                rcases hix : ixO (zS 5) (tx j) 0 with _ | c1
                · skip
                  refine zti (y := (-1)) rfl ?_
                  refine va_put (D := D) (ci := 0) (v := .int (-1)) (ty := .int) (C := RAs) (T := TAs) (N := 8) hx hb ht inAs tyAs tyAs_ok nmAs hown hK hP hD hS 0 rfl rfl 4 (by decide) (ht _ q47) (fun _ h9 => h9) rfl (by decide +kernel) rfl rfl (Nat.le_of_ble_eq_true rfl) d_As_isName_112 (fun H locs hP hD hS => ?_)
                  have hP : va_P D vCl (wA ad ca tx ln lb bg (-1) ct ia ++ (wW ad ca wo)) H := hP
                  have hD : va_D A (wA ad ca tx ln lb bg (-1) ct ia ++ (wW ad ca wo)) := hD
                  refine lv_goto (tgt := 158) hx hb d_As_isName_115 (by decide) ?_
                  refine lv_aload_n hx hb d_As_isName_158 rfl (lv_at hl 3 rfl) ?_
                  refine va_get (D := D) (ci := 0) (v := .int (-1)) (C := RAs) (T := TAs) (N := 8) hx hb ht inAs hown hK hP 0 rfl rfl 4 (by decide) (ht _ q47) (fun _ h9 => h9) rfl d_As_isName_159 ?_
                  refine lv_if_ge (tgt := 167) hx hb d_As_isName_162 (by decide) (fun h16 => absurd h16 (by decide)) (fun _ => ?_)
                  refine lv_iconst (v := nI 0) hx hb d_As_isName_165 (by decide) ?_
                  rw [show e0 - j = (e0 - (j + 1)) + 1 by omega, pm_w] at hL
                  rw [if_neg h7, if_pos h8] at hL
                  rw [hix] at hL
                  exact zret_z C0 hr (zbn (by omega)) hAe hP hD hS (Or.inr ⟨by unfold isN; rw [if_neg (by omega)]; exact hL, rfl, _, rfl⟩) d_As_isName_166
                · skip
                  refine zti (y := nI c1) rfl ?_
                  have hc1 : c1 < 26 := Nat.lt_of_lt_of_le (ixO_lt hix) (by decide)
                  refine va_put (D := D) (ci := 0) (v := .int (nI c1)) (ty := .int) (C := RAs) (T := TAs) (N := 8) hx hb ht inAs tyAs tyAs_ok nmAs hown hK hP hD hS 0 rfl rfl 4 (by decide) (ht _ q47) (fun _ h9 => h9) rfl (by decide +kernel) rfl rfl (Nat.le_of_ble_eq_true rfl) d_As_isName_112 (fun H locs hP hD hS => ?_)
                  have hP : va_P D vCl (wA ad ca tx ln lb bg (nI c1) ct ia ++ (wW ad ca wo)) H := hP
                  have hD : va_D A (wA ad ca tx ln lb bg (nI c1) ct ia ++ (wW ad ca wo)) := hD
                  refine lv_goto (tgt := 158) hx hb d_As_isName_115 (by decide) ?_
                  refine lv_aload_n hx hb d_As_isName_158 rfl (lv_at hl 3 rfl) ?_
                  refine va_get (D := D) (ci := 0) (v := .int (nI c1)) (C := RAs) (T := TAs) (N := 8) hx hb ht inAs hown hK hP 0 rfl rfl 4 (by decide) (ht _ q47) (fun _ h9 => h9) rfl d_As_isName_159 ?_
                  refine lv_if_ge (tgt := 167) hx hb d_As_isName_162 (by decide) (fun _ => ?_) (fun h17 => (h17 (nI_pos' (by omega))).elim)
                  refine lv_iinc (k := 1) (v := nI (j + 1)) hx hb d_As_isName_167 hl rfl (zinc _) (by decide) rfl (fun ls hl => ?_)
                  have hl : lv_has ls 8 [(6, .int (nI (j + 1))), (7, .int (nI ((zS sn).getD ((sp + j) - a0) 0))), (5, .int (nI (sp + e0 - a0))), (0, .ref (ad 1)), (1, .ref (k (sn + 1))), (2, .int (nI sp)), (3, .int (nI a0)), (4, .int (nI e0))] := hl
                  refine lv_goto (tgt := 47) hx hb d_As_isName_170 (by decide) ?_
                  rw [show e0 - j = (e0 - (j + 1)) + 1 by omega, pm_w] at hL
                  rw [if_neg h7, if_pos h8] at hL
                  rw [hix] at hL
                  exact ih_lp (j + 1) c1 H locs ls (by omega) (by omega) (by omega) hL (lv_sub hl [0, 2, 3, 4, 5, 6, 7] rfl) hP hD hS
            · skip
              have h7 : (((zS sn).getD ((sp + j) - a0) 0) = 78) := (nI_eq (by omega) (by omega)).mp h7
              refine lv_aload_n hx hb d_As_isName_73 rfl (lv_at hl 3 rfl) ?_
              refine va_ldcS hx hb hown (hX.2.2.2.2.1 4 (by decide)) d_As_isName_74 ?_
              refine lv_aload_n hx hb d_As_isName_76 rfl (lv_at hl 3 rfl) ?_
              refine va_get (D := D) (ci := 0) (v := .ref (ad 2)) (C := RAs) (T := TAs) (N := 8) hx hb ht inAs hown hK hP 0 rfl rfl 0 (by decide) (ht _ q43) (fun _ h9 => h9) rfl d_As_isName_77 ?_
              refine lv_iload hx hb d_As_isName_80 (lv_at hl 1 rfl) ?_
              refine va_cald hx hb hK hP 1 2 rfl rfl (vp_in_nI (n := j) (by omega) (by decide)) d_As_isName_82 ?_
              refine zti (y := nI (tx j)) (nF_at (by omega)) ?_
              refine zgo_i (wr := wA ad ca tx ln lb bg (nI ch0) ct ia ++ wW ad ca wo) C0 (zrunR (na := 1) (As := [.int (nI (tx j))]) (rest := [.ref (ad 1)]) C0 hP hD hS [] rfl rfl (m_St_indexOf0 l D ca k H.size ad 4 (by decide) (tx j) (by omega)) (zg_V q307 q308 q309 q3 q310) (by decide +kernel) rfl rfl ⟨by decide, by decide⟩ (vk_recv (i := 4) hX.2.2.2.1 (by decide) hS) rfl hl.1 rfl (Nat.le_of_ble_eq_true rfl) d_As_isName_83 ⟨Nat.zero_le _, Nat.zero_le _⟩) hP hD hS [] [0, 1, 2, 3, 4] rfl rfl (by decide) (by decide) (fun r18 w1 H locs hw hP hD hS => ?_)
              obtain ⟨rfl, rfl⟩ := hw
              have hP : va_P D vCl (wA ad ca tx ln lb bg (nI ch0) ct ia ++ (wW ad ca wo)) H := hP
              have hD : va_D A (wA ad ca tx ln lb bg (nI ch0) ct ia ++ (wW ad ca wo)) := hD
              rcases hix : ixO (zS 4) (tx j) 0 with _ | c1
              · skip
                refine zti (y := (-1)) rfl ?_
                refine va_put (D := D) (ci := 0) (v := .int (-1)) (ty := .int) (C := RAs) (T := TAs) (N := 8) hx hb ht inAs tyAs tyAs_ok nmAs hown hK hP hD hS 0 rfl rfl 4 (by decide) (ht _ q47) (fun _ h9 => h9) rfl (by decide +kernel) rfl rfl (Nat.le_of_ble_eq_true rfl) d_As_isName_86 (fun H locs hP hD hS => ?_)
                have hP : va_P D vCl (wA ad ca tx ln lb bg (-1) ct ia ++ (wW ad ca wo)) H := hP
                have hD : va_D A (wA ad ca tx ln lb bg (-1) ct ia ++ (wW ad ca wo)) := hD
                refine lv_goto (tgt := 158) hx hb d_As_isName_89 (by decide) ?_
                refine lv_aload_n hx hb d_As_isName_158 rfl (lv_at hl 3 rfl) ?_
                refine va_get (D := D) (ci := 0) (v := .int (-1)) (C := RAs) (T := TAs) (N := 8) hx hb ht inAs hown hK hP 0 rfl rfl 4 (by decide) (ht _ q47) (fun _ h9 => h9) rfl d_As_isName_159 ?_
                refine lv_if_ge (tgt := 167) hx hb d_As_isName_162 (by decide) (fun h19 => absurd h19 (by decide)) (fun _ => ?_)
                refine lv_iconst (v := nI 0) hx hb d_As_isName_165 (by decide) ?_
                rw [show e0 - j = (e0 - (j + 1)) + 1 by omega, pm_w] at hL
                rw [if_pos h7] at hL
                rw [hix] at hL
                exact zret_z C0 hr (zbn (by omega)) hAe hP hD hS (Or.inr ⟨by unfold isN; rw [if_neg (by omega)]; exact hL, rfl, _, rfl⟩) d_As_isName_166
              · skip
                refine zti (y := nI c1) rfl ?_
                have hc1 : c1 < 26 := Nat.lt_of_lt_of_le (ixO_lt hix) (by decide)
                refine va_put (D := D) (ci := 0) (v := .int (nI c1)) (ty := .int) (C := RAs) (T := TAs) (N := 8) hx hb ht inAs tyAs tyAs_ok nmAs hown hK hP hD hS 0 rfl rfl 4 (by decide) (ht _ q47) (fun _ h9 => h9) rfl (by decide +kernel) rfl rfl (Nat.le_of_ble_eq_true rfl) d_As_isName_86 (fun H locs hP hD hS => ?_)
                have hP : va_P D vCl (wA ad ca tx ln lb bg (nI c1) ct ia ++ (wW ad ca wo)) H := hP
                have hD : va_D A (wA ad ca tx ln lb bg (nI c1) ct ia ++ (wW ad ca wo)) := hD
                refine lv_goto (tgt := 158) hx hb d_As_isName_89 (by decide) ?_
                refine lv_aload_n hx hb d_As_isName_158 rfl (lv_at hl 3 rfl) ?_
                refine va_get (D := D) (ci := 0) (v := .int (nI c1)) (C := RAs) (T := TAs) (N := 8) hx hb ht inAs hown hK hP 0 rfl rfl 4 (by decide) (ht _ q47) (fun _ h9 => h9) rfl d_As_isName_159 ?_
                refine lv_if_ge (tgt := 167) hx hb d_As_isName_162 (by decide) (fun _ => ?_) (fun h20 => (h20 (nI_pos' (by omega))).elim)
                refine lv_iinc (k := 1) (v := nI (j + 1)) hx hb d_As_isName_167 hl rfl (zinc _) (by decide) rfl (fun ls hl => ?_)
                have hl : lv_has ls 8 [(6, .int (nI (j + 1))), (7, .int (nI ((zS sn).getD ((sp + j) - a0) 0))), (5, .int (nI (sp + e0 - a0))), (0, .ref (ad 1)), (1, .ref (k (sn + 1))), (2, .int (nI sp)), (3, .int (nI a0)), (4, .int (nI e0))] := hl
                refine lv_goto (tgt := 47) hx hb d_As_isName_170 (by decide) ?_
                rw [show e0 - j = (e0 - (j + 1)) + 1 by omega, pm_w] at hL
                rw [if_pos h7] at hL
                rw [hix] at hL
                exact ih_lp (j + 1) c1 H locs ls (by omega) (by omega) (by omega) hL (lv_sub hl [0, 2, 3, 4, 5, 6, 7] rfl) hP hD hS
      exact loop_lp (e0 - a0 + 1) a0 0 _ _ _ (by omega) (by omega) (by omega) rfl (lv_sub hl [0, 1, 2, 3, 4, 5, 6] rfl) hP hD hS
    · skip
      have h4 : ¬ (((zS sn).length) ≤ ((sp + e0) - a0)) := fun z => h4 ((nI_leI (by omega) (by omega)).mpr z)
      refine lv_aload_n hx hb d_As_isName_26 rfl (lv_at hl 2 rfl) ?_
      refine lv_iload hx hb d_As_isName_27 (lv_at hl 0 rfl) ?_
      refine zgo_i (wr := wA ad ca tx ln lb bg ch ct ia ++ wW ad ca wo) C0 (zrunR (na := 1) (As := [.int (nI ((sp + e0) - a0))]) (rest := []) C0 hP hD hS [] rfl rfl (m_St_charAt l D ca k H.size ad sn hsn ((sp + e0) - a0) (by omega)) (zg_V q264 q265 q266 q3 q267) (by decide +kernel) rfl rfl ⟨by decide, by decide⟩ (vk_recv (i := sn) hX.2.2.2.1 hsn hS) rfl hl.1 rfl (Nat.le_of_ble_eq_true rfl) d_As_isName_29 ⟨Nat.zero_le _, Nat.zero_le _⟩) hP hD hS [] [0, 1, 2, 3, 4] rfl rfl (by decide) (by decide) (fun r21 w1 H locs hw hP hD hS => ?_)
      obtain ⟨rfl, rfl⟩ := hw
      have hzb21 := zS_b (i := sn) hsn ((sp + e0) - a0)
      have hP : va_P D vCl (wA ad ca tx ln lb bg ch ct ia ++ (wW ad ca wo)) H := hP
      have hD : va_D A (wA ad ca tx ln lb bg ch ct ia ++ (wW ad ca wo)) := hD
      refine lv_bipush (v := nI 32) hx hb d_As_isName_32 (by decide) ?_
      refine lv_icmp_eq (tgt := 39) hx hb d_As_isName_34 (by decide) (fun h22 => ?_) (fun h22 => ?_)
      · skip
        have h22 : (((zS sn).getD ((sp + e0) - a0) 0) = 32) := (nI_eq (by omega) (by omega)).mp h22
        refine lv_aload_n hx hb d_As_isName_39 rfl (lv_at hl 1 rfl) ?_
        refine lv_iconst (v := nI 0) hx hb d_As_isName_40 (by decide) ?_
        refine va_put (D := D) (ci := 0) (v := .int (nI 0)) (ty := .int) (C := RAs) (T := TAs) (N := 8) hx hb ht inAs tyAs tyAs_ok nmAs hown hK hP hD hS 0 rfl rfl 4 (by decide) (ht _ q47) (fun _ h9 => h9) rfl (by decide +kernel) rfl rfl (Nat.le_of_ble_eq_true rfl) d_As_isName_41 (fun H locs hP hD hS => ?_)
        have hP : va_P D vCl (wA ad ca tx ln lb bg (nI 0) ct ia ++ (wW ad ca wo)) H := hP
        have hD : va_D A (wA ad ca tx ln lb bg (nI 0) ct ia ++ (wW ad ca wo)) := hD
        refine lv_iload_n hx hb d_As_isName_44 rfl (lv_at hl 4 rfl) ?_
        refine lv_istore hx hb d_As_isName_45 hl (by decide) rfl (fun ls hl => ?_)
        have hl : lv_has ls 8 [(6, .int (nI a0)), (5, .int (nI ((sp + e0) - a0))), (0, .ref (ad 1)), (1, .ref (k (sn + 1))), (2, .int (nI sp)), (3, .int (nI a0)), (4, .int (nI e0))] := hl
        have loop_lp : ∀ (n_lp : Nat) (j : Nat) (ch0 : Nat) (H : Heap) (locs : List Loc) (ls : Array Slot), e0 - j < n_lp → (a0 ≤ j ∧ j ≤ e0) → (ch0 < 26) → (pmR (zS sn) sp a0 tx (e0 - a0) a0 0 = pmR (zS sn) sp a0 tx (e0 - j) j ch0) → lv_has ls 8 [(6, .int (nI j)), (5, .int (nI (sp + e0 - a0))), (0, .ref (ad 1)), (1, .ref (k (sn + 1))), (2, .int (nI sp)), (3, .int (nI a0)), (4, .int (nI e0))] → va_P D vCl (wA ad ca tx ln lb bg (nI ch0) ct ia ++ (wW ad ca wo)) H → va_D A (wA ad ca tx ln lb bg (nI ch0) ct ia ++ (wW ad ca wo)) → va_S A s.heap H locs → W p l e { frames := 4, cells := 0, slots := 0, locals := 91 } s m ([.ref (ad 1), .ref (k (sn + 1)), .int (nI sp), .int (nI a0), .int (nI e0)] : List Value).toArray below meth c H locs 0 0 (MQ below (va_Qi (fun r w => (∃ c, isN (zS sn) sp tx a0 e0 = some c ∧ c < 26 ∧ r = nI 1 ∧ w = wA ad ca tx ln lb bg (nI c) ct ia ++ wW ad ca wo) ∨ (isN (zS sn) sp tx a0 e0 = none ∧ r = nI 0 ∧ ∃ x, w = wA ad ca tx ln lb bg x ct ia ++ wW ad ca wo)) (zB D (zty ca) (wA ad ca tx ln lb bg ch ct ia ++ (wW ad ca wo)) sz) (va_A (wA ad ca tx ln lb bg ch ct ia ++ (wW ad ca wo)) sz)) ([.ref (ad 1), .ref (k (sn + 1)), .int (nI sp), .int (nI a0), .int (nI e0)] : List Value).toArray s 0 0 (va_A (wA ad ca tx ln lb bg ch ct ia ++ (wW ad ca wo)) sz)) (F0 m 47 ls []) := by
          intro n_lp
          induction n_lp with
          | zero => intro j ch0 H locs ls hm; exact absurd hm (Nat.not_lt_zero _)
          | succ n_lp ih_lp =>
            intro j ch0 H locs ls hm hj hc0 hL hl hP hD hS
            have htj := htx j
            refine lv_iload hx hb d_As_isName_47 (lv_at hl 0 rfl) ?_
            refine lv_iload hx hb d_As_isName_49 (lv_at hl 6 rfl) ?_
            refine lv_icmp_ge (tgt := 173) hx hb d_As_isName_51 (by decide) (fun h23 => ?_) (fun h23 => ?_)
            · skip
              have h23 : (e0 ≤ j) := (nI_leI (by omega) (by omega)).mp h23
              refine lv_iconst (v := nI 1) hx hb d_As_isName_173 (by decide) ?_
              rw [show e0 - j = 0 by omega, pm_0] at hL
              exact zret_z C0 hr (zbn (by omega)) hAe hP hD hS (Or.inl ⟨ch0, by unfold isN; rw [if_neg (by omega)]; exact hL, by omega, rfl, rfl⟩) d_As_isName_174
            · skip
              have h23 : ¬ (e0 ≤ j) := fun z => h23 ((nI_leI (by omega) (by omega)).mpr z)
              refine lv_aload_n hx hb d_As_isName_54 rfl (lv_at hl 3 rfl) ?_
              refine lv_iload_n hx hb d_As_isName_55 rfl (lv_at hl 4 rfl) ?_
              refine lv_iload hx hb d_As_isName_56 (lv_at hl 0 rfl) ?_
              refine lv_iadd hx hb d_As_isName_58 ?_
              refine zti (y := nI (sp + j)) (nI_add _ _) ?_
              refine lv_iload_n hx hb d_As_isName_59 rfl (lv_at hl 5 rfl) ?_
              refine lv_isub hx hb d_As_isName_60 ?_
              refine zti (y := nI ((sp + j) - a0)) (pk_sub (by omega)) ?_
              refine zgo_i (wr := wA ad ca tx ln lb bg (nI ch0) ct ia ++ wW ad ca wo) C0 (zrunR (na := 1) (As := [.int (nI ((sp + j) - a0))]) (rest := []) C0 hP hD hS [] rfl rfl (m_St_charAt l D ca k H.size ad sn hsn ((sp + j) - a0) (by omega)) (zg_V q264 q265 q266 q3 q267) (by decide +kernel) rfl rfl ⟨by decide, by decide⟩ (vk_recv (i := sn) hX.2.2.2.1 hsn hS) rfl hl.1 rfl (Nat.le_of_ble_eq_true rfl) d_As_isName_61 ⟨Nat.zero_le _, Nat.zero_le _⟩) hP hD hS [] [0, 1, 2, 3, 4] rfl rfl (by decide) (by decide) (fun r24 w1 H locs hw hP hD hS => ?_)
              obtain ⟨rfl, rfl⟩ := hw
              have hzb24 := zS_b (i := sn) hsn ((sp + j) - a0)
              have hP : va_P D vCl (wA ad ca tx ln lb bg (nI ch0) ct ia ++ (wW ad ca wo)) H := hP
              have hD : va_D A (wA ad ca tx ln lb bg (nI ch0) ct ia ++ (wW ad ca wo)) := hD
              refine lv_istore hx hb d_As_isName_64 hl (by decide) rfl (fun ls hl => ?_)
              have hl : lv_has ls 8 [(7, .int (nI ((zS sn).getD ((sp + j) - a0) 0))), (6, .int (nI j)), (5, .int (nI (sp + e0 - a0))), (0, .ref (ad 1)), (1, .ref (k (sn + 1))), (2, .int (nI sp)), (3, .int (nI a0)), (4, .int (nI e0))] := hl
              refine lv_iload hx hb d_As_isName_66 (lv_at hl 0 rfl) ?_
              refine lv_bipush (v := nI 78) hx hb d_As_isName_68 (by decide) ?_
              refine lv_icmp_ne (tgt := 92) hx hb d_As_isName_70 (by decide) (fun h25 => ?_) (fun h25 => ?_)
              · skip
                have h25 : ¬ (((zS sn).getD ((sp + j) - a0) 0) = 78) := fun z => h25 ((nI_eq (by omega) (by omega)).mpr z)
                refine lv_iload hx hb d_As_isName_92 (lv_at hl 0 rfl) ?_
                refine lv_bipush (v := nI 70) hx hb d_As_isName_94 (by decide) ?_
                refine lv_icmp_ne (tgt := 118) hx hb d_As_isName_96 (by decide) (fun h26 => ?_) (fun h26 => ?_)
                · skip
                  have h26 : ¬ (((zS sn).getD ((sp + j) - a0) 0) = 70) := fun z => h26 ((nI_eq (by omega) (by omega)).mpr z)
                  refine lv_iload hx hb d_As_isName_118 (lv_at hl 0 rfl) ?_
                  refine lv_bipush (v := nI 76) hx hb d_As_isName_120 (by decide) ?_
                  refine lv_icmp_ne (tgt := 144) hx hb d_As_isName_122 (by decide) (fun h27 => ?_) (fun h27 => ?_)
                  · skip
                    have h27 : ¬ (((zS sn).getD ((sp + j) - a0) 0) = 76) := fun z => h27 ((nI_eq (by omega) (by omega)).mpr z)
                    refine lv_iload hx hb d_As_isName_144 (lv_at hl 0 rfl) ?_
                    refine lv_aload_n hx hb d_As_isName_146 rfl (lv_at hl 3 rfl) ?_
                    refine va_get (D := D) (ci := 0) (v := .ref (ad 2)) (C := RAs) (T := TAs) (N := 8) hx hb ht inAs hown hK hP 0 rfl rfl 0 (by decide) (ht _ q43) (fun _ h9 => h9) rfl d_As_isName_147 ?_
                    refine lv_iload hx hb d_As_isName_150 (lv_at hl 1 rfl) ?_
                    refine va_cald hx hb hK hP 1 2 rfl rfl (vp_in_nI (n := j) (by omega) (by decide)) d_As_isName_152 ?_
                    refine zti (y := nI (tx j)) (nF_at (by omega)) ?_
                    refine lv_icmp_eq (tgt := 158) hx hb d_As_isName_153 (by decide) (fun h28 => ?_) (fun h28 => ?_)
                    · skip
                      have h28 : (((zS sn).getD ((sp + j) - a0) 0) = (tx j)) := (nI_eq (by omega) (by omega)).mp h28
                      refine lv_aload_n hx hb d_As_isName_158 rfl (lv_at hl 3 rfl) ?_
                      refine va_get (D := D) (ci := 0) (v := .int (nI ch0)) (C := RAs) (T := TAs) (N := 8) hx hb ht inAs hown hK hP 0 rfl rfl 4 (by decide) (ht _ q47) (fun _ h9 => h9) rfl d_As_isName_159 ?_
                      refine lv_if_ge (tgt := 167) hx hb d_As_isName_162 (by decide) (fun _ => ?_) (fun h29 => (h29 (nI_pos' (by omega))).elim)
                      refine lv_iinc (k := 1) (v := nI (j + 1)) hx hb d_As_isName_167 hl rfl (zinc _) (by decide) rfl (fun ls hl => ?_)
                      have hl : lv_has ls 8 [(6, .int (nI (j + 1))), (7, .int (nI ((zS sn).getD ((sp + j) - a0) 0))), (5, .int (nI (sp + e0 - a0))), (0, .ref (ad 1)), (1, .ref (k (sn + 1))), (2, .int (nI sp)), (3, .int (nI a0)), (4, .int (nI e0))] := hl
                      refine lv_goto (tgt := 47) hx hb d_As_isName_170 (by decide) ?_
                      rw [show e0 - j = (e0 - (j + 1)) + 1 by omega, pm_w] at hL
                      rw [if_neg h25, if_neg h26, if_neg h27, if_pos h28] at hL
                      exact ih_lp (j + 1) ch0 H locs ls (by omega) (by omega) (by omega) hL (lv_sub hl [0, 2, 3, 4, 5, 6, 7] rfl) hP hD hS
                    · skip
                      have h28 : ¬ (((zS sn).getD ((sp + j) - a0) 0) = (tx j)) := fun z => h28 ((nI_eq (by omega) (by omega)).mpr z)
                      refine lv_iconst (v := nI 0) hx hb d_As_isName_156 (by decide) ?_
                      rw [show e0 - j = (e0 - (j + 1)) + 1 by omega, pm_w] at hL
                      rw [if_neg h25, if_neg h26, if_neg h27, if_neg h28] at hL
                      exact zret_z C0 hr (zbn (by omega)) hAe hP hD hS (Or.inr ⟨by unfold isN; rw [if_neg (by omega)]; exact hL, rfl, _, rfl⟩) d_As_isName_157
                  · skip
                    have h27 : (((zS sn).getD ((sp + j) - a0) 0) = 76) := (nI_eq (by omega) (by omega)).mp h27
                    refine lv_aload_n hx hb d_As_isName_125 rfl (lv_at hl 3 rfl) ?_
                    refine va_ldcS hx hb hown (hX.2.2.2.2.1 6 (by decide)) d_As_isName_126 ?_
                    refine lv_aload_n hx hb d_As_isName_128 rfl (lv_at hl 3 rfl) ?_
                    refine va_get (D := D) (ci := 0) (v := .ref (ad 2)) (C := RAs) (T := TAs) (N := 8) hx hb ht inAs hown hK hP 0 rfl rfl 0 (by decide) (ht _ q43) (fun _ h9 => h9) rfl d_As_isName_129 ?_
                    refine lv_iload hx hb d_As_isName_132 (lv_at hl 1 rfl) ?_
                    refine va_cald hx hb hK hP 1 2 rfl rfl (vp_in_nI (n := j) (by omega) (by decide)) d_As_isName_134 ?_
                    refine zti (y := nI (tx j)) (nF_at (by omega)) ?_
                    refine zgo_i (wr := wA ad ca tx ln lb bg (nI ch0) ct ia ++ wW ad ca wo) C0 (zrunR (na := 1) (As := [.int (nI (tx j))]) (rest := [.ref (ad 1)]) C0 hP hD hS [] rfl rfl (m_St_indexOf0 l D ca k H.size ad 6 (by decide) (tx j) (by omega)) (zg_V q307 q308 q309 q3 q310) (by decide +kernel) rfl rfl ⟨by decide, by decide⟩ (vk_recv (i := 6) hX.2.2.2.1 (by decide) hS) rfl hl.1 rfl (Nat.le_of_ble_eq_true rfl) d_As_isName_135 ⟨Nat.zero_le _, Nat.zero_le _⟩) hP hD hS [] [0, 1, 2, 3, 4] rfl rfl (by decide) (by decide) (fun r30 w1 H locs hw hP hD hS => ?_)
                    obtain ⟨rfl, rfl⟩ := hw
                    have hP : va_P D vCl (wA ad ca tx ln lb bg (nI ch0) ct ia ++ (wW ad ca wo)) H := hP
                    have hD : va_D A (wA ad ca tx ln lb bg (nI ch0) ct ia ++ (wW ad ca wo)) := hD
                    rcases hix : ixO (zS 6) (tx j) 0 with _ | c1
                    · skip
                      refine zti (y := (-1)) rfl ?_
                      refine va_put (D := D) (ci := 0) (v := .int (-1)) (ty := .int) (C := RAs) (T := TAs) (N := 8) hx hb ht inAs tyAs tyAs_ok nmAs hown hK hP hD hS 0 rfl rfl 4 (by decide) (ht _ q47) (fun _ h9 => h9) rfl (by decide +kernel) rfl rfl (Nat.le_of_ble_eq_true rfl) d_As_isName_138 (fun H locs hP hD hS => ?_)
                      have hP : va_P D vCl (wA ad ca tx ln lb bg (-1) ct ia ++ (wW ad ca wo)) H := hP
                      have hD : va_D A (wA ad ca tx ln lb bg (-1) ct ia ++ (wW ad ca wo)) := hD
                      refine lv_goto (tgt := 158) hx hb d_As_isName_141 (by decide) ?_
                      refine lv_aload_n hx hb d_As_isName_158 rfl (lv_at hl 3 rfl) ?_
                      refine va_get (D := D) (ci := 0) (v := .int (-1)) (C := RAs) (T := TAs) (N := 8) hx hb ht inAs hown hK hP 0 rfl rfl 4 (by decide) (ht _ q47) (fun _ h9 => h9) rfl d_As_isName_159 ?_
                      refine lv_if_ge (tgt := 167) hx hb d_As_isName_162 (by decide) (fun h31 => absurd h31 (by decide)) (fun _ => ?_)
                      refine lv_iconst (v := nI 0) hx hb d_As_isName_165 (by decide) ?_
                      rw [show e0 - j = (e0 - (j + 1)) + 1 by omega, pm_w] at hL
                      rw [if_neg h25, if_neg h26, if_pos h27] at hL
                      rw [hix] at hL
                      exact zret_z C0 hr (zbn (by omega)) hAe hP hD hS (Or.inr ⟨by unfold isN; rw [if_neg (by omega)]; exact hL, rfl, _, rfl⟩) d_As_isName_166
                    · skip
                      refine zti (y := nI c1) rfl ?_
                      have hc1 : c1 < 26 := Nat.lt_of_lt_of_le (ixO_lt hix) (by decide)
                      refine va_put (D := D) (ci := 0) (v := .int (nI c1)) (ty := .int) (C := RAs) (T := TAs) (N := 8) hx hb ht inAs tyAs tyAs_ok nmAs hown hK hP hD hS 0 rfl rfl 4 (by decide) (ht _ q47) (fun _ h9 => h9) rfl (by decide +kernel) rfl rfl (Nat.le_of_ble_eq_true rfl) d_As_isName_138 (fun H locs hP hD hS => ?_)
                      have hP : va_P D vCl (wA ad ca tx ln lb bg (nI c1) ct ia ++ (wW ad ca wo)) H := hP
                      have hD : va_D A (wA ad ca tx ln lb bg (nI c1) ct ia ++ (wW ad ca wo)) := hD
                      refine lv_goto (tgt := 158) hx hb d_As_isName_141 (by decide) ?_
                      refine lv_aload_n hx hb d_As_isName_158 rfl (lv_at hl 3 rfl) ?_
                      refine va_get (D := D) (ci := 0) (v := .int (nI c1)) (C := RAs) (T := TAs) (N := 8) hx hb ht inAs hown hK hP 0 rfl rfl 4 (by decide) (ht _ q47) (fun _ h9 => h9) rfl d_As_isName_159 ?_
                      refine lv_if_ge (tgt := 167) hx hb d_As_isName_162 (by decide) (fun _ => ?_) (fun h32 => (h32 (nI_pos' (by omega))).elim)
                      refine lv_iinc (k := 1) (v := nI (j + 1)) hx hb d_As_isName_167 hl rfl (zinc _) (by decide) rfl (fun ls hl => ?_)
                      have hl : lv_has ls 8 [(6, .int (nI (j + 1))), (7, .int (nI ((zS sn).getD ((sp + j) - a0) 0))), (5, .int (nI (sp + e0 - a0))), (0, .ref (ad 1)), (1, .ref (k (sn + 1))), (2, .int (nI sp)), (3, .int (nI a0)), (4, .int (nI e0))] := hl
                      refine lv_goto (tgt := 47) hx hb d_As_isName_170 (by decide) ?_
                      rw [show e0 - j = (e0 - (j + 1)) + 1 by omega, pm_w] at hL
                      rw [if_neg h25, if_neg h26, if_pos h27] at hL
                      rw [hix] at hL
                      exact ih_lp (j + 1) c1 H locs ls (by omega) (by omega) (by omega) hL (lv_sub hl [0, 2, 3, 4, 5, 6, 7] rfl) hP hD hS
                · skip
                  have h26 : (((zS sn).getD ((sp + j) - a0) 0) = 70) := (nI_eq (by omega) (by omega)).mp h26
                  refine lv_aload_n hx hb d_As_isName_99 rfl (lv_at hl 3 rfl) ?_
                  refine va_ldcS hx hb hown (hX.2.2.2.2.1 5 (by decide)) d_As_isName_100 ?_
                  refine lv_aload_n hx hb d_As_isName_102 rfl (lv_at hl 3 rfl) ?_
                  refine va_get (D := D) (ci := 0) (v := .ref (ad 2)) (C := RAs) (T := TAs) (N := 8) hx hb ht inAs hown hK hP 0 rfl rfl 0 (by decide) (ht _ q43) (fun _ h9 => h9) rfl d_As_isName_103 ?_
                  refine lv_iload hx hb d_As_isName_106 (lv_at hl 1 rfl) ?_
                  refine va_cald hx hb hK hP 1 2 rfl rfl (vp_in_nI (n := j) (by omega) (by decide)) d_As_isName_108 ?_
                  refine zti (y := nI (tx j)) (nF_at (by omega)) ?_
                  refine zgo_i (wr := wA ad ca tx ln lb bg (nI ch0) ct ia ++ wW ad ca wo) C0 (zrunR (na := 1) (As := [.int (nI (tx j))]) (rest := [.ref (ad 1)]) C0 hP hD hS [] rfl rfl (m_St_indexOf0 l D ca k H.size ad 5 (by decide) (tx j) (by omega)) (zg_V q307 q308 q309 q3 q310) (by decide +kernel) rfl rfl ⟨by decide, by decide⟩ (vk_recv (i := 5) hX.2.2.2.1 (by decide) hS) rfl hl.1 rfl (Nat.le_of_ble_eq_true rfl) d_As_isName_109 ⟨Nat.zero_le _, Nat.zero_le _⟩) hP hD hS [] [0, 1, 2, 3, 4] rfl rfl (by decide) (by decide) (fun r33 w1 H locs hw hP hD hS => ?_)
                  obtain ⟨rfl, rfl⟩ := hw
                  have hP : va_P D vCl (wA ad ca tx ln lb bg (nI ch0) ct ia ++ (wW ad ca wo)) H := hP
                  have hD : va_D A (wA ad ca tx ln lb bg (nI ch0) ct ia ++ (wW ad ca wo)) := hD
                  rcases hix : ixO (zS 5) (tx j) 0 with _ | c1
                  · skip
                    refine zti (y := (-1)) rfl ?_
                    refine va_put (D := D) (ci := 0) (v := .int (-1)) (ty := .int) (C := RAs) (T := TAs) (N := 8) hx hb ht inAs tyAs tyAs_ok nmAs hown hK hP hD hS 0 rfl rfl 4 (by decide) (ht _ q47) (fun _ h9 => h9) rfl (by decide +kernel) rfl rfl (Nat.le_of_ble_eq_true rfl) d_As_isName_112 (fun H locs hP hD hS => ?_)
                    have hP : va_P D vCl (wA ad ca tx ln lb bg (-1) ct ia ++ (wW ad ca wo)) H := hP
                    have hD : va_D A (wA ad ca tx ln lb bg (-1) ct ia ++ (wW ad ca wo)) := hD
                    refine lv_goto (tgt := 158) hx hb d_As_isName_115 (by decide) ?_
                    refine lv_aload_n hx hb d_As_isName_158 rfl (lv_at hl 3 rfl) ?_
                    refine va_get (D := D) (ci := 0) (v := .int (-1)) (C := RAs) (T := TAs) (N := 8) hx hb ht inAs hown hK hP 0 rfl rfl 4 (by decide) (ht _ q47) (fun _ h9 => h9) rfl d_As_isName_159 ?_
                    refine lv_if_ge (tgt := 167) hx hb d_As_isName_162 (by decide) (fun h34 => absurd h34 (by decide)) (fun _ => ?_)
                    refine lv_iconst (v := nI 0) hx hb d_As_isName_165 (by decide) ?_
                    rw [show e0 - j = (e0 - (j + 1)) + 1 by omega, pm_w] at hL
                    rw [if_neg h25, if_pos h26] at hL
                    rw [hix] at hL
                    exact zret_z C0 hr (zbn (by omega)) hAe hP hD hS (Or.inr ⟨by unfold isN; rw [if_neg (by omega)]; exact hL, rfl, _, rfl⟩) d_As_isName_166
                  · skip
                    refine zti (y := nI c1) rfl ?_
                    have hc1 : c1 < 26 := Nat.lt_of_lt_of_le (ixO_lt hix) (by decide)
                    refine va_put (D := D) (ci := 0) (v := .int (nI c1)) (ty := .int) (C := RAs) (T := TAs) (N := 8) hx hb ht inAs tyAs tyAs_ok nmAs hown hK hP hD hS 0 rfl rfl 4 (by decide) (ht _ q47) (fun _ h9 => h9) rfl (by decide +kernel) rfl rfl (Nat.le_of_ble_eq_true rfl) d_As_isName_112 (fun H locs hP hD hS => ?_)
                    have hP : va_P D vCl (wA ad ca tx ln lb bg (nI c1) ct ia ++ (wW ad ca wo)) H := hP
                    have hD : va_D A (wA ad ca tx ln lb bg (nI c1) ct ia ++ (wW ad ca wo)) := hD
                    refine lv_goto (tgt := 158) hx hb d_As_isName_115 (by decide) ?_
                    refine lv_aload_n hx hb d_As_isName_158 rfl (lv_at hl 3 rfl) ?_
                    refine va_get (D := D) (ci := 0) (v := .int (nI c1)) (C := RAs) (T := TAs) (N := 8) hx hb ht inAs hown hK hP 0 rfl rfl 4 (by decide) (ht _ q47) (fun _ h9 => h9) rfl d_As_isName_159 ?_
                    refine lv_if_ge (tgt := 167) hx hb d_As_isName_162 (by decide) (fun _ => ?_) (fun h35 => (h35 (nI_pos' (by omega))).elim)
                    refine lv_iinc (k := 1) (v := nI (j + 1)) hx hb d_As_isName_167 hl rfl (zinc _) (by decide) rfl (fun ls hl => ?_)
                    have hl : lv_has ls 8 [(6, .int (nI (j + 1))), (7, .int (nI ((zS sn).getD ((sp + j) - a0) 0))), (5, .int (nI (sp + e0 - a0))), (0, .ref (ad 1)), (1, .ref (k (sn + 1))), (2, .int (nI sp)), (3, .int (nI a0)), (4, .int (nI e0))] := hl
                    refine lv_goto (tgt := 47) hx hb d_As_isName_170 (by decide) ?_
                    rw [show e0 - j = (e0 - (j + 1)) + 1 by omega, pm_w] at hL
                    rw [if_neg h25, if_pos h26] at hL
                    rw [hix] at hL
                    exact ih_lp (j + 1) c1 H locs ls (by omega) (by omega) (by omega) hL (lv_sub hl [0, 2, 3, 4, 5, 6, 7] rfl) hP hD hS
              · skip
                have h25 : (((zS sn).getD ((sp + j) - a0) 0) = 78) := (nI_eq (by omega) (by omega)).mp h25
                refine lv_aload_n hx hb d_As_isName_73 rfl (lv_at hl 3 rfl) ?_
                refine va_ldcS hx hb hown (hX.2.2.2.2.1 4 (by decide)) d_As_isName_74 ?_
                refine lv_aload_n hx hb d_As_isName_76 rfl (lv_at hl 3 rfl) ?_
                refine va_get (D := D) (ci := 0) (v := .ref (ad 2)) (C := RAs) (T := TAs) (N := 8) hx hb ht inAs hown hK hP 0 rfl rfl 0 (by decide) (ht _ q43) (fun _ h9 => h9) rfl d_As_isName_77 ?_
                refine lv_iload hx hb d_As_isName_80 (lv_at hl 1 rfl) ?_
                refine va_cald hx hb hK hP 1 2 rfl rfl (vp_in_nI (n := j) (by omega) (by decide)) d_As_isName_82 ?_
                refine zti (y := nI (tx j)) (nF_at (by omega)) ?_
                refine zgo_i (wr := wA ad ca tx ln lb bg (nI ch0) ct ia ++ wW ad ca wo) C0 (zrunR (na := 1) (As := [.int (nI (tx j))]) (rest := [.ref (ad 1)]) C0 hP hD hS [] rfl rfl (m_St_indexOf0 l D ca k H.size ad 4 (by decide) (tx j) (by omega)) (zg_V q307 q308 q309 q3 q310) (by decide +kernel) rfl rfl ⟨by decide, by decide⟩ (vk_recv (i := 4) hX.2.2.2.1 (by decide) hS) rfl hl.1 rfl (Nat.le_of_ble_eq_true rfl) d_As_isName_83 ⟨Nat.zero_le _, Nat.zero_le _⟩) hP hD hS [] [0, 1, 2, 3, 4] rfl rfl (by decide) (by decide) (fun r36 w1 H locs hw hP hD hS => ?_)
                obtain ⟨rfl, rfl⟩ := hw
                have hP : va_P D vCl (wA ad ca tx ln lb bg (nI ch0) ct ia ++ (wW ad ca wo)) H := hP
                have hD : va_D A (wA ad ca tx ln lb bg (nI ch0) ct ia ++ (wW ad ca wo)) := hD
                rcases hix : ixO (zS 4) (tx j) 0 with _ | c1
                · skip
                  refine zti (y := (-1)) rfl ?_
                  refine va_put (D := D) (ci := 0) (v := .int (-1)) (ty := .int) (C := RAs) (T := TAs) (N := 8) hx hb ht inAs tyAs tyAs_ok nmAs hown hK hP hD hS 0 rfl rfl 4 (by decide) (ht _ q47) (fun _ h9 => h9) rfl (by decide +kernel) rfl rfl (Nat.le_of_ble_eq_true rfl) d_As_isName_86 (fun H locs hP hD hS => ?_)
                  have hP : va_P D vCl (wA ad ca tx ln lb bg (-1) ct ia ++ (wW ad ca wo)) H := hP
                  have hD : va_D A (wA ad ca tx ln lb bg (-1) ct ia ++ (wW ad ca wo)) := hD
                  refine lv_goto (tgt := 158) hx hb d_As_isName_89 (by decide) ?_
                  refine lv_aload_n hx hb d_As_isName_158 rfl (lv_at hl 3 rfl) ?_
                  refine va_get (D := D) (ci := 0) (v := .int (-1)) (C := RAs) (T := TAs) (N := 8) hx hb ht inAs hown hK hP 0 rfl rfl 4 (by decide) (ht _ q47) (fun _ h9 => h9) rfl d_As_isName_159 ?_
                  refine lv_if_ge (tgt := 167) hx hb d_As_isName_162 (by decide) (fun h37 => absurd h37 (by decide)) (fun _ => ?_)
                  refine lv_iconst (v := nI 0) hx hb d_As_isName_165 (by decide) ?_
                  rw [show e0 - j = (e0 - (j + 1)) + 1 by omega, pm_w] at hL
                  rw [if_pos h25] at hL
                  rw [hix] at hL
                  exact zret_z C0 hr (zbn (by omega)) hAe hP hD hS (Or.inr ⟨by unfold isN; rw [if_neg (by omega)]; exact hL, rfl, _, rfl⟩) d_As_isName_166
                · skip
                  refine zti (y := nI c1) rfl ?_
                  have hc1 : c1 < 26 := Nat.lt_of_lt_of_le (ixO_lt hix) (by decide)
                  refine va_put (D := D) (ci := 0) (v := .int (nI c1)) (ty := .int) (C := RAs) (T := TAs) (N := 8) hx hb ht inAs tyAs tyAs_ok nmAs hown hK hP hD hS 0 rfl rfl 4 (by decide) (ht _ q47) (fun _ h9 => h9) rfl (by decide +kernel) rfl rfl (Nat.le_of_ble_eq_true rfl) d_As_isName_86 (fun H locs hP hD hS => ?_)
                  have hP : va_P D vCl (wA ad ca tx ln lb bg (nI c1) ct ia ++ (wW ad ca wo)) H := hP
                  have hD : va_D A (wA ad ca tx ln lb bg (nI c1) ct ia ++ (wW ad ca wo)) := hD
                  refine lv_goto (tgt := 158) hx hb d_As_isName_89 (by decide) ?_
                  refine lv_aload_n hx hb d_As_isName_158 rfl (lv_at hl 3 rfl) ?_
                  refine va_get (D := D) (ci := 0) (v := .int (nI c1)) (C := RAs) (T := TAs) (N := 8) hx hb ht inAs hown hK hP 0 rfl rfl 4 (by decide) (ht _ q47) (fun _ h9 => h9) rfl d_As_isName_159 ?_
                  refine lv_if_ge (tgt := 167) hx hb d_As_isName_162 (by decide) (fun _ => ?_) (fun h38 => (h38 (nI_pos' (by omega))).elim)
                  refine lv_iinc (k := 1) (v := nI (j + 1)) hx hb d_As_isName_167 hl rfl (zinc _) (by decide) rfl (fun ls hl => ?_)
                  have hl : lv_has ls 8 [(6, .int (nI (j + 1))), (7, .int (nI ((zS sn).getD ((sp + j) - a0) 0))), (5, .int (nI (sp + e0 - a0))), (0, .ref (ad 1)), (1, .ref (k (sn + 1))), (2, .int (nI sp)), (3, .int (nI a0)), (4, .int (nI e0))] := hl
                  refine lv_goto (tgt := 47) hx hb d_As_isName_170 (by decide) ?_
                  rw [show e0 - j = (e0 - (j + 1)) + 1 by omega, pm_w] at hL
                  rw [if_pos h25] at hL
                  rw [hix] at hL
                  exact ih_lp (j + 1) c1 H locs ls (by omega) (by omega) (by omega) hL (lv_sub hl [0, 2, 3, 4, 5, 6, 7] rfl) hP hD hS
        exact loop_lp (e0 - a0 + 1) a0 0 _ _ _ (by omega) (by omega) (by omega) rfl (lv_sub hl [0, 1, 2, 3, 4, 5, 6] rfl) hP hD hS
      · skip
        have h22 : ¬ (((zS sn).getD ((sp + e0) - a0) 0) = 32) := fun z => h22 ((nI_eq (by omega) (by omega)).mpr z)
        refine lv_iconst (v := nI 0) hx hb d_As_isName_37 (by decide) ?_
        exact zret_z C0 hr (zbn (by omega)) hAe hP hD hS (Or.inr ⟨by unfold isN; rw [if_pos (by omega)], rfl, _, rfl⟩) d_As_isName_38
