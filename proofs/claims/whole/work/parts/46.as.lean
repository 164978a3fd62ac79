set_option maxHeartbeats 4000000 in
set_option maxRecDepth 100000 in
theorem m_As_findName (l : Launch) (D : va_G) (ca : Nat → ClassId) (k : Nat → Nat) (sz : Nat) (ad : Nat → Nat) (tx : Nat → Nat) (ln : Nat) (lb : Nat → Int32) (bg : Nat → Nat) (ch : Int32) (ct : Nat) (ia : Int32) (wo : Nat → Nat) (sn : Nat) (hsn : sn < 7) (a0 e0 : Nat) (ha0 : a0 ≤ e0) (he0 : e0 ≤ 240) (htx : ∀ j, tx j < 127) : Met l y_As_findName (zw y_As_findName c_As_findName 6 (some .int)) { frames := 5, cells := 0, slots := 0, locals := 118 } (va_Pc [.ref (ad 1), .ref (k (sn + 1)), .int (nI a0), .int (nI e0)] (zPre D (zty ca) k (wA ad ca tx ln lb bg ch ct ia ++ (wW ad ca wo)) sz)) (va_Qi (fun r w => (∃ q c, fN sn tx a0 e0 = some (q, c) ∧ q < 256 ∧ c < 26 ∧ r = nI q ∧ w = wA ad ca tx ln lb bg (nI c) ct ia ++ wW ad ca wo) ∨ (fN sn tx a0 e0 = none ∧ r = (-1) ∧ ∃ x, w = wA ad ca tx ln lb bg x ct ia ++ wW ad ca wo)) (zB D (zty ca) (wA ad ca tx ln lb bg ch ct ia ++ (wW ad ca wo)) sz) (va_A (wA ad ca tx ln lb bg ch ct ia ++ (wW ad ca wo)) sz)) 0 0 (va_A (wA ad ca tx ln lb bg ch ct ia ++ (wW ad ca wo)) sz) := by
  refine zOf (own := "DigitChip$Assembler") (by decide +kernel) rfl (Nat.le_of_ble_eq_true rfl) ?_
  intro p e s m below meth c A ls C0 hr hnm hAe hsz hl hP hD hS
  have hl : lv_has ls 6 [(0, .ref (ad 1)), (1, .ref (k (sn + 1))), (2, .int (nI a0)), (3, .int (nI e0))] := hl
  obtain ⟨hx, hb, hml, hown, ht, hK, hX, hA, hlk⟩ := id C0
  have hl2 : (zS sn).length < 256 := zSl2 sn hsn
  refine lv_iconst (v := nI 0) hx hb d_As_findName_0 (by decide) ?_
  refine lv_istore hx hb d_As_findName_1 hl (by decide) rfl (fun ls hl => ?_)
  have hl : lv_has ls 6 [(4, .int (nI 0)), (0, .ref (ad 1)), (1, .ref (k (sn + 1))), (2, .int (nI a0)), (3, .int (nI e0))] := hl
  refine lv_iconst (v := nI 0) hx hb d_As_findName_3 (by decide) ?_
  refine lv_istore hx hb d_As_findName_4 hl (by decide) rfl (fun ls hl => ?_)
  have hl : lv_has ls 6 [(5, .int (nI 0)), (4, .int (nI 0)), (0, .ref (ad 1)), (1, .ref (k (sn + 1))), (2, .int (nI a0)), (3, .int (nI e0))] := hl
  have loop_lp : ∀ (n_lp : Nat) (sp : Nat) (q : Nat) (x0 : Int32) (H : Heap) (locs : List Loc) (ls : Array Slot), (zS sn).length - sp < n_lp → (sp ≤ (zS sn).length) → (q ≤ sp) → (fR (zS sn) tx a0 e0 (zS sn).length 0 0 = fR (zS sn) tx a0 e0 ((zS sn).length - sp) sp q) → lv_has ls 6 [(5, .int (nI sp)), (4, .int (nI q)), (0, .ref (ad 1)), (1, .ref (k (sn + 1))), (2, .int (nI a0)), (3, .int (nI e0))] → va_P D vCl (wA ad ca tx ln lb bg x0 ct ia ++ (wW ad ca wo)) H → va_D A (wA ad ca tx ln lb bg x0 ct ia ++ (wW ad ca wo)) → va_S A s.heap H locs → W p l e { frames := 5, cells := 0, slots := 0, locals := 118 } s m ([.ref (ad 1), .ref (k (sn + 1)), .int (nI a0), .int (nI e0)] : List Value).toArray below meth c H locs 0 0 (MQ below (va_Qi (fun r w => (∃ q c, fN sn tx a0 e0 = some (q, c) ∧ q < 256 ∧ c < 26 ∧ r = nI q ∧ w = wA ad ca tx ln lb bg (nI c) ct ia ++ wW ad ca wo) ∨ (fN sn tx a0 e0 = none ∧ r = (-1) ∧ ∃ x, w = wA ad ca tx ln lb bg x ct ia ++ wW ad ca wo)) (zB D (zty ca) (wA ad ca tx ln lb bg ch ct ia ++ (wW ad ca wo)) sz) (va_A (wA ad ca tx ln lb bg ch ct ia ++ (wW ad ca wo)) sz)) ([.ref (ad 1), .ref (k (sn + 1)), .int (nI a0), .int (nI e0)] : List Value).toArray s 0 0 (va_A (wA ad ca tx ln lb bg ch ct ia ++ (wW ad ca wo)) sz)) (F0 m 6 ls []) := by
    intro n_lp
    induction n_lp with
    | zero => intro sp q x0 H locs ls hm; exact absurd hm (Nat.not_lt_zero _)
    | succ n_lp ih_lp =>
      intro sp q x0 H locs ls hm hj hq hL hl hP hD hS
      refine lv_iload hx hb d_As_findName_6 (lv_at hl 0 rfl) ?_
      refine lv_aload_n hx hb d_As_findName_8 rfl (lv_at hl 3 rfl) ?_
      refine zgo_i (wr := wA ad ca tx ln lb bg x0 ct ia ++ wW ad ca wo) C0 (zrunR (na := 0) (As := []) (rest := [.int (nI sp)]) C0 hP hD hS [] rfl rfl (m_St_length l D ca k H.size ad sn hsn) (zg_V q33 q34 q35 q3 q36) (by decide +kernel) rfl rfl ⟨by decide, by decide⟩ (vk_recv (i := sn) hX.2.2.2.1 hsn hS) rfl hl.1 rfl (Nat.le_of_ble_eq_true rfl) d_As_findName_9 ⟨Nat.zero_le _, Nat.zero_le _⟩) hP hD hS [] [0, 1, 2, 3, 4] rfl rfl (by decide) (by decide) (fun r1 w1 H locs hw hP hD hS => ?_)
      obtain ⟨rfl, rfl⟩ := hw
      have hP : va_P D vCl (wA ad ca tx ln lb bg x0 ct ia ++ (wW ad ca wo)) H := hP
      have hD : va_D A (wA ad ca tx ln lb bg x0 ct ia ++ (wW ad ca wo)) := hD
      refine lv_icmp_ge (tgt := 71) hx hb d_As_findName_12 (by decide) (fun h2 => ?_) (fun h2 => ?_)
      · skip
        have h2 : (((zS sn).length) ≤ sp) := (nI_leI (by omega) (by omega)).mp h2
        refine lv_iconst (v := (-1)) hx hb d_As_findName_71 (by decide) ?_
        rw [show (zS sn).length - sp = 0 by omega, f_0] at hL
        exact zret_i C0 hr hAe hP hD hS (Or.inr ⟨by unfold fN; exact hL, rfl, _, rfl⟩) d_As_findName_72
      · skip
        have h2 : ¬ (((zS sn).length) ≤ sp) := fun z => h2 ((nI_leI (by omega) (by omega)).mpr z)
        refine lv_aload_n hx hb d_As_findName_15 rfl (lv_at hl 3 rfl) ?_
        refine lv_iload hx hb d_As_findName_16 (lv_at hl 0 rfl) ?_
        refine zgo_i (wr := wA ad ca tx ln lb bg x0 ct ia ++ wW ad ca wo) C0 (zrunR (na := 1) (As := [.int (nI sp)]) (rest := []) C0 hP hD hS [] rfl rfl (m_St_charAt l D ca k H.size ad sn hsn sp (by omega)) (zg_V q264 q265 q266 q3 q267) (by decide +kernel) rfl rfl ⟨by decide, by decide⟩ (vk_recv (i := sn) hX.2.2.2.1 hsn hS) rfl hl.1 rfl (Nat.le_of_ble_eq_true rfl) d_As_findName_18 ⟨Nat.zero_le _, Nat.zero_le _⟩) hP hD hS [] [0, 1, 2, 3, 4] rfl rfl (by decide) (by decide) (fun r3 w1 H locs hw hP hD hS => ?_)
        obtain ⟨rfl, rfl⟩ := hw
        have hzb3 := zS_b (i := sn) hsn sp
        have hP : va_P D vCl (wA ad ca tx ln lb bg x0 ct ia ++ (wW ad ca wo)) H := hP
        have hD : va_D A (wA ad ca tx ln lb bg x0 ct ia ++ (wW ad ca wo)) := hD
        refine lv_bipush (v := nI 32) hx hb d_As_findName_21 (by decide) ?_
        refine lv_icmp_ne (tgt := 32) hx hb d_As_findName_23 (by decide) (fun h4 => ?_) (fun h4 => ?_)
        · skip
          have h4 : ¬ (((zS sn).getD sp 0) = 32) := fun z => h4 ((nI_eq (by omega) (by omega)).mpr z)
          refine lv_iload hx hb d_As_findName_32 (lv_at hl 0 rfl) ?_
          refine lv_if_eq (tgt := 50) hx hb d_As_findName_34 (by decide) (fun h5 => ?_) (fun h5 => ?_)
          · skip
            have h5 : (sp = 0) := (nI_eq (by omega) (by decide)).mp (h5.trans nI_0.symm)
            refine lv_aload_n hx hb d_As_findName_50 rfl (lv_at hl 2 rfl) ?_
            refine lv_aload_n hx hb d_As_findName_51 rfl (lv_at hl 3 rfl) ?_
            refine lv_iload hx hb d_As_findName_52 (lv_at hl 0 rfl) ?_
            refine lv_iload_n hx hb d_As_findName_54 rfl (lv_at hl 4 rfl) ?_
            refine lv_iload_n hx hb d_As_findName_55 rfl (lv_at hl 5 rfl) ?_
            refine zgo_i (wr := []) C0 (zrunV (na := 4) (As := [.ref (k (sn + 1)), .int (nI sp), .int (nI a0), .int (nI e0)]) (rest := []) C0 hP hD hS [0, 1, 2, 3, 4] rfl rfl (m_As_isName l D ca k H.size ad tx ln lb bg x0 ct ia wo sn hsn sp a0 e0 (by omega) (by omega) (by omega) htx) (zg_V q302 q304 q804 q2 q305) (by decide +kernel) rfl rfl ⟨by decide, by decide⟩ 0 rfl rfl rfl hl.1 rfl (Nat.le_of_ble_eq_true rfl) d_As_findName_56 ⟨Nat.zero_le _, Nat.zero_le _⟩) hP hD hS [0, 1, 2, 3, 4] [] rfl rfl (by decide) (by decide) (fun r6 w1 H locs hw hP hD hS => ?_)
            rcases hw with ⟨c6, hi6, hb6, rfl, rfl⟩ | ⟨hi6, rfl, x6, rfl⟩
            · skip
              have hP : va_P D vCl (wA ad ca tx ln lb bg (nI c6) ct ia ++ (wW ad ca wo)) H := hP
              have hD : va_D A (wA ad ca tx ln lb bg (nI c6) ct ia ++ (wW ad ca wo)) := hD
              refine lv_if_eq (tgt := 65) hx hb d_As_findName_59 (by decide) (fun h7 => absurd h7 (by decide)) (fun _ => ?_)
              refine lv_iload hx hb d_As_findName_62 (lv_at hl 1 rfl) ?_
              rw [show (zS sn).length - sp = ((zS sn).length - (sp + 1)) + 1 by omega, f_w] at hL
              rw [if_neg h4, if_pos (by omega), hi6] at hL
              exact zret_i C0 hr hAe hP hD hS (Or.inl ⟨q, c6, by unfold fN; exact hL, by omega, by omega, rfl, rfl⟩) d_As_findName_64
            · skip
              have hP : va_P D vCl (wA ad ca tx ln lb bg x6 ct ia ++ (wW ad ca wo)) H := hP
              have hD : va_D A (wA ad ca tx ln lb bg x6 ct ia ++ (wW ad ca wo)) := hD
              refine lv_if_eq (tgt := 65) hx hb d_As_findName_59 (by decide) (fun _ => ?_) (fun h8 => absurd (by decide) h8)
              refine lv_iinc (k := 0) (v := nI (sp + 1)) hx hb d_As_findName_65 hl rfl (zinc _) (by decide) rfl (fun ls hl => ?_)
              have hl : lv_has ls 6 [(5, .int (nI (sp + 1))), (4, .int (nI q)), (0, .ref (ad 1)), (1, .ref (k (sn + 1))), (2, .int (nI a0)), (3, .int (nI e0))] := hl
              refine lv_goto (tgt := 6) hx hb d_As_findName_68 (by decide) ?_
              rw [show (zS sn).length - sp = ((zS sn).length - (sp + 1)) + 1 by omega, f_w] at hL
              rw [if_neg h4, if_pos (by omega)] at hL
              rw [hi6] at hL
              exact ih_lp (sp + 1) q x6 H locs ls (by omega) (by omega) (by omega) hL hl hP hD hS
          · skip
            have h5 : ¬ (sp = 0) := fun z => h5 (by rw [z]; rfl)
            refine lv_aload_n hx hb d_As_findName_37 rfl (lv_at hl 3 rfl) ?_
            refine lv_iload hx hb d_As_findName_38 (lv_at hl 0 rfl) ?_
            refine lv_iconst (v := nI 1) hx hb d_As_findName_40 (by decide) ?_
            refine lv_isub hx hb d_As_findName_41 ?_
            refine zti (y := nI (sp - 1)) (pk_sub (by omega)) ?_
            refine zgo_i (wr := wA ad ca tx ln lb bg x0 ct ia ++ wW ad ca wo) C0 (zrunR (na := 1) (As := [.int (nI (sp - 1))]) (rest := []) C0 hP hD hS [] rfl rfl (m_St_charAt l D ca k H.size ad sn hsn (sp - 1) (by omega)) (zg_V q264 q265 q266 q3 q267) (by decide +kernel) rfl rfl ⟨by decide, by decide⟩ (vk_recv (i := sn) hX.2.2.2.1 hsn hS) rfl hl.1 rfl (Nat.le_of_ble_eq_true rfl) d_As_findName_42 ⟨Nat.zero_le _, Nat.zero_le _⟩) hP hD hS [] [0, 1, 2, 3, 4] rfl rfl (by decide) (by decide) (fun r9 w1 H locs hw hP hD hS => ?_)
            obtain ⟨rfl, rfl⟩ := hw
            have hzb9 := zS_b (i := sn) hsn (sp - 1)
            have hP : va_P D vCl (wA ad ca tx ln lb bg x0 ct ia ++ (wW ad ca wo)) H := hP
            have hD : va_D A (wA ad ca tx ln lb bg x0 ct ia ++ (wW ad ca wo)) := hD
            refine lv_bipush (v := nI 32) hx hb d_As_findName_45 (by decide) ?_
            refine lv_icmp_ne (tgt := 65) hx hb d_As_findName_47 (by decide) (fun h10 => ?_) (fun h10 => ?_)
            · skip
              have h10 : ¬ (((zS sn).getD (sp - 1) 0) = 32) := fun z => h10 ((nI_eq (by omega) (by omega)).mpr z)
              refine lv_iinc (k := 0) (v := nI (sp + 1)) hx hb d_As_findName_65 hl rfl (zinc _) (by decide) rfl (fun ls hl => ?_)
              have hl : lv_has ls 6 [(5, .int (nI (sp + 1))), (4, .int (nI q)), (0, .ref (ad 1)), (1, .ref (k (sn + 1))), (2, .int (nI a0)), (3, .int (nI e0))] := hl
              refine lv_goto (tgt := 6) hx hb d_As_findName_68 (by decide) ?_
              rw [show (zS sn).length - sp = ((zS sn).length - (sp + 1)) + 1 by omega, f_w] at hL
              rw [if_neg h4, if_neg (by omega)] at hL
              exact ih_lp (sp + 1) q x0 H locs ls (by omega) (by omega) (by omega) hL hl hP hD hS
            · skip
              have h10 : (((zS sn).getD (sp - 1) 0) = 32) := (nI_eq (by omega) (by omega)).mp h10
              refine lv_aload_n hx hb d_As_findName_50 rfl (lv_at hl 2 rfl) ?_
              refine lv_aload_n hx hb d_As_findName_51 rfl (lv_at hl 3 rfl) ?_
              refine lv_iload hx hb d_As_findName_52 (lv_at hl 0 rfl) ?_
              refine lv_iload_n hx hb d_As_findName_54 rfl (lv_at hl 4 rfl) ?_
              refine lv_iload_n hx hb d_As_findName_55 rfl (lv_at hl 5 rfl) ?_
              refine zgo_i (wr := []) C0 (zrunV (na := 4) (As := [.ref (k (sn + 1)), .int (nI sp), .int (nI a0), .int (nI e0)]) (rest := []) C0 hP hD hS [0, 1, 2, 3, 4] rfl rfl (m_As_isName l D ca k H.size ad tx ln lb bg x0 ct ia wo sn hsn sp a0 e0 (by omega) (by omega) (by omega) htx) (zg_V q302 q304 q804 q2 q305) (by decide +kernel) rfl rfl ⟨by decide, by decide⟩ 0 rfl rfl rfl hl.1 rfl (Nat.le_of_ble_eq_true rfl) d_As_findName_56 ⟨Nat.zero_le _, Nat.zero_le _⟩) hP hD hS [0, 1, 2, 3, 4] [] rfl rfl (by decide) (by decide) (fun r11 w1 H locs hw hP hD hS => ?_)
              rcases hw with ⟨c11, hi11, hb11, rfl, rfl⟩ | ⟨hi11, rfl, x11, rfl⟩
              · skip
                have hP : va_P D vCl (wA ad ca tx ln lb bg (nI c11) ct ia ++ (wW ad ca wo)) H := hP
                have hD : va_D A (wA ad ca tx ln lb bg (nI c11) ct ia ++ (wW ad ca wo)) := hD
                refine lv_if_eq (tgt := 65) hx hb d_As_findName_59 (by decide) (fun h12 => absurd h12 (by decide)) (fun _ => ?_)
                refine lv_iload hx hb d_As_findName_62 (lv_at hl 1 rfl) ?_
                rw [show (zS sn).length - sp = ((zS sn).length - (sp + 1)) + 1 by omega, f_w] at hL
                rw [if_neg h4, if_pos (by omega), hi11] at hL
                exact zret_i C0 hr hAe hP hD hS (Or.inl ⟨q, c11, by unfold fN; exact hL, by omega, by omega, rfl, rfl⟩) d_As_findName_64
              · skip
                have hP : va_P D vCl (wA ad ca tx ln lb bg x11 ct ia ++ (wW ad ca wo)) H := hP
                have hD : va_D A (wA ad ca tx ln lb bg x11 ct ia ++ (wW ad ca wo)) := hD
                refine lv_if_eq (tgt := 65) hx hb d_As_findName_59 (by decide) (fun _ => ?_) (fun h13 => absurd (by decide) h13)
                refine lv_iinc (k := 0) (v := nI (sp + 1)) hx hb d_As_findName_65 hl rfl (zinc _) (by decide) rfl (fun ls hl => ?_)
                have hl : lv_has ls 6 [(5, .int (nI (sp + 1))), (4, .int (nI q)), (0, .ref (ad 1)), (1, .ref (k (sn + 1))), (2, .int (nI a0)), (3, .int (nI e0))] := hl
                refine lv_goto (tgt := 6) hx hb d_As_findName_68 (by decide) ?_
                rw [show (zS sn).length - sp = ((zS sn).length - (sp + 1)) + 1 by omega, f_w] at hL
                rw [if_neg h4, if_pos (by omega)] at hL
                rw [hi11] at hL
                exact ih_lp (sp + 1) q x11 H locs ls (by omega) (by omega) (by omega) hL hl hP hD hS
        · skip
          have h4 : (((zS sn).getD sp 0) = 32) := (nI_eq (by omega) (by omega)).mp h4
          refine lv_iinc (k := 1) (v := nI (q + 1)) hx hb d_As_findName_26 hl rfl (zinc _) (by decide) rfl (fun ls hl => ?_)
          have hl : lv_has ls 6 [(4, .int (nI (q + 1))), (5, .int (nI sp)), (0, .ref (ad 1)), (1, .ref (k (sn + 1))), (2, .int (nI a0)), (3, .int (nI e0))] := hl
          refine lv_goto (tgt := 65) hx hb d_As_findName_29 (by decide) ?_
          refine lv_iinc (k := 1) (v := nI (sp + 1)) hx hb d_As_findName_65 hl rfl (zinc _) (by decide) rfl (fun ls hl => ?_)
          have hl : lv_has ls 6 [(5, .int (nI (sp + 1))), (4, .int (nI (q + 1))), (0, .ref (ad 1)), (1, .ref (k (sn + 1))), (2, .int (nI a0)), (3, .int (nI e0))] := hl
          refine lv_goto (tgt := 6) hx hb d_As_findName_68 (by decide) ?_
          rw [show (zS sn).length - sp = ((zS sn).length - (sp + 1)) + 1 by omega, f_w] at hL
          rw [if_pos h4] at hL
          exact ih_lp (sp + 1) (q + 1) x0 H locs ls (by omega) (by omega) (by omega) hL hl hP hD hS
  exact loop_lp ((zS sn).length + 1) 0 0 ch _ _ _ (by omega) (by omega) (by omega) rfl (lv_sub hl [0, 1, 2, 3, 4, 5] rfl) hP hD hS
