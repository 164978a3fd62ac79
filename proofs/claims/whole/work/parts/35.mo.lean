set_option maxHeartbeats 4000000 in
set_option maxRecDepth 100000 in
theorem m_Mo_display (l : Launch) (D : va_G) (ca : Nat → ClassId) (k : Nat → Nat) (sz : Nat) (ad : Nat → Nat) (cd : Nat) (po nu : Nat → Nat) (pt : Nat) (st : Int32) (cy pl bk : Nat) (me : Nat → Nat) (kc : Nat) (ro : Nat → Nat) (en un li tn : Nat) (tx : Nat → Nat) (ia : Int32) (ct : Nat) (md : Nat → Nat) (lb wn : Nat → Int32) (x : Int32) (hn : ∀ j, nu j < 10 ^ 14) (hpo : ∀ j, j < 15 → po j = 10 ^ j) : Met l y_Mo_display (zw y_Mo_display c_Mo_display 4 (some .int)) { frames := 1, cells := 0, slots := 0, locals := 22 } (va_Pc [.ref (ad 12), .int x] (zPre D (zty ca) k (wM ad ca cd po nu pt st cy pl bk me kc ro en un li tn tx ia ct md lb wn) sz)) (va_Qi (fun r w => r = dsp x nu ∧ w = wM ad ca 0 po nu pt st cy pl bk me kc ro en un li tn tx ia ct md lb wn) (zB D (zty ca) (wM ad ca cd po nu pt st cy pl bk me kc ro en un li tn tx ia ct md lb wn) sz) (va_A (wM ad ca cd po nu pt st cy pl bk me kc ro en un li tn tx ia ct md lb wn) sz)) 0 0 (va_A (wM ad ca cd po nu pt st cy pl bk me kc ro en un li tn tx ia ct md lb wn) sz) := by
  refine zOf (own := "DigitChipModel") (by decide +kernel) rfl (Nat.le_of_ble_eq_true rfl) ?_
  intro p e s m below meth c A ls C0 hr hnm hAe hsz hl hP hD hS
  have hl : lv_has ls 4 [(0, .ref (ad 12)), (1, .int x)] := hl
  obtain ⟨hx, hb, hml, hown, ht, hK, hX, hA, hlk⟩ := id C0
  refine lv_aload_n hx hb d_Mo_display_0 rfl (lv_at hl 0 rfl) ?_
  refine lv_iconst (v := nI 0) hx hb d_Mo_display_1 (by decide) ?_
  refine va_put (D := D) (ci := 5) (v := .int (nI 0)) (ty := .int) (C := RMo) (T := TMo) (N := 21) hx hb ht inMo tyMo tyMo_ok nmMo hown hK hP hD hS 0 rfl rfl 0 (by decide) (ht _ q546) (fun _ h9 => h9) rfl (by decide +kernel) rfl rfl (Nat.le_of_ble_eq_true rfl) d_Mo_display_2 (fun H locs hP hD hS => ?_)
  have hP : va_P D vCl (wM ad ca 0 po nu pt st cy pl bk me kc ro en un li tn tx ia ct md lb wn) H := hP
  have hD : va_D A (wM ad ca 0 po nu pt st cy pl bk me kc ro en un li tn tx ia ct md lb wn) := hD
  refine lv_iload_n hx hb d_Mo_display_5 rfl (lv_at hl 1 rfl) ?_
  refine lv_if_lt (tgt := 15) hx hb d_Mo_display_6 (by decide) (fun h1 => ?_) (fun h1 => ?_)
  · skip
    refine lv_iconst (v := (-1)) hx hb d_Mo_display_15 (by decide) ?_
    exact zret_i C0 hr hAe hP hD hS ⟨by unfold dsp; rw [if_neg (fun z => by subst z; exact absurd h1 (by decide)), if_neg (dR_1 h1)], rfl⟩ d_Mo_display_16
  · skip
    obtain ⟨j, hj, rfl⟩ := nI_of h1
    refine lv_iload_n hx hb d_Mo_display_9 rfl (lv_at hl 1 rfl) ?_
    refine lv_bipush (v := nI 14) hx hb d_Mo_display_10 (by decide) ?_
    refine lv_icmp_le (tgt := 17) hx hb d_Mo_display_12 (by decide) (fun h2 => ?_) (fun h2 => ?_)
    · skip
      have h2 : (j ≤ 14) := (nI_leI (by omega) (by omega)).mp h2
      refine lv_iload_n hx hb d_Mo_display_17 rfl (lv_at hl 1 rfl) ?_
      refine lv_bipush (v := nI 14) hx hb d_Mo_display_18 (by decide) ?_
      refine lv_icmp_ne (tgt := 51) hx hb d_Mo_display_20 (by decide) (fun h3 => ?_) (fun h3 => ?_)
      · skip
        have h3 : ¬ (j = 14) := fun z => h3 ((nI_eq (by omega) (by omega)).mpr z)
        refine lv_bipush (v := nI 13) hx hb d_Mo_display_51 (by decide) ?_
        refine lv_iload_n hx hb d_Mo_display_53 rfl (lv_at hl 1 rfl) ?_
        refine lv_isub hx hb d_Mo_display_54 ?_
        refine zti (y := nI (13 - j)) (pk_sub (by omega)) ?_
        refine lv_istore_n hx hb d_Mo_display_55 rfl hl (by decide) rfl (fun ls hl => ?_)
        have hl : lv_has ls 4 [(2, .int (nI (13 - j))), (0, .ref (ad 12)), (1, .int (nI j))] := hl
        refine lv_aload_n hx hb d_Mo_display_56 rfl (lv_at hl 1 rfl) ?_
        refine lv_iconst (v := nI 1) hx hb d_Mo_display_57 (by decide) ?_
        refine lv_iload_n hx hb d_Mo_display_58 rfl (lv_at hl 0 rfl) ?_
        refine zgo_i (wr := []) C0 (zrunV (na := 2) (As := [.int (nI 1), .int (nI (13 - j))]) (rest := []) C0 hP hD hS [0, 1, 2, 3, 4, 5, 6, 7, 8] rfl rfl (m_Mo_digitOf l D ca k H.size ad 0 po nu pt st cy pl bk me kc ro en un li tn tx ia ct md lb wn 1 (13 - j) (by omega) (by omega) hn hpo) (zg_V q790 q792 q839 q7 q793) (by decide +kernel) rfl rfl ⟨by decide, by decide⟩ 0 rfl rfl rfl hl.1 rfl (Nat.le_of_ble_eq_true rfl) d_Mo_display_59 ⟨Nat.zero_le _, Nat.zero_le _⟩) hP hD hS [0, 1, 2, 3, 4, 5, 6, 7, 8] [] rfl rfl (by decide) (by decide) (fun r4 w1 H locs hw hP hD hS => ?_)
        obtain ⟨rfl, rfl⟩ := hw
        have hP : va_P D vCl (wM ad ca 0 po nu pt st cy pl bk me kc ro en un li tn tx ia ct md lb wn) H := hP
        have hD : va_D A (wM ad ca 0 po nu pt st cy pl bk me kc ro en un li tn tx ia ct md lb wn) := hD
        refine lv_bipush (v := nI 9) hx hb d_Mo_display_62 (by decide) ?_
        refine lv_icmp_ne (tgt := 70) hx hb d_Mo_display_64 (by decide) (fun h5 => ?_) (fun h5 => ?_)
        · skip
          have h5 : ¬ ((nu 1 / 10 ^ (13 - j) % 10) = 9) := fun z => h5 ((nI_eq (by omega) (by omega)).mpr z)
          refine lv_aload_n hx hb d_Mo_display_70 rfl (lv_at hl 1 rfl) ?_
          refine lv_iconst (v := nI 0) hx hb d_Mo_display_71 (by decide) ?_
          refine lv_iload_n hx hb d_Mo_display_72 rfl (lv_at hl 0 rfl) ?_
          refine zgo_i (wr := []) C0 (zrunV (na := 2) (As := [.int (nI 0), .int (nI (13 - j))]) (rest := []) C0 hP hD hS [0, 1, 2, 3, 4, 5, 6, 7, 8] rfl rfl (m_Mo_digitOf l D ca k H.size ad 0 po nu pt st cy pl bk me kc ro en un li tn tx ia ct md lb wn 0 (13 - j) (by omega) (by omega) hn hpo) (zg_V q790 q792 q839 q7 q793) (by decide +kernel) rfl rfl ⟨by decide, by decide⟩ 0 rfl rfl rfl hl.1 rfl (Nat.le_of_ble_eq_true rfl) d_Mo_display_73 ⟨Nat.zero_le _, Nat.zero_le _⟩) hP hD hS [0, 1, 2, 3, 4, 5, 6, 7, 8] [] rfl rfl (by decide) (by decide) (fun r6 w1 H locs hw hP hD hS => ?_)
          obtain ⟨rfl, rfl⟩ := hw
          have hP : va_P D vCl (wM ad ca 0 po nu pt st cy pl bk me kc ro en un li tn tx ia ct md lb wn) H := hP
          have hD : va_D A (wM ad ca 0 po nu pt st cy pl bk me kc ro en un li tn tx ia ct md lb wn) := hD
          refine lv_istore_n hx hb d_Mo_display_76 rfl hl (by decide) rfl (fun ls hl => ?_)
          have hl : lv_has ls 4 [(3, .int (nI (nu 0 / 10 ^ (13 - j) % 10))), (2, .int (nI (13 - j))), (0, .ref (ad 12)), (1, .int (nI j))] := hl
          refine lv_iload_n hx hb d_Mo_display_77 rfl (lv_at hl 1 rfl) ?_
          refine lv_bipush (v := nI 13) hx hb d_Mo_display_78 (by decide) ?_
          refine lv_icmp_eq (tgt := 88) hx hb d_Mo_display_80 (by decide) (fun h7 => ?_) (fun h7 => ?_)
          · skip
            have h7 : ((13 - j) = 13) := (nI_eq (by omega) (by omega)).mp h7
            refine lv_iload_n hx hb d_Mo_display_88 rfl (lv_at hl 0 rfl) ?_
            refine lv_bipush (v := nI 9) hx hb d_Mo_display_89 (by decide) ?_
            refine lv_icmp_ne (tgt := 99) hx hb d_Mo_display_91 (by decide) (fun h8 => ?_) (fun h8 => ?_)
            · skip
              have h8 : ¬ ((nu 0 / 10 ^ (13 - j) % 10) = 9) := fun z => h8 ((nI_eq (by omega) (by omega)).mpr z)
              refine lv_bipush (v := nI 32) hx hb d_Mo_display_99 (by decide) ?_
              exact zret_i C0 hr hAe hP hD hS ⟨by unfold dsp; rw [if_neg (fun z => by have := (nI_eq (by omega) (by decide)).mp z; omega), if_pos (dR_y (by omega) (by decide)), nI_clamp (by omega)]; unfold cod; rw [if_neg h5, if_pos (by omega), if_neg h8], rfl⟩ d_Mo_display_101
            · skip
              have h8 : ((nu 0 / 10 ^ (13 - j) % 10) = 9) := (nI_eq (by omega) (by omega)).mp h8
              refine lv_bipush (v := nI 45) hx hb d_Mo_display_94 (by decide) ?_
              refine lv_goto (tgt := 101) hx hb d_Mo_display_96 (by decide) ?_
              exact zret_i C0 hr hAe hP hD hS ⟨by unfold dsp; rw [if_neg (fun z => by have := (nI_eq (by omega) (by decide)).mp z; omega), if_pos (dR_y (by omega) (by decide)), nI_clamp (by omega)]; unfold cod; rw [if_neg h5, if_pos (by omega), if_pos h8], rfl⟩ d_Mo_display_101
          · skip
            have h7 : ¬ ((13 - j) = 13) := fun z => h7 ((nI_eq (by omega) (by omega)).mpr z)
            refine lv_iload_n hx hb d_Mo_display_83 rfl (lv_at hl 1 rfl) ?_
            refine lv_iconst (v := nI 2) hx hb d_Mo_display_84 (by decide) ?_
            refine lv_icmp_ne (tgt := 102) hx hb d_Mo_display_85 (by decide) (fun h9 => ?_) (fun h9 => ?_)
            · skip
              have h9 : ¬ ((13 - j) = 2) := fun z => h9 ((nI_eq (by omega) (by omega)).mpr z)
              refine lv_bipush (v := nI 48) hx hb d_Mo_display_102 (by decide) ?_
              refine lv_iload_n hx hb d_Mo_display_104 rfl (lv_at hl 0 rfl) ?_
              refine lv_iadd hx hb d_Mo_display_105 ?_
              refine zti (y := nI (48 + (nu 0 / 10 ^ (13 - j) % 10))) (nI_add _ _) ?_
              exact zret_i C0 hr hAe hP hD hS ⟨by unfold dsp; rw [if_neg (fun z => by have := (nI_eq (by omega) (by decide)).mp z; omega), if_pos (dR_y (by omega) (by decide)), nI_clamp (by omega)]; unfold cod; rw [if_neg h5, if_neg (by omega)], rfl⟩ d_Mo_display_106
            · skip
              have h9 : ((13 - j) = 2) := (nI_eq (by omega) (by omega)).mp h9
              refine lv_iload_n hx hb d_Mo_display_88 rfl (lv_at hl 0 rfl) ?_
              refine lv_bipush (v := nI 9) hx hb d_Mo_display_89 (by decide) ?_
              refine lv_icmp_ne (tgt := 99) hx hb d_Mo_display_91 (by decide) (fun h10 => ?_) (fun h10 => ?_)
              · skip
                have h10 : ¬ ((nu 0 / 10 ^ (13 - j) % 10) = 9) := fun z => h10 ((nI_eq (by omega) (by omega)).mpr z)
                refine lv_bipush (v := nI 32) hx hb d_Mo_display_99 (by decide) ?_
                exact zret_i C0 hr hAe hP hD hS ⟨by unfold dsp; rw [if_neg (fun z => by have := (nI_eq (by omega) (by decide)).mp z; omega), if_pos (dR_y (by omega) (by decide)), nI_clamp (by omega)]; unfold cod; rw [if_neg h5, if_pos (by omega), if_neg h10], rfl⟩ d_Mo_display_101
              · skip
                have h10 : ((nu 0 / 10 ^ (13 - j) % 10) = 9) := (nI_eq (by omega) (by omega)).mp h10
                refine lv_bipush (v := nI 45) hx hb d_Mo_display_94 (by decide) ?_
                refine lv_goto (tgt := 101) hx hb d_Mo_display_96 (by decide) ?_
                exact zret_i C0 hr hAe hP hD hS ⟨by unfold dsp; rw [if_neg (fun z => by have := (nI_eq (by omega) (by decide)).mp z; omega), if_pos (dR_y (by omega) (by decide)), nI_clamp (by omega)]; unfold cod; rw [if_neg h5, if_pos (by omega), if_pos h10], rfl⟩ d_Mo_display_101
        · skip
          have h5 : ((nu 1 / 10 ^ (13 - j) % 10) = 9) := (nI_eq (by omega) (by omega)).mp h5
          refine lv_bipush (v := nI 32) hx hb d_Mo_display_67 (by decide) ?_
          exact zret_i C0 hr hAe hP hD hS ⟨by unfold dsp; rw [if_neg (fun z => by have := (nI_eq (by omega) (by decide)).mp z; omega), if_pos (dR_y (by omega) (by decide)), nI_clamp (by omega)]; unfold cod; rw [if_pos h5], rfl⟩ d_Mo_display_69
      · skip
        have h3 : (j = 14) := (nI_eq (by omega) (by omega)).mp h3
        refine lv_bipush (v := nI 12) hx hb d_Mo_display_23 (by decide) ?_
        refine lv_istore_n hx hb d_Mo_display_25 rfl hl (by decide) rfl (fun ls hl => ?_)
        have hl : lv_has ls 4 [(2, .int (nI 12)), (0, .ref (ad 12)), (1, .int (nI j))] := hl
        refine lv_iload_n hx hb d_Mo_display_26 rfl (lv_at hl 0 rfl) ?_
        refine lv_iconst (v := nI 2) hx hb d_Mo_display_27 (by decide) ?_
        refine lv_icmp_le (tgt := 49) hx hb d_Mo_display_28 (by decide) (fun h11 => absurd h11 (by decide)) (fun _ => ?_)
        refine lv_aload_n hx hb d_Mo_display_31 rfl (lv_at hl 1 rfl) ?_
        refine lv_iconst (v := nI 1) hx hb d_Mo_display_32 (by decide) ?_
        refine lv_iload_n hx hb d_Mo_display_33 rfl (lv_at hl 0 rfl) ?_
        refine zgo_i (wr := []) C0 (zrunV (na := 2) (As := [.int (nI 1), .int (nI 12)]) (rest := []) C0 hP hD hS [0, 1, 2, 3, 4, 5, 6, 7, 8] rfl rfl (m_Mo_digitOf l D ca k H.size ad 0 po nu pt st cy pl bk me kc ro en un li tn tx ia ct md lb wn 1 12 (by omega) (by omega) hn hpo) (zg_V q790 q792 q839 q7 q793) (by decide +kernel) rfl rfl ⟨by decide, by decide⟩ 0 rfl rfl rfl hl.1 rfl (Nat.le_of_ble_eq_true rfl) d_Mo_display_34 ⟨Nat.zero_le _, Nat.zero_le _⟩) hP hD hS [0, 1, 2, 3, 4, 5, 6, 7, 8] [] rfl rfl (by decide) (by decide) (fun r12 w1 H locs hw hP hD hS => ?_)
        obtain ⟨rfl, rfl⟩ := hw
        have hP : va_P D vCl (wM ad ca 0 po nu pt st cy pl bk me kc ro en un li tn tx ia ct md lb wn) H := hP
        have hD : va_D A (wM ad ca 0 po nu pt st cy pl bk me kc ro en un li tn tx ia ct md lb wn) := hD
        refine lv_iconst (v := nI 2) hx hb d_Mo_display_37 (by decide) ?_
        refine lv_icmp_ne (tgt := 43) hx hb d_Mo_display_38 (by decide) (fun h13 => ?_) (fun h13 => ?_)
        · skip
          have h13 : ¬ ((nu 1 / 10 ^ 12 % 10) = 2) := fun z => h13 ((nI_eq (by omega) (by omega)).mpr z)
          refine lv_iinc (k := 0) (v := nI (11)) hx hb d_Mo_display_43 hl rfl (by decide) (by decide) rfl (fun ls hl => ?_)
          have hl : lv_has ls 4 [(2, .int (nI 11)), (0, .ref (ad 12)), (1, .int (nI j))] := hl
          refine lv_goto (tgt := 26) hx hb d_Mo_display_46 (by decide) ?_
          refine lv_iload_n hx hb d_Mo_display_26 rfl (lv_at hl 0 rfl) ?_
          refine lv_iconst (v := nI 2) hx hb d_Mo_display_27 (by decide) ?_
          refine lv_icmp_le (tgt := 49) hx hb d_Mo_display_28 (by decide) (fun h14 => absurd h14 (by decide)) (fun _ => ?_)
          refine lv_aload_n hx hb d_Mo_display_31 rfl (lv_at hl 1 rfl) ?_
          refine lv_iconst (v := nI 1) hx hb d_Mo_display_32 (by decide) ?_
          refine lv_iload_n hx hb d_Mo_display_33 rfl (lv_at hl 0 rfl) ?_
          refine zgo_i (wr := []) C0 (zrunV (na := 2) (As := [.int (nI 1), .int (nI 11)]) (rest := []) C0 hP hD hS [0, 1, 2, 3, 4, 5, 6, 7, 8] rfl rfl (m_Mo_digitOf l D ca k H.size ad 0 po nu pt st cy pl bk me kc ro en un li tn tx ia ct md lb wn 1 11 (by omega) (by omega) hn hpo) (zg_V q790 q792 q839 q7 q793) (by decide +kernel) rfl rfl ⟨by decide, by decide⟩ 0 rfl rfl rfl hl.1 rfl (Nat.le_of_ble_eq_true rfl) d_Mo_display_34 ⟨Nat.zero_le _, Nat.zero_le _⟩) hP hD hS [0, 1, 2, 3, 4, 5, 6, 7, 8] [] rfl rfl (by decide) (by decide) (fun r15 w1 H locs hw hP hD hS => ?_)
          obtain ⟨rfl, rfl⟩ := hw
          have hP : va_P D vCl (wM ad ca 0 po nu pt st cy pl bk me kc ro en un li tn tx ia ct md lb wn) H := hP
          have hD : va_D A (wM ad ca 0 po nu pt st cy pl bk me kc ro en un li tn tx ia ct md lb wn) := hD
          refine lv_iconst (v := nI 2) hx hb d_Mo_display_37 (by decide) ?_
          refine lv_icmp_ne (tgt := 43) hx hb d_Mo_display_38 (by decide) (fun h16 => ?_) (fun h16 => ?_)
          · skip
            have h16 : ¬ ((nu 1 / 10 ^ 11 % 10) = 2) := fun z => h16 ((nI_eq (by omega) (by omega)).mpr z)
            refine lv_iinc (k := 0) (v := nI (10)) hx hb d_Mo_display_43 hl rfl (by decide) (by decide) rfl (fun ls hl => ?_)
            have hl : lv_has ls 4 [(2, .int (nI 10)), (0, .ref (ad 12)), (1, .int (nI j))] := hl
            refine lv_goto (tgt := 26) hx hb d_Mo_display_46 (by decide) ?_
            refine lv_iload_n hx hb d_Mo_display_26 rfl (lv_at hl 0 rfl) ?_
            refine lv_iconst (v := nI 2) hx hb d_Mo_display_27 (by decide) ?_
            refine lv_icmp_le (tgt := 49) hx hb d_Mo_display_28 (by decide) (fun h17 => absurd h17 (by decide)) (fun _ => ?_)
            refine lv_aload_n hx hb d_Mo_display_31 rfl (lv_at hl 1 rfl) ?_
            refine lv_iconst (v := nI 1) hx hb d_Mo_display_32 (by decide) ?_
            refine lv_iload_n hx hb d_Mo_display_33 rfl (lv_at hl 0 rfl) ?_
            refine zgo_i (wr := []) C0 (zrunV (na := 2) (As := [.int (nI 1), .int (nI 10)]) (rest := []) C0 hP hD hS [0, 1, 2, 3, 4, 5, 6, 7, 8] rfl rfl (m_Mo_digitOf l D ca k H.size ad 0 po nu pt st cy pl bk me kc ro en un li tn tx ia ct md lb wn 1 10 (by omega) (by omega) hn hpo) (zg_V q790 q792 q839 q7 q793) (by decide +kernel) rfl rfl ⟨by decide, by decide⟩ 0 rfl rfl rfl hl.1 rfl (Nat.le_of_ble_eq_true rfl) d_Mo_display_34 ⟨Nat.zero_le _, Nat.zero_le _⟩) hP hD hS [0, 1, 2, 3, 4, 5, 6, 7, 8] [] rfl rfl (by decide) (by decide) (fun r18 w1 H locs hw hP hD hS => ?_)
            obtain ⟨rfl, rfl⟩ := hw
            have hP : va_P D vCl (wM ad ca 0 po nu pt st cy pl bk me kc ro en un li tn tx ia ct md lb wn) H := hP
            have hD : va_D A (wM ad ca 0 po nu pt st cy pl bk me kc ro en un li tn tx ia ct md lb wn) := hD
            refine lv_iconst (v := nI 2) hx hb d_Mo_display_37 (by decide) ?_
            refine lv_icmp_ne (tgt := 43) hx hb d_Mo_display_38 (by decide) (fun h19 => ?_) (fun h19 => ?_)
            · skip
              have h19 : ¬ ((nu 1 / 10 ^ 10 % 10) = 2) := fun z => h19 ((nI_eq (by omega) (by omega)).mpr z)
              refine lv_iinc (k := 0) (v := nI (9)) hx hb d_Mo_display_43 hl rfl (by decide) (by decide) rfl (fun ls hl => ?_)
              have hl : lv_has ls 4 [(2, .int (nI 9)), (0, .ref (ad 12)), (1, .int (nI j))] := hl
              refine lv_goto (tgt := 26) hx hb d_Mo_display_46 (by decide) ?_
              refine lv_iload_n hx hb d_Mo_display_26 rfl (lv_at hl 0 rfl) ?_
              refine lv_iconst (v := nI 2) hx hb d_Mo_display_27 (by decide) ?_
              refine lv_icmp_le (tgt := 49) hx hb d_Mo_display_28 (by decide) (fun h20 => absurd h20 (by decide)) (fun _ => ?_)
              refine lv_aload_n hx hb d_Mo_display_31 rfl (lv_at hl 1 rfl) ?_
              refine lv_iconst (v := nI 1) hx hb d_Mo_display_32 (by decide) ?_
              refine lv_iload_n hx hb d_Mo_display_33 rfl (lv_at hl 0 rfl) ?_
              refine zgo_i (wr := []) C0 (zrunV (na := 2) (As := [.int (nI 1), .int (nI 9)]) (rest := []) C0 hP hD hS [0, 1, 2, 3, 4, 5, 6, 7, 8] rfl rfl (m_Mo_digitOf l D ca k H.size ad 0 po nu pt st cy pl bk me kc ro en un li tn tx ia ct md lb wn 1 9 (by omega) (by omega) hn hpo) (zg_V q790 q792 q839 q7 q793) (by decide +kernel) rfl rfl ⟨by decide, by decide⟩ 0 rfl rfl rfl hl.1 rfl (Nat.le_of_ble_eq_true rfl) d_Mo_display_34 ⟨Nat.zero_le _, Nat.zero_le _⟩) hP hD hS [0, 1, 2, 3, 4, 5, 6, 7, 8] [] rfl rfl (by decide) (by decide) (fun r21 w1 H locs hw hP hD hS => ?_)
              obtain ⟨rfl, rfl⟩ := hw
              have hP : va_P D vCl (wM ad ca 0 po nu pt st cy pl bk me kc ro en un li tn tx ia ct md lb wn) H := hP
              have hD : va_D A (wM ad ca 0 po nu pt st cy pl bk me kc ro en un li tn tx ia ct md lb wn) := hD
              refine lv_iconst (v := nI 2) hx hb d_Mo_display_37 (by decide) ?_
              refine lv_icmp_ne (tgt := 43) hx hb d_Mo_display_38 (by decide) (fun h22 => ?_) (fun h22 => ?_)
              · skip
                have h22 : ¬ ((nu 1 / 10 ^ 9 % 10) = 2) := fun z => h22 ((nI_eq (by omega) (by omega)).mpr z)
                refine lv_iinc (k := 0) (v := nI (8)) hx hb d_Mo_display_43 hl rfl (by decide) (by decide) rfl (fun ls hl => ?_)
                have hl : lv_has ls 4 [(2, .int (nI 8)), (0, .ref (ad 12)), (1, .int (nI j))] := hl
                refine lv_goto (tgt := 26) hx hb d_Mo_display_46 (by decide) ?_
                refine lv_iload_n hx hb d_Mo_display_26 rfl (lv_at hl 0 rfl) ?_
                refine lv_iconst (v := nI 2) hx hb d_Mo_display_27 (by decide) ?_
                refine lv_icmp_le (tgt := 49) hx hb d_Mo_display_28 (by decide) (fun h23 => absurd h23 (by decide)) (fun _ => ?_)
                refine lv_aload_n hx hb d_Mo_display_31 rfl (lv_at hl 1 rfl) ?_
                refine lv_iconst (v := nI 1) hx hb d_Mo_display_32 (by decide) ?_
                refine lv_iload_n hx hb d_Mo_display_33 rfl (lv_at hl 0 rfl) ?_
                refine zgo_i (wr := []) C0 (zrunV (na := 2) (As := [.int (nI 1), .int (nI 8)]) (rest := []) C0 hP hD hS [0, 1, 2, 3, 4, 5, 6, 7, 8] rfl rfl (m_Mo_digitOf l D ca k H.size ad 0 po nu pt st cy pl bk me kc ro en un li tn tx ia ct md lb wn 1 8 (by omega) (by omega) hn hpo) (zg_V q790 q792 q839 q7 q793) (by decide +kernel) rfl rfl ⟨by decide, by decide⟩ 0 rfl rfl rfl hl.1 rfl (Nat.le_of_ble_eq_true rfl) d_Mo_display_34 ⟨Nat.zero_le _, Nat.zero_le _⟩) hP hD hS [0, 1, 2, 3, 4, 5, 6, 7, 8] [] rfl rfl (by decide) (by decide) (fun r24 w1 H locs hw hP hD hS => ?_)
                obtain ⟨rfl, rfl⟩ := hw
                have hP : va_P D vCl (wM ad ca 0 po nu pt st cy pl bk me kc ro en un li tn tx ia ct md lb wn) H := hP
                have hD : va_D A (wM ad ca 0 po nu pt st cy pl bk me kc ro en un li tn tx ia ct md lb wn) := hD
                refine lv_iconst (v := nI 2) hx hb d_Mo_display_37 (by decide) ?_
                refine lv_icmp_ne (tgt := 43) hx hb d_Mo_display_38 (by decide) (fun h25 => ?_) (fun h25 => ?_)
                · skip
                  have h25 : ¬ ((nu 1 / 10 ^ 8 % 10) = 2) := fun z => h25 ((nI_eq (by omega) (by omega)).mpr z)
                  refine lv_iinc (k := 0) (v := nI (7)) hx hb d_Mo_display_43 hl rfl (by decide) (by decide) rfl (fun ls hl => ?_)
                  have hl : lv_has ls 4 [(2, .int (nI 7)), (0, .ref (ad 12)), (1, .int (nI j))] := hl
                  refine lv_goto (tgt := 26) hx hb d_Mo_display_46 (by decide) ?_
                  refine lv_iload_n hx hb d_Mo_display_26 rfl (lv_at hl 0 rfl) ?_
                  refine lv_iconst (v := nI 2) hx hb d_Mo_display_27 (by decide) ?_
                  refine lv_icmp_le (tgt := 49) hx hb d_Mo_display_28 (by decide) (fun h26 => absurd h26 (by decide)) (fun _ => ?_)
                  refine lv_aload_n hx hb d_Mo_display_31 rfl (lv_at hl 1 rfl) ?_
                  refine lv_iconst (v := nI 1) hx hb d_Mo_display_32 (by decide) ?_
                  refine lv_iload_n hx hb d_Mo_display_33 rfl (lv_at hl 0 rfl) ?_
                  refine zgo_i (wr := []) C0 (zrunV (na := 2) (As := [.int (nI 1), .int (nI 7)]) (rest := []) C0 hP hD hS [0, 1, 2, 3, 4, 5, 6, 7, 8] rfl rfl (m_Mo_digitOf l D ca k H.size ad 0 po nu pt st cy pl bk me kc ro en un li tn tx ia ct md lb wn 1 7 (by omega) (by omega) hn hpo) (zg_V q790 q792 q839 q7 q793) (by decide +kernel) rfl rfl ⟨by decide, by decide⟩ 0 rfl rfl rfl hl.1 rfl (Nat.le_of_ble_eq_true rfl) d_Mo_display_34 ⟨Nat.zero_le _, Nat.zero_le _⟩) hP hD hS [0, 1, 2, 3, 4, 5, 6, 7, 8] [] rfl rfl (by decide) (by decide) (fun r27 w1 H locs hw hP hD hS => ?_)
                  obtain ⟨rfl, rfl⟩ := hw
                  have hP : va_P D vCl (wM ad ca 0 po nu pt st cy pl bk me kc ro en un li tn tx ia ct md lb wn) H := hP
                  have hD : va_D A (wM ad ca 0 po nu pt st cy pl bk me kc ro en un li tn tx ia ct md lb wn) := hD
                  refine lv_iconst (v := nI 2) hx hb d_Mo_display_37 (by decide) ?_
                  refine lv_icmp_ne (tgt := 43) hx hb d_Mo_display_38 (by decide) (fun h28 => ?_) (fun h28 => ?_)
                  · skip
                    have h28 : ¬ ((nu 1 / 10 ^ 7 % 10) = 2) := fun z => h28 ((nI_eq (by omega) (by omega)).mpr z)
                    refine lv_iinc (k := 0) (v := nI (6)) hx hb d_Mo_display_43 hl rfl (by decide) (by decide) rfl (fun ls hl => ?_)
                    have hl : lv_has ls 4 [(2, .int (nI 6)), (0, .ref (ad 12)), (1, .int (nI j))] := hl
                    refine lv_goto (tgt := 26) hx hb d_Mo_display_46 (by decide) ?_
                    refine lv_iload_n hx hb d_Mo_display_26 rfl (lv_at hl 0 rfl) ?_
                    refine lv_iconst (v := nI 2) hx hb d_Mo_display_27 (by decide) ?_
                    refine lv_icmp_le (tgt := 49) hx hb d_Mo_display_28 (by decide) (fun h29 => absurd h29 (by decide)) (fun _ => ?_)
                    refine lv_aload_n hx hb d_Mo_display_31 rfl (lv_at hl 1 rfl) ?_
                    refine lv_iconst (v := nI 1) hx hb d_Mo_display_32 (by decide) ?_
                    refine lv_iload_n hx hb d_Mo_display_33 rfl (lv_at hl 0 rfl) ?_
                    refine zgo_i (wr := []) C0 (zrunV (na := 2) (As := [.int (nI 1), .int (nI 6)]) (rest := []) C0 hP hD hS [0, 1, 2, 3, 4, 5, 6, 7, 8] rfl rfl (m_Mo_digitOf l D ca k H.size ad 0 po nu pt st cy pl bk me kc ro en un li tn tx ia ct md lb wn 1 6 (by omega) (by omega) hn hpo) (zg_V q790 q792 q839 q7 q793) (by decide +kernel) rfl rfl ⟨by decide, by decide⟩ 0 rfl rfl rfl hl.1 rfl (Nat.le_of_ble_eq_true rfl) d_Mo_display_34 ⟨Nat.zero_le _, Nat.zero_le _⟩) hP hD hS [0, 1, 2, 3, 4, 5, 6, 7, 8] [] rfl rfl (by decide) (by decide) (fun r30 w1 H locs hw hP hD hS => ?_)
                    obtain ⟨rfl, rfl⟩ := hw
                    have hP : va_P D vCl (wM ad ca 0 po nu pt st cy pl bk me kc ro en un li tn tx ia ct md lb wn) H := hP
                    have hD : va_D A (wM ad ca 0 po nu pt st cy pl bk me kc ro en un li tn tx ia ct md lb wn) := hD
                    refine lv_iconst (v := nI 2) hx hb d_Mo_display_37 (by decide) ?_
                    refine lv_icmp_ne (tgt := 43) hx hb d_Mo_display_38 (by decide) (fun h31 => ?_) (fun h31 => ?_)
                    · skip
                      have h31 : ¬ ((nu 1 / 10 ^ 6 % 10) = 2) := fun z => h31 ((nI_eq (by omega) (by omega)).mpr z)
                      refine lv_iinc (k := 0) (v := nI (5)) hx hb d_Mo_display_43 hl rfl (by decide) (by decide) rfl (fun ls hl => ?_)
                      have hl : lv_has ls 4 [(2, .int (nI 5)), (0, .ref (ad 12)), (1, .int (nI j))] := hl
                      refine lv_goto (tgt := 26) hx hb d_Mo_display_46 (by decide) ?_
                      refine lv_iload_n hx hb d_Mo_display_26 rfl (lv_at hl 0 rfl) ?_
                      refine lv_iconst (v := nI 2) hx hb d_Mo_display_27 (by decide) ?_
                      refine lv_icmp_le (tgt := 49) hx hb d_Mo_display_28 (by decide) (fun h32 => absurd h32 (by decide)) (fun _ => ?_)
                      refine lv_aload_n hx hb d_Mo_display_31 rfl (lv_at hl 1 rfl) ?_
                      refine lv_iconst (v := nI 1) hx hb d_Mo_display_32 (by decide) ?_
                      refine lv_iload_n hx hb d_Mo_display_33 rfl (lv_at hl 0 rfl) ?_
                      refine zgo_i (wr := []) C0 (zrunV (na := 2) (As := [.int (nI 1), .int (nI 5)]) (rest := []) C0 hP hD hS [0, 1, 2, 3, 4, 5, 6, 7, 8] rfl rfl (m_Mo_digitOf l D ca k H.size ad 0 po nu pt st cy pl bk me kc ro en un li tn tx ia ct md lb wn 1 5 (by omega) (by omega) hn hpo) (zg_V q790 q792 q839 q7 q793) (by decide +kernel) rfl rfl ⟨by decide, by decide⟩ 0 rfl rfl rfl hl.1 rfl (Nat.le_of_ble_eq_true rfl) d_Mo_display_34 ⟨Nat.zero_le _, Nat.zero_le _⟩) hP hD hS [0, 1, 2, 3, 4, 5, 6, 7, 8] [] rfl rfl (by decide) (by decide) (fun r33 w1 H locs hw hP hD hS => ?_)
                      obtain ⟨rfl, rfl⟩ := hw
                      have hP : va_P D vCl (wM ad ca 0 po nu pt st cy pl bk me kc ro en un li tn tx ia ct md lb wn) H := hP
                      have hD : va_D A (wM ad ca 0 po nu pt st cy pl bk me kc ro en un li tn tx ia ct md lb wn) := hD
                      refine lv_iconst (v := nI 2) hx hb d_Mo_display_37 (by decide) ?_
                      refine lv_icmp_ne (tgt := 43) hx hb d_Mo_display_38 (by decide) (fun h34 => ?_) (fun h34 => ?_)
                      · skip
                        have h34 : ¬ ((nu 1 / 10 ^ 5 % 10) = 2) := fun z => h34 ((nI_eq (by omega) (by omega)).mpr z)
                        refine lv_iinc (k := 0) (v := nI (4)) hx hb d_Mo_display_43 hl rfl (by decide) (by decide) rfl (fun ls hl => ?_)
                        have hl : lv_has ls 4 [(2, .int (nI 4)), (0, .ref (ad 12)), (1, .int (nI j))] := hl
                        refine lv_goto (tgt := 26) hx hb d_Mo_display_46 (by decide) ?_
                        refine lv_iload_n hx hb d_Mo_display_26 rfl (lv_at hl 0 rfl) ?_
                        refine lv_iconst (v := nI 2) hx hb d_Mo_display_27 (by decide) ?_
                        refine lv_icmp_le (tgt := 49) hx hb d_Mo_display_28 (by decide) (fun h35 => absurd h35 (by decide)) (fun _ => ?_)
                        refine lv_aload_n hx hb d_Mo_display_31 rfl (lv_at hl 1 rfl) ?_
                        refine lv_iconst (v := nI 1) hx hb d_Mo_display_32 (by decide) ?_
                        refine lv_iload_n hx hb d_Mo_display_33 rfl (lv_at hl 0 rfl) ?_
                        refine zgo_i (wr := []) C0 (zrunV (na := 2) (As := [.int (nI 1), .int (nI 4)]) (rest := []) C0 hP hD hS [0, 1, 2, 3, 4, 5, 6, 7, 8] rfl rfl (m_Mo_digitOf l D ca k H.size ad 0 po nu pt st cy pl bk me kc ro en un li tn tx ia ct md lb wn 1 4 (by omega) (by omega) hn hpo) (zg_V q790 q792 q839 q7 q793) (by decide +kernel) rfl rfl ⟨by decide, by decide⟩ 0 rfl rfl rfl hl.1 rfl (Nat.le_of_ble_eq_true rfl) d_Mo_display_34 ⟨Nat.zero_le _, Nat.zero_le _⟩) hP hD hS [0, 1, 2, 3, 4, 5, 6, 7, 8] [] rfl rfl (by decide) (by decide) (fun r36 w1 H locs hw hP hD hS => ?_)
                        obtain ⟨rfl, rfl⟩ := hw
                        have hP : va_P D vCl (wM ad ca 0 po nu pt st cy pl bk me kc ro en un li tn tx ia ct md lb wn) H := hP
                        have hD : va_D A (wM ad ca 0 po nu pt st cy pl bk me kc ro en un li tn tx ia ct md lb wn) := hD
                        refine lv_iconst (v := nI 2) hx hb d_Mo_display_37 (by decide) ?_
                        refine lv_icmp_ne (tgt := 43) hx hb d_Mo_display_38 (by decide) (fun h37 => ?_) (fun h37 => ?_)
                        · skip
                          have h37 : ¬ ((nu 1 / 10 ^ 4 % 10) = 2) := fun z => h37 ((nI_eq (by omega) (by omega)).mpr z)
                          refine lv_iinc (k := 0) (v := nI (3)) hx hb d_Mo_display_43 hl rfl (by decide) (by decide) rfl (fun ls hl => ?_)
                          have hl : lv_has ls 4 [(2, .int (nI 3)), (0, .ref (ad 12)), (1, .int (nI j))] := hl
                          refine lv_goto (tgt := 26) hx hb d_Mo_display_46 (by decide) ?_
                          refine lv_iload_n hx hb d_Mo_display_26 rfl (lv_at hl 0 rfl) ?_
                          refine lv_iconst (v := nI 2) hx hb d_Mo_display_27 (by decide) ?_
                          refine lv_icmp_le (tgt := 49) hx hb d_Mo_display_28 (by decide) (fun h38 => absurd h38 (by decide)) (fun _ => ?_)
                          refine lv_aload_n hx hb d_Mo_display_31 rfl (lv_at hl 1 rfl) ?_
                          refine lv_iconst (v := nI 1) hx hb d_Mo_display_32 (by decide) ?_
                          refine lv_iload_n hx hb d_Mo_display_33 rfl (lv_at hl 0 rfl) ?_
                          refine zgo_i (wr := []) C0 (zrunV (na := 2) (As := [.int (nI 1), .int (nI 3)]) (rest := []) C0 hP hD hS [0, 1, 2, 3, 4, 5, 6, 7, 8] rfl rfl (m_Mo_digitOf l D ca k H.size ad 0 po nu pt st cy pl bk me kc ro en un li tn tx ia ct md lb wn 1 3 (by omega) (by omega) hn hpo) (zg_V q790 q792 q839 q7 q793) (by decide +kernel) rfl rfl ⟨by decide, by decide⟩ 0 rfl rfl rfl hl.1 rfl (Nat.le_of_ble_eq_true rfl) d_Mo_display_34 ⟨Nat.zero_le _, Nat.zero_le _⟩) hP hD hS [0, 1, 2, 3, 4, 5, 6, 7, 8] [] rfl rfl (by decide) (by decide) (fun r39 w1 H locs hw hP hD hS => ?_)
                          obtain ⟨rfl, rfl⟩ := hw
                          have hP : va_P D vCl (wM ad ca 0 po nu pt st cy pl bk me kc ro en un li tn tx ia ct md lb wn) H := hP
                          have hD : va_D A (wM ad ca 0 po nu pt st cy pl bk me kc ro en un li tn tx ia ct md lb wn) := hD
                          refine lv_iconst (v := nI 2) hx hb d_Mo_display_37 (by decide) ?_
                          refine lv_icmp_ne (tgt := 43) hx hb d_Mo_display_38 (by decide) (fun h40 => ?_) (fun h40 => ?_)
                          · skip
                            have h40 : ¬ ((nu 1 / 10 ^ 3 % 10) = 2) := fun z => h40 ((nI_eq (by omega) (by omega)).mpr z)
                            refine lv_iinc (k := 0) (v := nI (2)) hx hb d_Mo_display_43 hl rfl (by decide) (by decide) rfl (fun ls hl => ?_)
                            have hl : lv_has ls 4 [(2, .int (nI 2)), (0, .ref (ad 12)), (1, .int (nI j))] := hl
                            refine lv_goto (tgt := 26) hx hb d_Mo_display_46 (by decide) ?_
                            refine lv_iload_n hx hb d_Mo_display_26 rfl (lv_at hl 0 rfl) ?_
                            refine lv_iconst (v := nI 2) hx hb d_Mo_display_27 (by decide) ?_
                            refine lv_icmp_le (tgt := 49) hx hb d_Mo_display_28 (by decide) (fun _ => ?_) (fun h41 => absurd (by decide) h41)
                            refine lv_iconst (v := (-1)) hx hb d_Mo_display_49 (by decide) ?_
                            exact zret_i C0 hr hAe hP hD hS ⟨by unfold dsp; rw [if_pos (by rw [show j = 14 by omega]), dp_n h13, dp_n h16, dp_n h19, dp_n h22, dp_n h25, dp_n h28, dp_n h31, dp_n h34, dp_n h37, dp_n h40]; rfl, rfl⟩ d_Mo_display_50
                          · skip
                            have h40 : ((nu 1 / 10 ^ 3 % 10) = 2) := (nI_eq (by omega) (by omega)).mp h40
                            refine lv_iload_n hx hb d_Mo_display_41 rfl (lv_at hl 0 rfl) ?_
                            exact zret_i C0 hr hAe hP hD hS ⟨by unfold dsp; rw [if_pos (by rw [show j = 14 by omega]), dp_n h13, dp_n h16, dp_n h19, dp_n h22, dp_n h25, dp_n h28, dp_n h31, dp_n h34, dp_n h37, dp_p h40], rfl⟩ d_Mo_display_42
                        · skip
                          have h37 : ((nu 1 / 10 ^ 4 % 10) = 2) := (nI_eq (by omega) (by omega)).mp h37
                          refine lv_iload_n hx hb d_Mo_display_41 rfl (lv_at hl 0 rfl) ?_
                          exact zret_i C0 hr hAe hP hD hS ⟨by unfold dsp; rw [if_pos (by rw [show j = 14 by omega]), dp_n h13, dp_n h16, dp_n h19, dp_n h22, dp_n h25, dp_n h28, dp_n h31, dp_n h34, dp_p h37], rfl⟩ d_Mo_display_42
                      · skip
                        have h34 : ((nu 1 / 10 ^ 5 % 10) = 2) := (nI_eq (by omega) (by omega)).mp h34
                        refine lv_iload_n hx hb d_Mo_display_41 rfl (lv_at hl 0 rfl) ?_
                        exact zret_i C0 hr hAe hP hD hS ⟨by unfold dsp; rw [if_pos (by rw [show j = 14 by omega]), dp_n h13, dp_n h16, dp_n h19, dp_n h22, dp_n h25, dp_n h28, dp_n h31, dp_p h34], rfl⟩ d_Mo_display_42
                    · skip
                      have h31 : ((nu 1 / 10 ^ 6 % 10) = 2) := (nI_eq (by omega) (by omega)).mp h31
                      refine lv_iload_n hx hb d_Mo_display_41 rfl (lv_at hl 0 rfl) ?_
                      exact zret_i C0 hr hAe hP hD hS ⟨by unfold dsp; rw [if_pos (by rw [show j = 14 by omega]), dp_n h13, dp_n h16, dp_n h19, dp_n h22, dp_n h25, dp_n h28, dp_p h31], rfl⟩ d_Mo_display_42
                  · skip
                    have h28 : ((nu 1 / 10 ^ 7 % 10) = 2) := (nI_eq (by omega) (by omega)).mp h28
                    refine lv_iload_n hx hb d_Mo_display_41 rfl (lv_at hl 0 rfl) ?_
                    exact zret_i C0 hr hAe hP hD hS ⟨by unfold dsp; rw [if_pos (by rw [show j = 14 by omega]), dp_n h13, dp_n h16, dp_n h19, dp_n h22, dp_n h25, dp_p h28], rfl⟩ d_Mo_display_42
                · skip
                  have h25 : ((nu 1 / 10 ^ 8 % 10) = 2) := (nI_eq (by omega) (by omega)).mp h25
                  refine lv_iload_n hx hb d_Mo_display_41 rfl (lv_at hl 0 rfl) ?_
                  exact zret_i C0 hr hAe hP hD hS ⟨by unfold dsp; rw [if_pos (by rw [show j = 14 by omega]), dp_n h13, dp_n h16, dp_n h19, dp_n h22, dp_p h25], rfl⟩ d_Mo_display_42
              · skip
                have h22 : ((nu 1 / 10 ^ 9 % 10) = 2) := (nI_eq (by omega) (by omega)).mp h22
                refine lv_iload_n hx hb d_Mo_display_41 rfl (lv_at hl 0 rfl) ?_
                exact zret_i C0 hr hAe hP hD hS ⟨by unfold dsp; rw [if_pos (by rw [show j = 14 by omega]), dp_n h13, dp_n h16, dp_n h19, dp_p h22], rfl⟩ d_Mo_display_42
            · skip
              have h19 : ((nu 1 / 10 ^ 10 % 10) = 2) := (nI_eq (by omega) (by omega)).mp h19
              refine lv_iload_n hx hb d_Mo_display_41 rfl (lv_at hl 0 rfl) ?_
              exact zret_i C0 hr hAe hP hD hS ⟨by unfold dsp; rw [if_pos (by rw [show j = 14 by omega]), dp_n h13, dp_n h16, dp_p h19], rfl⟩ d_Mo_display_42
          · skip
            have h16 : ((nu 1 / 10 ^ 11 % 10) = 2) := (nI_eq (by omega) (by omega)).mp h16
            refine lv_iload_n hx hb d_Mo_display_41 rfl (lv_at hl 0 rfl) ?_
            exact zret_i C0 hr hAe hP hD hS ⟨by unfold dsp; rw [if_pos (by rw [show j = 14 by omega]), dp_n h13, dp_p h16], rfl⟩ d_Mo_display_42
        · skip
          have h13 : ((nu 1 / 10 ^ 12 % 10) = 2) := (nI_eq (by omega) (by omega)).mp h13
          refine lv_iload_n hx hb d_Mo_display_41 rfl (lv_at hl 0 rfl) ?_
          exact zret_i C0 hr hAe hP hD hS ⟨by unfold dsp; rw [if_pos (by rw [show j = 14 by omega]), dp_p h13], rfl⟩ d_Mo_display_42
    · skip
      have h2 : ¬ (j ≤ 14) := fun z => h2 ((nI_leI (by omega) (by omega)).mpr z)
      refine lv_iconst (v := (-1)) hx hb d_Mo_display_15 (by decide) ?_
      exact zret_i C0 hr hAe hP hD hS ⟨by unfold dsp; rw [if_neg (fun z => by have := (nI_eq (by omega) (by decide)).mp z; omega), if_neg (dR_2 (by decide) (by omega) (by omega))], rfl⟩ d_Mo_display_16
