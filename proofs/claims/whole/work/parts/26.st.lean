set_option maxHeartbeats 4000000 in
set_option maxRecDepth 100000 in
theorem m_Mo_step (l : Launch) (D : va_G) (ca : Nat → ClassId) (k : Nat → Nat) (sz : Nat) (ad : Nat → Nat) (cd : Nat) (po nu : Nat → Nat) (pt : Nat) (st : Int32) (cy pl bk : Nat) (me : Nat → Nat) (kc : Nat) (ro : Nat → Nat) (en un li tn : Nat) (tx : Nat → Nat) (ia : Int32) (ct : Nat) (md : Nat → Nat) (lb wn : Nat → Int32) (hme : ∀ j, me j < 1024) (hcy : cy ≤ 1) (hpt : pt < 14) (hpl : pl < 64) (hk3 : kc ≤ 3) (hro : ∀ j, ro j < 16) (hn : ∀ j, nu j < 10 ^ 14) (hpo : ∀ j, j < 15 → po j = 10 ^ j) : Met l y_Mo_step (zw y_Mo_step c_Mo_step 7 none) { frames := 4, cells := 0, slots := 0, locals := 94 } (va_Pc [.ref (ad 12)] (zPre D (zty ca) k (wM ad ca cd po nu pt st cy pl bk me kc ro en un li tn tx ia ct md lb wn) sz)) (va_Qv (fun w => w = wM ad ca cd po ((dwM (me pl) (me, nu, ro, un, li, pt, st, cy, pl, bk, en, kc)).2.1) ((dwM (me pl) (me, nu, ro, un, li, pt, st, cy, pl, bk, en, kc)).2.2.2.2.2.1) ((dwM (me pl) (me, nu, ro, un, li, pt, st, cy, pl, bk, en, kc)).2.2.2.2.2.2.1) ((dwM (me pl) (me, nu, ro, un, li, pt, st, cy, pl, bk, en, kc)).2.2.2.2.2.2.2.1) ((dwM (me pl) (me, nu, ro, un, li, pt, st, cy, pl, bk, en, kc)).2.2.2.2.2.2.2.2.1) ((dwM (me pl) (me, nu, ro, un, li, pt, st, cy, pl, bk, en, kc)).2.2.2.2.2.2.2.2.2.1) ((dwM (me pl) (me, nu, ro, un, li, pt, st, cy, pl, bk, en, kc)).1) ((dwM (me pl) (me, nu, ro, un, li, pt, st, cy, pl, bk, en, kc)).2.2.2.2.2.2.2.2.2.2.2) ((dwM (me pl) (me, nu, ro, un, li, pt, st, cy, pl, bk, en, kc)).2.2.1) ((dwM (me pl) (me, nu, ro, un, li, pt, st, cy, pl, bk, en, kc)).2.2.2.2.2.2.2.2.2.2.1) ((dwM (me pl) (me, nu, ro, un, li, pt, st, cy, pl, bk, en, kc)).2.2.2.1) ((dwM (me pl) (me, nu, ro, un, li, pt, st, cy, pl, bk, en, kc)).2.2.2.2.1) tn tx ia ct md lb wn) (zB D (zty ca) (wM ad ca cd po nu pt st cy pl bk me kc ro en un li tn tx ia ct md lb wn) sz) (va_A (wM ad ca cd po nu pt st cy pl bk me kc ro en un li tn tx ia ct md lb wn) sz)) 0 0 (va_A (wM ad ca cd po nu pt st cy pl bk me kc ro en un li tn tx ia ct md lb wn) sz) := by
  refine zOf (own := "DigitChipModel") (by decide +kernel) rfl (Nat.le_of_ble_eq_true rfl) ?_
  intro p e s m below meth c A ls C0 hr hnm hAe hsz hl hP hD hS
  have hl : lv_has ls 7 [(0, .ref (ad 12))] := hl
  obtain ⟨hx, hb, hml, hown, ht, hK, hX, hA, hlk⟩ := id C0
  have hwd := hme pl
  refine lv_aload_n hx hb d_Mo_step_0 rfl (lv_at hl 0 rfl) ?_
  refine va_get (D := D) (ci := 5) (v := .ref (ad 15)) (C := RMo) (T := TMo) (N := 21) hx hb ht inMo hown hK hP 0 rfl rfl 8 (by decide) (ht _ q554) (fun _ h9 => h9) rfl d_Mo_step_1 ?_
  refine lv_aload_n hx hb d_Mo_step_4 rfl (lv_at hl 0 rfl) ?_
  refine va_get (D := D) (ci := 5) (v := .int (nI pl)) (C := RMo) (T := TMo) (N := 21) hx hb ht inMo hown hK hP 0 rfl rfl 6 (by decide) (ht _ q552) (fun _ h9 => h9) rfl d_Mo_step_5 ?_
  refine va_iald hx hb hK hP 3 0 rfl rfl (vp_in_nI (n := pl) (by omega) (by decide)) d_Mo_step_8 ?_
  refine zti (y := nI (me pl)) (nF_at (by omega)) ?_
  refine lv_istore_n hx hb d_Mo_step_9 rfl hl (by decide) rfl (fun ls hl => ?_)
  have hl : lv_has ls 7 [(1, .int (nI (me pl))), (0, .ref (ad 12))] := hl
  refine lv_aload_n hx hb d_Mo_step_10 rfl (lv_at hl 1 rfl) ?_
  refine va_get (D := D) (ci := 5) (v := .int (nI pl)) (C := RMo) (T := TMo) (N := 21) hx hb ht inMo hown hK hP 0 rfl rfl 6 (by decide) (ht _ q552) (fun _ h9 => h9) rfl d_Mo_step_11 ?_
  refine lv_istore_n hx hb d_Mo_step_14 rfl hl (by decide) rfl (fun ls hl => ?_)
  have hl : lv_has ls 7 [(2, .int (nI pl)), (1, .int (nI (me pl))), (0, .ref (ad 12))] := hl
  refine lv_aload_n hx hb d_Mo_step_15 rfl (lv_at hl 2 rfl) ?_
  refine va_get (D := D) (ci := 5) (v := .int (nI cy)) (C := RMo) (T := TMo) (N := 21) hx hb ht inMo hown hK hP 0 rfl rfl 5 (by decide) (ht _ q551) (fun _ h9 => h9) rfl d_Mo_step_16 ?_
  refine lv_istore_n hx hb d_Mo_step_19 rfl hl (by decide) rfl (fun ls hl => ?_)
  have hl : lv_has ls 7 [(3, .int (nI cy)), (2, .int (nI pl)), (1, .int (nI (me pl))), (0, .ref (ad 12))] := hl
  refine lv_aload_n hx hb d_Mo_step_20 rfl (lv_at hl 3 rfl) ?_
  refine lv_aload_n hx hb d_Mo_step_21 rfl (lv_at hl 3 rfl) ?_
  refine va_get (D := D) (ci := 5) (v := .int (nI pl)) (C := RMo) (T := TMo) (N := 21) hx hb ht inMo hown hK hP 0 rfl rfl 6 (by decide) (ht _ q552) (fun _ h9 => h9) rfl d_Mo_step_22 ?_
  refine lv_bipush (v := nI 63) hx hb d_Mo_step_25 (by decide) ?_
  refine lv_icmp_ne (tgt := 34) hx hb d_Mo_step_27 (by decide) (fun h1 => ?_) (fun h1 => ?_)
  · skip
    have h1 : ¬ (pl = 63) := fun z => h1 ((nI_eq (by omega) (by omega)).mpr z)
    refine lv_aload_n hx hb d_Mo_step_34 rfl (lv_at hl 3 rfl) ?_
    refine va_get (D := D) (ci := 5) (v := .int (nI pl)) (C := RMo) (T := TMo) (N := 21) hx hb ht inMo hown hK hP 0 rfl rfl 6 (by decide) (ht _ q552) (fun _ h9 => h9) rfl d_Mo_step_35 ?_
    refine lv_iconst (v := nI 1) hx hb d_Mo_step_38 (by decide) ?_
    refine lv_iadd hx hb d_Mo_step_39 ?_
    refine zti (y := nI (pl + 1)) (nI_add _ _) ?_
    refine zti (y := nI ((pl + 1) % 64)) (congrArg nI (by omega)) ?_
    refine va_put (D := D) (ci := 5) (v := .int (nI ((pl + 1) % 64))) (ty := .int) (C := RMo) (T := TMo) (N := 21) hx hb ht inMo tyMo tyMo_ok nmMo hown hK hP hD hS 0 rfl rfl 6 (by decide) (ht _ q552) (fun _ h9 => h9) rfl (by decide +kernel) rfl rfl (Nat.le_of_ble_eq_true rfl) d_Mo_step_40 (fun H locs hP hD hS => ?_)
    have hP : va_P D vCl (wM ad ca cd po nu pt st cy ((pl + 1) % 64) bk me kc ro en un li tn tx ia ct md lb wn) H := hP
    have hD : va_D A (wM ad ca cd po nu pt st cy ((pl + 1) % 64) bk me kc ro en un li tn tx ia ct md lb wn) := hD
    refine lv_aload_n hx hb d_Mo_step_43 rfl (lv_at hl 3 rfl) ?_
    refine lv_iconst (v := nI 0) hx hb d_Mo_step_44 (by decide) ?_
    refine va_put (D := D) (ci := 5) (v := .int (nI 0)) (ty := .boolean) (C := RMo) (T := TMo) (N := 21) hx hb ht inMo tyMo tyMo_ok nmMo hown hK hP hD hS 0 rfl rfl 5 (by decide) (ht _ q551) (fun _ h9 => h9) rfl (by decide +kernel) (zbn (by omega)) (zbf (by omega)) (Nat.le_of_ble_eq_true rfl) d_Mo_step_45 (fun H locs hP hD hS => ?_)
    have hP : va_P D vCl (wM ad ca cd po nu pt st 0 ((pl + 1) % 64) bk me kc ro en un li tn tx ia ct md lb wn) H := hP
    have hD : va_D A (wM ad ca cd po nu pt st 0 ((pl + 1) % 64) bk me kc ro en un li tn tx ia ct md lb wn) := hD
    refine lv_iload_n hx hb d_Mo_step_48 rfl (lv_at hl 2 rfl) ?_
    refine lv_iconst (v := nI 4) hx hb d_Mo_step_49 (by decide) ?_
    refine lv_irem hx hb d_Mo_step_50 (nI_ne0 (by omega) (by omega)) ?_
    refine zti (y := nI ((me pl) % 4)) (pk_rem (by omega) (by omega) (by omega)) ?_
    refine lv_istore hx hb d_Mo_step_51 hl (by decide) rfl (fun ls hl => ?_)
    have hl : lv_has ls 7 [(4, .int (nI ((me pl) % 4))), (3, .int (nI cy)), (2, .int (nI pl)), (1, .int (nI (me pl))), (0, .ref (ad 12))] := hl
    refine lv_iload_n hx hb d_Mo_step_53 rfl (lv_at hl 3 rfl) ?_
    refine lv_iconst (v := nI 4) hx hb d_Mo_step_54 (by decide) ?_
    refine lv_idiv hx hb d_Mo_step_55 (nI_ne0 (by omega) (by omega)) ?_
    refine zti (y := nI ((me pl) / 4)) (pk_div (by omega) (by omega) (by omega)) ?_
    refine lv_bipush (v := nI 64) hx hb d_Mo_step_56 (by decide) ?_
    refine lv_irem hx hb d_Mo_step_58 (nI_ne0 (by omega) (by omega)) ?_
    refine zti (y := nI (((me pl) / 4) % 64)) (pk_rem (by omega) (by omega) (by omega)) ?_
    refine lv_istore hx hb d_Mo_step_59 hl (by decide) rfl (fun ls hl => ?_)
    have hl : lv_has ls 7 [(5, .int (nI (((me pl) / 4) % 64))), (4, .int (nI ((me pl) % 4))), (3, .int (nI cy)), (2, .int (nI pl)), (1, .int (nI (me pl))), (0, .ref (ad 12))] := hl
    refine lv_iload hx hb d_Mo_step_61 (lv_at hl 1 rfl) ?_
    refine lv_iconst (v := nI 1) hx hb d_Mo_step_63 (by decide) ?_
    refine lv_icmp_ne (tgt := 84) hx hb d_Mo_step_64 (by decide) (fun h2 => ?_) (fun h2 => ?_)
    · skip
      have h2 : ¬ (((me pl) % 4) = 1) := fun z => h2 ((nI_eq (by omega) (by omega)).mpr z)
      refine lv_iload hx hb d_Mo_step_84 (lv_at hl 1 rfl) ?_
      refine lv_iconst (v := nI 3) hx hb d_Mo_step_86 (by decide) ?_
      refine lv_icmp_ne (tgt := 103) hx hb d_Mo_step_87 (by decide) (fun h3 => ?_) (fun h3 => ?_)
      · skip
        have h3 : ¬ (((me pl) % 4) = 3) := fun z => h3 ((nI_eq (by omega) (by omega)).mpr z)
        refine lv_iload hx hb d_Mo_step_103 (lv_at hl 1 rfl) ?_
        refine lv_iconst (v := nI 2) hx hb d_Mo_step_105 (by decide) ?_
        refine lv_icmp_ne (tgt := 171) hx hb d_Mo_step_106 (by decide) (fun h4 => ?_) (fun h4 => ?_)
        · skip
          have h4 : ¬ (((me pl) % 4) = 2) := fun z => h4 ((nI_eq (by omega) (by omega)).mpr z)
          refine lv_iload_n hx hb d_Mo_step_171 rfl (lv_at hl 4 rfl) ?_
          refine lv_iconst (v := nI 4) hx hb d_Mo_step_172 (by decide) ?_
          refine lv_idiv hx hb d_Mo_step_173 (nI_ne0 (by omega) (by omega)) ?_
          refine zti (y := nI ((me pl) / 4)) (pk_div (by omega) (by omega) (by omega)) ?_
          refine lv_bipush (v := nI 16) hx hb d_Mo_step_174 (by decide) ?_
          refine lv_irem hx hb d_Mo_step_176 (nI_ne0 (by omega) (by omega)) ?_
          refine zti (y := nI (((me pl) / 4) % 16)) (pk_rem (by omega) (by omega) (by omega)) ?_
          refine lv_istore hx hb d_Mo_step_177 hl (by decide) rfl (fun ls hl => ?_)
          have hl : lv_has ls 7 [(6, .int (nI (((me pl) / 4) % 16))), (5, .int (nI (((me pl) / 4) % 64))), (4, .int (nI ((me pl) % 4))), (3, .int (nI cy)), (2, .int (nI pl)), (1, .int (nI (me pl))), (0, .ref (ad 12))] := hl
          refine lv_iload hx hb d_Mo_step_179 (lv_at hl 0 rfl) ?_
          refine lv_bipush (v := nI 9) hx hb d_Mo_step_181 (by decide) ?_
          refine lv_icmp_ge (tgt := 199) hx hb d_Mo_step_183 (by decide) (fun h5 => ?_) (fun h5 => ?_)
          · skip
            have h5 : (9 ≤ (((me pl) / 4) % 16)) := (nI_leI (by omega) (by omega)).mp h5
            refine lv_aload_n hx hb d_Mo_step_199 rfl (lv_at hl 6 rfl) ?_
            refine lv_iload hx hb d_Mo_step_200 (lv_at hl 0 rfl) ?_
            refine lv_iload_n hx hb d_Mo_step_202 rfl (lv_at hl 4 rfl) ?_
            refine zgo_v (wr := []) C0 (zrunV (na := 2) (As := [.int (nI (((me pl) / 4) % 16)), .int (nI pl)]) (rest := []) C0 hP hD hS [0, 1, 2, 3, 4, 5, 6, 7, 8] rfl rfl (m_Mo_turn l D ca k H.size ad cd po nu pt st 0 ((pl + 1) % 64) bk me kc ro en un li tn tx ia ct md lb wn pl (((me pl) / 4) % 16) (me pl / 64) (by omega) (by omega) (by omega) (by omega) (by omega) (by assumption) hn hpo) (zg_V q654 q656 q833 q7 q657) (by decide +kernel) rfl rfl ⟨by decide, by decide⟩ 0 rfl rfl rfl hl.1 rfl (Nat.le_of_ble_eq_true rfl) d_Mo_step_203 ⟨Nat.zero_le _, Nat.zero_le _⟩) hP hD hS [0, 1, 2, 3, 4, 5, 6, 7, 8] [] rfl rfl (by decide) (by decide) (fun w1 H locs hw hP hD hS => ?_)
            obtain rfl := hw
            have hP : va_P D vCl (wM ad ca cd po ((plM pl (((me pl) / 4) % 16) (me pl / 64) (me, nu, ro, un, li, pt, st, 0, (pl + 1) % 64, bk, en, kc)).2.1) ((plM pl (((me pl) / 4) % 16) (me pl / 64) (me, nu, ro, un, li, pt, st, 0, (pl + 1) % 64, bk, en, kc)).2.2.2.2.2.1) ((plM pl (((me pl) / 4) % 16) (me pl / 64) (me, nu, ro, un, li, pt, st, 0, (pl + 1) % 64, bk, en, kc)).2.2.2.2.2.2.1) ((plM pl (((me pl) / 4) % 16) (me pl / 64) (me, nu, ro, un, li, pt, st, 0, (pl + 1) % 64, bk, en, kc)).2.2.2.2.2.2.2.1) ((plM pl (((me pl) / 4) % 16) (me pl / 64) (me, nu, ro, un, li, pt, st, 0, (pl + 1) % 64, bk, en, kc)).2.2.2.2.2.2.2.2.1) ((plM pl (((me pl) / 4) % 16) (me pl / 64) (me, nu, ro, un, li, pt, st, 0, (pl + 1) % 64, bk, en, kc)).2.2.2.2.2.2.2.2.2.1) ((plM pl (((me pl) / 4) % 16) (me pl / 64) (me, nu, ro, un, li, pt, st, 0, (pl + 1) % 64, bk, en, kc)).1) ((plM pl (((me pl) / 4) % 16) (me pl / 64) (me, nu, ro, un, li, pt, st, 0, (pl + 1) % 64, bk, en, kc)).2.2.2.2.2.2.2.2.2.2.2) ((plM pl (((me pl) / 4) % 16) (me pl / 64) (me, nu, ro, un, li, pt, st, 0, (pl + 1) % 64, bk, en, kc)).2.2.1) ((plM pl (((me pl) / 4) % 16) (me pl / 64) (me, nu, ro, un, li, pt, st, 0, (pl + 1) % 64, bk, en, kc)).2.2.2.2.2.2.2.2.2.2.1) ((plM pl (((me pl) / 4) % 16) (me pl / 64) (me, nu, ro, un, li, pt, st, 0, (pl + 1) % 64, bk, en, kc)).2.2.2.1) ((plM pl (((me pl) / 4) % 16) (me pl / 64) (me, nu, ro, un, li, pt, st, 0, (pl + 1) % 64, bk, en, kc)).2.2.2.2.1) tn tx ia ct md lb wn) H := hP
            have hD : va_D A (wM ad ca cd po ((plM pl (((me pl) / 4) % 16) (me pl / 64) (me, nu, ro, un, li, pt, st, 0, (pl + 1) % 64, bk, en, kc)).2.1) ((plM pl (((me pl) / 4) % 16) (me pl / 64) (me, nu, ro, un, li, pt, st, 0, (pl + 1) % 64, bk, en, kc)).2.2.2.2.2.1) ((plM pl (((me pl) / 4) % 16) (me pl / 64) (me, nu, ro, un, li, pt, st, 0, (pl + 1) % 64, bk, en, kc)).2.2.2.2.2.2.1) ((plM pl (((me pl) / 4) % 16) (me pl / 64) (me, nu, ro, un, li, pt, st, 0, (pl + 1) % 64, bk, en, kc)).2.2.2.2.2.2.2.1) ((plM pl (((me pl) / 4) % 16) (me pl / 64) (me, nu, ro, un, li, pt, st, 0, (pl + 1) % 64, bk, en, kc)).2.2.2.2.2.2.2.2.1) ((plM pl (((me pl) / 4) % 16) (me pl / 64) (me, nu, ro, un, li, pt, st, 0, (pl + 1) % 64, bk, en, kc)).2.2.2.2.2.2.2.2.2.1) ((plM pl (((me pl) / 4) % 16) (me pl / 64) (me, nu, ro, un, li, pt, st, 0, (pl + 1) % 64, bk, en, kc)).1) ((plM pl (((me pl) / 4) % 16) (me pl / 64) (me, nu, ro, un, li, pt, st, 0, (pl + 1) % 64, bk, en, kc)).2.2.2.2.2.2.2.2.2.2.2) ((plM pl (((me pl) / 4) % 16) (me pl / 64) (me, nu, ro, un, li, pt, st, 0, (pl + 1) % 64, bk, en, kc)).2.2.1) ((plM pl (((me pl) / 4) % 16) (me pl / 64) (me, nu, ro, un, li, pt, st, 0, (pl + 1) % 64, bk, en, kc)).2.2.2.2.2.2.2.2.2.2.1) ((plM pl (((me pl) / 4) % 16) (me pl / 64) (me, nu, ro, un, li, pt, st, 0, (pl + 1) % 64, bk, en, kc)).2.2.2.1) ((plM pl (((me pl) / 4) % 16) (me pl / 64) (me, nu, ro, un, li, pt, st, 0, (pl + 1) % 64, bk, en, kc)).2.2.2.2.1) tn tx ia ct md lb wn) := hD
            exact zret_v C0 hr hAe hP hD hS (by have hw4 : me pl % 4 = 0 := (by omega); simp only [dwM, hw4]) d_Mo_step_206
          · skip
            have h5 : ¬ (9 ≤ (((me pl) / 4) % 16)) := fun z => h5 ((nI_leI (by omega) (by omega)).mpr z)
            refine lv_aload_n hx hb d_Mo_step_186 rfl (lv_at hl 6 rfl) ?_
            refine lv_iload hx hb d_Mo_step_187 (lv_at hl 0 rfl) ?_
            refine lv_iload_n hx hb d_Mo_step_189 rfl (lv_at hl 5 rfl) ?_
            refine lv_bipush (v := nI 64) hx hb d_Mo_step_190 (by decide) ?_
            refine lv_idiv hx hb d_Mo_step_192 (nI_ne0 (by omega) (by omega)) ?_
            refine zti (y := nI ((me pl) / 64)) (pk_div (by omega) (by omega) (by omega)) ?_
            refine zgo_v (wr := []) C0 (zrunV (na := 2) (As := [.int (nI (((me pl) / 4) % 16)), .int (nI ((me pl) / 64))]) (rest := []) C0 hP hD hS [0, 1, 2, 3, 4, 5, 6, 7, 8] rfl rfl (m_Mo_mark l D ca k H.size ad cd po nu pt st 0 ((pl + 1) % 64) bk me kc ro en un li tn tx ia ct md lb wn pl (((me pl) / 4) % 16) (me pl / 64) (by omega) (by omega) (by omega) (by omega) (by omega) (by assumption) hn hpo) (zg_V q650 q652 q832 q7 q653) (by decide +kernel) rfl rfl ⟨by decide, by decide⟩ 0 rfl rfl rfl hl.1 rfl (Nat.le_of_ble_eq_true rfl) d_Mo_step_193 ⟨Nat.zero_le _, Nat.zero_le _⟩) hP hD hS [0, 1, 2, 3, 4, 5, 6, 7, 8] [] rfl rfl (by decide) (by decide) (fun w1 H locs hw hP hD hS => ?_)
            obtain rfl := hw
            have hP : va_P D vCl (wM ad ca cd po ((plM pl (((me pl) / 4) % 16) (me pl / 64) (me, nu, ro, un, li, pt, st, 0, (pl + 1) % 64, bk, en, kc)).2.1) ((plM pl (((me pl) / 4) % 16) (me pl / 64) (me, nu, ro, un, li, pt, st, 0, (pl + 1) % 64, bk, en, kc)).2.2.2.2.2.1) ((plM pl (((me pl) / 4) % 16) (me pl / 64) (me, nu, ro, un, li, pt, st, 0, (pl + 1) % 64, bk, en, kc)).2.2.2.2.2.2.1) ((plM pl (((me pl) / 4) % 16) (me pl / 64) (me, nu, ro, un, li, pt, st, 0, (pl + 1) % 64, bk, en, kc)).2.2.2.2.2.2.2.1) ((plM pl (((me pl) / 4) % 16) (me pl / 64) (me, nu, ro, un, li, pt, st, 0, (pl + 1) % 64, bk, en, kc)).2.2.2.2.2.2.2.2.1) ((plM pl (((me pl) / 4) % 16) (me pl / 64) (me, nu, ro, un, li, pt, st, 0, (pl + 1) % 64, bk, en, kc)).2.2.2.2.2.2.2.2.2.1) ((plM pl (((me pl) / 4) % 16) (me pl / 64) (me, nu, ro, un, li, pt, st, 0, (pl + 1) % 64, bk, en, kc)).1) ((plM pl (((me pl) / 4) % 16) (me pl / 64) (me, nu, ro, un, li, pt, st, 0, (pl + 1) % 64, bk, en, kc)).2.2.2.2.2.2.2.2.2.2.2) ((plM pl (((me pl) / 4) % 16) (me pl / 64) (me, nu, ro, un, li, pt, st, 0, (pl + 1) % 64, bk, en, kc)).2.2.1) ((plM pl (((me pl) / 4) % 16) (me pl / 64) (me, nu, ro, un, li, pt, st, 0, (pl + 1) % 64, bk, en, kc)).2.2.2.2.2.2.2.2.2.2.1) ((plM pl (((me pl) / 4) % 16) (me pl / 64) (me, nu, ro, un, li, pt, st, 0, (pl + 1) % 64, bk, en, kc)).2.2.2.1) ((plM pl (((me pl) / 4) % 16) (me pl / 64) (me, nu, ro, un, li, pt, st, 0, (pl + 1) % 64, bk, en, kc)).2.2.2.2.1) tn tx ia ct md lb wn) H := hP
            have hD : va_D A (wM ad ca cd po ((plM pl (((me pl) / 4) % 16) (me pl / 64) (me, nu, ro, un, li, pt, st, 0, (pl + 1) % 64, bk, en, kc)).2.1) ((plM pl (((me pl) / 4) % 16) (me pl / 64) (me, nu, ro, un, li, pt, st, 0, (pl + 1) % 64, bk, en, kc)).2.2.2.2.2.1) ((plM pl (((me pl) / 4) % 16) (me pl / 64) (me, nu, ro, un, li, pt, st, 0, (pl + 1) % 64, bk, en, kc)).2.2.2.2.2.2.1) ((plM pl (((me pl) / 4) % 16) (me pl / 64) (me, nu, ro, un, li, pt, st, 0, (pl + 1) % 64, bk, en, kc)).2.2.2.2.2.2.2.1) ((plM pl (((me pl) / 4) % 16) (me pl / 64) (me, nu, ro, un, li, pt, st, 0, (pl + 1) % 64, bk, en, kc)).2.2.2.2.2.2.2.2.1) ((plM pl (((me pl) / 4) % 16) (me pl / 64) (me, nu, ro, un, li, pt, st, 0, (pl + 1) % 64, bk, en, kc)).2.2.2.2.2.2.2.2.2.1) ((plM pl (((me pl) / 4) % 16) (me pl / 64) (me, nu, ro, un, li, pt, st, 0, (pl + 1) % 64, bk, en, kc)).1) ((plM pl (((me pl) / 4) % 16) (me pl / 64) (me, nu, ro, un, li, pt, st, 0, (pl + 1) % 64, bk, en, kc)).2.2.2.2.2.2.2.2.2.2.2) ((plM pl (((me pl) / 4) % 16) (me pl / 64) (me, nu, ro, un, li, pt, st, 0, (pl + 1) % 64, bk, en, kc)).2.2.1) ((plM pl (((me pl) / 4) % 16) (me pl / 64) (me, nu, ro, un, li, pt, st, 0, (pl + 1) % 64, bk, en, kc)).2.2.2.2.2.2.2.2.2.2.1) ((plM pl (((me pl) / 4) % 16) (me pl / 64) (me, nu, ro, un, li, pt, st, 0, (pl + 1) % 64, bk, en, kc)).2.2.2.1) ((plM pl (((me pl) / 4) % 16) (me pl / 64) (me, nu, ro, un, li, pt, st, 0, (pl + 1) % 64, bk, en, kc)).2.2.2.2.1) tn tx ia ct md lb wn) := hD
            refine lv_goto (tgt := 206) hx hb d_Mo_step_196 (by decide) ?_
            exact zret_v C0 hr hAe hP hD hS (by have hw4 : me pl % 4 = 0 := (by omega); simp only [dwM, hw4]) d_Mo_step_206
        · skip
          have h4 : (((me pl) % 4) = 2) := (nI_eq (by omega) (by omega)).mp h4
          refine lv_aload_n hx hb d_Mo_step_109 rfl (lv_at hl 5 rfl) ?_
          refine lv_iload_n hx hb d_Mo_step_110 rfl (lv_at hl 4 rfl) ?_
          refine lv_iconst (v := nI 4) hx hb d_Mo_step_111 (by decide) ?_
          refine lv_idiv hx hb d_Mo_step_112 (nI_ne0 (by omega) (by omega)) ?_
          refine zti (y := nI ((me pl) / 4)) (pk_div (by omega) (by omega) (by omega)) ?_
          refine lv_bipush (v := nI 8) hx hb d_Mo_step_113 (by decide) ?_
          refine lv_irem hx hb d_Mo_step_115 (nI_ne0 (by omega) (by omega)) ?_
          refine zti (y := nI (((me pl) / 4) % 8)) (pk_rem (by omega) (by omega) (by omega)) ?_
          refine zgo_v (wr := []) C0 (zrunV (na := 1) (As := [.int (nI (((me pl) / 4) % 8))]) (rest := []) C0 hP hD hS [0, 1, 2, 3, 4, 5, 6, 7, 8] rfl rfl (m_Mo_field l D ca k H.size ad cd po nu pt st 0 ((pl + 1) % 64) bk me kc ro en un li tn tx ia ct md lb wn (((me pl) / 4) % 8) (by omega) (by omega) hpo) (zg_V q622 q624 q825 q7 q625) (by decide +kernel) rfl rfl ⟨by decide, by decide⟩ 0 rfl rfl rfl hl.1 rfl (Nat.le_of_ble_eq_true rfl) d_Mo_step_116 ⟨Nat.zero_le _, Nat.zero_le _⟩) hP hD hS [0, 1, 2, 3, 4, 5, 6, 7, 8] [] rfl rfl (by decide) (by decide) (fun w1 H locs hw hP hD hS => ?_)
          obtain rfl := hw
          have hP : va_P D vCl (wM ad ca cd po nu pt st 0 ((pl + 1) % 64) bk me kc ro en (fU pt (((me pl) / 4) % 8)) (fL pt (((me pl) / 4) % 8)) tn tx ia ct md lb wn) H := hP
          have hD : va_D A (wM ad ca cd po nu pt st 0 ((pl + 1) % 64) bk me kc ro en (fU pt (((me pl) / 4) % 8)) (fL pt (((me pl) / 4) % 8)) tn tx ia ct md lb wn) := hD
          refine lv_iload_n hx hb d_Mo_step_119 rfl (lv_at hl 4 rfl) ?_
          refine lv_bipush (v := nI 32) hx hb d_Mo_step_120 (by decide) ?_
          refine lv_idiv hx hb d_Mo_step_122 (nI_ne0 (by omega) (by omega)) ?_
          refine zti (y := nI ((me pl) / 32)) (pk_div (by omega) (by omega) (by omega)) ?_
          refine lv_istore hx hb d_Mo_step_123 hl (by decide) rfl (fun ls hl => ?_)
          have hl : lv_has ls 7 [(6, .int (nI ((me pl) / 32))), (5, .int (nI (((me pl) / 4) % 64))), (4, .int (nI ((me pl) % 4))), (3, .int (nI cy)), (2, .int (nI pl)), (1, .int (nI (me pl))), (0, .ref (ad 12))] := hl
          refine lv_iload hx hb d_Mo_step_125 (lv_at hl 0 rfl) ?_
          refine lv_bipush (v := nI 8) hx hb d_Mo_step_127 (by decide) ?_
          refine lv_icmp_lt (tgt := 153) hx hb d_Mo_step_129 (by decide) (fun h9 => ?_) (fun h9 => ?_)
          · skip
            have h9 : (((me pl) / 32) < 8) := (nI_ltI (by omega) (by omega)).mp h9
            refine lv_aload_n hx hb d_Mo_step_153 rfl (lv_at hl 6 rfl) ?_
            refine lv_iload hx hb d_Mo_step_154 (lv_at hl 0 rfl) ?_
            refine zgo_v (wr := []) C0 (zrunV (na := 1) (As := [.int (nI ((me pl) / 32))]) (rest := []) C0 hP hD hS [0, 1, 2, 3, 4, 5, 6, 7, 8] rfl rfl (m_Mo_move l D ca k H.size ad cd po nu pt st ((pl + 1) % 64) bk me kc ro en (fU pt (((me pl) / 4) % 8)) (fL pt (((me pl) / 4) % 8)) tn tx ia ct md lb wn ((me pl) / 32) (by omega) hn (fU_pos _ _) (fU_le hpt) (fL_pos _ _) (fL_le hpt) (fUL hpt)) (zg_V q626 q628 q826 q7 q629) (by decide +kernel) rfl rfl ⟨by decide, by decide⟩ 0 rfl rfl rfl hl.1 rfl (Nat.le_of_ble_eq_true rfl) d_Mo_step_156 ⟨Nat.zero_le _, Nat.zero_le _⟩) hP hD hS [0, 1, 2, 3, 4, 5, 6, 7, 8] [] rfl rfl (by decide) (by decide) (fun w1 H locs hw hP hD hS => ?_)
            obtain rfl := hw
            have hP : va_P D vCl (wM ad ca cd po (fwN ((me pl) / 32) (fU pt (((me pl) / 4) % 8)) (fL pt (((me pl) / 4) % 8)) nu) pt st (fwC ((me pl) / 32) (fU pt (((me pl) / 4) % 8)) (fL pt (((me pl) / 4) % 8)) nu) ((pl + 1) % 64) bk me kc ro en (fU pt (((me pl) / 4) % 8)) (fL pt (((me pl) / 4) % 8)) tn tx ia ct md lb wn) H := hP
            have hD : va_D A (wM ad ca cd po (fwN ((me pl) / 32) (fU pt (((me pl) / 4) % 8)) (fL pt (((me pl) / 4) % 8)) nu) pt st (fwC ((me pl) / 32) (fU pt (((me pl) / 4) % 8)) (fL pt (((me pl) / 4) % 8)) nu) ((pl + 1) % 64) bk me kc ro en (fU pt (((me pl) / 4) % 8)) (fL pt (((me pl) / 4) % 8)) tn tx ia ct md lb wn) := hD
            refine lv_goto (tgt := 168) hx hb d_Mo_step_159 (by decide) ?_
            refine lv_goto (tgt := 206) hx hb d_Mo_step_168 (by decide) ?_
            exact zret_v C0 hr hAe hP hD hS (by have hw4 : me pl % 4 = 2 := (by omega); simp only [dwM, hw4]) d_Mo_step_206
          · skip
            have h9 : ¬ (((me pl) / 32) < 8) := fun z => h9 ((nI_ltI (by omega) (by omega)).mpr z)
            refine lv_iload hx hb d_Mo_step_132 (lv_at hl 0 rfl) ?_
            refine lv_bipush (v := nI 19) hx hb d_Mo_step_134 (by decide) ?_
            refine lv_icmp_le (tgt := 146) hx hb d_Mo_step_136 (by decide) (fun h11 => ?_) (fun h11 => ?_)
            · skip
              have h11 : (((me pl) / 32) ≤ 19) := (nI_leI (by omega) (by omega)).mp h11
              refine lv_iload hx hb d_Mo_step_146 (lv_at hl 0 rfl) ?_
              refine lv_bipush (v := nI 31) hx hb d_Mo_step_148 (by decide) ?_
              refine lv_icmp_ne (tgt := 162) hx hb d_Mo_step_150 (by decide) (fun h12 => ?_) (fun h12 => ?_)
              · skip
                have h12 : ¬ (((me pl) / 32) = 31) := fun z => h12 ((nI_eq (by omega) (by omega)).mpr z)
                refine lv_aload_n hx hb d_Mo_step_162 rfl (lv_at hl 6 rfl) ?_
                refine lv_iload hx hb d_Mo_step_163 (lv_at hl 0 rfl) ?_
                refine zgo_v (wr := []) C0 (zrunV (na := 1) (As := [.int (nI ((me pl) / 32))]) (rest := []) C0 hP hD hS [0, 1, 2, 3, 4, 5, 6, 7, 8] rfl rfl (m_Mo_reckon l D ca k H.size ad cd po nu pt st ((pl + 1) % 64) bk me kc ro en (fU pt (((me pl) / 4) % 8)) (fL pt (((me pl) / 4) % 8)) tn tx ia ct md lb wn ((me pl) / 32) (by omega) hn (fU_pos _ _) (fU_le hpt) (fL_pos _ _) (fL_le hpt) (fUL hpt)) (zg_V q642 q644 q830 q7 q645) (by decide +kernel) rfl rfl ⟨by decide, by decide⟩ 0 rfl rfl rfl hl.1 rfl (Nat.le_of_ble_eq_true rfl) d_Mo_step_165 ⟨Nat.zero_le _, Nat.zero_le _⟩) hP hD hS [0, 1, 2, 3, 4, 5, 6, 7, 8] [] rfl rfl (by decide) (by decide) (fun w1 H locs hw hP hD hS => ?_)
                obtain rfl := hw
                have hP : va_P D vCl (wM ad ca cd po (fwN ((me pl) / 32) (fU pt (((me pl) / 4) % 8)) (fL pt (((me pl) / 4) % 8)) nu) pt st (fwC ((me pl) / 32) (fU pt (((me pl) / 4) % 8)) (fL pt (((me pl) / 4) % 8)) nu) ((pl + 1) % 64) bk me kc ro en (fU pt (((me pl) / 4) % 8)) (fL pt (((me pl) / 4) % 8)) tn tx ia ct md lb wn) H := hP
                have hD : va_D A (wM ad ca cd po (fwN ((me pl) / 32) (fU pt (((me pl) / 4) % 8)) (fL pt (((me pl) / 4) % 8)) nu) pt st (fwC ((me pl) / 32) (fU pt (((me pl) / 4) % 8)) (fL pt (((me pl) / 4) % 8)) nu) ((pl + 1) % 64) bk me kc ro en (fU pt (((me pl) / 4) % 8)) (fL pt (((me pl) / 4) % 8)) tn tx ia ct md lb wn) := hD
                refine lv_goto (tgt := 206) hx hb d_Mo_step_168 (by decide) ?_
                exact zret_v C0 hr hAe hP hD hS (by have hw4 : me pl % 4 = 2 := (by omega); simp only [dwM, hw4]) d_Mo_step_206
              · skip
                have h12 : (((me pl) / 32) = 31) := (nI_eq (by omega) (by omega)).mp h12
                refine lv_aload_n hx hb d_Mo_step_153 rfl (lv_at hl 6 rfl) ?_
                refine lv_iload hx hb d_Mo_step_154 (lv_at hl 0 rfl) ?_
                refine zgo_v (wr := []) C0 (zrunV (na := 1) (As := [.int (nI ((me pl) / 32))]) (rest := []) C0 hP hD hS [0, 1, 2, 3, 4, 5, 6, 7, 8] rfl rfl (m_Mo_move l D ca k H.size ad cd po nu pt st ((pl + 1) % 64) bk me kc ro en (fU pt (((me pl) / 4) % 8)) (fL pt (((me pl) / 4) % 8)) tn tx ia ct md lb wn ((me pl) / 32) (by omega) hn (fU_pos _ _) (fU_le hpt) (fL_pos _ _) (fL_le hpt) (fUL hpt)) (zg_V q626 q628 q826 q7 q629) (by decide +kernel) rfl rfl ⟨by decide, by decide⟩ 0 rfl rfl rfl hl.1 rfl (Nat.le_of_ble_eq_true rfl) d_Mo_step_156 ⟨Nat.zero_le _, Nat.zero_le _⟩) hP hD hS [0, 1, 2, 3, 4, 5, 6, 7, 8] [] rfl rfl (by decide) (by decide) (fun w1 H locs hw hP hD hS => ?_)
                obtain rfl := hw
                have hP : va_P D vCl (wM ad ca cd po (fwN ((me pl) / 32) (fU pt (((me pl) / 4) % 8)) (fL pt (((me pl) / 4) % 8)) nu) pt st (fwC ((me pl) / 32) (fU pt (((me pl) / 4) % 8)) (fL pt (((me pl) / 4) % 8)) nu) ((pl + 1) % 64) bk me kc ro en (fU pt (((me pl) / 4) % 8)) (fL pt (((me pl) / 4) % 8)) tn tx ia ct md lb wn) H := hP
                have hD : va_D A (wM ad ca cd po (fwN ((me pl) / 32) (fU pt (((me pl) / 4) % 8)) (fL pt (((me pl) / 4) % 8)) nu) pt st (fwC ((me pl) / 32) (fU pt (((me pl) / 4) % 8)) (fL pt (((me pl) / 4) % 8)) nu) ((pl + 1) % 64) bk me kc ro en (fU pt (((me pl) / 4) % 8)) (fL pt (((me pl) / 4) % 8)) tn tx ia ct md lb wn) := hD
                refine lv_goto (tgt := 168) hx hb d_Mo_step_159 (by decide) ?_
                refine lv_goto (tgt := 206) hx hb d_Mo_step_168 (by decide) ?_
                exact zret_v C0 hr hAe hP hD hS (by have hw4 : me pl % 4 = 2 := (by omega); simp only [dwM, hw4]) d_Mo_step_206
            · skip
              have h11 : ¬ (((me pl) / 32) ≤ 19) := fun z => h11 ((nI_leI (by omega) (by omega)).mpr z)
              refine lv_iload hx hb d_Mo_step_139 (lv_at hl 0 rfl) ?_
              refine lv_bipush (v := nI 24) hx hb d_Mo_step_141 (by decide) ?_
              refine lv_icmp_lt (tgt := 153) hx hb d_Mo_step_143 (by decide) (fun h15 => ?_) (fun h15 => ?_)
              · skip
                have h15 : (((me pl) / 32) < 24) := (nI_ltI (by omega) (by omega)).mp h15
                refine lv_aload_n hx hb d_Mo_step_153 rfl (lv_at hl 6 rfl) ?_
                refine lv_iload hx hb d_Mo_step_154 (lv_at hl 0 rfl) ?_
                refine zgo_v (wr := []) C0 (zrunV (na := 1) (As := [.int (nI ((me pl) / 32))]) (rest := []) C0 hP hD hS [0, 1, 2, 3, 4, 5, 6, 7, 8] rfl rfl (m_Mo_move l D ca k H.size ad cd po nu pt st ((pl + 1) % 64) bk me kc ro en (fU pt (((me pl) / 4) % 8)) (fL pt (((me pl) / 4) % 8)) tn tx ia ct md lb wn ((me pl) / 32) (by omega) hn (fU_pos _ _) (fU_le hpt) (fL_pos _ _) (fL_le hpt) (fUL hpt)) (zg_V q626 q628 q826 q7 q629) (by decide +kernel) rfl rfl ⟨by decide, by decide⟩ 0 rfl rfl rfl hl.1 rfl (Nat.le_of_ble_eq_true rfl) d_Mo_step_156 ⟨Nat.zero_le _, Nat.zero_le _⟩) hP hD hS [0, 1, 2, 3, 4, 5, 6, 7, 8] [] rfl rfl (by decide) (by decide) (fun w1 H locs hw hP hD hS => ?_)
                obtain rfl := hw
                have hP : va_P D vCl (wM ad ca cd po (fwN ((me pl) / 32) (fU pt (((me pl) / 4) % 8)) (fL pt (((me pl) / 4) % 8)) nu) pt st (fwC ((me pl) / 32) (fU pt (((me pl) / 4) % 8)) (fL pt (((me pl) / 4) % 8)) nu) ((pl + 1) % 64) bk me kc ro en (fU pt (((me pl) / 4) % 8)) (fL pt (((me pl) / 4) % 8)) tn tx ia ct md lb wn) H := hP
                have hD : va_D A (wM ad ca cd po (fwN ((me pl) / 32) (fU pt (((me pl) / 4) % 8)) (fL pt (((me pl) / 4) % 8)) nu) pt st (fwC ((me pl) / 32) (fU pt (((me pl) / 4) % 8)) (fL pt (((me pl) / 4) % 8)) nu) ((pl + 1) % 64) bk me kc ro en (fU pt (((me pl) / 4) % 8)) (fL pt (((me pl) / 4) % 8)) tn tx ia ct md lb wn) := hD
                refine lv_goto (tgt := 168) hx hb d_Mo_step_159 (by decide) ?_
                refine lv_goto (tgt := 206) hx hb d_Mo_step_168 (by decide) ?_
                exact zret_v C0 hr hAe hP hD hS (by have hw4 : me pl % 4 = 2 := (by omega); simp only [dwM, hw4]) d_Mo_step_206
              · skip
                have h15 : ¬ (((me pl) / 32) < 24) := fun z => h15 ((nI_ltI (by omega) (by omega)).mpr z)
                refine lv_iload hx hb d_Mo_step_146 (lv_at hl 0 rfl) ?_
                refine lv_bipush (v := nI 31) hx hb d_Mo_step_148 (by decide) ?_
                refine lv_icmp_ne (tgt := 162) hx hb d_Mo_step_150 (by decide) (fun h17 => ?_) (fun h17 => ?_)
                · skip
                  have h17 : ¬ (((me pl) / 32) = 31) := fun z => h17 ((nI_eq (by omega) (by omega)).mpr z)
                  refine lv_aload_n hx hb d_Mo_step_162 rfl (lv_at hl 6 rfl) ?_
                  refine lv_iload hx hb d_Mo_step_163 (lv_at hl 0 rfl) ?_
                  refine zgo_v (wr := []) C0 (zrunV (na := 1) (As := [.int (nI ((me pl) / 32))]) (rest := []) C0 hP hD hS [0, 1, 2, 3, 4, 5, 6, 7, 8] rfl rfl (m_Mo_reckon l D ca k H.size ad cd po nu pt st ((pl + 1) % 64) bk me kc ro en (fU pt (((me pl) / 4) % 8)) (fL pt (((me pl) / 4) % 8)) tn tx ia ct md lb wn ((me pl) / 32) (by omega) hn (fU_pos _ _) (fU_le hpt) (fL_pos _ _) (fL_le hpt) (fUL hpt)) (zg_V q642 q644 q830 q7 q645) (by decide +kernel) rfl rfl ⟨by decide, by decide⟩ 0 rfl rfl rfl hl.1 rfl (Nat.le_of_ble_eq_true rfl) d_Mo_step_165 ⟨Nat.zero_le _, Nat.zero_le _⟩) hP hD hS [0, 1, 2, 3, 4, 5, 6, 7, 8] [] rfl rfl (by decide) (by decide) (fun w1 H locs hw hP hD hS => ?_)
                  obtain rfl := hw
                  have hP : va_P D vCl (wM ad ca cd po (fwN ((me pl) / 32) (fU pt (((me pl) / 4) % 8)) (fL pt (((me pl) / 4) % 8)) nu) pt st (fwC ((me pl) / 32) (fU pt (((me pl) / 4) % 8)) (fL pt (((me pl) / 4) % 8)) nu) ((pl + 1) % 64) bk me kc ro en (fU pt (((me pl) / 4) % 8)) (fL pt (((me pl) / 4) % 8)) tn tx ia ct md lb wn) H := hP
                  have hD : va_D A (wM ad ca cd po (fwN ((me pl) / 32) (fU pt (((me pl) / 4) % 8)) (fL pt (((me pl) / 4) % 8)) nu) pt st (fwC ((me pl) / 32) (fU pt (((me pl) / 4) % 8)) (fL pt (((me pl) / 4) % 8)) nu) ((pl + 1) % 64) bk me kc ro en (fU pt (((me pl) / 4) % 8)) (fL pt (((me pl) / 4) % 8)) tn tx ia ct md lb wn) := hD
                  refine lv_goto (tgt := 206) hx hb d_Mo_step_168 (by decide) ?_
                  exact zret_v C0 hr hAe hP hD hS (by have hw4 : me pl % 4 = 2 := (by omega); simp only [dwM, hw4]) d_Mo_step_206
                · skip
                  have h17 : (((me pl) / 32) = 31) := (nI_eq (by omega) (by omega)).mp h17
                  refine lv_aload_n hx hb d_Mo_step_153 rfl (lv_at hl 6 rfl) ?_
                  refine lv_iload hx hb d_Mo_step_154 (lv_at hl 0 rfl) ?_
                  refine zgo_v (wr := []) C0 (zrunV (na := 1) (As := [.int (nI ((me pl) / 32))]) (rest := []) C0 hP hD hS [0, 1, 2, 3, 4, 5, 6, 7, 8] rfl rfl (m_Mo_move l D ca k H.size ad cd po nu pt st ((pl + 1) % 64) bk me kc ro en (fU pt (((me pl) / 4) % 8)) (fL pt (((me pl) / 4) % 8)) tn tx ia ct md lb wn ((me pl) / 32) (by omega) hn (fU_pos _ _) (fU_le hpt) (fL_pos _ _) (fL_le hpt) (fUL hpt)) (zg_V q626 q628 q826 q7 q629) (by decide +kernel) rfl rfl ⟨by decide, by decide⟩ 0 rfl rfl rfl hl.1 rfl (Nat.le_of_ble_eq_true rfl) d_Mo_step_156 ⟨Nat.zero_le _, Nat.zero_le _⟩) hP hD hS [0, 1, 2, 3, 4, 5, 6, 7, 8] [] rfl rfl (by decide) (by decide) (fun w1 H locs hw hP hD hS => ?_)
                  obtain rfl := hw
                  have hP : va_P D vCl (wM ad ca cd po (fwN ((me pl) / 32) (fU pt (((me pl) / 4) % 8)) (fL pt (((me pl) / 4) % 8)) nu) pt st (fwC ((me pl) / 32) (fU pt (((me pl) / 4) % 8)) (fL pt (((me pl) / 4) % 8)) nu) ((pl + 1) % 64) bk me kc ro en (fU pt (((me pl) / 4) % 8)) (fL pt (((me pl) / 4) % 8)) tn tx ia ct md lb wn) H := hP
                  have hD : va_D A (wM ad ca cd po (fwN ((me pl) / 32) (fU pt (((me pl) / 4) % 8)) (fL pt (((me pl) / 4) % 8)) nu) pt st (fwC ((me pl) / 32) (fU pt (((me pl) / 4) % 8)) (fL pt (((me pl) / 4) % 8)) nu) ((pl + 1) % 64) bk me kc ro en (fU pt (((me pl) / 4) % 8)) (fL pt (((me pl) / 4) % 8)) tn tx ia ct md lb wn) := hD
                  refine lv_goto (tgt := 168) hx hb d_Mo_step_159 (by decide) ?_
                  refine lv_goto (tgt := 206) hx hb d_Mo_step_168 (by decide) ?_
                  exact zret_v C0 hr hAe hP hD hS (by have hw4 : me pl % 4 = 2 := (by omega); simp only [dwM, hw4]) d_Mo_step_206
      · skip
        have h3 : (((me pl) % 4) = 3) := (nI_eq (by omega) (by omega)).mp h3
        refine lv_iload_n hx hb d_Mo_step_90 rfl (lv_at hl 2 rfl) ?_
        refine lv_if_ne (tgt := 206) hx hb d_Mo_step_91 (by decide) (fun h20 => ?_) (fun h20 => ?_)
        · skip
          have h20 : ¬ (cy = 0) := fun z => h20 (by rw [z]; rfl)
          exact zret_v C0 hr hAe hP hD hS (by have hw4 : me pl % 4 = 3 := (by omega); simp only [dwM, hw4]; rw [if_neg h20]) d_Mo_step_206
        · skip
          have h20 : (cy = 0) := (nI_eq (by omega) (by decide)).mp (h20.trans nI_0.symm)
          refine lv_aload_n hx hb d_Mo_step_94 rfl (lv_at hl 5 rfl) ?_
          refine lv_iload hx hb d_Mo_step_95 (lv_at hl 0 rfl) ?_
          refine va_put (D := D) (ci := 5) (v := .int (nI (((me pl) / 4) % 64))) (ty := .int) (C := RMo) (T := TMo) (N := 21) hx hb ht inMo tyMo tyMo_ok nmMo hown hK hP hD hS 0 rfl rfl 6 (by decide) (ht _ q552) (fun _ h9 => h9) rfl (by decide +kernel) rfl rfl (Nat.le_of_ble_eq_true rfl) d_Mo_step_97 (fun H locs hP hD hS => ?_)
          have hP : va_P D vCl (wM ad ca cd po nu pt st 0 (((me pl) / 4) % 64) bk me kc ro en un li tn tx ia ct md lb wn) H := hP
          have hD : va_D A (wM ad ca cd po nu pt st 0 (((me pl) / 4) % 64) bk me kc ro en un li tn tx ia ct md lb wn) := hD
          refine lv_goto (tgt := 206) hx hb d_Mo_step_100 (by decide) ?_
          exact zret_v C0 hr hAe hP hD hS (by have hw4 : me pl % 4 = 3 := (by omega); simp only [dwM, hw4]; rw [if_pos h20]) d_Mo_step_206
    · skip
      have h2 : (((me pl) % 4) = 1) := (nI_eq (by omega) (by omega)).mp h2
      refine lv_aload_n hx hb d_Mo_step_67 rfl (lv_at hl 5 rfl) ?_
      refine lv_aload_n hx hb d_Mo_step_68 rfl (lv_at hl 5 rfl) ?_
      refine va_get (D := D) (ci := 5) (v := .int (nI ((pl + 1) % 64))) (C := RMo) (T := TMo) (N := 21) hx hb ht inMo hown hK hP 0 rfl rfl 6 (by decide) (ht _ q552) (fun _ h9 => h9) rfl d_Mo_step_69 ?_
      refine va_put (D := D) (ci := 5) (v := .int (nI ((pl + 1) % 64))) (ty := .int) (C := RMo) (T := TMo) (N := 21) hx hb ht inMo tyMo tyMo_ok nmMo hown hK hP hD hS 0 rfl rfl 7 (by decide) (ht _ q553) (fun _ h9 => h9) rfl (by decide +kernel) rfl rfl (Nat.le_of_ble_eq_true rfl) d_Mo_step_72 (fun H locs hP hD hS => ?_)
      have hP : va_P D vCl (wM ad ca cd po nu pt st 0 ((pl + 1) % 64) ((pl + 1) % 64) me kc ro en un li tn tx ia ct md lb wn) H := hP
      have hD : va_D A (wM ad ca cd po nu pt st 0 ((pl + 1) % 64) ((pl + 1) % 64) me kc ro en un li tn tx ia ct md lb wn) := hD
      refine lv_aload_n hx hb d_Mo_step_75 rfl (lv_at hl 5 rfl) ?_
      refine lv_iload hx hb d_Mo_step_76 (lv_at hl 0 rfl) ?_
      refine va_put (D := D) (ci := 5) (v := .int (nI (((me pl) / 4) % 64))) (ty := .int) (C := RMo) (T := TMo) (N := 21) hx hb ht inMo tyMo tyMo_ok nmMo hown hK hP hD hS 0 rfl rfl 6 (by decide) (ht _ q552) (fun _ h9 => h9) rfl (by decide +kernel) rfl rfl (Nat.le_of_ble_eq_true rfl) d_Mo_step_78 (fun H locs hP hD hS => ?_)
      have hP : va_P D vCl (wM ad ca cd po nu pt st 0 (((me pl) / 4) % 64) ((pl + 1) % 64) me kc ro en un li tn tx ia ct md lb wn) H := hP
      have hD : va_D A (wM ad ca cd po nu pt st 0 (((me pl) / 4) % 64) ((pl + 1) % 64) me kc ro en un li tn tx ia ct md lb wn) := hD
      refine lv_goto (tgt := 206) hx hb d_Mo_step_81 (by decide) ?_
      exact zret_v C0 hr hAe hP hD hS (by have hw4 : me pl % 4 = 1 := (by omega); simp only [dwM, hw4]) d_Mo_step_206
  · skip
    have h1 : (pl = 63) := (nI_eq (by omega) (by omega)).mp h1
    refine lv_iconst (v := nI 0) hx hb d_Mo_step_30 (by decide) ?_
    refine lv_goto (tgt := 40) hx hb d_Mo_step_31 (by decide) ?_
    refine zti (y := nI ((pl + 1) % 64)) (congrArg nI (by omega)) ?_
    refine va_put (D := D) (ci := 5) (v := .int (nI ((pl + 1) % 64))) (ty := .int) (C := RMo) (T := TMo) (N := 21) hx hb ht inMo tyMo tyMo_ok nmMo hown hK hP hD hS 0 rfl rfl 6 (by decide) (ht _ q552) (fun _ h9 => h9) rfl (by decide +kernel) rfl rfl (Nat.le_of_ble_eq_true rfl) d_Mo_step_40 (fun H locs hP hD hS => ?_)
    have hP : va_P D vCl (wM ad ca cd po nu pt st cy ((pl + 1) % 64) bk me kc ro en un li tn tx ia ct md lb wn) H := hP
    have hD : va_D A (wM ad ca cd po nu pt st cy ((pl + 1) % 64) bk me kc ro en un li tn tx ia ct md lb wn) := hD
    refine lv_aload_n hx hb d_Mo_step_43 rfl (lv_at hl 3 rfl) ?_
    refine lv_iconst (v := nI 0) hx hb d_Mo_step_44 (by decide) ?_
    refine va_put (D := D) (ci := 5) (v := .int (nI 0)) (ty := .boolean) (C := RMo) (T := TMo) (N := 21) hx hb ht inMo tyMo tyMo_ok nmMo hown hK hP hD hS 0 rfl rfl 5 (by decide) (ht _ q551) (fun _ h9 => h9) rfl (by decide +kernel) (zbn (by omega)) (zbf (by omega)) (Nat.le_of_ble_eq_true rfl) d_Mo_step_45 (fun H locs hP hD hS => ?_)
    have hP : va_P D vCl (wM ad ca cd po nu pt st 0 ((pl + 1) % 64) bk me kc ro en un li tn tx ia ct md lb wn) H := hP
    have hD : va_D A (wM ad ca cd po nu pt st 0 ((pl + 1) % 64) bk me kc ro en un li tn tx ia ct md lb wn) := hD
    refine lv_iload_n hx hb d_Mo_step_48 rfl (lv_at hl 2 rfl) ?_
    refine lv_iconst (v := nI 4) hx hb d_Mo_step_49 (by decide) ?_
    refine lv_irem hx hb d_Mo_step_50 (nI_ne0 (by omega) (by omega)) ?_
    refine zti (y := nI ((me pl) % 4)) (pk_rem (by omega) (by omega) (by omega)) ?_
    refine lv_istore hx hb d_Mo_step_51 hl (by decide) rfl (fun ls hl => ?_)
    have hl : lv_has ls 7 [(4, .int (nI ((me pl) % 4))), (3, .int (nI cy)), (2, .int (nI pl)), (1, .int (nI (me pl))), (0, .ref (ad 12))] := hl
    refine lv_iload_n hx hb d_Mo_step_53 rfl (lv_at hl 3 rfl) ?_
    refine lv_iconst (v := nI 4) hx hb d_Mo_step_54 (by decide) ?_
    refine lv_idiv hx hb d_Mo_step_55 (nI_ne0 (by omega) (by omega)) ?_
    refine zti (y := nI ((me pl) / 4)) (pk_div (by omega) (by omega) (by omega)) ?_
    refine lv_bipush (v := nI 64) hx hb d_Mo_step_56 (by decide) ?_
    refine lv_irem hx hb d_Mo_step_58 (nI_ne0 (by omega) (by omega)) ?_
    refine zti (y := nI (((me pl) / 4) % 64)) (pk_rem (by omega) (by omega) (by omega)) ?_
    refine lv_istore hx hb d_Mo_step_59 hl (by decide) rfl (fun ls hl => ?_)
    have hl : lv_has ls 7 [(5, .int (nI (((me pl) / 4) % 64))), (4, .int (nI ((me pl) % 4))), (3, .int (nI cy)), (2, .int (nI pl)), (1, .int (nI (me pl))), (0, .ref (ad 12))] := hl
    refine lv_iload hx hb d_Mo_step_61 (lv_at hl 1 rfl) ?_
    refine lv_iconst (v := nI 1) hx hb d_Mo_step_63 (by decide) ?_
    refine lv_icmp_ne (tgt := 84) hx hb d_Mo_step_64 (by decide) (fun h21 => ?_) (fun h21 => ?_)
    · skip
      have h21 : ¬ (((me pl) % 4) = 1) := fun z => h21 ((nI_eq (by omega) (by omega)).mpr z)
      refine lv_iload hx hb d_Mo_step_84 (lv_at hl 1 rfl) ?_
      refine lv_iconst (v := nI 3) hx hb d_Mo_step_86 (by decide) ?_
      refine lv_icmp_ne (tgt := 103) hx hb d_Mo_step_87 (by decide) (fun h22 => ?_) (fun h22 => ?_)
      · skip
        have h22 : ¬ (((me pl) % 4) = 3) := fun z => h22 ((nI_eq (by omega) (by omega)).mpr z)
        refine lv_iload hx hb d_Mo_step_103 (lv_at hl 1 rfl) ?_
        refine lv_iconst (v := nI 2) hx hb d_Mo_step_105 (by decide) ?_
        refine lv_icmp_ne (tgt := 171) hx hb d_Mo_step_106 (by decide) (fun h23 => ?_) (fun h23 => ?_)
        · skip
          have h23 : ¬ (((me pl) % 4) = 2) := fun z => h23 ((nI_eq (by omega) (by omega)).mpr z)
          refine lv_iload_n hx hb d_Mo_step_171 rfl (lv_at hl 4 rfl) ?_
          refine lv_iconst (v := nI 4) hx hb d_Mo_step_172 (by decide) ?_
          refine lv_idiv hx hb d_Mo_step_173 (nI_ne0 (by omega) (by omega)) ?_
          refine zti (y := nI ((me pl) / 4)) (pk_div (by omega) (by omega) (by omega)) ?_
          refine lv_bipush (v := nI 16) hx hb d_Mo_step_174 (by decide) ?_
          refine lv_irem hx hb d_Mo_step_176 (nI_ne0 (by omega) (by omega)) ?_
          refine zti (y := nI (((me pl) / 4) % 16)) (pk_rem (by omega) (by omega) (by omega)) ?_
          refine lv_istore hx hb d_Mo_step_177 hl (by decide) rfl (fun ls hl => ?_)
          have hl : lv_has ls 7 [(6, .int (nI (((me pl) / 4) % 16))), (5, .int (nI (((me pl) / 4) % 64))), (4, .int (nI ((me pl) % 4))), (3, .int (nI cy)), (2, .int (nI pl)), (1, .int (nI (me pl))), (0, .ref (ad 12))] := hl
          refine lv_iload hx hb d_Mo_step_179 (lv_at hl 0 rfl) ?_
          refine lv_bipush (v := nI 9) hx hb d_Mo_step_181 (by decide) ?_
          refine lv_icmp_ge (tgt := 199) hx hb d_Mo_step_183 (by decide) (fun h24 => ?_) (fun h24 => ?_)
          · skip
            have h24 : (9 ≤ (((me pl) / 4) % 16)) := (nI_leI (by omega) (by omega)).mp h24
            refine lv_aload_n hx hb d_Mo_step_199 rfl (lv_at hl 6 rfl) ?_
            refine lv_iload hx hb d_Mo_step_200 (lv_at hl 0 rfl) ?_
            refine lv_iload_n hx hb d_Mo_step_202 rfl (lv_at hl 4 rfl) ?_
            refine zgo_v (wr := []) C0 (zrunV (na := 2) (As := [.int (nI (((me pl) / 4) % 16)), .int (nI pl)]) (rest := []) C0 hP hD hS [0, 1, 2, 3, 4, 5, 6, 7, 8] rfl rfl (m_Mo_turn l D ca k H.size ad cd po nu pt st 0 ((pl + 1) % 64) bk me kc ro en un li tn tx ia ct md lb wn pl (((me pl) / 4) % 16) (me pl / 64) (by omega) (by omega) (by omega) (by omega) (by omega) (by assumption) hn hpo) (zg_V q654 q656 q833 q7 q657) (by decide +kernel) rfl rfl ⟨by decide, by decide⟩ 0 rfl rfl rfl hl.1 rfl (Nat.le_of_ble_eq_true rfl) d_Mo_step_203 ⟨Nat.zero_le _, Nat.zero_le _⟩) hP hD hS [0, 1, 2, 3, 4, 5, 6, 7, 8] [] rfl rfl (by decide) (by decide) (fun w1 H locs hw hP hD hS => ?_)
            obtain rfl := hw
            have hP : va_P D vCl (wM ad ca cd po ((plM pl (((me pl) / 4) % 16) (me pl / 64) (me, nu, ro, un, li, pt, st, 0, (pl + 1) % 64, bk, en, kc)).2.1) ((plM pl (((me pl) / 4) % 16) (me pl / 64) (me, nu, ro, un, li, pt, st, 0, (pl + 1) % 64, bk, en, kc)).2.2.2.2.2.1) ((plM pl (((me pl) / 4) % 16) (me pl / 64) (me, nu, ro, un, li, pt, st, 0, (pl + 1) % 64, bk, en, kc)).2.2.2.2.2.2.1) ((plM pl (((me pl) / 4) % 16) (me pl / 64) (me, nu, ro, un, li, pt, st, 0, (pl + 1) % 64, bk, en, kc)).2.2.2.2.2.2.2.1) ((plM pl (((me pl) / 4) % 16) (me pl / 64) (me, nu, ro, un, li, pt, st, 0, (pl + 1) % 64, bk, en, kc)).2.2.2.2.2.2.2.2.1) ((plM pl (((me pl) / 4) % 16) (me pl / 64) (me, nu, ro, un, li, pt, st, 0, (pl + 1) % 64, bk, en, kc)).2.2.2.2.2.2.2.2.2.1) ((plM pl (((me pl) / 4) % 16) (me pl / 64) (me, nu, ro, un, li, pt, st, 0, (pl + 1) % 64, bk, en, kc)).1) ((plM pl (((me pl) / 4) % 16) (me pl / 64) (me, nu, ro, un, li, pt, st, 0, (pl + 1) % 64, bk, en, kc)).2.2.2.2.2.2.2.2.2.2.2) ((plM pl (((me pl) / 4) % 16) (me pl / 64) (me, nu, ro, un, li, pt, st, 0, (pl + 1) % 64, bk, en, kc)).2.2.1) ((plM pl (((me pl) / 4) % 16) (me pl / 64) (me, nu, ro, un, li, pt, st, 0, (pl + 1) % 64, bk, en, kc)).2.2.2.2.2.2.2.2.2.2.1) ((plM pl (((me pl) / 4) % 16) (me pl / 64) (me, nu, ro, un, li, pt, st, 0, (pl + 1) % 64, bk, en, kc)).2.2.2.1) ((plM pl (((me pl) / 4) % 16) (me pl / 64) (me, nu, ro, un, li, pt, st, 0, (pl + 1) % 64, bk, en, kc)).2.2.2.2.1) tn tx ia ct md lb wn) H := hP
            have hD : va_D A (wM ad ca cd po ((plM pl (((me pl) / 4) % 16) (me pl / 64) (me, nu, ro, un, li, pt, st, 0, (pl + 1) % 64, bk, en, kc)).2.1) ((plM pl (((me pl) / 4) % 16) (me pl / 64) (me, nu, ro, un, li, pt, st, 0, (pl + 1) % 64, bk, en, kc)).2.2.2.2.2.1) ((plM pl (((me pl) / 4) % 16) (me pl / 64) (me, nu, ro, un, li, pt, st, 0, (pl + 1) % 64, bk, en, kc)).2.2.2.2.2.2.1) ((plM pl (((me pl) / 4) % 16) (me pl / 64) (me, nu, ro, un, li, pt, st, 0, (pl + 1) % 64, bk, en, kc)).2.2.2.2.2.2.2.1) ((plM pl (((me pl) / 4) % 16) (me pl / 64) (me, nu, ro, un, li, pt, st, 0, (pl + 1) % 64, bk, en, kc)).2.2.2.2.2.2.2.2.1) ((plM pl (((me pl) / 4) % 16) (me pl / 64) (me, nu, ro, un, li, pt, st, 0, (pl + 1) % 64, bk, en, kc)).2.2.2.2.2.2.2.2.2.1) ((plM pl (((me pl) / 4) % 16) (me pl / 64) (me, nu, ro, un, li, pt, st, 0, (pl + 1) % 64, bk, en, kc)).1) ((plM pl (((me pl) / 4) % 16) (me pl / 64) (me, nu, ro, un, li, pt, st, 0, (pl + 1) % 64, bk, en, kc)).2.2.2.2.2.2.2.2.2.2.2) ((plM pl (((me pl) / 4) % 16) (me pl / 64) (me, nu, ro, un, li, pt, st, 0, (pl + 1) % 64, bk, en, kc)).2.2.1) ((plM pl (((me pl) / 4) % 16) (me pl / 64) (me, nu, ro, un, li, pt, st, 0, (pl + 1) % 64, bk, en, kc)).2.2.2.2.2.2.2.2.2.2.1) ((plM pl (((me pl) / 4) % 16) (me pl / 64) (me, nu, ro, un, li, pt, st, 0, (pl + 1) % 64, bk, en, kc)).2.2.2.1) ((plM pl (((me pl) / 4) % 16) (me pl / 64) (me, nu, ro, un, li, pt, st, 0, (pl + 1) % 64, bk, en, kc)).2.2.2.2.1) tn tx ia ct md lb wn) := hD
            exact zret_v C0 hr hAe hP hD hS (by have hw4 : me pl % 4 = 0 := (by omega); simp only [dwM, hw4]) d_Mo_step_206
          · skip
            have h24 : ¬ (9 ≤ (((me pl) / 4) % 16)) := fun z => h24 ((nI_leI (by omega) (by omega)).mpr z)
            refine lv_aload_n hx hb d_Mo_step_186 rfl (lv_at hl 6 rfl) ?_
            refine lv_iload hx hb d_Mo_step_187 (lv_at hl 0 rfl) ?_
            refine lv_iload_n hx hb d_Mo_step_189 rfl (lv_at hl 5 rfl) ?_
            refine lv_bipush (v := nI 64) hx hb d_Mo_step_190 (by decide) ?_
            refine lv_idiv hx hb d_Mo_step_192 (nI_ne0 (by omega) (by omega)) ?_
            refine zti (y := nI ((me pl) / 64)) (pk_div (by omega) (by omega) (by omega)) ?_
            refine zgo_v (wr := []) C0 (zrunV (na := 2) (As := [.int (nI (((me pl) / 4) % 16)), .int (nI ((me pl) / 64))]) (rest := []) C0 hP hD hS [0, 1, 2, 3, 4, 5, 6, 7, 8] rfl rfl (m_Mo_mark l D ca k H.size ad cd po nu pt st 0 ((pl + 1) % 64) bk me kc ro en un li tn tx ia ct md lb wn pl (((me pl) / 4) % 16) (me pl / 64) (by omega) (by omega) (by omega) (by omega) (by omega) (by assumption) hn hpo) (zg_V q650 q652 q832 q7 q653) (by decide +kernel) rfl rfl ⟨by decide, by decide⟩ 0 rfl rfl rfl hl.1 rfl (Nat.le_of_ble_eq_true rfl) d_Mo_step_193 ⟨Nat.zero_le _, Nat.zero_le _⟩) hP hD hS [0, 1, 2, 3, 4, 5, 6, 7, 8] [] rfl rfl (by decide) (by decide) (fun w1 H locs hw hP hD hS => ?_)
            obtain rfl := hw
            have hP : va_P D vCl (wM ad ca cd po ((plM pl (((me pl) / 4) % 16) (me pl / 64) (me, nu, ro, un, li, pt, st, 0, (pl + 1) % 64, bk, en, kc)).2.1) ((plM pl (((me pl) / 4) % 16) (me pl / 64) (me, nu, ro, un, li, pt, st, 0, (pl + 1) % 64, bk, en, kc)).2.2.2.2.2.1) ((plM pl (((me pl) / 4) % 16) (me pl / 64) (me, nu, ro, un, li, pt, st, 0, (pl + 1) % 64, bk, en, kc)).2.2.2.2.2.2.1) ((plM pl (((me pl) / 4) % 16) (me pl / 64) (me, nu, ro, un, li, pt, st, 0, (pl + 1) % 64, bk, en, kc)).2.2.2.2.2.2.2.1) ((plM pl (((me pl) / 4) % 16) (me pl / 64) (me, nu, ro, un, li, pt, st, 0, (pl + 1) % 64, bk, en, kc)).2.2.2.2.2.2.2.2.1) ((plM pl (((me pl) / 4) % 16) (me pl / 64) (me, nu, ro, un, li, pt, st, 0, (pl + 1) % 64, bk, en, kc)).2.2.2.2.2.2.2.2.2.1) ((plM pl (((me pl) / 4) % 16) (me pl / 64) (me, nu, ro, un, li, pt, st, 0, (pl + 1) % 64, bk, en, kc)).1) ((plM pl (((me pl) / 4) % 16) (me pl / 64) (me, nu, ro, un, li, pt, st, 0, (pl + 1) % 64, bk, en, kc)).2.2.2.2.2.2.2.2.2.2.2) ((plM pl (((me pl) / 4) % 16) (me pl / 64) (me, nu, ro, un, li, pt, st, 0, (pl + 1) % 64, bk, en, kc)).2.2.1) ((plM pl (((me pl) / 4) % 16) (me pl / 64) (me, nu, ro, un, li, pt, st, 0, (pl + 1) % 64, bk, en, kc)).2.2.2.2.2.2.2.2.2.2.1) ((plM pl (((me pl) / 4) % 16) (me pl / 64) (me, nu, ro, un, li, pt, st, 0, (pl + 1) % 64, bk, en, kc)).2.2.2.1) ((plM pl (((me pl) / 4) % 16) (me pl / 64) (me, nu, ro, un, li, pt, st, 0, (pl + 1) % 64, bk, en, kc)).2.2.2.2.1) tn tx ia ct md lb wn) H := hP
            have hD : va_D A (wM ad ca cd po ((plM pl (((me pl) / 4) % 16) (me pl / 64) (me, nu, ro, un, li, pt, st, 0, (pl + 1) % 64, bk, en, kc)).2.1) ((plM pl (((me pl) / 4) % 16) (me pl / 64) (me, nu, ro, un, li, pt, st, 0, (pl + 1) % 64, bk, en, kc)).2.2.2.2.2.1) ((plM pl (((me pl) / 4) % 16) (me pl / 64) (me, nu, ro, un, li, pt, st, 0, (pl + 1) % 64, bk, en, kc)).2.2.2.2.2.2.1) ((plM pl (((me pl) / 4) % 16) (me pl / 64) (me, nu, ro, un, li, pt, st, 0, (pl + 1) % 64, bk, en, kc)).2.2.2.2.2.2.2.1) ((plM pl (((me pl) / 4) % 16) (me pl / 64) (me, nu, ro, un, li, pt, st, 0, (pl + 1) % 64, bk, en, kc)).2.2.2.2.2.2.2.2.1) ((plM pl (((me pl) / 4) % 16) (me pl / 64) (me, nu, ro, un, li, pt, st, 0, (pl + 1) % 64, bk, en, kc)).2.2.2.2.2.2.2.2.2.1) ((plM pl (((me pl) / 4) % 16) (me pl / 64) (me, nu, ro, un, li, pt, st, 0, (pl + 1) % 64, bk, en, kc)).1) ((plM pl (((me pl) / 4) % 16) (me pl / 64) (me, nu, ro, un, li, pt, st, 0, (pl + 1) % 64, bk, en, kc)).2.2.2.2.2.2.2.2.2.2.2) ((plM pl (((me pl) / 4) % 16) (me pl / 64) (me, nu, ro, un, li, pt, st, 0, (pl + 1) % 64, bk, en, kc)).2.2.1) ((plM pl (((me pl) / 4) % 16) (me pl / 64) (me, nu, ro, un, li, pt, st, 0, (pl + 1) % 64, bk, en, kc)).2.2.2.2.2.2.2.2.2.2.1) ((plM pl (((me pl) / 4) % 16) (me pl / 64) (me, nu, ro, un, li, pt, st, 0, (pl + 1) % 64, bk, en, kc)).2.2.2.1) ((plM pl (((me pl) / 4) % 16) (me pl / 64) (me, nu, ro, un, li, pt, st, 0, (pl + 1) % 64, bk, en, kc)).2.2.2.2.1) tn tx ia ct md lb wn) := hD
            refine lv_goto (tgt := 206) hx hb d_Mo_step_196 (by decide) ?_
            exact zret_v C0 hr hAe hP hD hS (by have hw4 : me pl % 4 = 0 := (by omega); simp only [dwM, hw4]) d_Mo_step_206
        · skip
          have h23 : (((me pl) % 4) = 2) := (nI_eq (by omega) (by omega)).mp h23
          refine lv_aload_n hx hb d_Mo_step_109 rfl (lv_at hl 5 rfl) ?_
          refine lv_iload_n hx hb d_Mo_step_110 rfl (lv_at hl 4 rfl) ?_
          refine lv_iconst (v := nI 4) hx hb d_Mo_step_111 (by decide) ?_
          refine lv_idiv hx hb d_Mo_step_112 (nI_ne0 (by omega) (by omega)) ?_
          refine zti (y := nI ((me pl) / 4)) (pk_div (by omega) (by omega) (by omega)) ?_
          refine lv_bipush (v := nI 8) hx hb d_Mo_step_113 (by decide) ?_
          refine lv_irem hx hb d_Mo_step_115 (nI_ne0 (by omega) (by omega)) ?_
          refine zti (y := nI (((me pl) / 4) % 8)) (pk_rem (by omega) (by omega) (by omega)) ?_
          refine zgo_v (wr := []) C0 (zrunV (na := 1) (As := [.int (nI (((me pl) / 4) % 8))]) (rest := []) C0 hP hD hS [0, 1, 2, 3, 4, 5, 6, 7, 8] rfl rfl (m_Mo_field l D ca k H.size ad cd po nu pt st 0 ((pl + 1) % 64) bk me kc ro en un li tn tx ia ct md lb wn (((me pl) / 4) % 8) (by omega) (by omega) hpo) (zg_V q622 q624 q825 q7 q625) (by decide +kernel) rfl rfl ⟨by decide, by decide⟩ 0 rfl rfl rfl hl.1 rfl (Nat.le_of_ble_eq_true rfl) d_Mo_step_116 ⟨Nat.zero_le _, Nat.zero_le _⟩) hP hD hS [0, 1, 2, 3, 4, 5, 6, 7, 8] [] rfl rfl (by decide) (by decide) (fun w1 H locs hw hP hD hS => ?_)
          obtain rfl := hw
          have hP : va_P D vCl (wM ad ca cd po nu pt st 0 ((pl + 1) % 64) bk me kc ro en (fU pt (((me pl) / 4) % 8)) (fL pt (((me pl) / 4) % 8)) tn tx ia ct md lb wn) H := hP
          have hD : va_D A (wM ad ca cd po nu pt st 0 ((pl + 1) % 64) bk me kc ro en (fU pt (((me pl) / 4) % 8)) (fL pt (((me pl) / 4) % 8)) tn tx ia ct md lb wn) := hD
          refine lv_iload_n hx hb d_Mo_step_119 rfl (lv_at hl 4 rfl) ?_
          refine lv_bipush (v := nI 32) hx hb d_Mo_step_120 (by decide) ?_
          refine lv_idiv hx hb d_Mo_step_122 (nI_ne0 (by omega) (by omega)) ?_
          refine zti (y := nI ((me pl) / 32)) (pk_div (by omega) (by omega) (by omega)) ?_
          refine lv_istore hx hb d_Mo_step_123 hl (by decide) rfl (fun ls hl => ?_)
          have hl : lv_has ls 7 [(6, .int (nI ((me pl) / 32))), (5, .int (nI (((me pl) / 4) % 64))), (4, .int (nI ((me pl) % 4))), (3, .int (nI cy)), (2, .int (nI pl)), (1, .int (nI (me pl))), (0, .ref (ad 12))] := hl
          refine lv_iload hx hb d_Mo_step_125 (lv_at hl 0 rfl) ?_
          refine lv_bipush (v := nI 8) hx hb d_Mo_step_127 (by decide) ?_
          refine lv_icmp_lt (tgt := 153) hx hb d_Mo_step_129 (by decide) (fun h28 => ?_) (fun h28 => ?_)
          · skip
            have h28 : (((me pl) / 32) < 8) := (nI_ltI (by omega) (by omega)).mp h28
            refine lv_aload_n hx hb d_Mo_step_153 rfl (lv_at hl 6 rfl) ?_
            refine lv_iload hx hb d_Mo_step_154 (lv_at hl 0 rfl) ?_
            refine zgo_v (wr := []) C0 (zrunV (na := 1) (As := [.int (nI ((me pl) / 32))]) (rest := []) C0 hP hD hS [0, 1, 2, 3, 4, 5, 6, 7, 8] rfl rfl (m_Mo_move l D ca k H.size ad cd po nu pt st ((pl + 1) % 64) bk me kc ro en (fU pt (((me pl) / 4) % 8)) (fL pt (((me pl) / 4) % 8)) tn tx ia ct md lb wn ((me pl) / 32) (by omega) hn (fU_pos _ _) (fU_le hpt) (fL_pos _ _) (fL_le hpt) (fUL hpt)) (zg_V q626 q628 q826 q7 q629) (by decide +kernel) rfl rfl ⟨by decide, by decide⟩ 0 rfl rfl rfl hl.1 rfl (Nat.le_of_ble_eq_true rfl) d_Mo_step_156 ⟨Nat.zero_le _, Nat.zero_le _⟩) hP hD hS [0, 1, 2, 3, 4, 5, 6, 7, 8] [] rfl rfl (by decide) (by decide) (fun w1 H locs hw hP hD hS => ?_)
            obtain rfl := hw
            have hP : va_P D vCl (wM ad ca cd po (fwN ((me pl) / 32) (fU pt (((me pl) / 4) % 8)) (fL pt (((me pl) / 4) % 8)) nu) pt st (fwC ((me pl) / 32) (fU pt (((me pl) / 4) % 8)) (fL pt (((me pl) / 4) % 8)) nu) ((pl + 1) % 64) bk me kc ro en (fU pt (((me pl) / 4) % 8)) (fL pt (((me pl) / 4) % 8)) tn tx ia ct md lb wn) H := hP
            have hD : va_D A (wM ad ca cd po (fwN ((me pl) / 32) (fU pt (((me pl) / 4) % 8)) (fL pt (((me pl) / 4) % 8)) nu) pt st (fwC ((me pl) / 32) (fU pt (((me pl) / 4) % 8)) (fL pt (((me pl) / 4) % 8)) nu) ((pl + 1) % 64) bk me kc ro en (fU pt (((me pl) / 4) % 8)) (fL pt (((me pl) / 4) % 8)) tn tx ia ct md lb wn) := hD
            refine lv_goto (tgt := 168) hx hb d_Mo_step_159 (by decide) ?_
            refine lv_goto (tgt := 206) hx hb d_Mo_step_168 (by decide) ?_
            exact zret_v C0 hr hAe hP hD hS (by have hw4 : me pl % 4 = 2 := (by omega); simp only [dwM, hw4]) d_Mo_step_206
          · skip
            have h28 : ¬ (((me pl) / 32) < 8) := fun z => h28 ((nI_ltI (by omega) (by omega)).mpr z)
            refine lv_iload hx hb d_Mo_step_132 (lv_at hl 0 rfl) ?_
            refine lv_bipush (v := nI 19) hx hb d_Mo_step_134 (by decide) ?_
            refine lv_icmp_le (tgt := 146) hx hb d_Mo_step_136 (by decide) (fun h30 => ?_) (fun h30 => ?_)
            · skip
              have h30 : (((me pl) / 32) ≤ 19) := (nI_leI (by omega) (by omega)).mp h30
              refine lv_iload hx hb d_Mo_step_146 (lv_at hl 0 rfl) ?_
              refine lv_bipush (v := nI 31) hx hb d_Mo_step_148 (by decide) ?_
              refine lv_icmp_ne (tgt := 162) hx hb d_Mo_step_150 (by decide) (fun h31 => ?_) (fun h31 => ?_)
              · skip
                have h31 : ¬ (((me pl) / 32) = 31) := fun z => h31 ((nI_eq (by omega) (by omega)).mpr z)
                refine lv_aload_n hx hb d_Mo_step_162 rfl (lv_at hl 6 rfl) ?_
                refine lv_iload hx hb d_Mo_step_163 (lv_at hl 0 rfl) ?_
                refine zgo_v (wr := []) C0 (zrunV (na := 1) (As := [.int (nI ((me pl) / 32))]) (rest := []) C0 hP hD hS [0, 1, 2, 3, 4, 5, 6, 7, 8] rfl rfl (m_Mo_reckon l D ca k H.size ad cd po nu pt st ((pl + 1) % 64) bk me kc ro en (fU pt (((me pl) / 4) % 8)) (fL pt (((me pl) / 4) % 8)) tn tx ia ct md lb wn ((me pl) / 32) (by omega) hn (fU_pos _ _) (fU_le hpt) (fL_pos _ _) (fL_le hpt) (fUL hpt)) (zg_V q642 q644 q830 q7 q645) (by decide +kernel) rfl rfl ⟨by decide, by decide⟩ 0 rfl rfl rfl hl.1 rfl (Nat.le_of_ble_eq_true rfl) d_Mo_step_165 ⟨Nat.zero_le _, Nat.zero_le _⟩) hP hD hS [0, 1, 2, 3, 4, 5, 6, 7, 8] [] rfl rfl (by decide) (by decide) (fun w1 H locs hw hP hD hS => ?_)
                obtain rfl := hw
                have hP : va_P D vCl (wM ad ca cd po (fwN ((me pl) / 32) (fU pt (((me pl) / 4) % 8)) (fL pt (((me pl) / 4) % 8)) nu) pt st (fwC ((me pl) / 32) (fU pt (((me pl) / 4) % 8)) (fL pt (((me pl) / 4) % 8)) nu) ((pl + 1) % 64) bk me kc ro en (fU pt (((me pl) / 4) % 8)) (fL pt (((me pl) / 4) % 8)) tn tx ia ct md lb wn) H := hP
                have hD : va_D A (wM ad ca cd po (fwN ((me pl) / 32) (fU pt (((me pl) / 4) % 8)) (fL pt (((me pl) / 4) % 8)) nu) pt st (fwC ((me pl) / 32) (fU pt (((me pl) / 4) % 8)) (fL pt (((me pl) / 4) % 8)) nu) ((pl + 1) % 64) bk me kc ro en (fU pt (((me pl) / 4) % 8)) (fL pt (((me pl) / 4) % 8)) tn tx ia ct md lb wn) := hD
                refine lv_goto (tgt := 206) hx hb d_Mo_step_168 (by decide) ?_
                exact zret_v C0 hr hAe hP hD hS (by have hw4 : me pl % 4 = 2 := (by omega); simp only [dwM, hw4]) d_Mo_step_206
              · skip
                have h31 : (((me pl) / 32) = 31) := (nI_eq (by omega) (by omega)).mp h31
                refine lv_aload_n hx hb d_Mo_step_153 rfl (lv_at hl 6 rfl) ?_
                refine lv_iload hx hb d_Mo_step_154 (lv_at hl 0 rfl) ?_
                refine zgo_v (wr := []) C0 (zrunV (na := 1) (As := [.int (nI ((me pl) / 32))]) (rest := []) C0 hP hD hS [0, 1, 2, 3, 4, 5, 6, 7, 8] rfl rfl (m_Mo_move l D ca k H.size ad cd po nu pt st ((pl + 1) % 64) bk me kc ro en (fU pt (((me pl) / 4) % 8)) (fL pt (((me pl) / 4) % 8)) tn tx ia ct md lb wn ((me pl) / 32) (by omega) hn (fU_pos _ _) (fU_le hpt) (fL_pos _ _) (fL_le hpt) (fUL hpt)) (zg_V q626 q628 q826 q7 q629) (by decide +kernel) rfl rfl ⟨by decide, by decide⟩ 0 rfl rfl rfl hl.1 rfl (Nat.le_of_ble_eq_true rfl) d_Mo_step_156 ⟨Nat.zero_le _, Nat.zero_le _⟩) hP hD hS [0, 1, 2, 3, 4, 5, 6, 7, 8] [] rfl rfl (by decide) (by decide) (fun w1 H locs hw hP hD hS => ?_)
                obtain rfl := hw
                have hP : va_P D vCl (wM ad ca cd po (fwN ((me pl) / 32) (fU pt (((me pl) / 4) % 8)) (fL pt (((me pl) / 4) % 8)) nu) pt st (fwC ((me pl) / 32) (fU pt (((me pl) / 4) % 8)) (fL pt (((me pl) / 4) % 8)) nu) ((pl + 1) % 64) bk me kc ro en (fU pt (((me pl) / 4) % 8)) (fL pt (((me pl) / 4) % 8)) tn tx ia ct md lb wn) H := hP
                have hD : va_D A (wM ad ca cd po (fwN ((me pl) / 32) (fU pt (((me pl) / 4) % 8)) (fL pt (((me pl) / 4) % 8)) nu) pt st (fwC ((me pl) / 32) (fU pt (((me pl) / 4) % 8)) (fL pt (((me pl) / 4) % 8)) nu) ((pl + 1) % 64) bk me kc ro en (fU pt (((me pl) / 4) % 8)) (fL pt (((me pl) / 4) % 8)) tn tx ia ct md lb wn) := hD
                refine lv_goto (tgt := 168) hx hb d_Mo_step_159 (by decide) ?_
                refine lv_goto (tgt := 206) hx hb d_Mo_step_168 (by decide) ?_
                exact zret_v C0 hr hAe hP hD hS (by have hw4 : me pl % 4 = 2 := (by omega); simp only [dwM, hw4]) d_Mo_step_206
            · skip
              have h30 : ¬ (((me pl) / 32) ≤ 19) := fun z => h30 ((nI_leI (by omega) (by omega)).mpr z)
              refine lv_iload hx hb d_Mo_step_139 (lv_at hl 0 rfl) ?_
              refine lv_bipush (v := nI 24) hx hb d_Mo_step_141 (by decide) ?_
              refine lv_icmp_lt (tgt := 153) hx hb d_Mo_step_143 (by decide) (fun h34 => ?_) (fun h34 => ?_)
              · skip
                have h34 : (((me pl) / 32) < 24) := (nI_ltI (by omega) (by omega)).mp h34
                refine lv_aload_n hx hb d_Mo_step_153 rfl (lv_at hl 6 rfl) ?_
                refine lv_iload hx hb d_Mo_step_154 (lv_at hl 0 rfl) ?_
                refine zgo_v (wr := []) C0 (zrunV (na := 1) (As := [.int (nI ((me pl) / 32))]) (rest := []) C0 hP hD hS [0, 1, 2, 3, 4, 5, 6, 7, 8] rfl rfl (m_Mo_move l D ca k H.size ad cd po nu pt st ((pl + 1) % 64) bk me kc ro en (fU pt (((me pl) / 4) % 8)) (fL pt (((me pl) / 4) % 8)) tn tx ia ct md lb wn ((me pl) / 32) (by omega) hn (fU_pos _ _) (fU_le hpt) (fL_pos _ _) (fL_le hpt) (fUL hpt)) (zg_V q626 q628 q826 q7 q629) (by decide +kernel) rfl rfl ⟨by decide, by decide⟩ 0 rfl rfl rfl hl.1 rfl (Nat.le_of_ble_eq_true rfl) d_Mo_step_156 ⟨Nat.zero_le _, Nat.zero_le _⟩) hP hD hS [0, 1, 2, 3, 4, 5, 6, 7, 8] [] rfl rfl (by decide) (by decide) (fun w1 H locs hw hP hD hS => ?_)
                obtain rfl := hw
                have hP : va_P D vCl (wM ad ca cd po (fwN ((me pl) / 32) (fU pt (((me pl) / 4) % 8)) (fL pt (((me pl) / 4) % 8)) nu) pt st (fwC ((me pl) / 32) (fU pt (((me pl) / 4) % 8)) (fL pt (((me pl) / 4) % 8)) nu) ((pl + 1) % 64) bk me kc ro en (fU pt (((me pl) / 4) % 8)) (fL pt (((me pl) / 4) % 8)) tn tx ia ct md lb wn) H := hP
                have hD : va_D A (wM ad ca cd po (fwN ((me pl) / 32) (fU pt (((me pl) / 4) % 8)) (fL pt (((me pl) / 4) % 8)) nu) pt st (fwC ((me pl) / 32) (fU pt (((me pl) / 4) % 8)) (fL pt (((me pl) / 4) % 8)) nu) ((pl + 1) % 64) bk me kc ro en (fU pt (((me pl) / 4) % 8)) (fL pt (((me pl) / 4) % 8)) tn tx ia ct md lb wn) := hD
                refine lv_goto (tgt := 168) hx hb d_Mo_step_159 (by decide) ?_
                refine lv_goto (tgt := 206) hx hb d_Mo_step_168 (by decide) ?_
                exact zret_v C0 hr hAe hP hD hS (by have hw4 : me pl % 4 = 2 := (by omega); simp only [dwM, hw4]) d_Mo_step_206
              · skip
                have h34 : ¬ (((me pl) / 32) < 24) := fun z => h34 ((nI_ltI (by omega) (by omega)).mpr z)
                refine lv_iload hx hb d_Mo_step_146 (lv_at hl 0 rfl) ?_
                refine lv_bipush (v := nI 31) hx hb d_Mo_step_148 (by decide) ?_
                refine lv_icmp_ne (tgt := 162) hx hb d_Mo_step_150 (by decide) (fun h36 => ?_) (fun h36 => ?_)
                · skip
                  have h36 : ¬ (((me pl) / 32) = 31) := fun z => h36 ((nI_eq (by omega) (by omega)).mpr z)
                  refine lv_aload_n hx hb d_Mo_step_162 rfl (lv_at hl 6 rfl) ?_
                  refine lv_iload hx hb d_Mo_step_163 (lv_at hl 0 rfl) ?_
                  refine zgo_v (wr := []) C0 (zrunV (na := 1) (As := [.int (nI ((me pl) / 32))]) (rest := []) C0 hP hD hS [0, 1, 2, 3, 4, 5, 6, 7, 8] rfl rfl (m_Mo_reckon l D ca k H.size ad cd po nu pt st ((pl + 1) % 64) bk me kc ro en (fU pt (((me pl) / 4) % 8)) (fL pt (((me pl) / 4) % 8)) tn tx ia ct md lb wn ((me pl) / 32) (by omega) hn (fU_pos _ _) (fU_le hpt) (fL_pos _ _) (fL_le hpt) (fUL hpt)) (zg_V q642 q644 q830 q7 q645) (by decide +kernel) rfl rfl ⟨by decide, by decide⟩ 0 rfl rfl rfl hl.1 rfl (Nat.le_of_ble_eq_true rfl) d_Mo_step_165 ⟨Nat.zero_le _, Nat.zero_le _⟩) hP hD hS [0, 1, 2, 3, 4, 5, 6, 7, 8] [] rfl rfl (by decide) (by decide) (fun w1 H locs hw hP hD hS => ?_)
                  obtain rfl := hw
                  have hP : va_P D vCl (wM ad ca cd po (fwN ((me pl) / 32) (fU pt (((me pl) / 4) % 8)) (fL pt (((me pl) / 4) % 8)) nu) pt st (fwC ((me pl) / 32) (fU pt (((me pl) / 4) % 8)) (fL pt (((me pl) / 4) % 8)) nu) ((pl + 1) % 64) bk me kc ro en (fU pt (((me pl) / 4) % 8)) (fL pt (((me pl) / 4) % 8)) tn tx ia ct md lb wn) H := hP
                  have hD : va_D A (wM ad ca cd po (fwN ((me pl) / 32) (fU pt (((me pl) / 4) % 8)) (fL pt (((me pl) / 4) % 8)) nu) pt st (fwC ((me pl) / 32) (fU pt (((me pl) / 4) % 8)) (fL pt (((me pl) / 4) % 8)) nu) ((pl + 1) % 64) bk me kc ro en (fU pt (((me pl) / 4) % 8)) (fL pt (((me pl) / 4) % 8)) tn tx ia ct md lb wn) := hD
                  refine lv_goto (tgt := 206) hx hb d_Mo_step_168 (by decide) ?_
                  exact zret_v C0 hr hAe hP hD hS (by have hw4 : me pl % 4 = 2 := (by omega); simp only [dwM, hw4]) d_Mo_step_206
                · skip
                  have h36 : (((me pl) / 32) = 31) := (nI_eq (by omega) (by omega)).mp h36
                  refine lv_aload_n hx hb d_Mo_step_153 rfl (lv_at hl 6 rfl) ?_
                  refine lv_iload hx hb d_Mo_step_154 (lv_at hl 0 rfl) ?_
                  refine zgo_v (wr := []) C0 (zrunV (na := 1) (As := [.int (nI ((me pl) / 32))]) (rest := []) C0 hP hD hS [0, 1, 2, 3, 4, 5, 6, 7, 8] rfl rfl (m_Mo_move l D ca k H.size ad cd po nu pt st ((pl + 1) % 64) bk me kc ro en (fU pt (((me pl) / 4) % 8)) (fL pt (((me pl) / 4) % 8)) tn tx ia ct md lb wn ((me pl) / 32) (by omega) hn (fU_pos _ _) (fU_le hpt) (fL_pos _ _) (fL_le hpt) (fUL hpt)) (zg_V q626 q628 q826 q7 q629) (by decide +kernel) rfl rfl ⟨by decide, by decide⟩ 0 rfl rfl rfl hl.1 rfl (Nat.le_of_ble_eq_true rfl) d_Mo_step_156 ⟨Nat.zero_le _, Nat.zero_le _⟩) hP hD hS [0, 1, 2, 3, 4, 5, 6, 7, 8] [] rfl rfl (by decide) (by decide) (fun w1 H locs hw hP hD hS => ?_)
                  obtain rfl := hw
                  have hP : va_P D vCl (wM ad ca cd po (fwN ((me pl) / 32) (fU pt (((me pl) / 4) % 8)) (fL pt (((me pl) / 4) % 8)) nu) pt st (fwC ((me pl) / 32) (fU pt (((me pl) / 4) % 8)) (fL pt (((me pl) / 4) % 8)) nu) ((pl + 1) % 64) bk me kc ro en (fU pt (((me pl) / 4) % 8)) (fL pt (((me pl) / 4) % 8)) tn tx ia ct md lb wn) H := hP
                  have hD : va_D A (wM ad ca cd po (fwN ((me pl) / 32) (fU pt (((me pl) / 4) % 8)) (fL pt (((me pl) / 4) % 8)) nu) pt st (fwC ((me pl) / 32) (fU pt (((me pl) / 4) % 8)) (fL pt (((me pl) / 4) % 8)) nu) ((pl + 1) % 64) bk me kc ro en (fU pt (((me pl) / 4) % 8)) (fL pt (((me pl) / 4) % 8)) tn tx ia ct md lb wn) := hD
                  refine lv_goto (tgt := 168) hx hb d_Mo_step_159 (by decide) ?_
                  refine lv_goto (tgt := 206) hx hb d_Mo_step_168 (by decide) ?_
                  exact zret_v C0 hr hAe hP hD hS (by have hw4 : me pl % 4 = 2 := (by omega); simp only [dwM, hw4]) d_Mo_step_206
      · skip
        have h22 : (((me pl) % 4) = 3) := (nI_eq (by omega) (by omega)).mp h22
        refine lv_iload_n hx hb d_Mo_step_90 rfl (lv_at hl 2 rfl) ?_
        refine lv_if_ne (tgt := 206) hx hb d_Mo_step_91 (by decide) (fun h39 => ?_) (fun h39 => ?_)
        · skip
          have h39 : ¬ (cy = 0) := fun z => h39 (by rw [z]; rfl)
          exact zret_v C0 hr hAe hP hD hS (by have hw4 : me pl % 4 = 3 := (by omega); simp only [dwM, hw4]; rw [if_neg h39]) d_Mo_step_206
        · skip
          have h39 : (cy = 0) := (nI_eq (by omega) (by decide)).mp (h39.trans nI_0.symm)
          refine lv_aload_n hx hb d_Mo_step_94 rfl (lv_at hl 5 rfl) ?_
          refine lv_iload hx hb d_Mo_step_95 (lv_at hl 0 rfl) ?_
          refine va_put (D := D) (ci := 5) (v := .int (nI (((me pl) / 4) % 64))) (ty := .int) (C := RMo) (T := TMo) (N := 21) hx hb ht inMo tyMo tyMo_ok nmMo hown hK hP hD hS 0 rfl rfl 6 (by decide) (ht _ q552) (fun _ h9 => h9) rfl (by decide +kernel) rfl rfl (Nat.le_of_ble_eq_true rfl) d_Mo_step_97 (fun H locs hP hD hS => ?_)
          have hP : va_P D vCl (wM ad ca cd po nu pt st 0 (((me pl) / 4) % 64) bk me kc ro en un li tn tx ia ct md lb wn) H := hP
          have hD : va_D A (wM ad ca cd po nu pt st 0 (((me pl) / 4) % 64) bk me kc ro en un li tn tx ia ct md lb wn) := hD
          refine lv_goto (tgt := 206) hx hb d_Mo_step_100 (by decide) ?_
          exact zret_v C0 hr hAe hP hD hS (by have hw4 : me pl % 4 = 3 := (by omega); simp only [dwM, hw4]; rw [if_pos h39]) d_Mo_step_206
    · skip
      have h21 : (((me pl) % 4) = 1) := (nI_eq (by omega) (by omega)).mp h21
      refine lv_aload_n hx hb d_Mo_step_67 rfl (lv_at hl 5 rfl) ?_
      refine lv_aload_n hx hb d_Mo_step_68 rfl (lv_at hl 5 rfl) ?_
      refine va_get (D := D) (ci := 5) (v := .int (nI ((pl + 1) % 64))) (C := RMo) (T := TMo) (N := 21) hx hb ht inMo hown hK hP 0 rfl rfl 6 (by decide) (ht _ q552) (fun _ h9 => h9) rfl d_Mo_step_69 ?_
      refine va_put (D := D) (ci := 5) (v := .int (nI ((pl + 1) % 64))) (ty := .int) (C := RMo) (T := TMo) (N := 21) hx hb ht inMo tyMo tyMo_ok nmMo hown hK hP hD hS 0 rfl rfl 7 (by decide) (ht _ q553) (fun _ h9 => h9) rfl (by decide +kernel) rfl rfl (Nat.le_of_ble_eq_true rfl) d_Mo_step_72 (fun H locs hP hD hS => ?_)
      have hP : va_P D vCl (wM ad ca cd po nu pt st 0 ((pl + 1) % 64) ((pl + 1) % 64) me kc ro en un li tn tx ia ct md lb wn) H := hP
      have hD : va_D A (wM ad ca cd po nu pt st 0 ((pl + 1) % 64) ((pl + 1) % 64) me kc ro en un li tn tx ia ct md lb wn) := hD
      refine lv_aload_n hx hb d_Mo_step_75 rfl (lv_at hl 5 rfl) ?_
      refine lv_iload hx hb d_Mo_step_76 (lv_at hl 0 rfl) ?_
      refine va_put (D := D) (ci := 5) (v := .int (nI (((me pl) / 4) % 64))) (ty := .int) (C := RMo) (T := TMo) (N := 21) hx hb ht inMo tyMo tyMo_ok nmMo hown hK hP hD hS 0 rfl rfl 6 (by decide) (ht _ q552) (fun _ h9 => h9) rfl (by decide +kernel) rfl rfl (Nat.le_of_ble_eq_true rfl) d_Mo_step_78 (fun H locs hP hD hS => ?_)
      have hP : va_P D vCl (wM ad ca cd po nu pt st 0 (((me pl) / 4) % 64) ((pl + 1) % 64) me kc ro en un li tn tx ia ct md lb wn) H := hP
      have hD : va_D A (wM ad ca cd po nu pt st 0 (((me pl) / 4) % 64) ((pl + 1) % 64) me kc ro en un li tn tx ia ct md lb wn) := hD
      refine lv_goto (tgt := 206) hx hb d_Mo_step_81 (by decide) ?_
      exact zret_v C0 hr hAe hP hD hS (by have hw4 : me pl % 4 = 1 := (by omega); simp only [dwM, hw4]) d_Mo_step_206
