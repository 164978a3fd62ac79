set_option maxHeartbeats 4000000 in
set_option maxRecDepth 100000 in
theorem m_Pr_doWord (l : Launch) (D : va_G) (ca : Nat → ClassId) (k : Nat → Nat) (sz : Nat) (ad : Nat → Nat) (me nu ro : Nat → Nat) (un li pt : Nat) (st : Int32) (cy pl bk en kc : Nat) (wd : Nat) (hwd : wd < 1024) (hcy : cy ≤ 1) (hpt : pt < 14) (hpl : pl < 64) (hk3 : kc ≤ 3) (hro : ∀ j, ro j < 16) (hn : ∀ j, nu j < 10 ^ 14) : Met l y_Pr_doWord (zw y_Pr_doWord c_Pr_doWord 4 none) { frames := 4, cells := 0, slots := 0, locals := 94 } (va_Pc [.ref (ad 6), .int (nI wd)] (zPre D (zty ca) k (wP ad ca me nu ro un li pt st cy pl bk en kc) sz)) (va_Qv (fun w => w = wS ad ca (dwS wd (me, nu, ro, un, li, pt, st, cy, pl, bk, en, kc))) (zB D (zty ca) (wP ad ca me nu ro un li pt st cy pl bk en kc) sz) (va_A (wP ad ca me nu ro un li pt st cy pl bk en kc) sz)) 0 0 (va_A (wP ad ca me nu ro un li pt st cy pl bk en kc) sz) := by
  refine zOf (own := "DigitChip$Processor") (by decide +kernel) rfl (Nat.le_of_ble_eq_true rfl) ?_
  intro p e s m below meth c A ls C0 hr hnm hAe hsz hl hP hD hS
  have hl : lv_has ls 4 [(0, .ref (ad 6)), (1, .int (nI wd))] := hl
  obtain ⟨hx, hb, hml, hown, ht, hK, hX, hA, hlk⟩ := id C0
  refine lv_aload_n hx hb d_Pr_doWord_0 rfl (lv_at hl 0 rfl) ?_
  refine va_get (D := D) (ci := 1) (v := .int (nI cy)) (C := RPr) (T := TPr) (N := 9) hx hb ht inPr hown hK hP 0 rfl rfl 5 (by decide) (ht _ q124) (fun _ h9 => h9) rfl d_Pr_doWord_1 ?_
  refine lv_istore_n hx hb d_Pr_doWord_4 rfl hl (by decide) rfl (fun ls hl => ?_)
  have hl : lv_has ls 4 [(2, .int (nI cy)), (0, .ref (ad 6)), (1, .int (nI wd))] := hl
  refine lv_aload_n hx hb d_Pr_doWord_5 rfl (lv_at hl 1 rfl) ?_
  refine lv_iconst (v := nI 0) hx hb d_Pr_doWord_6 (by decide) ?_
  refine va_put (D := D) (ci := 1) (v := .int (nI 0)) (ty := .boolean) (C := RPr) (T := TPr) (N := 9) hx hb ht inPr tyPr tyPr_ok nmPr hown hK hP hD hS 0 rfl rfl 5 (by decide) (ht _ q124) (fun _ h9 => h9) rfl (by decide +kernel) (zbn (by omega)) (zbf (by omega)) (Nat.le_of_ble_eq_true rfl) d_Pr_doWord_7 (fun H locs hP hD hS => ?_)
  have hP : va_P D vCl (wP ad ca me nu ro un li pt st 0 pl bk en kc) H := hP
  have hD : va_D A (wP ad ca me nu ro un li pt st 0 pl bk en kc) := hD
  refine lv_aload_n hx hb d_Pr_doWord_10 rfl (lv_at hl 1 rfl) ?_
  refine lv_aload_n hx hb d_Pr_doWord_11 rfl (lv_at hl 1 rfl) ?_
  refine va_get (D := D) (ci := 1) (v := .int (nI pl)) (C := RPr) (T := TPr) (N := 9) hx hb ht inPr hown hK hP 0 rfl rfl 6 (by decide) (ht _ q126) (fun _ h9 => h9) rfl d_Pr_doWord_12 ?_
  refine lv_iconst (v := nI 1) hx hb d_Pr_doWord_15 (by decide) ?_
  refine lv_iadd hx hb d_Pr_doWord_16 ?_
  refine zti (y := nI (pl + 1)) (nI_add _ _) ?_
  refine lv_bipush (v := nI 64) hx hb d_Pr_doWord_17 (by decide) ?_
  refine lv_irem hx hb d_Pr_doWord_19 (nI_ne0 (by omega) (by omega)) ?_
  refine zti (y := nI ((pl + 1) % 64)) (pk_rem (by omega) (by omega) (by omega)) ?_
  refine va_put (D := D) (ci := 1) (v := .int (nI ((pl + 1) % 64))) (ty := .int) (C := RPr) (T := TPr) (N := 9) hx hb ht inPr tyPr tyPr_ok nmPr hown hK hP hD hS 0 rfl rfl 6 (by decide) (ht _ q126) (fun _ h9 => h9) rfl (by decide +kernel) rfl rfl (Nat.le_of_ble_eq_true rfl) d_Pr_doWord_20 (fun H locs hP hD hS => ?_)
  have hP : va_P D vCl (wP ad ca me nu ro un li pt st 0 ((pl + 1) % 64) bk en kc) H := hP
  have hD : va_D A (wP ad ca me nu ro un li pt st 0 ((pl + 1) % 64) bk en kc) := hD
  refine lv_iload_n hx hb d_Pr_doWord_23 rfl (lv_at hl 2 rfl) ?_
  refine lv_iconst (v := nI 4) hx hb d_Pr_doWord_24 (by decide) ?_
  refine lv_idiv hx hb d_Pr_doWord_25 (nI_ne0 (by omega) (by omega)) ?_
  refine zti (y := nI (wd / 4)) (pk_div (by omega) (by omega) (by omega)) ?_
  refine lv_bipush (v := nI 64) hx hb d_Pr_doWord_26 (by decide) ?_
  refine lv_irem hx hb d_Pr_doWord_28 (nI_ne0 (by omega) (by omega)) ?_
  refine zti (y := nI ((wd / 4) % 64)) (pk_rem (by omega) (by omega) (by omega)) ?_
  refine lv_istore_n hx hb d_Pr_doWord_29 rfl hl (by decide) rfl (fun ls hl => ?_)
  have hl : lv_has ls 4 [(3, .int (nI ((wd / 4) % 64))), (2, .int (nI cy)), (0, .ref (ad 6)), (1, .int (nI wd))] := hl
  refine lv_iload_n hx hb d_Pr_doWord_30 rfl (lv_at hl 3 rfl) ?_
  refine lv_iconst (v := nI 4) hx hb d_Pr_doWord_31 (by decide) ?_
  refine lv_irem hx hb d_Pr_doWord_32 (nI_ne0 (by omega) (by omega)) ?_
  refine zti (y := nI (wd % 4)) (pk_rem (by omega) (by omega) (by omega)) ?_
  rcases (show wd % 4 = 0 ∨ wd % 4 = 1 ∨ wd % 4 = 2 ∨ wd % 4 = 3 by omega) with hw4 | hw4 | hw4 | hw4
  · skip
    refine zti (y := nI 0) (by rw [hw4]) ?_
    refine lv_tableIn (off := 27) (tgt := 60) hx hb d_Pr_doWord_33 (by decide) (by decide) (by decide) (by decide) ?_
    refine lv_aload_n hx hb d_Pr_doWord_60 rfl (lv_at hl 2 rfl) ?_
    refine lv_iload_n hx hb d_Pr_doWord_61 rfl (lv_at hl 3 rfl) ?_
    refine lv_iconst (v := nI 4) hx hb d_Pr_doWord_62 (by decide) ?_
    refine lv_idiv hx hb d_Pr_doWord_63 (nI_ne0 (by omega) (by omega)) ?_
    refine zti (y := nI (wd / 4)) (pk_div (by omega) (by omega) (by omega)) ?_
    refine lv_bipush (v := nI 16) hx hb d_Pr_doWord_64 (by decide) ?_
    refine lv_irem hx hb d_Pr_doWord_66 (nI_ne0 (by omega) (by omega)) ?_
    refine zti (y := nI ((wd / 4) % 16)) (pk_rem (by omega) (by omega) (by omega)) ?_
    refine lv_iload_n hx hb d_Pr_doWord_67 rfl (lv_at hl 3 rfl) ?_
    refine lv_bipush (v := nI 64) hx hb d_Pr_doWord_68 (by decide) ?_
    refine lv_idiv hx hb d_Pr_doWord_70 (nI_ne0 (by omega) (by omega)) ?_
    refine zti (y := nI (wd / 64)) (pk_div (by omega) (by omega) (by omega)) ?_
    refine zgo_v (wr := []) C0 (zrunV (na := 2) (As := [.int (nI ((wd / 4) % 16)), .int (nI (wd / 64))]) (rest := []) C0 hP hD hS [0, 1, 2, 3, 4, 5] rfl rfl (m_Pr_doPlain l D ca k H.size ad me nu ro un li pt st 0 ((pl + 1) % 64) bk en kc ((wd / 4) % 16) (wd / 64) (by omega) (by omega) (by omega) (by omega) (by omega) (by assumption) hn) (zg_V q462 q464 q810 q4 q465) (by decide +kernel) rfl rfl ⟨by decide, by decide⟩ 0 rfl rfl rfl hl.1 rfl (Nat.le_of_ble_eq_true rfl) d_Pr_doWord_71 ⟨Nat.zero_le _, Nat.zero_le _⟩) hP hD hS [0, 1, 2, 3, 4, 5] [] rfl rfl (by decide) (by decide) (fun w1 H locs hw hP hD hS => ?_)
    obtain rfl := hw
    have hP : va_P D vCl (wP ad ca ((plS ((wd / 4) % 16) (wd / 64) (me, nu, ro, un, li, pt, st, 0, (pl + 1) % 64, bk, en, kc)).1) ((plS ((wd / 4) % 16) (wd / 64) (me, nu, ro, un, li, pt, st, 0, (pl + 1) % 64, bk, en, kc)).2.1) ((plS ((wd / 4) % 16) (wd / 64) (me, nu, ro, un, li, pt, st, 0, (pl + 1) % 64, bk, en, kc)).2.2.1) ((plS ((wd / 4) % 16) (wd / 64) (me, nu, ro, un, li, pt, st, 0, (pl + 1) % 64, bk, en, kc)).2.2.2.1) ((plS ((wd / 4) % 16) (wd / 64) (me, nu, ro, un, li, pt, st, 0, (pl + 1) % 64, bk, en, kc)).2.2.2.2.1) ((plS ((wd / 4) % 16) (wd / 64) (me, nu, ro, un, li, pt, st, 0, (pl + 1) % 64, bk, en, kc)).2.2.2.2.2.1) ((plS ((wd / 4) % 16) (wd / 64) (me, nu, ro, un, li, pt, st, 0, (pl + 1) % 64, bk, en, kc)).2.2.2.2.2.2.1) ((plS ((wd / 4) % 16) (wd / 64) (me, nu, ro, un, li, pt, st, 0, (pl + 1) % 64, bk, en, kc)).2.2.2.2.2.2.2.1) ((plS ((wd / 4) % 16) (wd / 64) (me, nu, ro, un, li, pt, st, 0, (pl + 1) % 64, bk, en, kc)).2.2.2.2.2.2.2.2.1) ((plS ((wd / 4) % 16) (wd / 64) (me, nu, ro, un, li, pt, st, 0, (pl + 1) % 64, bk, en, kc)).2.2.2.2.2.2.2.2.2.1) ((plS ((wd / 4) % 16) (wd / 64) (me, nu, ro, un, li, pt, st, 0, (pl + 1) % 64, bk, en, kc)).2.2.2.2.2.2.2.2.2.2.1) ((plS ((wd / 4) % 16) (wd / 64) (me, nu, ro, un, li, pt, st, 0, (pl + 1) % 64, bk, en, kc)).2.2.2.2.2.2.2.2.2.2.2)) H := hP
    have hD : va_D A (wP ad ca ((plS ((wd / 4) % 16) (wd / 64) (me, nu, ro, un, li, pt, st, 0, (pl + 1) % 64, bk, en, kc)).1) ((plS ((wd / 4) % 16) (wd / 64) (me, nu, ro, un, li, pt, st, 0, (pl + 1) % 64, bk, en, kc)).2.1) ((plS ((wd / 4) % 16) (wd / 64) (me, nu, ro, un, li, pt, st, 0, (pl + 1) % 64, bk, en, kc)).2.2.1) ((plS ((wd / 4) % 16) (wd / 64) (me, nu, ro, un, li, pt, st, 0, (pl + 1) % 64, bk, en, kc)).2.2.2.1) ((plS ((wd / 4) % 16) (wd / 64) (me, nu, ro, un, li, pt, st, 0, (pl + 1) % 64, bk, en, kc)).2.2.2.2.1) ((plS ((wd / 4) % 16) (wd / 64) (me, nu, ro, un, li, pt, st, 0, (pl + 1) % 64, bk, en, kc)).2.2.2.2.2.1) ((plS ((wd / 4) % 16) (wd / 64) (me, nu, ro, un, li, pt, st, 0, (pl + 1) % 64, bk, en, kc)).2.2.2.2.2.2.1) ((plS ((wd / 4) % 16) (wd / 64) (me, nu, ro, un, li, pt, st, 0, (pl + 1) % 64, bk, en, kc)).2.2.2.2.2.2.2.1) ((plS ((wd / 4) % 16) (wd / 64) (me, nu, ro, un, li, pt, st, 0, (pl + 1) % 64, bk, en, kc)).2.2.2.2.2.2.2.2.1) ((plS ((wd / 4) % 16) (wd / 64) (me, nu, ro, un, li, pt, st, 0, (pl + 1) % 64, bk, en, kc)).2.2.2.2.2.2.2.2.2.1) ((plS ((wd / 4) % 16) (wd / 64) (me, nu, ro, un, li, pt, st, 0, (pl + 1) % 64, bk, en, kc)).2.2.2.2.2.2.2.2.2.2.1) ((plS ((wd / 4) % 16) (wd / 64) (me, nu, ro, un, li, pt, st, 0, (pl + 1) % 64, bk, en, kc)).2.2.2.2.2.2.2.2.2.2.2)) := hD
    refine lv_goto (tgt := 154) hx hb d_Pr_doWord_74 (by decide) ?_
    exact zret_v C0 hr hAe hP hD hS (by simp only [dwS, hw4]) d_Pr_doWord_154
  · skip
    refine zti (y := nI 1) (by rw [hw4]) ?_
    refine lv_tableIn (off := 44) (tgt := 77) hx hb d_Pr_doWord_33 (by decide) (by decide) (by decide) (by decide) ?_
    refine lv_aload_n hx hb d_Pr_doWord_77 rfl (lv_at hl 2 rfl) ?_
    refine lv_aload_n hx hb d_Pr_doWord_78 rfl (lv_at hl 2 rfl) ?_
    refine va_get (D := D) (ci := 1) (v := .int (nI ((pl + 1) % 64))) (C := RPr) (T := TPr) (N := 9) hx hb ht inPr hown hK hP 0 rfl rfl 6 (by decide) (ht _ q126) (fun _ h9 => h9) rfl d_Pr_doWord_79 ?_
    refine va_put (D := D) (ci := 1) (v := .int (nI ((pl + 1) % 64))) (ty := .int) (C := RPr) (T := TPr) (N := 9) hx hb ht inPr tyPr tyPr_ok nmPr hown hK hP hD hS 0 rfl rfl 7 (by decide) (ht _ q128) (fun _ h9 => h9) rfl (by decide +kernel) rfl rfl (Nat.le_of_ble_eq_true rfl) d_Pr_doWord_82 (fun H locs hP hD hS => ?_)
    have hP : va_P D vCl (wP ad ca me nu ro un li pt st 0 ((pl + 1) % 64) ((pl + 1) % 64) en kc) H := hP
    have hD : va_D A (wP ad ca me nu ro un li pt st 0 ((pl + 1) % 64) ((pl + 1) % 64) en kc) := hD
    refine lv_aload_n hx hb d_Pr_doWord_85 rfl (lv_at hl 2 rfl) ?_
    refine lv_iload_n hx hb d_Pr_doWord_86 rfl (lv_at hl 0 rfl) ?_
    refine va_put (D := D) (ci := 1) (v := .int (nI ((wd / 4) % 64))) (ty := .int) (C := RPr) (T := TPr) (N := 9) hx hb ht inPr tyPr tyPr_ok nmPr hown hK hP hD hS 0 rfl rfl 6 (by decide) (ht _ q126) (fun _ h9 => h9) rfl (by decide +kernel) rfl rfl (Nat.le_of_ble_eq_true rfl) d_Pr_doWord_87 (fun H locs hP hD hS => ?_)
    have hP : va_P D vCl (wP ad ca me nu ro un li pt st 0 ((wd / 4) % 64) ((pl + 1) % 64) en kc) H := hP
    have hD : va_D A (wP ad ca me nu ro un li pt st 0 ((wd / 4) % 64) ((pl + 1) % 64) en kc) := hD
    refine lv_goto (tgt := 154) hx hb d_Pr_doWord_90 (by decide) ?_
    exact zret_v C0 hr hAe hP hD hS (by simp only [dwS, hw4]) d_Pr_doWord_154
  · skip
    refine zti (y := nI 2) (by rw [hw4]) ?_
    refine lv_tableIn (off := 60) (tgt := 93) hx hb d_Pr_doWord_33 (by decide) (by decide) (by decide) (by decide) ?_
    refine lv_aload_n hx hb d_Pr_doWord_93 rfl (lv_at hl 2 rfl) ?_
    refine va_get (D := D) (ci := 1) (v := .ref (ad 8)) (C := RPr) (T := TPr) (N := 9) hx hb ht inPr hown hK hP 0 rfl rfl 1 (by decide) (ht _ q116) (fun _ h9 => h9) rfl d_Pr_doWord_94 ?_
    refine lv_iload_n hx hb d_Pr_doWord_97 rfl (lv_at hl 3 rfl) ?_
    refine lv_iconst (v := nI 4) hx hb d_Pr_doWord_98 (by decide) ?_
    refine lv_idiv hx hb d_Pr_doWord_99 (nI_ne0 (by omega) (by omega)) ?_
    refine zti (y := nI (wd / 4)) (pk_div (by omega) (by omega) (by omega)) ?_
    refine lv_bipush (v := nI 8) hx hb d_Pr_doWord_100 (by decide) ?_
    refine lv_irem hx hb d_Pr_doWord_102 (nI_ne0 (by omega) (by omega)) ?_
    refine zti (y := nI ((wd / 4) % 8)) (pk_rem (by omega) (by omega) (by omega)) ?_
    refine lv_aload_n hx hb d_Pr_doWord_103 rfl (lv_at hl 2 rfl) ?_
    refine va_get (D := D) (ci := 1) (v := .int (nI pt)) (C := RPr) (T := TPr) (N := 9) hx hb ht inPr hown hK hP 0 rfl rfl 3 (by decide) (ht _ q120) (fun _ h9 => h9) rfl d_Pr_doWord_104 ?_
    refine zgo_v (wr := []) C0 (zrunV (na := 2) (As := [.int (nI ((wd / 4) % 8)), .int (nI pt)]) (rest := []) C0 hP hD hS [0, 1, 2, 3, 4, 5] rfl rfl (m_Re_chooseField l D ca k H.size ad me nu ro un li pt st 0 ((pl + 1) % 64) bk en kc ((wd / 4) % 8) pt (by omega) (by omega)) (zg_V q482 q483 q484 q5 q485) (by decide +kernel) rfl rfl ⟨by decide, by decide⟩ 2 rfl rfl rfl hl.1 rfl (Nat.le_of_ble_eq_true rfl) d_Pr_doWord_107 ⟨Nat.zero_le _, Nat.zero_le _⟩) hP hD hS [0, 1, 2, 3, 4, 5] [] rfl rfl (by decide) (by decide) (fun w1 H locs hw hP hD hS => ?_)
    obtain rfl := hw
    have hP : va_P D vCl (wP ad ca me nu ro (fU pt ((wd / 4) % 8)) (fL pt ((wd / 4) % 8)) pt st 0 ((pl + 1) % 64) bk en kc) H := hP
    have hD : va_D A (wP ad ca me nu ro (fU pt ((wd / 4) % 8)) (fL pt ((wd / 4) % 8)) pt st 0 ((pl + 1) % 64) bk en kc) := hD
    refine lv_aload_n hx hb d_Pr_doWord_110 rfl (lv_at hl 2 rfl) ?_
    refine lv_iload_n hx hb d_Pr_doWord_111 rfl (lv_at hl 3 rfl) ?_
    refine lv_bipush (v := nI 32) hx hb d_Pr_doWord_112 (by decide) ?_
    refine lv_idiv hx hb d_Pr_doWord_114 (nI_ne0 (by omega) (by omega)) ?_
    refine zti (y := nI (wd / 32)) (pk_div (by omega) (by omega) (by omega)) ?_
    refine lv_aload_n hx hb d_Pr_doWord_115 rfl (lv_at hl 2 rfl) ?_
    refine va_get (D := D) (ci := 1) (v := .ref (ad 8)) (C := RPr) (T := TPr) (N := 9) hx hb ht inPr hown hK hP 0 rfl rfl 1 (by decide) (ht _ q116) (fun _ h9 => h9) rfl d_Pr_doWord_116 ?_
    refine lv_iconst (v := nI 0) hx hb d_Pr_doWord_119 (by decide) ?_
    refine zgo_l (wr := []) C0 (zrunV (na := 1) (As := [.int (nI 0)]) (rest := [.int (nI (wd / 32)), .ref (ad 6)]) C0 hP hD hS [0, 1, 2, 3, 4, 5] rfl rfl (m_Re_part l D ca k H.size ad me nu ro (fU pt ((wd / 4) % 8)) (fL pt ((wd / 4) % 8)) pt st 0 ((pl + 1) % 64) bk en kc 0 (by omega) hn (fU_pos _ _) (fU_le hpt) (fL_pos _ _) (fL_le hpt)) (zg_V q526 q495 q496 q5 q497) (by decide +kernel) rfl rfl ⟨by decide, by decide⟩ 2 rfl rfl rfl hl.1 rfl (Nat.le_of_ble_eq_true rfl) d_Pr_doWord_120 ⟨Nat.zero_le _, Nat.zero_le _⟩) hP hD hS [0, 1, 2, 3, 4, 5] [] rfl rfl (by decide) (by decide) (fun r3 w1 H locs hw hP hD hS => ?_)
    obtain ⟨rfl, rfl⟩ := hw
    have hP : va_P D vCl (wP ad ca me nu ro (fU pt ((wd / 4) % 8)) (fL pt ((wd / 4) % 8)) pt st 0 ((pl + 1) % 64) bk en kc) H := hP
    have hD : va_D A (wP ad ca me nu ro (fU pt ((wd / 4) % 8)) (fL pt ((wd / 4) % 8)) pt st 0 ((pl + 1) % 64) bk en kc) := hD
    refine lv_aload_n hx hb d_Pr_doWord_123 rfl (lv_at hl 2 rfl) ?_
    refine va_get (D := D) (ci := 1) (v := .ref (ad 8)) (C := RPr) (T := TPr) (N := 9) hx hb ht inPr hown hK hP 0 rfl rfl 1 (by decide) (ht _ q116) (fun _ h9 => h9) rfl d_Pr_doWord_124 ?_
    refine lv_iconst (v := nI 1) hx hb d_Pr_doWord_127 (by decide) ?_
    refine zgo_l (wr := []) C0 (zrunV (na := 1) (As := [.int (nI 1)]) (rest := [.long (lN (pr (fU pt ((wd / 4) % 8)) (fL pt ((wd / 4) % 8)) (nu 0))), .int (nI (wd / 32)), .ref (ad 6)]) C0 hP hD hS [0, 1, 2, 3, 4, 5] rfl rfl (m_Re_part l D ca k H.size ad me nu ro (fU pt ((wd / 4) % 8)) (fL pt ((wd / 4) % 8)) pt st 0 ((pl + 1) % 64) bk en kc 1 (by omega) hn (fU_pos _ _) (fU_le hpt) (fL_pos _ _) (fL_le hpt)) (zg_V q526 q495 q496 q5 q497) (by decide +kernel) rfl rfl ⟨by decide, by decide⟩ 2 rfl rfl rfl hl.1 rfl (Nat.le_of_ble_eq_true rfl) d_Pr_doWord_128 ⟨Nat.zero_le _, Nat.zero_le _⟩) hP hD hS [0, 1, 2, 3, 4, 5] [] rfl rfl (by decide) (by decide) (fun r4 w1 H locs hw hP hD hS => ?_)
    obtain ⟨rfl, rfl⟩ := hw
    have hP : va_P D vCl (wP ad ca me nu ro (fU pt ((wd / 4) % 8)) (fL pt ((wd / 4) % 8)) pt st 0 ((pl + 1) % 64) bk en kc) H := hP
    have hD : va_D A (wP ad ca me nu ro (fU pt ((wd / 4) % 8)) (fL pt ((wd / 4) % 8)) pt st 0 ((pl + 1) % 64) bk en kc) := hD
    refine lv_aload_n hx hb d_Pr_doWord_131 rfl (lv_at hl 2 rfl) ?_
    refine va_get (D := D) (ci := 1) (v := .ref (ad 8)) (C := RPr) (T := TPr) (N := 9) hx hb ht inPr hown hK hP 0 rfl rfl 1 (by decide) (ht _ q116) (fun _ h9 => h9) rfl d_Pr_doWord_132 ?_
    refine lv_iconst (v := nI 2) hx hb d_Pr_doWord_135 (by decide) ?_
    refine zgo_l (wr := []) C0 (zrunV (na := 1) (As := [.int (nI 2)]) (rest := [.long (lN (pr (fU pt ((wd / 4) % 8)) (fL pt ((wd / 4) % 8)) (nu 1))), .long (lN (pr (fU pt ((wd / 4) % 8)) (fL pt ((wd / 4) % 8)) (nu 0))), .int (nI (wd / 32)), .ref (ad 6)]) C0 hP hD hS [0, 1, 2, 3, 4, 5] rfl rfl (m_Re_part l D ca k H.size ad me nu ro (fU pt ((wd / 4) % 8)) (fL pt ((wd / 4) % 8)) pt st 0 ((pl + 1) % 64) bk en kc 2 (by omega) hn (fU_pos _ _) (fU_le hpt) (fL_pos _ _) (fL_le hpt)) (zg_V q526 q495 q496 q5 q497) (by decide +kernel) rfl rfl ⟨by decide, by decide⟩ 2 rfl rfl rfl hl.1 rfl (Nat.le_of_ble_eq_true rfl) d_Pr_doWord_136 ⟨Nat.zero_le _, Nat.zero_le _⟩) hP hD hS [0, 1, 2, 3, 4, 5] [] rfl rfl (by decide) (by decide) (fun r5 w1 H locs hw hP hD hS => ?_)
    obtain ⟨rfl, rfl⟩ := hw
    have hP : va_P D vCl (wP ad ca me nu ro (fU pt ((wd / 4) % 8)) (fL pt ((wd / 4) % 8)) pt st 0 ((pl + 1) % 64) bk en kc) H := hP
    have hD : va_D A (wP ad ca me nu ro (fU pt ((wd / 4) % 8)) (fL pt ((wd / 4) % 8)) pt st 0 ((pl + 1) % 64) bk en kc) := hD
    refine zgo_v (wr := []) C0 (zrunV (na := 4) (As := [.int (nI (wd / 32)), .long (lN (pr (fU pt ((wd / 4) % 8)) (fL pt ((wd / 4) % 8)) (nu 0))), .long (lN (pr (fU pt ((wd / 4) % 8)) (fL pt ((wd / 4) % 8)) (nu 1))), .long (lN (pr (fU pt ((wd / 4) % 8)) (fL pt ((wd / 4) % 8)) (nu 2)))]) (rest := []) C0 hP hD hS [0, 1, 2, 3, 4, 5] rfl rfl (m_Pr_doFieldWork l D ca k H.size ad me nu ro (fU pt ((wd / 4) % 8)) (fL pt ((wd / 4) % 8)) pt st ((pl + 1) % 64) bk en kc (wd / 32) (by omega) hn (fU_pos _ _) (fU_le hpt) (fL_pos _ _) (fL_le hpt) (fUL hpt)) (zg_V q527 q529 q822 q4 q530) (by decide +kernel) rfl rfl ⟨by decide, by decide⟩ 0 rfl rfl rfl hl.1 rfl (Nat.le_of_ble_eq_true rfl) d_Pr_doWord_139 ⟨Nat.zero_le _, Nat.zero_le _⟩) hP hD hS [0, 1, 2, 3, 4, 5] [] rfl rfl (by decide) (by decide) (fun w1 H locs hw hP hD hS => ?_)
    obtain rfl := hw
    have hP : va_P D vCl (wP ad ca me (fwN (wd / 32) (fU pt ((wd / 4) % 8)) (fL pt ((wd / 4) % 8)) nu) ro (fU pt ((wd / 4) % 8)) (fL pt ((wd / 4) % 8)) pt st (fwC (wd / 32) (fU pt ((wd / 4) % 8)) (fL pt ((wd / 4) % 8)) nu) ((pl + 1) % 64) bk en kc) H := hP
    have hD : va_D A (wP ad ca me (fwN (wd / 32) (fU pt ((wd / 4) % 8)) (fL pt ((wd / 4) % 8)) nu) ro (fU pt ((wd / 4) % 8)) (fL pt ((wd / 4) % 8)) pt st (fwC (wd / 32) (fU pt ((wd / 4) % 8)) (fL pt ((wd / 4) % 8)) nu) ((pl + 1) % 64) bk en kc) := hD
    refine lv_goto (tgt := 154) hx hb d_Pr_doWord_142 (by decide) ?_
    exact zret_v C0 hr hAe hP hD hS (by simp only [dwS, hw4]) d_Pr_doWord_154
  · skip
    refine zti (y := nI 3) (by rw [hw4]) ?_
    refine lv_tableOut (tgt := 145) hx hb d_Pr_doWord_33 (by decide) (by decide) ?_
    refine lv_iload_n hx hb d_Pr_doWord_145 rfl (lv_at hl 1 rfl) ?_
    refine lv_if_ne (tgt := 154) hx hb d_Pr_doWord_146 (by decide) (fun h7 => ?_) (fun h7 => ?_)
    · skip
      have h7 : ¬ (cy = 0) := fun z => h7 (by rw [z]; rfl)
      exact zret_v C0 hr hAe hP hD hS (by simp only [dwS, hw4]; rw [if_neg h7]) d_Pr_doWord_154
    · skip
      have h7 : (cy = 0) := (nI_eq (by omega) (by decide)).mp (h7.trans nI_0.symm)
      refine lv_aload_n hx hb d_Pr_doWord_149 rfl (lv_at hl 2 rfl) ?_
      refine lv_iload_n hx hb d_Pr_doWord_150 rfl (lv_at hl 0 rfl) ?_
      refine va_put (D := D) (ci := 1) (v := .int (nI ((wd / 4) % 64))) (ty := .int) (C := RPr) (T := TPr) (N := 9) hx hb ht inPr tyPr tyPr_ok nmPr hown hK hP hD hS 0 rfl rfl 6 (by decide) (ht _ q126) (fun _ h9 => h9) rfl (by decide +kernel) rfl rfl (Nat.le_of_ble_eq_true rfl) d_Pr_doWord_151 (fun H locs hP hD hS => ?_)
      have hP : va_P D vCl (wP ad ca me nu ro un li pt st 0 ((wd / 4) % 64) bk en kc) H := hP
      have hD : va_D A (wP ad ca me nu ro un li pt st 0 ((wd / 4) % 64) bk en kc) := hD
      exact zret_v C0 hr hAe hP hD hS (by simp only [dwS, hw4]; rw [if_pos h7]) d_Pr_doWord_154
