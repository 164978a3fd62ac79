set_option maxHeartbeats 4000000 in
set_option maxRecDepth 100000 in
theorem m_Pr_doPlain (l : Launch) (D : va_G) (ca : Nat → ClassId) (k : Nat → Nat) (sz : Nat) (ad : Nat → Nat) (me nu ro : Nat → Nat) (un li pt : Nat) (st : Int32) (cy pl bk en kc : Nat) (op g : Nat) (hop : op < 16) (hg : g < 16) (hpt : pt < 14) (hpl : pl < 64) (hk3 : kc ≤ 3) (hro : ∀ j, ro j < 16) (hn : ∀ j, nu j < 10 ^ 14) : Met l y_Pr_doPlain (zw y_Pr_doPlain c_Pr_doPlain 3 none) { frames := 3, cells := 0, slots := 0, locals := 65 } (va_Pc [.ref (ad 6), .int (nI op), .int (nI g)] (zPre D (zty ca) k (wP ad ca me nu ro un li pt st cy pl bk en kc) sz)) (va_Qv (fun w => w = wS ad ca (plS op g (me, nu, ro, un, li, pt, st, cy, pl, bk, en, kc))) (zB D (zty ca) (wP ad ca me nu ro un li pt st cy pl bk en kc) sz) (va_A (wP ad ca me nu ro un li pt st cy pl bk en kc) sz)) 0 0 (va_A (wP ad ca me nu ro un li pt st cy pl bk en kc) sz) := by
  refine zOf (own := "DigitChip$Processor") (by decide +kernel) rfl (Nat.le_of_ble_eq_true rfl) ?_
  intro p e s m below meth c A ls C0 hr hnm hAe hsz hl hP hD hS
  have hl : lv_has ls 3 [(0, .ref (ad 6)), (1, .int (nI op)), (2, .int (nI g))] := hl
  obtain ⟨hx, hb, hml, hown, ht, hK, hX, hA, hlk⟩ := id C0
  rcases (show op = 0 ∨ op = 1 ∨ op = 2 ∨ op = 3 ∨ op = 4 ∨ op = 5 ∨ op = 6 ∨ op = 7 ∨ op = 8 ∨ op = 9 ∨ op = 10 ∨ op = 11 ∨ op = 12 ∨ op = 13 ∨ op = 14 ∨ op = 15 from by omega) with rfl | rfl | rfl | rfl | rfl | rfl | rfl | rfl | rfl | rfl | rfl | rfl | rfl | rfl | rfl | rfl
  · skip
    refine lv_iload_n hx hb d_Pr_doPlain_0 rfl (lv_at hl 1 rfl) ?_
    refine lv_tableOut (tgt := 241) hx hb d_Pr_doPlain_1 (by decide) (by decide) ?_
    exact zret_v C0 hr hAe hP hD hS rfl d_Pr_doPlain_241
  · skip
    refine lv_iload_n hx hb d_Pr_doPlain_0 rfl (lv_at hl 1 rfl) ?_
    refine lv_tableIn (off := 75) (tgt := 76) hx hb d_Pr_doPlain_1 (by decide) (by decide) (by decide) (by decide) ?_
    refine lv_aload_n hx hb d_Pr_doPlain_76 rfl (lv_at hl 0 rfl) ?_
    refine lv_iload_n hx hb d_Pr_doPlain_77 rfl (lv_at hl 2 rfl) ?_
    refine lv_bipush (v := nI 14) hx hb d_Pr_doPlain_78 (by decide) ?_
    refine lv_irem hx hb d_Pr_doPlain_80 (nI_ne0 (by omega) (by omega)) ?_
    refine zti (y := nI (g % 14)) (pk_rem (by omega) (by omega) (by omega)) ?_
    refine va_put (D := D) (ci := 1) (v := .int (nI (g % 14))) (ty := .int) (C := RPr) (T := TPr) (N := 9) hx hb ht inPr tyPr tyPr_ok nmPr hown hK hP hD hS 0 rfl rfl 3 (by decide) (ht _ q120) (fun _ h9 => h9) rfl (by decide +kernel) rfl rfl (Nat.le_of_ble_eq_true rfl) d_Pr_doPlain_81 (fun H locs hP hD hS => ?_)
    have hP : va_P D vCl (wP ad ca me nu ro un li (g % 14) st cy pl bk en kc) H := hP
    have hD : va_D A (wP ad ca me nu ro un li (g % 14) st cy pl bk en kc) := hD
    refine lv_goto (tgt := 241) hx hb d_Pr_doPlain_84 (by decide) ?_
    exact zret_v C0 hr hAe hP hD hS rfl d_Pr_doPlain_241
  · skip
    refine lv_iload_n hx hb d_Pr_doPlain_0 rfl (lv_at hl 1 rfl) ?_
    refine lv_tableIn (off := 86) (tgt := 87) hx hb d_Pr_doPlain_1 (by decide) (by decide) (by decide) (by decide) ?_
    refine lv_aload_n hx hb d_Pr_doPlain_87 rfl (lv_at hl 0 rfl) ?_
    refine lv_aload_n hx hb d_Pr_doPlain_88 rfl (lv_at hl 0 rfl) ?_
    refine va_get (D := D) (ci := 1) (v := .int (nI pt)) (C := RPr) (T := TPr) (N := 9) hx hb ht inPr hown hK hP 0 rfl rfl 3 (by decide) (ht _ q120) (fun _ h9 => h9) rfl d_Pr_doPlain_89 ?_
    refine lv_iload_n hx hb d_Pr_doPlain_92 rfl (lv_at hl 2 rfl) ?_
    refine lv_icmp_ne (tgt := 100) hx hb d_Pr_doPlain_93 (by decide) (fun h1 => ?_) (fun h1 => ?_)
    · skip
      have h1 : ¬ (pt = g) := fun z => h1 ((nI_eq (by omega) (by omega)).mpr z)
      refine lv_iconst (v := nI 0) hx hb d_Pr_doPlain_100 (by decide) ?_
      refine va_put (D := D) (ci := 1) (v := .int (nI 0)) (ty := .boolean) (C := RPr) (T := TPr) (N := 9) hx hb ht inPr tyPr tyPr_ok nmPr hown hK hP hD hS 0 rfl rfl 5 (by decide) (ht _ q124) (fun _ h9 => h9) rfl (by decide +kernel) (zbn (by omega)) (zbf (by omega)) (Nat.le_of_ble_eq_true rfl) d_Pr_doPlain_101 (fun H locs hP hD hS => ?_)
      have hP : va_P D vCl (wP ad ca me nu ro un li pt st 0 pl bk en kc) H := hP
      have hD : va_D A (wP ad ca me nu ro un li pt st 0 pl bk en kc) := hD
      refine lv_goto (tgt := 241) hx hb d_Pr_doPlain_104 (by decide) ?_
      exact zret_v C0 hr hAe hP hD hS (by simp only [plS]; rw [if_neg h1]) d_Pr_doPlain_241
    · skip
      have h1 : (pt = g) := (nI_eq (by omega) (by omega)).mp h1
      refine lv_iconst (v := nI 1) hx hb d_Pr_doPlain_96 (by decide) ?_
      refine lv_goto (tgt := 101) hx hb d_Pr_doPlain_97 (by decide) ?_
      refine va_put (D := D) (ci := 1) (v := .int (nI 1)) (ty := .boolean) (C := RPr) (T := TPr) (N := 9) hx hb ht inPr tyPr tyPr_ok nmPr hown hK hP hD hS 0 rfl rfl 5 (by decide) (ht _ q124) (fun _ h9 => h9) rfl (by decide +kernel) (zbn (by omega)) (zbf (by omega)) (Nat.le_of_ble_eq_true rfl) d_Pr_doPlain_101 (fun H locs hP hD hS => ?_)
      have hP : va_P D vCl (wP ad ca me nu ro un li pt st 1 pl bk en kc) H := hP
      have hD : va_D A (wP ad ca me nu ro un li pt st 1 pl bk en kc) := hD
      refine lv_goto (tgt := 241) hx hb d_Pr_doPlain_104 (by decide) ?_
      exact zret_v C0 hr hAe hP hD hS (by simp only [plS]; rw [if_pos h1]) d_Pr_doPlain_241
  · skip
    refine lv_iload_n hx hb d_Pr_doPlain_0 rfl (lv_at hl 1 rfl) ?_
    refine lv_tableIn (off := 106) (tgt := 107) hx hb d_Pr_doPlain_1 (by decide) (by decide) (by decide) (by decide) ?_
    refine lv_aload_n hx hb d_Pr_doPlain_107 rfl (lv_at hl 0 rfl) ?_
    refine lv_iload_n hx hb d_Pr_doPlain_108 rfl (lv_at hl 2 rfl) ?_
    refine zgo_v (wr := []) C0 (zrunV (na := 1) (As := [.int (nI g)]) (rest := []) C0 hP hD hS [0, 1, 2, 3, 4, 5] rfl rfl (m_Pr_setStatus l D ca k s.heap.size ad me nu ro un li pt st cy pl bk en kc g (by omega)) (zg_V q466 q468 q811 q4 q469) (by decide +kernel) rfl rfl ⟨by decide, by decide⟩ 0 rfl rfl rfl hl.1 rfl (Nat.le_of_ble_eq_true rfl) d_Pr_doPlain_109 ⟨Nat.zero_le _, Nat.zero_le _⟩) hP hD hS [0, 1, 2, 3, 4, 5] [] rfl rfl (by decide) (by decide) (fun w1 H locs hw hP hD hS => ?_)
    obtain rfl := hw
    have hP : va_P D vCl (wP ad ca me nu ro un li pt (sSt g st) cy pl bk en kc) H := hP
    have hD : va_D A (wP ad ca me nu ro un li pt (sSt g st) cy pl bk en kc) := hD
    refine lv_goto (tgt := 241) hx hb d_Pr_doPlain_112 (by decide) ?_
    exact zret_v C0 hr hAe hP hD hS rfl d_Pr_doPlain_241
  · skip
    refine lv_iload_n hx hb d_Pr_doPlain_0 rfl (lv_at hl 1 rfl) ?_
    refine lv_tableIn (off := 114) (tgt := 115) hx hb d_Pr_doPlain_1 (by decide) (by decide) (by decide) (by decide) ?_
    refine lv_aload_n hx hb d_Pr_doPlain_115 rfl (lv_at hl 0 rfl) ?_
    refine lv_iload_n hx hb d_Pr_doPlain_116 rfl (lv_at hl 2 rfl) ?_
    refine zgo_v (wr := []) C0 (zrunV (na := 1) (As := [.int (nI g)]) (rest := []) C0 hP hD hS [0, 1, 2, 3, 4, 5] rfl rfl (m_Pr_clearStatus l D ca k s.heap.size ad me nu ro un li pt st cy pl bk en kc g (by omega)) (zg_V q470 q472 q812 q4 q473) (by decide +kernel) rfl rfl ⟨by decide, by decide⟩ 0 rfl rfl rfl hl.1 rfl (Nat.le_of_ble_eq_true rfl) d_Pr_doPlain_117 ⟨Nat.zero_le _, Nat.zero_le _⟩) hP hD hS [0, 1, 2, 3, 4, 5] [] rfl rfl (by decide) (by decide) (fun w1 H locs hw hP hD hS => ?_)
    obtain rfl := hw
    have hP : va_P D vCl (wP ad ca me nu ro un li pt (cSt g st) cy pl bk en kc) H := hP
    have hD : va_D A (wP ad ca me nu ro un li pt (cSt g st) cy pl bk en kc) := hD
    refine lv_goto (tgt := 241) hx hb d_Pr_doPlain_120 (by decide) ?_
    exact zret_v C0 hr hAe hP hD hS rfl d_Pr_doPlain_241
  · skip
    have hh := hSt_le g st
    refine lv_iload_n hx hb d_Pr_doPlain_0 rfl (lv_at hl 1 rfl) ?_
    refine lv_tableIn (off := 122) (tgt := 123) hx hb d_Pr_doPlain_1 (by decide) (by decide) (by decide) (by decide) ?_
    refine lv_aload_n hx hb d_Pr_doPlain_123 rfl (lv_at hl 0 rfl) ?_
    refine lv_aload_n hx hb d_Pr_doPlain_124 rfl (lv_at hl 0 rfl) ?_
    refine lv_iload_n hx hb d_Pr_doPlain_125 rfl (lv_at hl 2 rfl) ?_
    refine zgo_i (wr := []) C0 (zrunV (na := 1) (As := [.int (nI g)]) (rest := [.ref (ad 6)]) C0 hP hD hS [0, 1, 2, 3, 4, 5] rfl rfl (m_Pr_hasStatus l D ca k s.heap.size ad me nu ro un li pt st cy pl bk en kc g (by omega)) (zg_V q474 q476 q813 q4 q477) (by decide +kernel) rfl rfl ⟨by decide, by decide⟩ 0 rfl rfl rfl hl.1 rfl (Nat.le_of_ble_eq_true rfl) d_Pr_doPlain_126 ⟨Nat.zero_le _, Nat.zero_le _⟩) hP hD hS [0, 1, 2, 3, 4, 5] [] rfl rfl (by decide) (by decide) (fun r4 w1 H locs hw hP hD hS => ?_)
    obtain ⟨rfl, rfl⟩ := hw
    have hP : va_P D vCl (wP ad ca me nu ro un li pt st cy pl bk en kc) H := hP
    have hD : va_D A (wP ad ca me nu ro un li pt st cy pl bk en kc) := hD
    refine va_put (D := D) (ci := 1) (v := .int (nI (hSt g st))) (ty := .boolean) (C := RPr) (T := TPr) (N := 9) hx hb ht inPr tyPr tyPr_ok nmPr hown hK hP hD hS 0 rfl rfl 5 (by decide) (ht _ q124) (fun _ h9 => h9) rfl (by decide +kernel) (zbn (by omega)) (zbf (by omega)) (Nat.le_of_ble_eq_true rfl) d_Pr_doPlain_129 (fun H locs hP hD hS => ?_)
    have hP : va_P D vCl (wP ad ca me nu ro un li pt st (hSt g st) pl bk en kc) H := hP
    have hD : va_D A (wP ad ca me nu ro un li pt st (hSt g st) pl bk en kc) := hD
    refine lv_goto (tgt := 241) hx hb d_Pr_doPlain_132 (by decide) ?_
    exact zret_v C0 hr hAe hP hD hS rfl d_Pr_doPlain_241
  · skip
    refine lv_iload_n hx hb d_Pr_doPlain_0 rfl (lv_at hl 1 rfl) ?_
    refine lv_tableIn (off := 134) (tgt := 135) hx hb d_Pr_doPlain_1 (by decide) (by decide) (by decide) (by decide) ?_
    refine lv_aload_n hx hb d_Pr_doPlain_135 rfl (lv_at hl 0 rfl) ?_
    refine lv_iload_n hx hb d_Pr_doPlain_136 rfl (lv_at hl 2 rfl) ?_
    refine lv_bipush (v := nI 10) hx hb d_Pr_doPlain_137 (by decide) ?_
    refine lv_irem hx hb d_Pr_doPlain_139 (nI_ne0 (by omega) (by omega)) ?_
    refine zti (y := nI (g % 10)) (pk_rem (by omega) (by omega) (by omega)) ?_
    refine zgo_v (wr := []) C0 (zrunV (na := 1) (As := [.int (nI (g % 10))]) (rest := []) C0 hP hD hS [0, 1, 2, 3, 4, 5] rfl rfl (m_Pr_putDigit l D ca k s.heap.size ad me nu ro un li pt st cy pl bk en kc (g % 10) (by omega) (by omega) hn) (zg_V q478 q480 q814 q4 q481) (by decide +kernel) rfl rfl ⟨by decide, by decide⟩ 0 rfl rfl rfl hl.1 rfl (Nat.le_of_ble_eq_true rfl) d_Pr_doPlain_140 ⟨Nat.zero_le _, Nat.zero_le _⟩) hP hD hS [0, 1, 2, 3, 4, 5] [] rfl rfl (by decide) (by decide) (fun w1 H locs hw hP hD hS => ?_)
    obtain rfl := hw
    have hP : va_P D vCl (wP ad ca me (wr (fU pt 0) (fL pt 0) nu 2 (g % 10)) ro (fU pt 0) (fL pt 0) ((pt + 14 - 1) % 14) st cy pl bk en kc) H := hP
    have hD : va_D A (wP ad ca me (wr (fU pt 0) (fL pt 0) nu 2 (g % 10)) ro (fU pt 0) (fL pt 0) ((pt + 14 - 1) % 14) st cy pl bk en kc) := hD
    refine lv_goto (tgt := 241) hx hb d_Pr_doPlain_143 (by decide) ?_
    exact zret_v C0 hr hAe hP hD hS rfl d_Pr_doPlain_241
  · skip
    refine lv_iload_n hx hb d_Pr_doPlain_0 rfl (lv_at hl 1 rfl) ?_
    refine lv_tableIn (off := 145) (tgt := 146) hx hb d_Pr_doPlain_1 (by decide) (by decide) (by decide) (by decide) ?_
    refine lv_aload_n hx hb d_Pr_doPlain_146 rfl (lv_at hl 0 rfl) ?_
    refine lv_aload_n hx hb d_Pr_doPlain_147 rfl (lv_at hl 0 rfl) ?_
    refine va_get (D := D) (ci := 1) (v := .int (nI pt)) (C := RPr) (T := TPr) (N := 9) hx hb ht inPr hown hK hP 0 rfl rfl 3 (by decide) (ht _ q120) (fun _ h9 => h9) rfl d_Pr_doPlain_148 ?_
    refine lv_iconst (v := nI 1) hx hb d_Pr_doPlain_151 (by decide) ?_
    refine lv_iadd hx hb d_Pr_doPlain_152 ?_
    refine zti (y := nI (pt + 1)) (nI_add _ _) ?_
    refine lv_bipush (v := nI 14) hx hb d_Pr_doPlain_153 (by decide) ?_
    refine lv_irem hx hb d_Pr_doPlain_155 (nI_ne0 (by omega) (by omega)) ?_
    refine zti (y := nI ((pt + 1) % 14)) (pk_rem (by omega) (by omega) (by omega)) ?_
    refine va_put (D := D) (ci := 1) (v := .int (nI ((pt + 1) % 14))) (ty := .int) (C := RPr) (T := TPr) (N := 9) hx hb ht inPr tyPr tyPr_ok nmPr hown hK hP hD hS 0 rfl rfl 3 (by decide) (ht _ q120) (fun _ h9 => h9) rfl (by decide +kernel) rfl rfl (Nat.le_of_ble_eq_true rfl) d_Pr_doPlain_156 (fun H locs hP hD hS => ?_)
    have hP : va_P D vCl (wP ad ca me nu ro un li ((pt + 1) % 14) st cy pl bk en kc) H := hP
    have hD : va_D A (wP ad ca me nu ro un li ((pt + 1) % 14) st cy pl bk en kc) := hD
    refine lv_goto (tgt := 241) hx hb d_Pr_doPlain_159 (by decide) ?_
    exact zret_v C0 hr hAe hP hD hS rfl d_Pr_doPlain_241
  · skip
    refine lv_iload_n hx hb d_Pr_doPlain_0 rfl (lv_at hl 1 rfl) ?_
    refine lv_tableIn (off := 161) (tgt := 162) hx hb d_Pr_doPlain_1 (by decide) (by decide) (by decide) (by decide) ?_
    refine lv_aload_n hx hb d_Pr_doPlain_162 rfl (lv_at hl 0 rfl) ?_
    refine zgo_v (wr := []) C0 (zrunV (na := 0) (As := []) (rest := []) C0 hP hD hS [0, 1, 2, 3, 4, 5] rfl rfl (m_Pr_lowerPointer l D ca k s.heap.size ad me nu ro un li pt st cy pl bk en kc (by omega)) (zg_V q498 q500 q816 q4 q501) (by decide +kernel) rfl rfl ⟨by decide, by decide⟩ 0 rfl rfl rfl hl.1 rfl (Nat.le_of_ble_eq_true rfl) d_Pr_doPlain_163 ⟨Nat.zero_le _, Nat.zero_le _⟩) hP hD hS [0, 1, 2, 3, 4, 5] [] rfl rfl (by decide) (by decide) (fun w1 H locs hw hP hD hS => ?_)
    obtain rfl := hw
    have hP : va_P D vCl (wP ad ca me nu ro un li ((pt + 14 - 1) % 14) st cy pl bk en kc) H := hP
    have hD : va_D A (wP ad ca me nu ro un li ((pt + 14 - 1) % 14) st cy pl bk en kc) := hD
    refine lv_goto (tgt := 241) hx hb d_Pr_doPlain_166 (by decide) ?_
    exact zret_v C0 hr hAe hP hD hS rfl d_Pr_doPlain_241
  · skip
    refine lv_iload_n hx hb d_Pr_doPlain_0 rfl (lv_at hl 1 rfl) ?_
    refine lv_tableIn (off := 168) (tgt := 169) hx hb d_Pr_doPlain_1 (by decide) (by decide) (by decide) (by decide) ?_
    refine lv_aload_n hx hb d_Pr_doPlain_169 rfl (lv_at hl 0 rfl) ?_
    refine zgo_v (wr := []) C0 (zrunV (na := 0) (As := []) (rest := []) C0 hP hD hS [0, 1, 2, 3, 4, 5] rfl rfl (m_Pr_push l D ca k s.heap.size ad me nu ro un li pt st cy pl bk en kc ) (zg_V q502 q504 q817 q4 q505) (by decide +kernel) rfl rfl ⟨by decide, by decide⟩ 0 rfl rfl rfl hl.1 rfl (Nat.le_of_ble_eq_true rfl) d_Pr_doPlain_170 ⟨Nat.zero_le _, Nat.zero_le _⟩) hP hD hS [0, 1, 2, 3, 4, 5] [] rfl rfl (by decide) (by decide) (fun w1 H locs hw hP hD hS => ?_)
    obtain rfl := hw
    have hP : va_P D vCl (wP ad ca me (cpN (cpN (cpN nu 4 5) 3 4) 2 3) ro un li pt st cy pl bk en kc) H := hP
    have hD : va_D A (wP ad ca me (cpN (cpN (cpN nu 4 5) 3 4) 2 3) ro un li pt st cy pl bk en kc) := hD
    refine lv_goto (tgt := 241) hx hb d_Pr_doPlain_173 (by decide) ?_
    exact zret_v C0 hr hAe hP hD hS rfl d_Pr_doPlain_241
  · skip
    refine lv_iload_n hx hb d_Pr_doPlain_0 rfl (lv_at hl 1 rfl) ?_
    refine lv_tableIn (off := 175) (tgt := 176) hx hb d_Pr_doPlain_1 (by decide) (by decide) (by decide) (by decide) ?_
    refine lv_aload_n hx hb d_Pr_doPlain_176 rfl (lv_at hl 0 rfl) ?_
    refine lv_iconst (v := nI 3) hx hb d_Pr_doPlain_177 (by decide) ?_
    refine lv_iconst (v := nI 0) hx hb d_Pr_doPlain_178 (by decide) ?_
    refine zgo_v (wr := []) C0 (zrunV (na := 2) (As := [.int (nI 3), .int (nI 0)]) (rest := []) C0 hP hD hS [0, 1, 2, 3, 4, 5] rfl rfl (m_Pr_copy l D ca k s.heap.size ad me nu ro un li pt st cy pl bk en kc 3 0 (by omega) (by omega)) (zg_V q506 q508 q818 q4 q509) (by decide +kernel) rfl rfl ⟨by decide, by decide⟩ 0 rfl rfl rfl hl.1 rfl (Nat.le_of_ble_eq_true rfl) d_Pr_doPlain_179 ⟨Nat.zero_le _, Nat.zero_le _⟩) hP hD hS [0, 1, 2, 3, 4, 5] [] rfl rfl (by decide) (by decide) (fun w1 H locs hw hP hD hS => ?_)
    obtain rfl := hw
    have hP : va_P D vCl (wP ad ca me (cpN nu 3 0) ro un li pt st cy pl bk en kc) H := hP
    have hD : va_D A (wP ad ca me (cpN nu 3 0) ro un li pt st cy pl bk en kc) := hD
    refine lv_aload_n hx hb d_Pr_doPlain_182 rfl (lv_at hl 0 rfl) ?_
    refine zgo_v (wr := []) C0 (zrunV (na := 0) (As := []) (rest := []) C0 hP hD hS [0, 1, 2, 3, 4, 5] rfl rfl (m_Pr_lowerStack l D ca k H.size ad me (cpN nu 3 0) ro un li pt st cy pl bk en kc ) (zg_V q510 q512 q819 q4 q513) (by decide +kernel) rfl rfl ⟨by decide, by decide⟩ 0 rfl rfl rfl hl.1 rfl (Nat.le_of_ble_eq_true rfl) d_Pr_doPlain_183 ⟨Nat.zero_le _, Nat.zero_le _⟩) hP hD hS [0, 1, 2, 3, 4, 5] [] rfl rfl (by decide) (by decide) (fun w1 H locs hw hP hD hS => ?_)
    obtain rfl := hw
    have hP : va_P D vCl (wP ad ca me (cpN (cpN (cpN nu 3 0) 4 3) 5 4) ro un li pt st cy pl bk en kc) H := hP
    have hD : va_D A (wP ad ca me (cpN (cpN (cpN nu 3 0) 4 3) 5 4) ro un li pt st cy pl bk en kc) := hD
    refine lv_goto (tgt := 241) hx hb d_Pr_doPlain_186 (by decide) ?_
    exact zret_v C0 hr hAe hP hD hS rfl d_Pr_doPlain_241
  · skip
    refine lv_iload_n hx hb d_Pr_doPlain_0 rfl (lv_at hl 1 rfl) ?_
    refine lv_tableIn (off := 188) (tgt := 189) hx hb d_Pr_doPlain_1 (by decide) (by decide) (by decide) (by decide) ?_
    refine lv_aload_n hx hb d_Pr_doPlain_189 rfl (lv_at hl 0 rfl) ?_
    refine lv_aload_n hx hb d_Pr_doPlain_190 rfl (lv_at hl 0 rfl) ?_
    refine va_get (D := D) (ci := 1) (v := .int (nI bk)) (C := RPr) (T := TPr) (N := 9) hx hb ht inPr hown hK hP 0 rfl rfl 7 (by decide) (ht _ q128) (fun _ h9 => h9) rfl d_Pr_doPlain_191 ?_
    refine va_put (D := D) (ci := 1) (v := .int (nI bk)) (ty := .int) (C := RPr) (T := TPr) (N := 9) hx hb ht inPr tyPr tyPr_ok nmPr hown hK hP hD hS 0 rfl rfl 6 (by decide) (ht _ q126) (fun _ h9 => h9) rfl (by decide +kernel) rfl rfl (Nat.le_of_ble_eq_true rfl) d_Pr_doPlain_194 (fun H locs hP hD hS => ?_)
    have hP : va_P D vCl (wP ad ca me nu ro un li pt st cy bk bk en kc) H := hP
    have hD : va_D A (wP ad ca me nu ro un li pt st cy bk bk en kc) := hD
    refine lv_goto (tgt := 241) hx hb d_Pr_doPlain_197 (by decide) ?_
    exact zret_v C0 hr hAe hP hD hS rfl d_Pr_doPlain_241
  · skip
    refine lv_iload_n hx hb d_Pr_doPlain_0 rfl (lv_at hl 1 rfl) ?_
    refine lv_tableIn (off := 199) (tgt := 200) hx hb d_Pr_doPlain_1 (by decide) (by decide) (by decide) (by decide) ?_
    refine lv_aload_n hx hb d_Pr_doPlain_200 rfl (lv_at hl 0 rfl) ?_
    refine zgo_v (wr := []) C0 (zrunV (na := 0) (As := []) (rest := []) C0 hP hD hS [0, 1, 2, 3, 4, 5] rfl rfl (m_Pr_takeKey l D ca k s.heap.size ad me nu ro un li pt st cy pl bk en kc (by omega) (by omega) (by assumption)) (zg_V q514 q516 q820 q4 q517) (by decide +kernel) rfl rfl ⟨by decide, by decide⟩ 0 rfl rfl rfl hl.1 rfl (Nat.le_of_ble_eq_true rfl) d_Pr_doPlain_201 ⟨Nat.zero_le _, Nat.zero_le _⟩) hP hD hS [0, 1, 2, 3, 4, 5] [] rfl rfl (by decide) (by decide) (fun w1 H locs hw hP hD hS => ?_)
    rcases hw with ⟨hk10, rfl⟩ | ⟨hk10, rfl⟩
    · skip
      have hP : va_P D vCl (wP ad ca me nu ro un li pt st cy ((pl + 64 - 1) % 64) bk 1 kc) H := hP
      have hD : va_D A (wP ad ca me nu ro un li pt st cy ((pl + 64 - 1) % 64) bk 1 kc) := hD
      refine lv_goto (tgt := 241) hx hb d_Pr_doPlain_204 (by decide) ?_
      exact zret_v C0 hr hAe hP hD hS (by simp only [plS]; rw [if_pos (by omega)]) d_Pr_doPlain_241
    · skip
      have hP : va_P D vCl (wP ad ca me nu (shC ro kc) un li pt st cy (ro 0 * 8 % 64) bk en (kc - 1)) H := hP
      have hD : va_D A (wP ad ca me nu (shC ro kc) un li pt st cy (ro 0 * 8 % 64) bk en (kc - 1)) := hD
      refine lv_goto (tgt := 241) hx hb d_Pr_doPlain_204 (by decide) ?_
      exact zret_v C0 hr hAe hP hD hS (by simp only [plS]; rw [if_neg (by omega)]) d_Pr_doPlain_241
  · skip
    refine lv_iload_n hx hb d_Pr_doPlain_0 rfl (lv_at hl 1 rfl) ?_
    refine lv_tableIn (off := 206) (tgt := 207) hx hb d_Pr_doPlain_1 (by decide) (by decide) (by decide) (by decide) ?_
    refine lv_aload_n hx hb d_Pr_doPlain_207 rfl (lv_at hl 0 rfl) ?_
    refine lv_iconst (v := nI 1) hx hb d_Pr_doPlain_208 (by decide) ?_
    refine va_put (D := D) (ci := 1) (v := .int (nI 1)) (ty := .boolean) (C := RPr) (T := TPr) (N := 9) hx hb ht inPr tyPr tyPr_ok nmPr hown hK hP hD hS 0 rfl rfl 8 (by decide) (ht _ q130) (fun _ h9 => h9) rfl (by decide +kernel) (zbn (by omega)) (zbf (by omega)) (Nat.le_of_ble_eq_true rfl) d_Pr_doPlain_209 (fun H locs hP hD hS => ?_)
    have hP : va_P D vCl (wP ad ca me nu ro un li pt st cy pl bk 1 kc) H := hP
    have hD : va_D A (wP ad ca me nu ro un li pt st cy pl bk 1 kc) := hD
    refine lv_goto (tgt := 241) hx hb d_Pr_doPlain_212 (by decide) ?_
    exact zret_v C0 hr hAe hP hD hS rfl d_Pr_doPlain_241
  · skip
    refine lv_iload_n hx hb d_Pr_doPlain_0 rfl (lv_at hl 1 rfl) ?_
    refine lv_tableIn (off := 214) (tgt := 215) hx hb d_Pr_doPlain_1 (by decide) (by decide) (by decide) (by decide) ?_
    refine lv_aload_n hx hb d_Pr_doPlain_215 rfl (lv_at hl 0 rfl) ?_
    refine zgo_v (wr := []) C0 (zrunV (na := 0) (As := []) (rest := []) C0 hP hD hS [0, 1, 2, 3, 4, 5] rfl rfl (m_Pr_exchangeMemory l D ca k s.heap.size ad me nu ro un li pt st cy pl bk en kc ) (zg_V q522 q524 q821 q4 q525) (by decide +kernel) rfl rfl ⟨by decide, by decide⟩ 0 rfl rfl rfl hl.1 rfl (Nat.le_of_ble_eq_true rfl) d_Pr_doPlain_216 ⟨Nat.zero_le _, Nat.zero_le _⟩) hP hD hS [0, 1, 2, 3, 4, 5] [] rfl rfl (by decide) (by decide) (fun w1 H locs hw hP hD hS => ?_)
    obtain rfl := hw
    have hP : va_P D vCl (wP ad ca me (uN (cpN nu 6 2) 6 (nu 2)) ro un li pt st cy pl bk en kc) H := hP
    have hD : va_D A (wP ad ca me (uN (cpN nu 6 2) 6 (nu 2)) ro un li pt st cy pl bk en kc) := hD
    refine lv_goto (tgt := 241) hx hb d_Pr_doPlain_219 (by decide) ?_
    exact zret_v C0 hr hAe hP hD hS rfl d_Pr_doPlain_241
  · skip
    refine lv_iload_n hx hb d_Pr_doPlain_0 rfl (lv_at hl 1 rfl) ?_
    refine lv_tableIn (off := 221) (tgt := 222) hx hb d_Pr_doPlain_1 (by decide) (by decide) (by decide) (by decide) ?_
    refine lv_aload_n hx hb d_Pr_doPlain_222 rfl (lv_at hl 0 rfl) ?_
    refine lv_iconst (v := nI 2) hx hb d_Pr_doPlain_223 (by decide) ?_
    refine lv_iconst (v := nI 0) hx hb d_Pr_doPlain_224 (by decide) ?_
    refine zgo_v (wr := []) C0 (zrunV (na := 2) (As := [.int (nI 2), .int (nI 0)]) (rest := []) C0 hP hD hS [0, 1, 2, 3, 4, 5] rfl rfl (m_Pr_copy l D ca k s.heap.size ad me nu ro un li pt st cy pl bk en kc 2 0 (by omega) (by omega)) (zg_V q506 q508 q818 q4 q509) (by decide +kernel) rfl rfl ⟨by decide, by decide⟩ 0 rfl rfl rfl hl.1 rfl (Nat.le_of_ble_eq_true rfl) d_Pr_doPlain_225 ⟨Nat.zero_le _, Nat.zero_le _⟩) hP hD hS [0, 1, 2, 3, 4, 5] [] rfl rfl (by decide) (by decide) (fun w1 H locs hw hP hD hS => ?_)
    obtain rfl := hw
    have hP : va_P D vCl (wP ad ca me (cpN nu 2 0) ro un li pt st cy pl bk en kc) H := hP
    have hD : va_D A (wP ad ca me (cpN nu 2 0) ro un li pt st cy pl bk en kc) := hD
    refine lv_aload_n hx hb d_Pr_doPlain_228 rfl (lv_at hl 0 rfl) ?_
    refine lv_iconst (v := nI 3) hx hb d_Pr_doPlain_229 (by decide) ?_
    refine lv_iconst (v := nI 2) hx hb d_Pr_doPlain_230 (by decide) ?_
    refine zgo_v (wr := []) C0 (zrunV (na := 2) (As := [.int (nI 3), .int (nI 2)]) (rest := []) C0 hP hD hS [0, 1, 2, 3, 4, 5] rfl rfl (m_Pr_copy l D ca k H.size ad me (cpN nu 2 0) ro un li pt st cy pl bk en kc 3 2 (by omega) (by omega)) (zg_V q506 q508 q818 q4 q509) (by decide +kernel) rfl rfl ⟨by decide, by decide⟩ 0 rfl rfl rfl hl.1 rfl (Nat.le_of_ble_eq_true rfl) d_Pr_doPlain_231 ⟨Nat.zero_le _, Nat.zero_le _⟩) hP hD hS [0, 1, 2, 3, 4, 5] [] rfl rfl (by decide) (by decide) (fun w1 H locs hw hP hD hS => ?_)
    obtain rfl := hw
    have hP : va_P D vCl (wP ad ca me (cpN (cpN nu 2 0) 3 2) ro un li pt st cy pl bk en kc) H := hP
    have hD : va_D A (wP ad ca me (cpN (cpN nu 2 0) 3 2) ro un li pt st cy pl bk en kc) := hD
    refine lv_aload_n hx hb d_Pr_doPlain_234 rfl (lv_at hl 0 rfl) ?_
    refine zgo_v (wr := []) C0 (zrunV (na := 0) (As := []) (rest := []) C0 hP hD hS [0, 1, 2, 3, 4, 5] rfl rfl (m_Pr_lowerStack l D ca k H.size ad me (cpN (cpN nu 2 0) 3 2) ro un li pt st cy pl bk en kc ) (zg_V q510 q512 q819 q4 q513) (by decide +kernel) rfl rfl ⟨by decide, by decide⟩ 0 rfl rfl rfl hl.1 rfl (Nat.le_of_ble_eq_true rfl) d_Pr_doPlain_235 ⟨Nat.zero_le _, Nat.zero_le _⟩) hP hD hS [0, 1, 2, 3, 4, 5] [] rfl rfl (by decide) (by decide) (fun w1 H locs hw hP hD hS => ?_)
    obtain rfl := hw
    have hP : va_P D vCl (wP ad ca me (cpN (cpN (cpN (cpN nu 2 0) 3 2) 4 3) 5 4) ro un li pt st cy pl bk en kc) H := hP
    have hD : va_D A (wP ad ca me (cpN (cpN (cpN (cpN nu 2 0) 3 2) 4 3) 5 4) ro un li pt st cy pl bk en kc) := hD
    refine lv_goto (tgt := 241) hx hb d_Pr_doPlain_238 (by decide) ?_
    exact zret_v C0 hr hAe hP hD hS rfl d_Pr_doPlain_241
