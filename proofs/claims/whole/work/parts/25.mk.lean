set_option maxHeartbeats 4000000 in
set_option maxRecDepth 100000 in
theorem m_Mo_mark (l : Launch) (D : va_G) (ca : Nat → ClassId) (k : Nat → Nat) (sz : Nat) (ad : Nat → Nat) (cd : Nat) (po nu : Nat → Nat) (pt : Nat) (st : Int32) (cy pl bk : Nat) (me : Nat → Nat) (kc : Nat) (ro : Nat → Nat) (en un li tn : Nat) (tx : Nat → Nat) (ia : Int32) (ct : Nat) (md : Nat → Nat) (lb wn : Nat → Int32) (h0 op g : Nat) (hop : op < 9) (hg : g < 16) (hpt : pt < 14) (hpl : pl < 64) (hk3 : kc ≤ 3) (hro : ∀ j, ro j < 16) (hn : ∀ j, nu j < 10 ^ 14) (hpo : ∀ j, j < 15 → po j = 10 ^ j) : Met l y_Mo_mark (zw y_Mo_mark c_Mo_mark 3 none) { frames := 2, cells := 0, slots := 0, locals := 44 } (va_Pc [.ref (ad 12), .int (nI op), .int (nI g)] (zPre D (zty ca) k (wM ad ca cd po nu pt st cy pl bk me kc ro en un li tn tx ia ct md lb wn) sz)) (va_Qv (fun w => w = wM ad ca cd po ((plM h0 op g (me, nu, ro, un, li, pt, st, cy, pl, bk, en, kc)).2.1) ((plM h0 op g (me, nu, ro, un, li, pt, st, cy, pl, bk, en, kc)).2.2.2.2.2.1) ((plM h0 op g (me, nu, ro, un, li, pt, st, cy, pl, bk, en, kc)).2.2.2.2.2.2.1) ((plM h0 op g (me, nu, ro, un, li, pt, st, cy, pl, bk, en, kc)).2.2.2.2.2.2.2.1) ((plM h0 op g (me, nu, ro, un, li, pt, st, cy, pl, bk, en, kc)).2.2.2.2.2.2.2.2.1) ((plM h0 op g (me, nu, ro, un, li, pt, st, cy, pl, bk, en, kc)).2.2.2.2.2.2.2.2.2.1) ((plM h0 op g (me, nu, ro, un, li, pt, st, cy, pl, bk, en, kc)).1) ((plM h0 op g (me, nu, ro, un, li, pt, st, cy, pl, bk, en, kc)).2.2.2.2.2.2.2.2.2.2.2) ((plM h0 op g (me, nu, ro, un, li, pt, st, cy, pl, bk, en, kc)).2.2.1) ((plM h0 op g (me, nu, ro, un, li, pt, st, cy, pl, bk, en, kc)).2.2.2.2.2.2.2.2.2.2.1) ((plM h0 op g (me, nu, ro, un, li, pt, st, cy, pl, bk, en, kc)).2.2.2.1) ((plM h0 op g (me, nu, ro, un, li, pt, st, cy, pl, bk, en, kc)).2.2.2.2.1) tn tx ia ct md lb wn) (zB D (zty ca) (wM ad ca cd po nu pt st cy pl bk me kc ro en un li tn tx ia ct md lb wn) sz) (va_A (wM ad ca cd po nu pt st cy pl bk me kc ro en un li tn tx ia ct md lb wn) sz)) 0 0 (va_A (wM ad ca cd po nu pt st cy pl bk me kc ro en un li tn tx ia ct md lb wn) sz) := by
  refine zOf (own := "DigitChipModel") (by decide +kernel) rfl (Nat.le_of_ble_eq_true rfl) ?_
  intro p e s m below meth c A ls C0 hr hnm hAe hsz hl hP hD hS
  have hl : lv_has ls 3 [(0, .ref (ad 12)), (1, .int (nI op)), (2, .int (nI g))] := hl
  obtain ⟨hx, hb, hml, hown, ht, hK, hX, hA, hlk⟩ := id C0
  rcases (show op = 0 ∨ op = 1 ∨ op = 2 ∨ op = 3 ∨ op = 4 ∨ op = 5 ∨ op = 6 ∨ op = 7 ∨ op = 8 from by omega) with rfl | rfl | rfl | rfl | rfl | rfl | rfl | rfl | rfl
  · skip
    refine lv_iload_n hx hb d_Mo_mark_0 rfl (lv_at hl 1 rfl) ?_
    refine lv_tableOut (tgt := 244) hx hb d_Mo_mark_1 (by decide) (by decide) ?_
    exact zret_v C0 hr hAe hP hD hS rfl d_Mo_mark_244
  · skip
    refine lv_iload_n hx hb d_Mo_mark_0 rfl (lv_at hl 1 rfl) ?_
    refine lv_tableIn (off := 47) (tgt := 48) hx hb d_Mo_mark_1 (by decide) (by decide) (by decide) (by decide) ?_
    refine lv_aload_n hx hb d_Mo_mark_48 rfl (lv_at hl 0 rfl) ?_
    refine lv_iload_n hx hb d_Mo_mark_49 rfl (lv_at hl 2 rfl) ?_
    refine lv_bipush (v := nI 14) hx hb d_Mo_mark_50 (by decide) ?_
    refine lv_irem hx hb d_Mo_mark_52 (nI_ne0 (by omega) (by omega)) ?_
    refine zti (y := nI (g % 14)) (pk_rem (by omega) (by omega) (by omega)) ?_
    refine va_put (D := D) (ci := 5) (v := .int (nI (g % 14))) (ty := .int) (C := RMo) (T := TMo) (N := 21) hx hb ht inMo tyMo tyMo_ok nmMo hown hK hP hD hS 0 rfl rfl 3 (by decide) (ht _ q549) (fun _ h9 => h9) rfl (by decide +kernel) rfl rfl (Nat.le_of_ble_eq_true rfl) d_Mo_mark_53 (fun H locs hP hD hS => ?_)
    have hP : va_P D vCl (wM ad ca cd po nu (g % 14) st cy pl bk me kc ro en un li tn tx ia ct md lb wn) H := hP
    have hD : va_D A (wM ad ca cd po nu (g % 14) st cy pl bk me kc ro en un li tn tx ia ct md lb wn) := hD
    refine lv_goto (tgt := 244) hx hb d_Mo_mark_56 (by decide) ?_
    exact zret_v C0 hr hAe hP hD hS rfl d_Mo_mark_244
  · skip
    refine lv_iload_n hx hb d_Mo_mark_0 rfl (lv_at hl 1 rfl) ?_
    refine lv_tableIn (off := 58) (tgt := 59) hx hb d_Mo_mark_1 (by decide) (by decide) (by decide) (by decide) ?_
    refine lv_aload_n hx hb d_Mo_mark_59 rfl (lv_at hl 0 rfl) ?_
    refine lv_aload_n hx hb d_Mo_mark_60 rfl (lv_at hl 0 rfl) ?_
    refine va_get (D := D) (ci := 5) (v := .int (nI pt)) (C := RMo) (T := TMo) (N := 21) hx hb ht inMo hown hK hP 0 rfl rfl 3 (by decide) (ht _ q549) (fun _ h9 => h9) rfl d_Mo_mark_61 ?_
    refine lv_iload_n hx hb d_Mo_mark_64 rfl (lv_at hl 2 rfl) ?_
    refine lv_icmp_ne (tgt := 72) hx hb d_Mo_mark_65 (by decide) (fun h1 => ?_) (fun h1 => ?_)
    · skip
      have h1 : ¬ (pt = g) := fun z => h1 ((nI_eq (by omega) (by omega)).mpr z)
      refine lv_iconst (v := nI 0) hx hb d_Mo_mark_72 (by decide) ?_
      refine va_put (D := D) (ci := 5) (v := .int (nI 0)) (ty := .boolean) (C := RMo) (T := TMo) (N := 21) hx hb ht inMo tyMo tyMo_ok nmMo hown hK hP hD hS 0 rfl rfl 5 (by decide) (ht _ q551) (fun _ h9 => h9) rfl (by decide +kernel) (zbn (by omega)) (zbf (by omega)) (Nat.le_of_ble_eq_true rfl) d_Mo_mark_73 (fun H locs hP hD hS => ?_)
      have hP : va_P D vCl (wM ad ca cd po nu pt st 0 pl bk me kc ro en un li tn tx ia ct md lb wn) H := hP
      have hD : va_D A (wM ad ca cd po nu pt st 0 pl bk me kc ro en un li tn tx ia ct md lb wn) := hD
      refine lv_goto (tgt := 244) hx hb d_Mo_mark_76 (by decide) ?_
      exact zret_v C0 hr hAe hP hD hS (by rw [show plM h0 2 g (me, nu, ro, un, li, pt, st, cy, pl, bk, en, kc) = plS 2 g (me, nu, ro, un, li, pt, st, cy, pl, bk, en, kc) from rfl]; simp only [plS]; rw [if_neg h1]) d_Mo_mark_244
    · skip
      have h1 : (pt = g) := (nI_eq (by omega) (by omega)).mp h1
      refine lv_iconst (v := nI 1) hx hb d_Mo_mark_68 (by decide) ?_
      refine lv_goto (tgt := 73) hx hb d_Mo_mark_69 (by decide) ?_
      refine va_put (D := D) (ci := 5) (v := .int (nI 1)) (ty := .boolean) (C := RMo) (T := TMo) (N := 21) hx hb ht inMo tyMo tyMo_ok nmMo hown hK hP hD hS 0 rfl rfl 5 (by decide) (ht _ q551) (fun _ h9 => h9) rfl (by decide +kernel) (zbn (by omega)) (zbf (by omega)) (Nat.le_of_ble_eq_true rfl) d_Mo_mark_73 (fun H locs hP hD hS => ?_)
      have hP : va_P D vCl (wM ad ca cd po nu pt st 1 pl bk me kc ro en un li tn tx ia ct md lb wn) H := hP
      have hD : va_D A (wM ad ca cd po nu pt st 1 pl bk me kc ro en un li tn tx ia ct md lb wn) := hD
      refine lv_goto (tgt := 244) hx hb d_Mo_mark_76 (by decide) ?_
      exact zret_v C0 hr hAe hP hD hS (by rw [show plM h0 2 g (me, nu, ro, un, li, pt, st, cy, pl, bk, en, kc) = plS 2 g (me, nu, ro, un, li, pt, st, cy, pl, bk, en, kc) from rfl]; simp only [plS]; rw [if_pos h1]) d_Mo_mark_244
  · skip
    refine lv_iload_n hx hb d_Mo_mark_0 rfl (lv_at hl 1 rfl) ?_
    refine lv_tableIn (off := 78) (tgt := 79) hx hb d_Mo_mark_1 (by decide) (by decide) (by decide) (by decide) ?_
    refine lv_iload_n hx hb d_Mo_mark_79 rfl (lv_at hl 2 rfl) ?_
    refine lv_bipush (v := nI 12) hx hb d_Mo_mark_80 (by decide) ?_
    refine lv_icmp_ge (tgt := 244) hx hb d_Mo_mark_82 (by decide) (fun h2 => ?_) (fun h2 => ?_)
    · skip
      have h2 : (12 ≤ g) := (nI_leI (by omega) (by omega)).mp h2
      exact zret_v C0 hr hAe hP hD hS (by rw [show plM h0 3 g (me, nu, ro, un, li, pt, st, cy, pl, bk, en, kc) = plS 3 g (me, nu, ro, un, li, pt, st, cy, pl, bk, en, kc) from rfl]; simp only [plS]; rw [show sSt g st = _ from if_neg (by omega)]) d_Mo_mark_244
    · skip
      have h2 : ¬ (12 ≤ g) := fun z => h2 ((nI_leI (by omega) (by omega)).mpr z)
      refine lv_aload_n hx hb d_Mo_mark_85 rfl (lv_at hl 0 rfl) ?_
      refine lv_aload_n hx hb d_Mo_mark_86 rfl (lv_at hl 0 rfl) ?_
      refine va_get (D := D) (ci := 5) (v := .int st) (C := RMo) (T := TMo) (N := 21) hx hb ht inMo hown hK hP 0 rfl rfl 4 (by decide) (ht _ q550) (fun _ h9 => h9) rfl d_Mo_mark_87 ?_
      refine lv_iconst (v := nI 1) hx hb d_Mo_mark_90 (by decide) ?_
      refine lv_iload_n hx hb d_Mo_mark_91 rfl (lv_at hl 2 rfl) ?_
      refine lv_ishl hx hb d_Mo_mark_92 ?_
      refine lv_ior hx hb d_Mo_mark_93 ?_
      refine va_put (D := D) (ci := 5) (v := .int (st ||| ((nI 1) <<< ((nI g) &&& 31)))) (ty := .int) (C := RMo) (T := TMo) (N := 21) hx hb ht inMo tyMo tyMo_ok nmMo hown hK hP hD hS 0 rfl rfl 4 (by decide) (ht _ q550) (fun _ h9 => h9) rfl (by decide +kernel) rfl rfl (Nat.le_of_ble_eq_true rfl) d_Mo_mark_94 (fun H locs hP hD hS => ?_)
      have hP : va_P D vCl (wM ad ca cd po nu pt (st ||| ((nI 1) <<< ((nI g) &&& 31))) cy pl bk me kc ro en un li tn tx ia ct md lb wn) H := hP
      have hD : va_D A (wM ad ca cd po nu pt (st ||| ((nI 1) <<< ((nI g) &&& 31))) cy pl bk me kc ro en un li tn tx ia ct md lb wn) := hD
      refine lv_goto (tgt := 244) hx hb d_Mo_mark_97 (by decide) ?_
      exact zret_v C0 hr hAe hP hD hS (by rw [show plM h0 3 g (me, nu, ro, un, li, pt, st, cy, pl, bk, en, kc) = plS 3 g (me, nu, ro, un, li, pt, st, cy, pl, bk, en, kc) from rfl]; simp only [plS]; rw [show sSt g st = _ from if_pos (by omega)]) d_Mo_mark_244
  · skip
    refine lv_iload_n hx hb d_Mo_mark_0 rfl (lv_at hl 1 rfl) ?_
    refine lv_tableIn (off := 99) (tgt := 100) hx hb d_Mo_mark_1 (by decide) (by decide) (by decide) (by decide) ?_
    refine lv_iload_n hx hb d_Mo_mark_100 rfl (lv_at hl 2 rfl) ?_
    refine lv_bipush (v := nI 12) hx hb d_Mo_mark_101 (by decide) ?_
    refine lv_icmp_ge (tgt := 244) hx hb d_Mo_mark_103 (by decide) (fun h3 => ?_) (fun h3 => ?_)
    · skip
      have h3 : (12 ≤ g) := (nI_leI (by omega) (by omega)).mp h3
      exact zret_v C0 hr hAe hP hD hS (by rw [show plM h0 4 g (me, nu, ro, un, li, pt, st, cy, pl, bk, en, kc) = plS 4 g (me, nu, ro, un, li, pt, st, cy, pl, bk, en, kc) from rfl]; simp only [plS]; rw [show cSt g st = _ from if_neg (by omega)]) d_Mo_mark_244
    · skip
      have h3 : ¬ (12 ≤ g) := fun z => h3 ((nI_leI (by omega) (by omega)).mpr z)
      refine lv_aload_n hx hb d_Mo_mark_106 rfl (lv_at hl 0 rfl) ?_
      refine lv_aload_n hx hb d_Mo_mark_107 rfl (lv_at hl 0 rfl) ?_
      refine va_get (D := D) (ci := 5) (v := .int st) (C := RMo) (T := TMo) (N := 21) hx hb ht inMo hown hK hP 0 rfl rfl 4 (by decide) (ht _ q550) (fun _ h9 => h9) rfl d_Mo_mark_108 ?_
      refine lv_iconst (v := nI 1) hx hb d_Mo_mark_111 (by decide) ?_
      refine lv_iload_n hx hb d_Mo_mark_112 rfl (lv_at hl 2 rfl) ?_
      refine lv_ishl hx hb d_Mo_mark_113 ?_
      refine lv_iconst (v := (-1)) hx hb d_Mo_mark_114 (by decide) ?_
      refine lv_ixor hx hb d_Mo_mark_115 ?_
      refine lv_iand hx hb d_Mo_mark_116 ?_
      refine va_put (D := D) (ci := 5) (v := .int (st &&& (((nI 1) <<< ((nI g) &&& 31)) ^^^ (-1)))) (ty := .int) (C := RMo) (T := TMo) (N := 21) hx hb ht inMo tyMo tyMo_ok nmMo hown hK hP hD hS 0 rfl rfl 4 (by decide) (ht _ q550) (fun _ h9 => h9) rfl (by decide +kernel) rfl rfl (Nat.le_of_ble_eq_true rfl) d_Mo_mark_117 (fun H locs hP hD hS => ?_)
      have hP : va_P D vCl (wM ad ca cd po nu pt (st &&& (((nI 1) <<< ((nI g) &&& 31)) ^^^ (-1))) cy pl bk me kc ro en un li tn tx ia ct md lb wn) H := hP
      have hD : va_D A (wM ad ca cd po nu pt (st &&& (((nI 1) <<< ((nI g) &&& 31)) ^^^ (-1))) cy pl bk me kc ro en un li tn tx ia ct md lb wn) := hD
      refine lv_goto (tgt := 244) hx hb d_Mo_mark_120 (by decide) ?_
      exact zret_v C0 hr hAe hP hD hS (by rw [show plM h0 4 g (me, nu, ro, un, li, pt, st, cy, pl, bk, en, kc) = plS 4 g (me, nu, ro, un, li, pt, st, cy, pl, bk, en, kc) from rfl]; simp only [plS]; rw [show cSt g st = _ from if_pos (by omega)]) d_Mo_mark_244
  · skip
    refine lv_iload_n hx hb d_Mo_mark_0 rfl (lv_at hl 1 rfl) ?_
    refine lv_tableIn (off := 122) (tgt := 123) hx hb d_Mo_mark_1 (by decide) (by decide) (by decide) (by decide) ?_
    refine lv_aload_n hx hb d_Mo_mark_123 rfl (lv_at hl 0 rfl) ?_
    refine lv_iload_n hx hb d_Mo_mark_124 rfl (lv_at hl 2 rfl) ?_
    refine lv_bipush (v := nI 12) hx hb d_Mo_mark_125 (by decide) ?_
    refine lv_icmp_ge (tgt := 146) hx hb d_Mo_mark_127 (by decide) (fun h4 => ?_) (fun h4 => ?_)
    · skip
      have h4 : (12 ≤ g) := (nI_leI (by omega) (by omega)).mp h4
      refine lv_iconst (v := nI 0) hx hb d_Mo_mark_146 (by decide) ?_
      refine va_put (D := D) (ci := 5) (v := .int (nI 0)) (ty := .boolean) (C := RMo) (T := TMo) (N := 21) hx hb ht inMo tyMo tyMo_ok nmMo hown hK hP hD hS 0 rfl rfl 5 (by decide) (ht _ q551) (fun _ h9 => h9) rfl (by decide +kernel) (zbn (by omega)) (zbf (by omega)) (Nat.le_of_ble_eq_true rfl) d_Mo_mark_147 (fun H locs hP hD hS => ?_)
      have hP : va_P D vCl (wM ad ca cd po nu pt st 0 pl bk me kc ro en un li tn tx ia ct md lb wn) H := hP
      have hD : va_D A (wM ad ca cd po nu pt st 0 pl bk me kc ro en un li tn tx ia ct md lb wn) := hD
      refine lv_goto (tgt := 244) hx hb d_Mo_mark_150 (by decide) ?_
      exact zret_v C0 hr hAe hP hD hS (by rw [show plM h0 5 g (me, nu, ro, un, li, pt, st, cy, pl, bk, en, kc) = plS 5 g (me, nu, ro, un, li, pt, st, cy, pl, bk, en, kc) from rfl]; simp only [plS]; rw [show hSt g st = 0 from if_neg (fun z => by omega)]) d_Mo_mark_244
    · skip
      have h4 : ¬ (12 ≤ g) := fun z => h4 ((nI_leI (by omega) (by omega)).mpr z)
      refine lv_aload_n hx hb d_Mo_mark_130 rfl (lv_at hl 0 rfl) ?_
      refine va_get (D := D) (ci := 5) (v := .int st) (C := RMo) (T := TMo) (N := 21) hx hb ht inMo hown hK hP 0 rfl rfl 4 (by decide) (ht _ q550) (fun _ h9 => h9) rfl d_Mo_mark_131 ?_
      refine lv_iload_n hx hb d_Mo_mark_134 rfl (lv_at hl 2 rfl) ?_
      refine lv_ishr hx hb d_Mo_mark_135 ?_
      refine lv_iconst (v := nI 1) hx hb d_Mo_mark_136 (by decide) ?_
      refine lv_iand hx hb d_Mo_mark_137 ?_
      refine lv_iconst (v := nI 1) hx hb d_Mo_mark_138 (by decide) ?_
      refine lv_icmp_ne (tgt := 146) hx hb d_Mo_mark_139 (by decide) (fun h5 => ?_) (fun h5 => ?_)
      · skip
        refine lv_iconst (v := nI 0) hx hb d_Mo_mark_146 (by decide) ?_
        refine va_put (D := D) (ci := 5) (v := .int (nI 0)) (ty := .boolean) (C := RMo) (T := TMo) (N := 21) hx hb ht inMo tyMo tyMo_ok nmMo hown hK hP hD hS 0 rfl rfl 5 (by decide) (ht _ q551) (fun _ h9 => h9) rfl (by decide +kernel) (zbn (by omega)) (zbf (by omega)) (Nat.le_of_ble_eq_true rfl) d_Mo_mark_147 (fun H locs hP hD hS => ?_)
        have hP : va_P D vCl (wM ad ca cd po nu pt st 0 pl bk me kc ro en un li tn tx ia ct md lb wn) H := hP
        have hD : va_D A (wM ad ca cd po nu pt st 0 pl bk me kc ro en un li tn tx ia ct md lb wn) := hD
        refine lv_goto (tgt := 244) hx hb d_Mo_mark_150 (by decide) ?_
        exact zret_v C0 hr hAe hP hD hS (by rw [show plM h0 5 g (me, nu, ro, un, li, pt, st, cy, pl, bk, en, kc) = plS 5 g (me, nu, ro, un, li, pt, st, cy, pl, bk, en, kc) from rfl]; simp only [plS]; rw [show hSt g st = 0 from if_neg (fun z => h5 z.2)]) d_Mo_mark_244
      · skip
        refine lv_iconst (v := nI 1) hx hb d_Mo_mark_142 (by decide) ?_
        refine lv_goto (tgt := 147) hx hb d_Mo_mark_143 (by decide) ?_
        refine va_put (D := D) (ci := 5) (v := .int (nI 1)) (ty := .boolean) (C := RMo) (T := TMo) (N := 21) hx hb ht inMo tyMo tyMo_ok nmMo hown hK hP hD hS 0 rfl rfl 5 (by decide) (ht _ q551) (fun _ h9 => h9) rfl (by decide +kernel) (zbn (by omega)) (zbf (by omega)) (Nat.le_of_ble_eq_true rfl) d_Mo_mark_147 (fun H locs hP hD hS => ?_)
        have hP : va_P D vCl (wM ad ca cd po nu pt st 1 pl bk me kc ro en un li tn tx ia ct md lb wn) H := hP
        have hD : va_D A (wM ad ca cd po nu pt st 1 pl bk me kc ro en un li tn tx ia ct md lb wn) := hD
        refine lv_goto (tgt := 244) hx hb d_Mo_mark_150 (by decide) ?_
        exact zret_v C0 hr hAe hP hD hS (by rw [show plM h0 5 g (me, nu, ro, un, li, pt, st, cy, pl, bk, en, kc) = plS 5 g (me, nu, ro, un, li, pt, st, cy, pl, bk, en, kc) from rfl]; simp only [plS]; rw [show hSt g st = 1 from if_pos ⟨by omega, h5⟩]) d_Mo_mark_244
  · skip
    refine lv_iload_n hx hb d_Mo_mark_0 rfl (lv_at hl 1 rfl) ?_
    refine lv_tableIn (off := 152) (tgt := 153) hx hb d_Mo_mark_1 (by decide) (by decide) (by decide) (by decide) ?_
    refine lv_aload_n hx hb d_Mo_mark_153 rfl (lv_at hl 0 rfl) ?_
    refine lv_iconst (v := nI 0) hx hb d_Mo_mark_154 (by decide) ?_
    refine zgo_v (wr := []) C0 (zrunV (na := 1) (As := [.int (nI 0)]) (rest := []) C0 hP hD hS [0, 1, 2, 3, 4, 5, 6, 7, 8] rfl rfl (m_Mo_field l D ca k s.heap.size ad cd po nu pt st cy pl bk me kc ro en un li tn tx ia ct md lb wn 0 (by omega) (by omega) hpo) (zg_V q622 q624 q825 q7 q625) (by decide +kernel) rfl rfl ⟨by decide, by decide⟩ 0 rfl rfl rfl hl.1 rfl (Nat.le_of_ble_eq_true rfl) d_Mo_mark_155 ⟨Nat.zero_le _, Nat.zero_le _⟩) hP hD hS [0, 1, 2, 3, 4, 5, 6, 7, 8] [] rfl rfl (by decide) (by decide) (fun w1 H locs hw hP hD hS => ?_)
    obtain rfl := hw
    have hP : va_P D vCl (wM ad ca cd po nu pt st cy pl bk me kc ro en (fU pt 0) (fL pt 0) tn tx ia ct md lb wn) H := hP
    have hD : va_D A (wM ad ca cd po nu pt st cy pl bk me kc ro en (fU pt 0) (fL pt 0) tn tx ia ct md lb wn) := hD
    refine lv_aload_n hx hb d_Mo_mark_158 rfl (lv_at hl 0 rfl) ?_
    refine lv_iconst (v := nI 2) hx hb d_Mo_mark_159 (by decide) ?_
    refine lv_iload_n hx hb d_Mo_mark_160 rfl (lv_at hl 2 rfl) ?_
    refine lv_bipush (v := nI 10) hx hb d_Mo_mark_161 (by decide) ?_
    refine lv_irem hx hb d_Mo_mark_163 (nI_ne0 (by omega) (by omega)) ?_
    refine zti (y := nI (g % 10)) (pk_rem (by omega) (by omega) (by omega)) ?_
    refine lv_i2l (v := lN (g % 10)) hx hb d_Mo_mark_164 (nI_l (by omega)) ?_
    refine zgo_v (wr := []) C0 (zrunV (na := 2) (As := [.int (nI 2), .long (lN (g % 10))]) (rest := []) C0 hP hD hS [0, 1, 2, 3, 4, 5, 6, 7, 8] rfl rfl (m_Mo_write l D ca k H.size ad cd po nu pt st cy pl bk me kc ro en (fU pt 0) (fL pt 0) tn tx ia ct md lb wn 2 (g % 10) (by omega) hn (fU_pos _ _) (fU_le hpt) (fL_pos _ _) (fL_le hpt)) (zg_V q630 q632 q827 q7 q633) (by decide +kernel) rfl rfl ⟨by decide, by decide⟩ 0 rfl rfl rfl hl.1 rfl (Nat.le_of_ble_eq_true rfl) d_Mo_mark_165 ⟨Nat.zero_le _, Nat.zero_le _⟩) hP hD hS [0, 1, 2, 3, 4, 5, 6, 7, 8] [] rfl rfl (by decide) (by decide) (fun w1 H locs hw hP hD hS => ?_)
    obtain rfl := hw
    have hP : va_P D vCl (wM ad ca cd po (wr (fU pt 0) (fL pt 0) nu 2 (g % 10)) pt st cy pl bk me kc ro en (fU pt 0) (fL pt 0) tn tx ia ct md lb wn) H := hP
    have hD : va_D A (wM ad ca cd po (wr (fU pt 0) (fL pt 0) nu 2 (g % 10)) pt st cy pl bk me kc ro en (fU pt 0) (fL pt 0) tn tx ia ct md lb wn) := hD
    refine lv_aload_n hx hb d_Mo_mark_168 rfl (lv_at hl 0 rfl) ?_
    refine lv_aload_n hx hb d_Mo_mark_169 rfl (lv_at hl 0 rfl) ?_
    refine va_get (D := D) (ci := 5) (v := .int (nI pt)) (C := RMo) (T := TMo) (N := 21) hx hb ht inMo hown hK hP 0 rfl rfl 3 (by decide) (ht _ q549) (fun _ h9 => h9) rfl d_Mo_mark_170 ?_
    refine lv_if_ne (tgt := 181) hx hb d_Mo_mark_173 (by decide) (fun h8 => ?_) (fun h8 => ?_)
    · skip
      have h8 : ¬ (pt = 0) := fun z => h8 (by rw [z]; rfl)
      refine lv_aload_n hx hb d_Mo_mark_181 rfl (lv_at hl 0 rfl) ?_
      refine va_get (D := D) (ci := 5) (v := .int (nI pt)) (C := RMo) (T := TMo) (N := 21) hx hb ht inMo hown hK hP 0 rfl rfl 3 (by decide) (ht _ q549) (fun _ h9 => h9) rfl d_Mo_mark_182 ?_
      refine lv_iconst (v := nI 1) hx hb d_Mo_mark_185 (by decide) ?_
      refine lv_isub hx hb d_Mo_mark_186 ?_
      refine zti (y := nI (pt - 1)) (pk_sub (by omega)) ?_
      refine zti (y := nI ((pt + 14 - 1) % 14)) (congrArg nI (by omega)) ?_
      refine va_put (D := D) (ci := 5) (v := .int (nI ((pt + 14 - 1) % 14))) (ty := .int) (C := RMo) (T := TMo) (N := 21) hx hb ht inMo tyMo tyMo_ok nmMo hown hK hP hD hS 0 rfl rfl 3 (by decide) (ht _ q549) (fun _ h9 => h9) rfl (by decide +kernel) rfl rfl (Nat.le_of_ble_eq_true rfl) d_Mo_mark_187 (fun H locs hP hD hS => ?_)
      have hP : va_P D vCl (wM ad ca cd po (wr (fU pt 0) (fL pt 0) nu 2 (g % 10)) ((pt + 14 - 1) % 14) st cy pl bk me kc ro en (fU pt 0) (fL pt 0) tn tx ia ct md lb wn) H := hP
      have hD : va_D A (wM ad ca cd po (wr (fU pt 0) (fL pt 0) nu 2 (g % 10)) ((pt + 14 - 1) % 14) st cy pl bk me kc ro en (fU pt 0) (fL pt 0) tn tx ia ct md lb wn) := hD
      refine lv_goto (tgt := 244) hx hb d_Mo_mark_190 (by decide) ?_
      exact zret_v C0 hr hAe hP hD hS rfl d_Mo_mark_244
    · skip
      have h8 : (pt = 0) := (nI_eq (by omega) (by decide)).mp (h8.trans nI_0.symm)
      refine lv_bipush (v := nI 13) hx hb d_Mo_mark_176 (by decide) ?_
      refine lv_goto (tgt := 187) hx hb d_Mo_mark_178 (by decide) ?_
      refine zti (y := nI ((pt + 14 - 1) % 14)) (congrArg nI (by omega)) ?_
      refine va_put (D := D) (ci := 5) (v := .int (nI ((pt + 14 - 1) % 14))) (ty := .int) (C := RMo) (T := TMo) (N := 21) hx hb ht inMo tyMo tyMo_ok nmMo hown hK hP hD hS 0 rfl rfl 3 (by decide) (ht _ q549) (fun _ h9 => h9) rfl (by decide +kernel) rfl rfl (Nat.le_of_ble_eq_true rfl) d_Mo_mark_187 (fun H locs hP hD hS => ?_)
      have hP : va_P D vCl (wM ad ca cd po (wr (fU pt 0) (fL pt 0) nu 2 (g % 10)) ((pt + 14 - 1) % 14) st cy pl bk me kc ro en (fU pt 0) (fL pt 0) tn tx ia ct md lb wn) H := hP
      have hD : va_D A (wM ad ca cd po (wr (fU pt 0) (fL pt 0) nu 2 (g % 10)) ((pt + 14 - 1) % 14) st cy pl bk me kc ro en (fU pt 0) (fL pt 0) tn tx ia ct md lb wn) := hD
      refine lv_goto (tgt := 244) hx hb d_Mo_mark_190 (by decide) ?_
      exact zret_v C0 hr hAe hP hD hS rfl d_Mo_mark_244
  · skip
    refine lv_iload_n hx hb d_Mo_mark_0 rfl (lv_at hl 1 rfl) ?_
    refine lv_tableIn (off := 192) (tgt := 193) hx hb d_Mo_mark_1 (by decide) (by decide) (by decide) (by decide) ?_
    refine lv_aload_n hx hb d_Mo_mark_193 rfl (lv_at hl 0 rfl) ?_
    refine lv_aload_n hx hb d_Mo_mark_194 rfl (lv_at hl 0 rfl) ?_
    refine va_get (D := D) (ci := 5) (v := .int (nI pt)) (C := RMo) (T := TMo) (N := 21) hx hb ht inMo hown hK hP 0 rfl rfl 3 (by decide) (ht _ q549) (fun _ h9 => h9) rfl d_Mo_mark_195 ?_
    refine lv_bipush (v := nI 13) hx hb d_Mo_mark_198 (by decide) ?_
    refine lv_icmp_ne (tgt := 207) hx hb d_Mo_mark_200 (by decide) (fun h9 => ?_) (fun h9 => ?_)
    · skip
      have h9 : ¬ (pt = 13) := fun z => h9 ((nI_eq (by omega) (by omega)).mpr z)
      refine lv_aload_n hx hb d_Mo_mark_207 rfl (lv_at hl 0 rfl) ?_
      refine va_get (D := D) (ci := 5) (v := .int (nI pt)) (C := RMo) (T := TMo) (N := 21) hx hb ht inMo hown hK hP 0 rfl rfl 3 (by decide) (ht _ q549) (fun _ h9 => h9) rfl d_Mo_mark_208 ?_
      refine lv_iconst (v := nI 1) hx hb d_Mo_mark_211 (by decide) ?_
      refine lv_iadd hx hb d_Mo_mark_212 ?_
      refine zti (y := nI (pt + 1)) (nI_add _ _) ?_
      refine zti (y := nI ((pt + 1) % 14)) (congrArg nI (by omega)) ?_
      refine va_put (D := D) (ci := 5) (v := .int (nI ((pt + 1) % 14))) (ty := .int) (C := RMo) (T := TMo) (N := 21) hx hb ht inMo tyMo tyMo_ok nmMo hown hK hP hD hS 0 rfl rfl 3 (by decide) (ht _ q549) (fun _ h9 => h9) rfl (by decide +kernel) rfl rfl (Nat.le_of_ble_eq_true rfl) d_Mo_mark_213 (fun H locs hP hD hS => ?_)
      have hP : va_P D vCl (wM ad ca cd po nu ((pt + 1) % 14) st cy pl bk me kc ro en un li tn tx ia ct md lb wn) H := hP
      have hD : va_D A (wM ad ca cd po nu ((pt + 1) % 14) st cy pl bk me kc ro en un li tn tx ia ct md lb wn) := hD
      refine lv_goto (tgt := 244) hx hb d_Mo_mark_216 (by decide) ?_
      exact zret_v C0 hr hAe hP hD hS rfl d_Mo_mark_244
    · skip
      have h9 : (pt = 13) := (nI_eq (by omega) (by omega)).mp h9
      refine lv_iconst (v := nI 0) hx hb d_Mo_mark_203 (by decide) ?_
      refine lv_goto (tgt := 213) hx hb d_Mo_mark_204 (by decide) ?_
      refine zti (y := nI ((pt + 1) % 14)) (congrArg nI (by omega)) ?_
      refine va_put (D := D) (ci := 5) (v := .int (nI ((pt + 1) % 14))) (ty := .int) (C := RMo) (T := TMo) (N := 21) hx hb ht inMo tyMo tyMo_ok nmMo hown hK hP hD hS 0 rfl rfl 3 (by decide) (ht _ q549) (fun _ h9 => h9) rfl (by decide +kernel) rfl rfl (Nat.le_of_ble_eq_true rfl) d_Mo_mark_213 (fun H locs hP hD hS => ?_)
      have hP : va_P D vCl (wM ad ca cd po nu ((pt + 1) % 14) st cy pl bk me kc ro en un li tn tx ia ct md lb wn) H := hP
      have hD : va_D A (wM ad ca cd po nu ((pt + 1) % 14) st cy pl bk me kc ro en un li tn tx ia ct md lb wn) := hD
      refine lv_goto (tgt := 244) hx hb d_Mo_mark_216 (by decide) ?_
      exact zret_v C0 hr hAe hP hD hS rfl d_Mo_mark_244
  · skip
    refine lv_iload_n hx hb d_Mo_mark_0 rfl (lv_at hl 1 rfl) ?_
    refine lv_tableIn (off := 218) (tgt := 219) hx hb d_Mo_mark_1 (by decide) (by decide) (by decide) (by decide) ?_
    refine lv_aload_n hx hb d_Mo_mark_219 rfl (lv_at hl 0 rfl) ?_
    refine lv_aload_n hx hb d_Mo_mark_220 rfl (lv_at hl 0 rfl) ?_
    refine va_get (D := D) (ci := 5) (v := .int (nI pt)) (C := RMo) (T := TMo) (N := 21) hx hb ht inMo hown hK hP 0 rfl rfl 3 (by decide) (ht _ q549) (fun _ h9 => h9) rfl d_Mo_mark_221 ?_
    refine lv_if_ne (tgt := 232) hx hb d_Mo_mark_224 (by decide) (fun h10 => ?_) (fun h10 => ?_)
    · skip
      have h10 : ¬ (pt = 0) := fun z => h10 (by rw [z]; rfl)
      refine lv_aload_n hx hb d_Mo_mark_232 rfl (lv_at hl 0 rfl) ?_
      refine va_get (D := D) (ci := 5) (v := .int (nI pt)) (C := RMo) (T := TMo) (N := 21) hx hb ht inMo hown hK hP 0 rfl rfl 3 (by decide) (ht _ q549) (fun _ h9 => h9) rfl d_Mo_mark_233 ?_
      refine lv_iconst (v := nI 1) hx hb d_Mo_mark_236 (by decide) ?_
      refine lv_isub hx hb d_Mo_mark_237 ?_
      refine zti (y := nI (pt - 1)) (pk_sub (by omega)) ?_
      refine zti (y := nI ((pt + 14 - 1) % 14)) (congrArg nI (by omega)) ?_
      refine va_put (D := D) (ci := 5) (v := .int (nI ((pt + 14 - 1) % 14))) (ty := .int) (C := RMo) (T := TMo) (N := 21) hx hb ht inMo tyMo tyMo_ok nmMo hown hK hP hD hS 0 rfl rfl 3 (by decide) (ht _ q549) (fun _ h9 => h9) rfl (by decide +kernel) rfl rfl (Nat.le_of_ble_eq_true rfl) d_Mo_mark_238 (fun H locs hP hD hS => ?_)
      have hP : va_P D vCl (wM ad ca cd po nu ((pt + 14 - 1) % 14) st cy pl bk me kc ro en un li tn tx ia ct md lb wn) H := hP
      have hD : va_D A (wM ad ca cd po nu ((pt + 14 - 1) % 14) st cy pl bk me kc ro en un li tn tx ia ct md lb wn) := hD
      refine lv_goto (tgt := 244) hx hb d_Mo_mark_241 (by decide) ?_
      exact zret_v C0 hr hAe hP hD hS rfl d_Mo_mark_244
    · skip
      have h10 : (pt = 0) := (nI_eq (by omega) (by decide)).mp (h10.trans nI_0.symm)
      refine lv_bipush (v := nI 13) hx hb d_Mo_mark_227 (by decide) ?_
      refine lv_goto (tgt := 238) hx hb d_Mo_mark_229 (by decide) ?_
      refine zti (y := nI ((pt + 14 - 1) % 14)) (congrArg nI (by omega)) ?_
      refine va_put (D := D) (ci := 5) (v := .int (nI ((pt + 14 - 1) % 14))) (ty := .int) (C := RMo) (T := TMo) (N := 21) hx hb ht inMo tyMo tyMo_ok nmMo hown hK hP hD hS 0 rfl rfl 3 (by decide) (ht _ q549) (fun _ h9 => h9) rfl (by decide +kernel) rfl rfl (Nat.le_of_ble_eq_true rfl) d_Mo_mark_238 (fun H locs hP hD hS => ?_)
      have hP : va_P D vCl (wM ad ca cd po nu ((pt + 14 - 1) % 14) st cy pl bk me kc ro en un li tn tx ia ct md lb wn) H := hP
      have hD : va_D A (wM ad ca cd po nu ((pt + 14 - 1) % 14) st cy pl bk me kc ro en un li tn tx ia ct md lb wn) := hD
      refine lv_goto (tgt := 244) hx hb d_Mo_mark_241 (by decide) ?_
      exact zret_v C0 hr hAe hP hD hS rfl d_Mo_mark_244
set_option maxHeartbeats 4000000 in
set_option maxRecDepth 100000 in
theorem m_Mo_pick (l : Launch) (D : va_G) (ca : Nat → ClassId) (k : Nat → Nat) (sz : Nat) (ad : Nat → Nat) (cd : Nat) (po nu : Nat → Nat) (pt : Nat) (st : Int32) (cy pl bk : Nat) (me : Nat → Nat) (kc : Nat) (ro : Nat → Nat) (en un li tn : Nat) (tx : Nat → Nat) (ia : Int32) (ct : Nat) (md : Nat → Nat) (lb wn : Nat → Int32) (here : Nat) (hk3 : kc ≤ 3) (hro : ∀ j, ro j < 16) : Met l y_Mo_pick (zw y_Mo_pick c_Mo_pick 2 none) { frames := 0, cells := 0, slots := 0, locals := 0 } (va_Pc [.ref (ad 12), .int (nI here)] (zPre D (zty ca) k (wM ad ca cd po nu pt st cy pl bk me kc ro en un li tn tx ia ct md lb wn) sz)) (va_Qv (fun w => (kc = 0 ∧ w = wM ad ca cd po nu pt st cy here bk me kc ro 1 un li tn tx ia ct md lb wn) ∨ (0 < kc ∧ w = wM ad ca cd po nu pt st cy (8 * ro 0 % 64) bk me (kc - 1) (shM ro) en un li tn tx ia ct md lb wn)) (zB D (zty ca) (wM ad ca cd po nu pt st cy pl bk me kc ro en un li tn tx ia ct md lb wn) sz) (va_A (wM ad ca cd po nu pt st cy pl bk me kc ro en un li tn tx ia ct md lb wn) sz)) 0 0 (va_A (wM ad ca cd po nu pt st cy pl bk me kc ro en un li tn tx ia ct md lb wn) sz) := by
  refine zOf (own := "DigitChipModel") (by decide +kernel) rfl (Nat.le_of_ble_eq_true rfl) ?_
  intro p e s m below meth c A ls C0 hr hnm hAe hsz hl hP hD hS
  have hl : lv_has ls 2 [(0, .ref (ad 12)), (1, .int (nI here))] := hl
  obtain ⟨hx, hb, hml, hown, ht, hK, hX, hA, hlk⟩ := id C0
  have hr0 := hro 0
  refine lv_aload_n hx hb d_Mo_pick_0 rfl (lv_at hl 0 rfl) ?_
  refine va_get (D := D) (ci := 5) (v := .int (nI kc)) (C := RMo) (T := TMo) (N := 21) hx hb ht inMo hown hK hP 0 rfl rfl 9 (by decide) (ht _ q555) (fun _ h9 => h9) rfl d_Mo_pick_1 ?_
  refine lv_if_ne (tgt := 18) hx hb d_Mo_pick_4 (by decide) (fun h1 => ?_) (fun h1 => ?_)
  · skip
    have h1 : ¬ (kc = 0) := fun z => h1 (by rw [z]; rfl)
    refine lv_aload_n hx hb d_Mo_pick_18 rfl (lv_at hl 0 rfl) ?_
    refine lv_bipush (v := nI 8) hx hb d_Mo_pick_19 (by decide) ?_
    refine lv_aload_n hx hb d_Mo_pick_21 rfl (lv_at hl 0 rfl) ?_
    refine va_get (D := D) (ci := 5) (v := .ref (ad 16)) (C := RMo) (T := TMo) (N := 21) hx hb ht inMo hown hK hP 0 rfl rfl 10 (by decide) (ht _ q556) (fun _ h9 => h9) rfl d_Mo_pick_22 ?_
    refine lv_iconst (v := nI 0) hx hb d_Mo_pick_25 (by decide) ?_
    refine va_iald hx hb hK hP 4 0 rfl rfl (vp_in_nI (n := 0) (by omega) (by decide)) d_Mo_pick_26 ?_
    refine zti (y := nI (ro 0)) (nF_at (by omega)) ?_
    refine lv_imul hx hb d_Mo_pick_27 ?_
    refine zti (y := nI (8 * (ro 0))) (pk_mul _ _) ?_
    refine lv_bipush (v := nI 64) hx hb d_Mo_pick_28 (by decide) ?_
    refine lv_irem hx hb d_Mo_pick_30 (nI_ne0 (by omega) (by omega)) ?_
    refine zti (y := nI ((8 * (ro 0)) % 64)) (pk_rem (by omega) (by omega) (by omega)) ?_
    refine va_put (D := D) (ci := 5) (v := .int (nI ((8 * (ro 0)) % 64))) (ty := .int) (C := RMo) (T := TMo) (N := 21) hx hb ht inMo tyMo tyMo_ok nmMo hown hK hP hD hS 0 rfl rfl 6 (by decide) (ht _ q552) (fun _ h9 => h9) rfl (by decide +kernel) rfl rfl (Nat.le_of_ble_eq_true rfl) d_Mo_pick_31 (fun H locs hP hD hS => ?_)
    have hP : va_P D vCl (wM ad ca cd po nu pt st cy ((8 * (ro 0)) % 64) bk me kc ro en un li tn tx ia ct md lb wn) H := hP
    have hD : va_D A (wM ad ca cd po nu pt st cy ((8 * (ro 0)) % 64) bk me kc ro en un li tn tx ia ct md lb wn) := hD
    refine lv_aload_n hx hb d_Mo_pick_34 rfl (lv_at hl 0 rfl) ?_
    refine lv_dup hx hb d_Mo_pick_35 rfl ?_
    refine va_get (D := D) (ci := 5) (v := .int (nI kc)) (C := RMo) (T := TMo) (N := 21) hx hb ht inMo hown hK hP 0 rfl rfl 9 (by decide) (ht _ q555) (fun _ h9 => h9) rfl d_Mo_pick_36 ?_
    refine lv_iconst (v := nI 1) hx hb d_Mo_pick_39 (by decide) ?_
    refine lv_isub hx hb d_Mo_pick_40 ?_
    refine zti (y := nI (kc - 1)) (pk_sub (by omega)) ?_
    refine va_put (D := D) (ci := 5) (v := .int (nI (kc - 1))) (ty := .int) (C := RMo) (T := TMo) (N := 21) hx hb ht inMo tyMo tyMo_ok nmMo hown hK hP hD hS 0 rfl rfl 9 (by decide) (ht _ q555) (fun _ h9 => h9) rfl (by decide +kernel) rfl rfl (Nat.le_of_ble_eq_true rfl) d_Mo_pick_41 (fun H locs hP hD hS => ?_)
    have hP : va_P D vCl (wM ad ca cd po nu pt st cy ((8 * (ro 0)) % 64) bk me (kc - 1) ro en un li tn tx ia ct md lb wn) H := hP
    have hD : va_D A (wM ad ca cd po nu pt st cy ((8 * (ro 0)) % 64) bk me (kc - 1) ro en un li tn tx ia ct md lb wn) := hD
    refine lv_aload_n hx hb d_Mo_pick_44 rfl (lv_at hl 0 rfl) ?_
    refine va_get (D := D) (ci := 5) (v := .ref (ad 16)) (C := RMo) (T := TMo) (N := 21) hx hb ht inMo hown hK hP 0 rfl rfl 10 (by decide) (ht _ q556) (fun _ h9 => h9) rfl d_Mo_pick_45 ?_
    refine lv_iconst (v := nI 0) hx hb d_Mo_pick_48 (by decide) ?_
    refine lv_aload_n hx hb d_Mo_pick_49 rfl (lv_at hl 0 rfl) ?_
    refine va_get (D := D) (ci := 5) (v := .ref (ad 16)) (C := RMo) (T := TMo) (N := 21) hx hb ht inMo hown hK hP 0 rfl rfl 10 (by decide) (ht _ q556) (fun _ h9 => h9) rfl d_Mo_pick_50 ?_
    refine lv_iconst (v := nI 1) hx hb d_Mo_pick_53 (by decide) ?_
    refine va_iald hx hb hK hP 4 0 rfl rfl (vp_in_nI (n := 1) (by omega) (by decide)) d_Mo_pick_54 ?_
    refine zti (y := nI (ro 1)) (nF_at (by omega)) ?_
    refine va_iast hx hb hK hP hD hS 4 0 rfl rfl (vp_in_nI (n := 0) (by omega) (by decide)) d_Mo_pick_55 (fun H locs hP hD hS => ?_)
    rw [nF_up (by omega)] at hP hD
    have hP : va_P D vCl (wM ad ca cd po nu pt st cy ((8 * (ro 0)) % 64) bk me (kc - 1) (uN ro 0 (ro 1)) en un li tn tx ia ct md lb wn) H := hP
    have hD : va_D A (wM ad ca cd po nu pt st cy ((8 * (ro 0)) % 64) bk me (kc - 1) (uN ro 0 (ro 1)) en un li tn tx ia ct md lb wn) := hD
    refine lv_aload_n hx hb d_Mo_pick_56 rfl (lv_at hl 0 rfl) ?_
    refine va_get (D := D) (ci := 5) (v := .ref (ad 16)) (C := RMo) (T := TMo) (N := 21) hx hb ht inMo hown hK hP 0 rfl rfl 10 (by decide) (ht _ q556) (fun _ h9 => h9) rfl d_Mo_pick_57 ?_
    refine lv_iconst (v := nI 1) hx hb d_Mo_pick_60 (by decide) ?_
    refine lv_aload_n hx hb d_Mo_pick_61 rfl (lv_at hl 0 rfl) ?_
    refine va_get (D := D) (ci := 5) (v := .ref (ad 16)) (C := RMo) (T := TMo) (N := 21) hx hb ht inMo hown hK hP 0 rfl rfl 10 (by decide) (ht _ q556) (fun _ h9 => h9) rfl d_Mo_pick_62 ?_
    refine lv_iconst (v := nI 2) hx hb d_Mo_pick_65 (by decide) ?_
    refine va_iald hx hb hK hP 4 0 rfl rfl (vp_in_nI (n := 2) (by omega) (by decide)) d_Mo_pick_66 ?_
    refine zti (y := nI ((uN ro 0 (ro 1)) 2)) (nF_at (by omega)) ?_
    refine va_iast hx hb hK hP hD hS 4 0 rfl rfl (vp_in_nI (n := 1) (by omega) (by decide)) d_Mo_pick_67 (fun H locs hP hD hS => ?_)
    rw [nF_up (by omega)] at hP hD
    have hP : va_P D vCl (wM ad ca cd po nu pt st cy ((8 * (ro 0)) % 64) bk me (kc - 1) (uN (uN ro 0 (ro 1)) 1 ((uN ro 0 (ro 1)) 2)) en un li tn tx ia ct md lb wn) H := hP
    have hD : va_D A (wM ad ca cd po nu pt st cy ((8 * (ro 0)) % 64) bk me (kc - 1) (uN (uN ro 0 (ro 1)) 1 ((uN ro 0 (ro 1)) 2)) en un li tn tx ia ct md lb wn) := hD
    exact zret_v C0 hr hAe hP hD hS (Or.inr ⟨by omega, rfl⟩) d_Mo_pick_68
  · skip
    have h1 : (kc = 0) := (nI_eq (by omega) (by decide)).mp (h1.trans nI_0.symm)
    refine lv_aload_n hx hb d_Mo_pick_7 rfl (lv_at hl 0 rfl) ?_
    refine lv_iload_n hx hb d_Mo_pick_8 rfl (lv_at hl 1 rfl) ?_
    refine va_put (D := D) (ci := 5) (v := .int (nI here)) (ty := .int) (C := RMo) (T := TMo) (N := 21) hx hb ht inMo tyMo tyMo_ok nmMo hown hK hP hD hS 0 rfl rfl 6 (by decide) (ht _ q552) (fun _ h9 => h9) rfl (by decide +kernel) rfl rfl (Nat.le_of_ble_eq_true rfl) d_Mo_pick_9 (fun H locs hP hD hS => ?_)
    have hP : va_P D vCl (wM ad ca cd po nu pt st cy here bk me kc ro en un li tn tx ia ct md lb wn) H := hP
    have hD : va_D A (wM ad ca cd po nu pt st cy here bk me kc ro en un li tn tx ia ct md lb wn) := hD
    refine lv_aload_n hx hb d_Mo_pick_12 rfl (lv_at hl 0 rfl) ?_
    refine lv_iconst (v := nI 1) hx hb d_Mo_pick_13 (by decide) ?_
    refine va_put (D := D) (ci := 5) (v := .int (nI 1)) (ty := .boolean) (C := RMo) (T := TMo) (N := 21) hx hb ht inMo tyMo tyMo_ok nmMo hown hK hP hD hS 0 rfl rfl 11 (by decide) (ht _ q557) (fun _ h9 => h9) rfl (by decide +kernel) (zbn (by omega)) (zbf (by omega)) (Nat.le_of_ble_eq_true rfl) d_Mo_pick_14 (fun H locs hP hD hS => ?_)
    have hP : va_P D vCl (wM ad ca cd po nu pt st cy here bk me kc ro 1 un li tn tx ia ct md lb wn) H := hP
    have hD : va_D A (wM ad ca cd po nu pt st cy here bk me kc ro 1 un li tn tx ia ct md lb wn) := hD
    exact zret_v C0 hr hAe hP hD hS (Or.inl ⟨h1, rfl⟩) d_Mo_pick_17
set_option maxHeartbeats 4000000 in
set_option maxRecDepth 100000 in
theorem m_Mo_turn (l : Launch) (D : va_G) (ca : Nat → ClassId) (k : Nat → Nat) (sz : Nat) (ad : Nat → Nat) (cd : Nat) (po nu : Nat → Nat) (pt : Nat) (st : Int32) (cy pl bk : Nat) (me : Nat → Nat) (kc : Nat) (ro : Nat → Nat) (en un li tn : Nat) (tx : Nat → Nat) (ia : Int32) (ct : Nat) (md : Nat → Nat) (lb wn : Nat → Int32) (h0 op g : Nat) (hop : 9 ≤ op ∧ op < 16) (hg : g < 16) (hpt : pt < 14) (hpl : pl < 64) (hk3 : kc ≤ 3) (hro : ∀ j, ro j < 16) (hn : ∀ j, nu j < 10 ^ 14) (hpo : ∀ j, j < 15 → po j = 10 ^ j) : Met l y_Mo_turn (zw y_Mo_turn c_Mo_turn 5 none) { frames := 1, cells := 0, slots := 0, locals := 21 } (va_Pc [.ref (ad 12), .int (nI op), .int (nI h0)] (zPre D (zty ca) k (wM ad ca cd po nu pt st cy pl bk me kc ro en un li tn tx ia ct md lb wn) sz)) (va_Qv (fun w => w = wM ad ca cd po ((plM h0 op g (me, nu, ro, un, li, pt, st, cy, pl, bk, en, kc)).2.1) ((plM h0 op g (me, nu, ro, un, li, pt, st, cy, pl, bk, en, kc)).2.2.2.2.2.1) ((plM h0 op g (me, nu, ro, un, li, pt, st, cy, pl, bk, en, kc)).2.2.2.2.2.2.1) ((plM h0 op g (me, nu, ro, un, li, pt, st, cy, pl, bk, en, kc)).2.2.2.2.2.2.2.1) ((plM h0 op g (me, nu, ro, un, li, pt, st, cy, pl, bk, en, kc)).2.2.2.2.2.2.2.2.1) ((plM h0 op g (me, nu, ro, un, li, pt, st, cy, pl, bk, en, kc)).2.2.2.2.2.2.2.2.2.1) ((plM h0 op g (me, nu, ro, un, li, pt, st, cy, pl, bk, en, kc)).1) ((plM h0 op g (me, nu, ro, un, li, pt, st, cy, pl, bk, en, kc)).2.2.2.2.2.2.2.2.2.2.2) ((plM h0 op g (me, nu, ro, un, li, pt, st, cy, pl, bk, en, kc)).2.2.1) ((plM h0 op g (me, nu, ro, un, li, pt, st, cy, pl, bk, en, kc)).2.2.2.2.2.2.2.2.2.2.1) ((plM h0 op g (me, nu, ro, un, li, pt, st, cy, pl, bk, en, kc)).2.2.2.1) ((plM h0 op g (me, nu, ro, un, li, pt, st, cy, pl, bk, en, kc)).2.2.2.2.1) tn tx ia ct md lb wn) (zB D (zty ca) (wM ad ca cd po nu pt st cy pl bk me kc ro en un li tn tx ia ct md lb wn) sz) (va_A (wM ad ca cd po nu pt st cy pl bk me kc ro en un li tn tx ia ct md lb wn) sz)) 0 0 (va_A (wM ad ca cd po nu pt st cy pl bk me kc ro en un li tn tx ia ct md lb wn) sz) := by
  refine zOf (own := "DigitChipModel") (by decide +kernel) rfl (Nat.le_of_ble_eq_true rfl) ?_
  intro p e s m below meth c A ls C0 hr hnm hAe hsz hl hP hD hS
  have hl : lv_has ls 5 [(0, .ref (ad 12)), (1, .int (nI op)), (2, .int (nI h0))] := hl
  obtain ⟨hx, hb, hml, hown, ht, hK, hX, hA, hlk⟩ := id C0
  rcases (show op = 9 ∨ op = 10 ∨ op = 11 ∨ op = 12 ∨ op = 13 ∨ op = 14 ∨ op = 15 from by omega) with rfl | rfl | rfl | rfl | rfl | rfl | rfl
  · skip
    refine lv_aload_n hx hb d_Mo_turn_0 rfl (lv_at hl 0 rfl) ?_
    refine va_get (D := D) (ci := 5) (v := .ref (ad 14)) (C := RMo) (T := TMo) (N := 21) hx hb ht inMo hown hK hP 0 rfl rfl 2 (by decide) (ht _ q548) (fun _ h9 => h9) rfl d_Mo_turn_1 ?_
    refine lv_iconst (v := nI 2) hx hb d_Mo_turn_4 (by decide) ?_
    refine va_lald hx hb hK hP 2 1 rfl rfl (vp_in_nI (n := 2) (by omega) (by decide)) d_Mo_turn_5 ?_
    refine ztl (y := lN (nu 2)) (lF_at (by omega)) ?_
    refine lv_lstore_n hx hb d_Mo_turn_6 rfl hl (by decide) rfl (fun ls hl => ?_)
    have hl : lv_has ls 5 [(3, .long (lN (nu 2))), (0, .ref (ad 12)), (1, .int (nI 9)), (2, .int (nI h0))] := hl
    refine lv_iload_n hx hb d_Mo_turn_7 rfl (lv_at hl 2 rfl) ?_
    refine lv_tableIn (off := 40) (tgt := 48) hx hb d_Mo_turn_8 (by decide) (by decide) (by decide) (by decide) ?_
    refine lv_aload_n hx hb d_Mo_turn_48 rfl (lv_at hl 1 rfl) ?_
    refine va_get (D := D) (ci := 5) (v := .ref (ad 14)) (C := RMo) (T := TMo) (N := 21) hx hb ht inMo hown hK hP 0 rfl rfl 2 (by decide) (ht _ q548) (fun _ h9 => h9) rfl d_Mo_turn_49 ?_
    refine lv_iconst (v := nI 5) hx hb d_Mo_turn_52 (by decide) ?_
    refine lv_aload_n hx hb d_Mo_turn_53 rfl (lv_at hl 1 rfl) ?_
    refine va_get (D := D) (ci := 5) (v := .ref (ad 14)) (C := RMo) (T := TMo) (N := 21) hx hb ht inMo hown hK hP 0 rfl rfl 2 (by decide) (ht _ q548) (fun _ h9 => h9) rfl d_Mo_turn_54 ?_
    refine lv_iconst (v := nI 4) hx hb d_Mo_turn_57 (by decide) ?_
    refine va_lald hx hb hK hP 2 1 rfl rfl (vp_in_nI (n := 4) (by omega) (by decide)) d_Mo_turn_58 ?_
    refine ztl (y := lN (nu 4)) (lF_at (by omega)) ?_
    refine va_last hx hb hK hP hD hS 2 1 rfl rfl (vp_in_nI (n := 5) (by omega) (by decide)) d_Mo_turn_59 (fun H locs hP hD hS => ?_)
    rw [lF_up (by omega)] at hP hD
    have hP : va_P D vCl (wM ad ca cd po (uN nu 5 (nu 4)) pt st cy pl bk me kc ro en un li tn tx ia ct md lb wn) H := hP
    have hD : va_D A (wM ad ca cd po (uN nu 5 (nu 4)) pt st cy pl bk me kc ro en un li tn tx ia ct md lb wn) := hD
    refine lv_aload_n hx hb d_Mo_turn_60 rfl (lv_at hl 1 rfl) ?_
    refine va_get (D := D) (ci := 5) (v := .ref (ad 14)) (C := RMo) (T := TMo) (N := 21) hx hb ht inMo hown hK hP 0 rfl rfl 2 (by decide) (ht _ q548) (fun _ h9 => h9) rfl d_Mo_turn_61 ?_
    refine lv_iconst (v := nI 4) hx hb d_Mo_turn_64 (by decide) ?_
    refine lv_aload_n hx hb d_Mo_turn_65 rfl (lv_at hl 1 rfl) ?_
    refine va_get (D := D) (ci := 5) (v := .ref (ad 14)) (C := RMo) (T := TMo) (N := 21) hx hb ht inMo hown hK hP 0 rfl rfl 2 (by decide) (ht _ q548) (fun _ h9 => h9) rfl d_Mo_turn_66 ?_
    refine lv_iconst (v := nI 3) hx hb d_Mo_turn_69 (by decide) ?_
    refine va_lald hx hb hK hP 2 1 rfl rfl (vp_in_nI (n := 3) (by omega) (by decide)) d_Mo_turn_70 ?_
    refine ztl (y := lN ((uN nu 5 (nu 4)) 3)) (lF_at (by omega)) ?_
    refine va_last hx hb hK hP hD hS 2 1 rfl rfl (vp_in_nI (n := 4) (by omega) (by decide)) d_Mo_turn_71 (fun H locs hP hD hS => ?_)
    rw [lF_up (by omega)] at hP hD
    have hP : va_P D vCl (wM ad ca cd po (uN (uN nu 5 (nu 4)) 4 ((uN nu 5 (nu 4)) 3)) pt st cy pl bk me kc ro en un li tn tx ia ct md lb wn) H := hP
    have hD : va_D A (wM ad ca cd po (uN (uN nu 5 (nu 4)) 4 ((uN nu 5 (nu 4)) 3)) pt st cy pl bk me kc ro en un li tn tx ia ct md lb wn) := hD
    refine lv_aload_n hx hb d_Mo_turn_72 rfl (lv_at hl 1 rfl) ?_
    refine va_get (D := D) (ci := 5) (v := .ref (ad 14)) (C := RMo) (T := TMo) (N := 21) hx hb ht inMo hown hK hP 0 rfl rfl 2 (by decide) (ht _ q548) (fun _ h9 => h9) rfl d_Mo_turn_73 ?_
    refine lv_iconst (v := nI 3) hx hb d_Mo_turn_76 (by decide) ?_
    refine lv_lload_n hx hb d_Mo_turn_77 rfl (lv_at hl 0 rfl) ?_
    refine va_last hx hb hK hP hD hS 2 1 rfl rfl (vp_in_nI (n := 3) (by omega) (by decide)) d_Mo_turn_78 (fun H locs hP hD hS => ?_)
    rw [lF_up (by omega)] at hP hD
    have hP : va_P D vCl (wM ad ca cd po (uN (uN (uN nu 5 (nu 4)) 4 ((uN nu 5 (nu 4)) 3)) 3 (nu 2)) pt st cy pl bk me kc ro en un li tn tx ia ct md lb wn) H := hP
    have hD : va_D A (wM ad ca cd po (uN (uN (uN nu 5 (nu 4)) 4 ((uN nu 5 (nu 4)) 3)) 3 (nu 2)) pt st cy pl bk me kc ro en un li tn tx ia ct md lb wn) := hD
    refine lv_goto (tgt := 192) hx hb d_Mo_turn_79 (by decide) ?_
    exact zret_v C0 hr hAe hP hD hS rfl d_Mo_turn_192
  · skip
    refine lv_aload_n hx hb d_Mo_turn_0 rfl (lv_at hl 0 rfl) ?_
    refine va_get (D := D) (ci := 5) (v := .ref (ad 14)) (C := RMo) (T := TMo) (N := 21) hx hb ht inMo hown hK hP 0 rfl rfl 2 (by decide) (ht _ q548) (fun _ h9 => h9) rfl d_Mo_turn_1 ?_
    refine lv_iconst (v := nI 2) hx hb d_Mo_turn_4 (by decide) ?_
    refine va_lald hx hb hK hP 2 1 rfl rfl (vp_in_nI (n := 2) (by omega) (by decide)) d_Mo_turn_5 ?_
    refine ztl (y := lN (nu 2)) (lF_at (by omega)) ?_
    refine lv_lstore_n hx hb d_Mo_turn_6 rfl hl (by decide) rfl (fun ls hl => ?_)
    have hl : lv_has ls 5 [(3, .long (lN (nu 2))), (0, .ref (ad 12)), (1, .int (nI 10)), (2, .int (nI h0))] := hl
    refine lv_iload_n hx hb d_Mo_turn_7 rfl (lv_at hl 2 rfl) ?_
    refine lv_tableIn (off := 125) (tgt := 133) hx hb d_Mo_turn_8 (by decide) (by decide) (by decide) (by decide) ?_
    refine lv_aload_n hx hb d_Mo_turn_133 rfl (lv_at hl 1 rfl) ?_
    refine va_get (D := D) (ci := 5) (v := .ref (ad 14)) (C := RMo) (T := TMo) (N := 21) hx hb ht inMo hown hK hP 0 rfl rfl 2 (by decide) (ht _ q548) (fun _ h9 => h9) rfl d_Mo_turn_134 ?_
    refine lv_iload_n hx hb d_Mo_turn_137 rfl (lv_at hl 2 rfl) ?_
    refine lv_bipush (v := nI 10) hx hb d_Mo_turn_138 (by decide) ?_
    refine lv_icmp_ne (tgt := 147) hx hb d_Mo_turn_140 (by decide) (fun h1 => absurd (by decide) h1) (fun _ => ?_)
    refine lv_iconst (v := nI 0) hx hb d_Mo_turn_143 (by decide) ?_
    refine lv_goto (tgt := 148) hx hb d_Mo_turn_144 (by decide) ?_
    refine lv_aload_n hx hb d_Mo_turn_148 rfl (lv_at hl 1 rfl) ?_
    refine va_get (D := D) (ci := 5) (v := .ref (ad 14)) (C := RMo) (T := TMo) (N := 21) hx hb ht inMo hown hK hP 0 rfl rfl 2 (by decide) (ht _ q548) (fun _ h9 => h9) rfl d_Mo_turn_149 ?_
    refine lv_iconst (v := nI 3) hx hb d_Mo_turn_152 (by decide) ?_
    refine va_lald hx hb hK hP 2 1 rfl rfl (vp_in_nI (n := 3) (by omega) (by decide)) d_Mo_turn_153 ?_
    refine ztl (y := lN (nu 3)) (lF_at (by omega)) ?_
    refine va_last hx hb hK hP hD hS 2 1 rfl rfl (vp_in_nI (n := 0) (by omega) (by decide)) d_Mo_turn_154 (fun H locs hP hD hS => ?_)
    rw [lF_up (by omega)] at hP hD
    have hP : va_P D vCl (wM ad ca cd po (uN nu 0 (nu 3)) pt st cy pl bk me kc ro en un li tn tx ia ct md lb wn) H := hP
    have hD : va_D A (wM ad ca cd po (uN nu 0 (nu 3)) pt st cy pl bk me kc ro en un li tn tx ia ct md lb wn) := hD
    refine lv_iload_n hx hb d_Mo_turn_155 rfl (lv_at hl 2 rfl) ?_
    refine lv_bipush (v := nI 15) hx hb d_Mo_turn_156 (by decide) ?_
    refine lv_icmp_ne (tgt := 168) hx hb d_Mo_turn_158 (by decide) (fun _ => ?_) (fun h2 => absurd h2 (by decide))
    refine lv_aload_n hx hb d_Mo_turn_168 rfl (lv_at hl 1 rfl) ?_
    refine va_get (D := D) (ci := 5) (v := .ref (ad 14)) (C := RMo) (T := TMo) (N := 21) hx hb ht inMo hown hK hP 0 rfl rfl 2 (by decide) (ht _ q548) (fun _ h9 => h9) rfl d_Mo_turn_169 ?_
    refine lv_iconst (v := nI 3) hx hb d_Mo_turn_172 (by decide) ?_
    refine lv_aload_n hx hb d_Mo_turn_173 rfl (lv_at hl 1 rfl) ?_
    refine va_get (D := D) (ci := 5) (v := .ref (ad 14)) (C := RMo) (T := TMo) (N := 21) hx hb ht inMo hown hK hP 0 rfl rfl 2 (by decide) (ht _ q548) (fun _ h9 => h9) rfl d_Mo_turn_174 ?_
    refine lv_iconst (v := nI 4) hx hb d_Mo_turn_177 (by decide) ?_
    refine va_lald hx hb hK hP 2 1 rfl rfl (vp_in_nI (n := 4) (by omega) (by decide)) d_Mo_turn_178 ?_
    refine ztl (y := lN ((uN nu 0 (nu 3)) 4)) (lF_at (by omega)) ?_
    refine va_last hx hb hK hP hD hS 2 1 rfl rfl (vp_in_nI (n := 3) (by omega) (by decide)) d_Mo_turn_179 (fun H locs hP hD hS => ?_)
    rw [lF_up (by omega)] at hP hD
    have hP : va_P D vCl (wM ad ca cd po (uN (uN nu 0 (nu 3)) 3 ((uN nu 0 (nu 3)) 4)) pt st cy pl bk me kc ro en un li tn tx ia ct md lb wn) H := hP
    have hD : va_D A (wM ad ca cd po (uN (uN nu 0 (nu 3)) 3 ((uN nu 0 (nu 3)) 4)) pt st cy pl bk me kc ro en un li tn tx ia ct md lb wn) := hD
    refine lv_aload_n hx hb d_Mo_turn_180 rfl (lv_at hl 1 rfl) ?_
    refine va_get (D := D) (ci := 5) (v := .ref (ad 14)) (C := RMo) (T := TMo) (N := 21) hx hb ht inMo hown hK hP 0 rfl rfl 2 (by decide) (ht _ q548) (fun _ h9 => h9) rfl d_Mo_turn_181 ?_
    refine lv_iconst (v := nI 4) hx hb d_Mo_turn_184 (by decide) ?_
    refine lv_aload_n hx hb d_Mo_turn_185 rfl (lv_at hl 1 rfl) ?_
    refine va_get (D := D) (ci := 5) (v := .ref (ad 14)) (C := RMo) (T := TMo) (N := 21) hx hb ht inMo hown hK hP 0 rfl rfl 2 (by decide) (ht _ q548) (fun _ h9 => h9) rfl d_Mo_turn_186 ?_
    refine lv_iconst (v := nI 5) hx hb d_Mo_turn_189 (by decide) ?_
    refine va_lald hx hb hK hP 2 1 rfl rfl (vp_in_nI (n := 5) (by omega) (by decide)) d_Mo_turn_190 ?_
    refine ztl (y := lN ((uN (uN nu 0 (nu 3)) 3 ((uN nu 0 (nu 3)) 4)) 5)) (lF_at (by omega)) ?_
    refine va_last hx hb hK hP hD hS 2 1 rfl rfl (vp_in_nI (n := 4) (by omega) (by decide)) d_Mo_turn_191 (fun H locs hP hD hS => ?_)
    rw [lF_up (by omega)] at hP hD
    have hP : va_P D vCl (wM ad ca cd po (uN (uN (uN nu 0 (nu 3)) 3 ((uN nu 0 (nu 3)) 4)) 4 ((uN (uN nu 0 (nu 3)) 3 ((uN nu 0 (nu 3)) 4)) 5)) pt st cy pl bk me kc ro en un li tn tx ia ct md lb wn) H := hP
    have hD : va_D A (wM ad ca cd po (uN (uN (uN nu 0 (nu 3)) 3 ((uN nu 0 (nu 3)) 4)) 4 ((uN (uN nu 0 (nu 3)) 3 ((uN nu 0 (nu 3)) 4)) 5)) pt st cy pl bk me kc ro en un li tn tx ia ct md lb wn) := hD
    exact zret_v C0 hr hAe hP hD hS rfl d_Mo_turn_192
  · skip
    refine lv_aload_n hx hb d_Mo_turn_0 rfl (lv_at hl 0 rfl) ?_
    refine va_get (D := D) (ci := 5) (v := .ref (ad 14)) (C := RMo) (T := TMo) (N := 21) hx hb ht inMo hown hK hP 0 rfl rfl 2 (by decide) (ht _ q548) (fun _ h9 => h9) rfl d_Mo_turn_1 ?_
    refine lv_iconst (v := nI 2) hx hb d_Mo_turn_4 (by decide) ?_
    refine va_lald hx hb hK hP 2 1 rfl rfl (vp_in_nI (n := 2) (by omega) (by decide)) d_Mo_turn_5 ?_
    refine ztl (y := lN (nu 2)) (lF_at (by omega)) ?_
    refine lv_lstore_n hx hb d_Mo_turn_6 rfl hl (by decide) rfl (fun ls hl => ?_)
    have hl : lv_has ls 5 [(3, .long (lN (nu 2))), (0, .ref (ad 12)), (1, .int (nI 11)), (2, .int (nI h0))] := hl
    refine lv_iload_n hx hb d_Mo_turn_7 rfl (lv_at hl 2 rfl) ?_
    refine lv_tableIn (off := 74) (tgt := 82) hx hb d_Mo_turn_8 (by decide) (by decide) (by decide) (by decide) ?_
    refine lv_aload_n hx hb d_Mo_turn_82 rfl (lv_at hl 1 rfl) ?_
    refine lv_aload_n hx hb d_Mo_turn_83 rfl (lv_at hl 1 rfl) ?_
    refine va_get (D := D) (ci := 5) (v := .int (nI bk)) (C := RMo) (T := TMo) (N := 21) hx hb ht inMo hown hK hP 0 rfl rfl 7 (by decide) (ht _ q553) (fun _ h9 => h9) rfl d_Mo_turn_84 ?_
    refine va_put (D := D) (ci := 5) (v := .int (nI bk)) (ty := .int) (C := RMo) (T := TMo) (N := 21) hx hb ht inMo tyMo tyMo_ok nmMo hown hK hP hD hS 0 rfl rfl 6 (by decide) (ht _ q552) (fun _ h9 => h9) rfl (by decide +kernel) rfl rfl (Nat.le_of_ble_eq_true rfl) d_Mo_turn_87 (fun H locs hP hD hS => ?_)
    have hP : va_P D vCl (wM ad ca cd po nu pt st cy bk bk me kc ro en un li tn tx ia ct md lb wn) H := hP
    have hD : va_D A (wM ad ca cd po nu pt st cy bk bk me kc ro en un li tn tx ia ct md lb wn) := hD
    refine lv_goto (tgt := 192) hx hb d_Mo_turn_90 (by decide) ?_
    exact zret_v C0 hr hAe hP hD hS rfl d_Mo_turn_192
  · skip
    refine lv_aload_n hx hb d_Mo_turn_0 rfl (lv_at hl 0 rfl) ?_
    refine va_get (D := D) (ci := 5) (v := .ref (ad 14)) (C := RMo) (T := TMo) (N := 21) hx hb ht inMo hown hK hP 0 rfl rfl 2 (by decide) (ht _ q548) (fun _ h9 => h9) rfl d_Mo_turn_1 ?_
    refine lv_iconst (v := nI 2) hx hb d_Mo_turn_4 (by decide) ?_
    refine va_lald hx hb hK hP 2 1 rfl rfl (vp_in_nI (n := 2) (by omega) (by decide)) d_Mo_turn_5 ?_
    refine ztl (y := lN (nu 2)) (lF_at (by omega)) ?_
    refine lv_lstore_n hx hb d_Mo_turn_6 rfl hl (by decide) rfl (fun ls hl => ?_)
    have hl : lv_has ls 5 [(3, .long (lN (nu 2))), (0, .ref (ad 12)), (1, .int (nI 12)), (2, .int (nI h0))] := hl
    refine lv_iload_n hx hb d_Mo_turn_7 rfl (lv_at hl 2 rfl) ?_
    refine lv_tableIn (off := 85) (tgt := 93) hx hb d_Mo_turn_8 (by decide) (by decide) (by decide) (by decide) ?_
    refine lv_aload_n hx hb d_Mo_turn_93 rfl (lv_at hl 1 rfl) ?_
    refine lv_iload_n hx hb d_Mo_turn_94 rfl (lv_at hl 3 rfl) ?_
    refine zgo_v (wr := []) C0 (zrunV (na := 1) (As := [.int (nI h0)]) (rest := []) C0 hP hD hS [0, 1, 2, 3, 4, 5, 6, 7, 8] rfl rfl (m_Mo_pick l D ca k s.heap.size ad cd po nu pt st cy pl bk me kc ro en un li tn tx ia ct md lb wn h0 (by omega) (by assumption)) (zg_V q658 q660 q834 q7 q661) (by decide +kernel) rfl rfl ⟨by decide, by decide⟩ 0 rfl rfl rfl hl.1 rfl (Nat.le_of_ble_eq_true rfl) d_Mo_turn_95 ⟨Nat.zero_le _, Nat.zero_le _⟩) hP hD hS [0, 1, 2, 3, 4, 5, 6, 7, 8] [] rfl rfl (by decide) (by decide) (fun w1 H locs hw hP hD hS => ?_)
    rcases hw with ⟨hk3, rfl⟩ | ⟨hk3, rfl⟩
    · skip
      have hP : va_P D vCl (wM ad ca cd po nu pt st cy h0 bk me kc ro 1 un li tn tx ia ct md lb wn) H := hP
      have hD : va_D A (wM ad ca cd po nu pt st cy h0 bk me kc ro 1 un li tn tx ia ct md lb wn) := hD
      refine lv_goto (tgt := 192) hx hb d_Mo_turn_98 (by decide) ?_
      exact zret_v C0 hr hAe hP hD hS (by rw [show plM h0 12 g (me, nu, ro, un, li, pt, st, cy, pl, bk, en, kc) = (if kc = 0 then _ else _) from rfl, if_pos (by omega)]) d_Mo_turn_192
    · skip
      have hP : va_P D vCl (wM ad ca cd po nu pt st cy (8 * ro 0 % 64) bk me (kc - 1) (shM ro) en un li tn tx ia ct md lb wn) H := hP
      have hD : va_D A (wM ad ca cd po nu pt st cy (8 * ro 0 % 64) bk me (kc - 1) (shM ro) en un li tn tx ia ct md lb wn) := hD
      refine lv_goto (tgt := 192) hx hb d_Mo_turn_98 (by decide) ?_
      exact zret_v C0 hr hAe hP hD hS (by rw [show plM h0 12 g (me, nu, ro, un, li, pt, st, cy, pl, bk, en, kc) = (if kc = 0 then _ else _) from rfl, if_neg (by omega)]) d_Mo_turn_192
  · skip
    refine lv_aload_n hx hb d_Mo_turn_0 rfl (lv_at hl 0 rfl) ?_
    refine va_get (D := D) (ci := 5) (v := .ref (ad 14)) (C := RMo) (T := TMo) (N := 21) hx hb ht inMo hown hK hP 0 rfl rfl 2 (by decide) (ht _ q548) (fun _ h9 => h9) rfl d_Mo_turn_1 ?_
    refine lv_iconst (v := nI 2) hx hb d_Mo_turn_4 (by decide) ?_
    refine va_lald hx hb hK hP 2 1 rfl rfl (vp_in_nI (n := 2) (by omega) (by decide)) d_Mo_turn_5 ?_
    refine ztl (y := lN (nu 2)) (lF_at (by omega)) ?_
    refine lv_lstore_n hx hb d_Mo_turn_6 rfl hl (by decide) rfl (fun ls hl => ?_)
    have hl : lv_has ls 5 [(3, .long (lN (nu 2))), (0, .ref (ad 12)), (1, .int (nI 13)), (2, .int (nI h0))] := hl
    refine lv_iload_n hx hb d_Mo_turn_7 rfl (lv_at hl 2 rfl) ?_
    refine lv_tableIn (off := 93) (tgt := 101) hx hb d_Mo_turn_8 (by decide) (by decide) (by decide) (by decide) ?_
    refine lv_aload_n hx hb d_Mo_turn_101 rfl (lv_at hl 1 rfl) ?_
    refine lv_iconst (v := nI 1) hx hb d_Mo_turn_102 (by decide) ?_
    refine va_put (D := D) (ci := 5) (v := .int (nI 1)) (ty := .boolean) (C := RMo) (T := TMo) (N := 21) hx hb ht inMo tyMo tyMo_ok nmMo hown hK hP hD hS 0 rfl rfl 11 (by decide) (ht _ q557) (fun _ h9 => h9) rfl (by decide +kernel) (zbn (by omega)) (zbf (by omega)) (Nat.le_of_ble_eq_true rfl) d_Mo_turn_103 (fun H locs hP hD hS => ?_)
    have hP : va_P D vCl (wM ad ca cd po nu pt st cy pl bk me kc ro 1 un li tn tx ia ct md lb wn) H := hP
    have hD : va_D A (wM ad ca cd po nu pt st cy pl bk me kc ro 1 un li tn tx ia ct md lb wn) := hD
    refine lv_goto (tgt := 192) hx hb d_Mo_turn_106 (by decide) ?_
    exact zret_v C0 hr hAe hP hD hS rfl d_Mo_turn_192
  · skip
    refine lv_aload_n hx hb d_Mo_turn_0 rfl (lv_at hl 0 rfl) ?_
    refine va_get (D := D) (ci := 5) (v := .ref (ad 14)) (C := RMo) (T := TMo) (N := 21) hx hb ht inMo hown hK hP 0 rfl rfl 2 (by decide) (ht _ q548) (fun _ h9 => h9) rfl d_Mo_turn_1 ?_
    refine lv_iconst (v := nI 2) hx hb d_Mo_turn_4 (by decide) ?_
    refine va_lald hx hb hK hP 2 1 rfl rfl (vp_in_nI (n := 2) (by omega) (by decide)) d_Mo_turn_5 ?_
    refine ztl (y := lN (nu 2)) (lF_at (by omega)) ?_
    refine lv_lstore_n hx hb d_Mo_turn_6 rfl hl (by decide) rfl (fun ls hl => ?_)
    have hl : lv_has ls 5 [(3, .long (lN (nu 2))), (0, .ref (ad 12)), (1, .int (nI 14)), (2, .int (nI h0))] := hl
    refine lv_iload_n hx hb d_Mo_turn_7 rfl (lv_at hl 2 rfl) ?_
    refine lv_tableIn (off := 101) (tgt := 109) hx hb d_Mo_turn_8 (by decide) (by decide) (by decide) (by decide) ?_
    refine lv_aload_n hx hb d_Mo_turn_109 rfl (lv_at hl 1 rfl) ?_
    refine va_get (D := D) (ci := 5) (v := .ref (ad 14)) (C := RMo) (T := TMo) (N := 21) hx hb ht inMo hown hK hP 0 rfl rfl 2 (by decide) (ht _ q548) (fun _ h9 => h9) rfl d_Mo_turn_110 ?_
    refine lv_iconst (v := nI 2) hx hb d_Mo_turn_113 (by decide) ?_
    refine lv_aload_n hx hb d_Mo_turn_114 rfl (lv_at hl 1 rfl) ?_
    refine va_get (D := D) (ci := 5) (v := .ref (ad 14)) (C := RMo) (T := TMo) (N := 21) hx hb ht inMo hown hK hP 0 rfl rfl 2 (by decide) (ht _ q548) (fun _ h9 => h9) rfl d_Mo_turn_115 ?_
    refine lv_bipush (v := nI 6) hx hb d_Mo_turn_118 (by decide) ?_
    refine va_lald hx hb hK hP 2 1 rfl rfl (vp_in_nI (n := 6) (by omega) (by decide)) d_Mo_turn_120 ?_
    refine ztl (y := lN (nu 6)) (lF_at (by omega)) ?_
    refine va_last hx hb hK hP hD hS 2 1 rfl rfl (vp_in_nI (n := 2) (by omega) (by decide)) d_Mo_turn_121 (fun H locs hP hD hS => ?_)
    rw [lF_up (by omega)] at hP hD
    have hP : va_P D vCl (wM ad ca cd po (uN nu 2 (nu 6)) pt st cy pl bk me kc ro en un li tn tx ia ct md lb wn) H := hP
    have hD : va_D A (wM ad ca cd po (uN nu 2 (nu 6)) pt st cy pl bk me kc ro en un li tn tx ia ct md lb wn) := hD
    refine lv_aload_n hx hb d_Mo_turn_122 rfl (lv_at hl 1 rfl) ?_
    refine va_get (D := D) (ci := 5) (v := .ref (ad 14)) (C := RMo) (T := TMo) (N := 21) hx hb ht inMo hown hK hP 0 rfl rfl 2 (by decide) (ht _ q548) (fun _ h9 => h9) rfl d_Mo_turn_123 ?_
    refine lv_bipush (v := nI 6) hx hb d_Mo_turn_126 (by decide) ?_
    refine lv_lload_n hx hb d_Mo_turn_128 rfl (lv_at hl 0 rfl) ?_
    refine va_last hx hb hK hP hD hS 2 1 rfl rfl (vp_in_nI (n := 6) (by omega) (by decide)) d_Mo_turn_129 (fun H locs hP hD hS => ?_)
    rw [lF_up (by omega)] at hP hD
    have hP : va_P D vCl (wM ad ca cd po (uN (uN nu 2 (nu 6)) 6 (nu 2)) pt st cy pl bk me kc ro en un li tn tx ia ct md lb wn) H := hP
    have hD : va_D A (wM ad ca cd po (uN (uN nu 2 (nu 6)) 6 (nu 2)) pt st cy pl bk me kc ro en un li tn tx ia ct md lb wn) := hD
    refine lv_goto (tgt := 192) hx hb d_Mo_turn_130 (by decide) ?_
    exact zret_v C0 hr hAe hP hD hS rfl d_Mo_turn_192
  · skip
    refine lv_aload_n hx hb d_Mo_turn_0 rfl (lv_at hl 0 rfl) ?_
    refine va_get (D := D) (ci := 5) (v := .ref (ad 14)) (C := RMo) (T := TMo) (N := 21) hx hb ht inMo hown hK hP 0 rfl rfl 2 (by decide) (ht _ q548) (fun _ h9 => h9) rfl d_Mo_turn_1 ?_
    refine lv_iconst (v := nI 2) hx hb d_Mo_turn_4 (by decide) ?_
    refine va_lald hx hb hK hP 2 1 rfl rfl (vp_in_nI (n := 2) (by omega) (by decide)) d_Mo_turn_5 ?_
    refine ztl (y := lN (nu 2)) (lF_at (by omega)) ?_
    refine lv_lstore_n hx hb d_Mo_turn_6 rfl hl (by decide) rfl (fun ls hl => ?_)
    have hl : lv_has ls 5 [(3, .long (lN (nu 2))), (0, .ref (ad 12)), (1, .int (nI 15)), (2, .int (nI h0))] := hl
    refine lv_iload_n hx hb d_Mo_turn_7 rfl (lv_at hl 2 rfl) ?_
    refine lv_tableOut (tgt := 133) hx hb d_Mo_turn_8 (by decide) (by decide) ?_
    refine lv_aload_n hx hb d_Mo_turn_133 rfl (lv_at hl 1 rfl) ?_
    refine va_get (D := D) (ci := 5) (v := .ref (ad 14)) (C := RMo) (T := TMo) (N := 21) hx hb ht inMo hown hK hP 0 rfl rfl 2 (by decide) (ht _ q548) (fun _ h9 => h9) rfl d_Mo_turn_134 ?_
    refine lv_iload_n hx hb d_Mo_turn_137 rfl (lv_at hl 2 rfl) ?_
    refine lv_bipush (v := nI 10) hx hb d_Mo_turn_138 (by decide) ?_
    refine lv_icmp_ne (tgt := 147) hx hb d_Mo_turn_140 (by decide) (fun _ => ?_) (fun h4 => absurd h4 (by decide))
    refine lv_iconst (v := nI 2) hx hb d_Mo_turn_147 (by decide) ?_
    refine lv_aload_n hx hb d_Mo_turn_148 rfl (lv_at hl 1 rfl) ?_
    refine va_get (D := D) (ci := 5) (v := .ref (ad 14)) (C := RMo) (T := TMo) (N := 21) hx hb ht inMo hown hK hP 0 rfl rfl 2 (by decide) (ht _ q548) (fun _ h9 => h9) rfl d_Mo_turn_149 ?_
    refine lv_iconst (v := nI 3) hx hb d_Mo_turn_152 (by decide) ?_
    refine va_lald hx hb hK hP 2 1 rfl rfl (vp_in_nI (n := 3) (by omega) (by decide)) d_Mo_turn_153 ?_
    refine ztl (y := lN (nu 3)) (lF_at (by omega)) ?_
    refine va_last hx hb hK hP hD hS 2 1 rfl rfl (vp_in_nI (n := 2) (by omega) (by decide)) d_Mo_turn_154 (fun H locs hP hD hS => ?_)
    rw [lF_up (by omega)] at hP hD
    have hP : va_P D vCl (wM ad ca cd po (uN nu 2 (nu 3)) pt st cy pl bk me kc ro en un li tn tx ia ct md lb wn) H := hP
    have hD : va_D A (wM ad ca cd po (uN nu 2 (nu 3)) pt st cy pl bk me kc ro en un li tn tx ia ct md lb wn) := hD
    refine lv_iload_n hx hb d_Mo_turn_155 rfl (lv_at hl 2 rfl) ?_
    refine lv_bipush (v := nI 15) hx hb d_Mo_turn_156 (by decide) ?_
    refine lv_icmp_ne (tgt := 168) hx hb d_Mo_turn_158 (by decide) (fun h5 => absurd (by decide) h5) (fun _ => ?_)
    refine lv_aload_n hx hb d_Mo_turn_161 rfl (lv_at hl 1 rfl) ?_
    refine va_get (D := D) (ci := 5) (v := .ref (ad 14)) (C := RMo) (T := TMo) (N := 21) hx hb ht inMo hown hK hP 0 rfl rfl 2 (by decide) (ht _ q548) (fun _ h9 => h9) rfl d_Mo_turn_162 ?_
    refine lv_iconst (v := nI 0) hx hb d_Mo_turn_165 (by decide) ?_
    refine lv_lload_n hx hb d_Mo_turn_166 rfl (lv_at hl 0 rfl) ?_
    refine va_last hx hb hK hP hD hS 2 1 rfl rfl (vp_in_nI (n := 0) (by omega) (by decide)) d_Mo_turn_167 (fun H locs hP hD hS => ?_)
    rw [lF_up (by omega)] at hP hD
    have hP : va_P D vCl (wM ad ca cd po (uN (uN nu 2 (nu 3)) 0 (nu 2)) pt st cy pl bk me kc ro en un li tn tx ia ct md lb wn) H := hP
    have hD : va_D A (wM ad ca cd po (uN (uN nu 2 (nu 3)) 0 (nu 2)) pt st cy pl bk me kc ro en un li tn tx ia ct md lb wn) := hD
    refine lv_aload_n hx hb d_Mo_turn_168 rfl (lv_at hl 1 rfl) ?_
    refine va_get (D := D) (ci := 5) (v := .ref (ad 14)) (C := RMo) (T := TMo) (N := 21) hx hb ht inMo hown hK hP 0 rfl rfl 2 (by decide) (ht _ q548) (fun _ h9 => h9) rfl d_Mo_turn_169 ?_
    refine lv_iconst (v := nI 3) hx hb d_Mo_turn_172 (by decide) ?_
    refine lv_aload_n hx hb d_Mo_turn_173 rfl (lv_at hl 1 rfl) ?_
    refine va_get (D := D) (ci := 5) (v := .ref (ad 14)) (C := RMo) (T := TMo) (N := 21) hx hb ht inMo hown hK hP 0 rfl rfl 2 (by decide) (ht _ q548) (fun _ h9 => h9) rfl d_Mo_turn_174 ?_
    refine lv_iconst (v := nI 4) hx hb d_Mo_turn_177 (by decide) ?_
    refine va_lald hx hb hK hP 2 1 rfl rfl (vp_in_nI (n := 4) (by omega) (by decide)) d_Mo_turn_178 ?_
    refine ztl (y := lN ((uN (uN nu 2 (nu 3)) 0 (nu 2)) 4)) (lF_at (by omega)) ?_
    refine va_last hx hb hK hP hD hS 2 1 rfl rfl (vp_in_nI (n := 3) (by omega) (by decide)) d_Mo_turn_179 (fun H locs hP hD hS => ?_)
    rw [lF_up (by omega)] at hP hD
    have hP : va_P D vCl (wM ad ca cd po (uN (uN (uN nu 2 (nu 3)) 0 (nu 2)) 3 ((uN (uN nu 2 (nu 3)) 0 (nu 2)) 4)) pt st cy pl bk me kc ro en un li tn tx ia ct md lb wn) H := hP
    have hD : va_D A (wM ad ca cd po (uN (uN (uN nu 2 (nu 3)) 0 (nu 2)) 3 ((uN (uN nu 2 (nu 3)) 0 (nu 2)) 4)) pt st cy pl bk me kc ro en un li tn tx ia ct md lb wn) := hD
    refine lv_aload_n hx hb d_Mo_turn_180 rfl (lv_at hl 1 rfl) ?_
    refine va_get (D := D) (ci := 5) (v := .ref (ad 14)) (C := RMo) (T := TMo) (N := 21) hx hb ht inMo hown hK hP 0 rfl rfl 2 (by decide) (ht _ q548) (fun _ h9 => h9) rfl d_Mo_turn_181 ?_
    refine lv_iconst (v := nI 4) hx hb d_Mo_turn_184 (by decide) ?_
    refine lv_aload_n hx hb d_Mo_turn_185 rfl (lv_at hl 1 rfl) ?_
    refine va_get (D := D) (ci := 5) (v := .ref (ad 14)) (C := RMo) (T := TMo) (N := 21) hx hb ht inMo hown hK hP 0 rfl rfl 2 (by decide) (ht _ q548) (fun _ h9 => h9) rfl d_Mo_turn_186 ?_
    refine lv_iconst (v := nI 5) hx hb d_Mo_turn_189 (by decide) ?_
    refine va_lald hx hb hK hP 2 1 rfl rfl (vp_in_nI (n := 5) (by omega) (by decide)) d_Mo_turn_190 ?_
    refine ztl (y := lN ((uN (uN (uN nu 2 (nu 3)) 0 (nu 2)) 3 ((uN (uN nu 2 (nu 3)) 0 (nu 2)) 4)) 5)) (lF_at (by omega)) ?_
    refine va_last hx hb hK hP hD hS 2 1 rfl rfl (vp_in_nI (n := 4) (by omega) (by decide)) d_Mo_turn_191 (fun H locs hP hD hS => ?_)
    rw [lF_up (by omega)] at hP hD
    have hP : va_P D vCl (wM ad ca cd po (uN (uN (uN (uN nu 2 (nu 3)) 0 (nu 2)) 3 ((uN (uN nu 2 (nu 3)) 0 (nu 2)) 4)) 4 ((uN (uN (uN nu 2 (nu 3)) 0 (nu 2)) 3 ((uN (uN nu 2 (nu 3)) 0 (nu 2)) 4)) 5)) pt st cy pl bk me kc ro en un li tn tx ia ct md lb wn) H := hP
    have hD : va_D A (wM ad ca cd po (uN (uN (uN (uN nu 2 (nu 3)) 0 (nu 2)) 3 ((uN (uN nu 2 (nu 3)) 0 (nu 2)) 4)) 4 ((uN (uN (uN nu 2 (nu 3)) 0 (nu 2)) 3 ((uN (uN nu 2 (nu 3)) 0 (nu 2)) 4)) 5)) pt st cy pl bk me kc ro en un li tn tx ia ct md lb wn) := hD
    exact zret_v C0 hr hAe hP hD hS (by rw [sw15]; rfl) d_Mo_turn_192
