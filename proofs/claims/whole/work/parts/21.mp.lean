set_option maxHeartbeats 4000000 in
set_option maxRecDepth 100000 in
theorem m_Mo_part (l : Launch) (D : va_G) (ca : Nat → ClassId) (k : Nat → Nat) (sz : Nat) (ad : Nat → Nat) (cd : Nat) (po nu : Nat → Nat) (pt : Nat) (st : Int32) (cy pl bk : Nat) (me : Nat → Nat) (kc : Nat) (ro : Nat → Nat) (en un li tn : Nat) (tx : Nat → Nat) (ia : Int32) (ct : Nat) (md : Nat → Nat) (lb wn : Nat → Int32) (r : Nat) (hr7 : r < 7) (hn : ∀ j, nu j < 10 ^ 14) (hu : 0 < un) (hu2 : un ≤ 10 ^ 14) (hl0 : 0 < li) (hl2 : li ≤ 10 ^ 14) : Met l y_Mo_part (zw y_Mo_part c_Mo_part 2 (some .long)) { frames := 0, cells := 0, slots := 0, locals := 0 } (va_Pc [.ref (ad 12), .int (nI r)] (zPre D (zty ca) k (wM ad ca cd po nu pt st cy pl bk me kc ro en un li tn tx ia ct md lb wn) sz)) (va_Ql (fun x w => x = lN (pr un li (nu r)) ∧ w = wM ad ca cd po nu pt st cy pl bk me kc ro en un li tn tx ia ct md lb wn) (zB D (zty ca) (wM ad ca cd po nu pt st cy pl bk me kc ro en un li tn tx ia ct md lb wn) sz) (va_A (wM ad ca cd po nu pt st cy pl bk me kc ro en un li tn tx ia ct md lb wn) sz)) 0 0 (va_A (wM ad ca cd po nu pt st cy pl bk me kc ro en un li tn tx ia ct md lb wn) sz) := by
  refine zOf (own := "DigitChipModel") (by decide +kernel) rfl (Nat.le_of_ble_eq_true rfl) ?_
  intro p e s m below meth c A ls C0 hr hnm hAe hsz hl hP hD hS
  have hl : lv_has ls 2 [(0, .ref (ad 12)), (1, .int (nI r))] := hl
  obtain ⟨hx, hb, hml, hown, ht, hK, hX, hA, hlk⟩ := id C0
  have hb0 := hn r
  have hb1 : nu r / un ≤ nu r := Nat.div_le_self _ _
  refine lv_aload_n hx hb d_Mo_part_0 rfl (lv_at hl 0 rfl) ?_
  refine va_get (D := D) (ci := 5) (v := .ref (ad 14)) (C := RMo) (T := TMo) (N := 21) hx hb ht inMo hown hK hP 0 rfl rfl 2 (by decide) (ht _ q548) (fun _ h9 => h9) rfl d_Mo_part_1 ?_
  refine lv_iload_n hx hb d_Mo_part_4 rfl (lv_at hl 1 rfl) ?_
  refine va_lald hx hb hK hP 2 1 rfl rfl (vp_in_nI (n := r) (by omega) (by decide)) d_Mo_part_5 ?_
  refine ztl (y := lN (nu r)) (lF_at (by omega)) ?_
  refine lv_aload_n hx hb d_Mo_part_6 rfl (lv_at hl 0 rfl) ?_
  refine va_get (D := D) (ci := 5) (v := .long (lN un)) (C := RMo) (T := TMo) (N := 21) hx hb ht inMo hown hK hP 0 rfl rfl 12 (by decide) (ht _ q558) (fun _ h9 => h9) rfl d_Mo_part_7 ?_
  refine lv_ldiv hx hb d_Mo_part_10 (zlne (by omega) (by omega)) ?_
  refine ztl (y := lN ((nu r) / un)) (pk_lDiv (by omega) (by omega) (by omega)) ?_
  refine lv_aload_n hx hb d_Mo_part_11 rfl (lv_at hl 0 rfl) ?_
  refine va_get (D := D) (ci := 5) (v := .long (lN li)) (C := RMo) (T := TMo) (N := 21) hx hb ht inMo hown hK hP 0 rfl rfl 13 (by decide) (ht _ q559) (fun _ h9 => h9) rfl d_Mo_part_12 ?_
  refine lv_lrem hx hb d_Mo_part_15 (zlne (by omega) (by omega)) ?_
  refine ztl (y := lN (((nu r) / un) % li)) (pk_lRem (by omega) (by omega) (by omega)) ?_
  exact zret_l C0 hr hAe hP hD hS ⟨rfl, rfl⟩ d_Mo_part_16
set_option maxHeartbeats 4000000 in
set_option maxRecDepth 100000 in
theorem m_Mo_write (l : Launch) (D : va_G) (ca : Nat → ClassId) (k : Nat → Nat) (sz : Nat) (ad : Nat → Nat) (cd : Nat) (po nu : Nat → Nat) (pt : Nat) (st : Int32) (cy pl bk : Nat) (me : Nat → Nat) (kc : Nat) (ro : Nat → Nat) (en un li tn : Nat) (tx : Nat → Nat) (ia : Int32) (ct : Nat) (md : Nat → Nat) (lb wn : Nat → Int32) (r v : Nat) (hr7 : r < 7) (hn : ∀ j, nu j < 10 ^ 14) (hu : 0 < un) (hu2 : un ≤ 10 ^ 14) (hl0 : 0 < li) (hl2 : li ≤ 10 ^ 14) : Met l y_Mo_write (zw y_Mo_write c_Mo_write 4 none) { frames := 1, cells := 0, slots := 0, locals := 21 } (va_Pc [.ref (ad 12), .int (nI r), .long (lN v)] (zPre D (zty ca) k (wM ad ca cd po nu pt st cy pl bk me kc ro en un li tn tx ia ct md lb wn) sz)) (va_Qv (fun w => w = wM ad ca cd po (wr un li nu r v) pt st cy pl bk me kc ro en un li tn tx ia ct md lb wn) (zB D (zty ca) (wM ad ca cd po nu pt st cy pl bk me kc ro en un li tn tx ia ct md lb wn) sz) (va_A (wM ad ca cd po nu pt st cy pl bk me kc ro en un li tn tx ia ct md lb wn) sz)) 0 0 (va_A (wM ad ca cd po nu pt st cy pl bk me kc ro en un li tn tx ia ct md lb wn) sz) := by
  refine zOf (own := "DigitChipModel") (by decide +kernel) rfl (Nat.le_of_ble_eq_true rfl) ?_
  intro p e s m below meth c A ls C0 hr hnm hAe hsz hl hP hD hS
  have hl : lv_has ls 4 [(0, .ref (ad 12)), (1, .int (nI r)), (2, .long (lN v))] := hl
  obtain ⟨hx, hb, hml, hown, ht, hK, hX, hA, hlk⟩ := id C0
  refine lv_aload_n hx hb d_Mo_write_0 rfl (lv_at hl 0 rfl) ?_
  refine va_get (D := D) (ci := 5) (v := .ref (ad 14)) (C := RMo) (T := TMo) (N := 21) hx hb ht inMo hown hK hP 0 rfl rfl 2 (by decide) (ht _ q548) (fun _ h9 => h9) rfl d_Mo_write_1 ?_
  refine lv_iload_n hx hb d_Mo_write_4 rfl (lv_at hl 1 rfl) ?_
  refine lv_aload_n hx hb d_Mo_write_5 rfl (lv_at hl 0 rfl) ?_
  refine va_get (D := D) (ci := 5) (v := .ref (ad 14)) (C := RMo) (T := TMo) (N := 21) hx hb ht inMo hown hK hP 0 rfl rfl 2 (by decide) (ht _ q548) (fun _ h9 => h9) rfl d_Mo_write_6 ?_
  refine lv_iload_n hx hb d_Mo_write_9 rfl (lv_at hl 1 rfl) ?_
  refine va_lald hx hb hK hP 2 1 rfl rfl (vp_in_nI (n := r) (by omega) (by decide)) d_Mo_write_10 ?_
  refine ztl (y := lN (nu r)) (lF_at (by omega)) ?_
  refine lv_lload_n hx hb d_Mo_write_11 rfl (lv_at hl 2 rfl) ?_
  refine lv_aload_n hx hb d_Mo_write_12 rfl (lv_at hl 0 rfl) ?_
  refine lv_iload_n hx hb d_Mo_write_13 rfl (lv_at hl 1 rfl) ?_
  refine zgo_l (wr := []) C0 (zrunV (na := 1) (As := [.int (nI r)]) (rest := [.long (lN v), .long (lN (nu r)), .int (nI r), .ref (ad 14)]) C0 hP hD hS [0, 1, 2, 3, 4, 5, 6, 7, 8] rfl rfl (m_Mo_part l D ca k s.heap.size ad cd po nu pt st cy pl bk me kc ro en un li tn tx ia ct md lb wn r (by omega) hn hu hu2 hl0 hl2) (zg_V q634 q636 q828 q7 q637) (by decide +kernel) rfl rfl ⟨by decide, by decide⟩ 0 rfl rfl rfl hl.1 rfl (Nat.le_of_ble_eq_true rfl) d_Mo_write_14 ⟨Nat.zero_le _, Nat.zero_le _⟩) hP hD hS [0, 1, 2, 3, 4, 5, 6, 7, 8] [] rfl rfl (by decide) (by decide) (fun r1 w1 H locs hw hP hD hS => ?_)
  obtain ⟨rfl, rfl⟩ := hw
  have hP : va_P D vCl (wM ad ca cd po nu pt st cy pl bk me kc ro en un li tn tx ia ct md lb wn) H := hP
  have hD : va_D A (wM ad ca cd po nu pt st cy pl bk me kc ro en un li tn tx ia ct md lb wn) := hD
  refine lv_lsub hx hb d_Mo_write_17 ?_
  refine lv_aload_n hx hb d_Mo_write_18 rfl (lv_at hl 0 rfl) ?_
  refine va_get (D := D) (ci := 5) (v := .long (lN un)) (C := RMo) (T := TMo) (N := 21) hx hb ht inMo hown hK hP 0 rfl rfl 12 (by decide) (ht _ q558) (fun _ h9 => h9) rfl d_Mo_write_19 ?_
  refine lv_lmul hx hb d_Mo_write_22 ?_
  refine lv_ladd hx hb d_Mo_write_23 ?_
  refine zsl (y := lN (pu un li (nu r) v)) pu_long ?_
  refine va_last hx hb hK hP hD hS 2 1 rfl rfl (vp_in_nI (n := r) (by omega) (by decide)) d_Mo_write_24 (fun H locs hP hD hS => ?_)
  rw [lF_up (by omega)] at hP hD
  have hP : va_P D vCl (wM ad ca cd po (uN nu r (pu un li (nu r) v)) pt st cy pl bk me kc ro en un li tn tx ia ct md lb wn) H := hP
  have hD : va_D A (wM ad ca cd po (uN nu r (pu un li (nu r) v)) pt st cy pl bk me kc ro en un li tn tx ia ct md lb wn) := hD
  exact zret_v C0 hr hAe hP hD hS rfl d_Mo_write_25
set_option maxHeartbeats 4000000 in
set_option maxRecDepth 100000 in
theorem m_Mo_field (l : Launch) (D : va_G) (ca : Nat → ClassId) (k : Nat → Nat) (sz : Nat) (ad : Nat → Nat) (cd : Nat) (po nu : Nat → Nat) (pt : Nat) (st : Int32) (cy pl bk : Nat) (me : Nat → Nat) (kc : Nat) (ro : Nat → Nat) (en un li tn : Nat) (tx : Nat → Nat) (ia : Int32) (ct : Nat) (md : Nat → Nat) (lb wn : Nat → Int32) (f : Nat) (hf : f < 8) (hpt : pt < 14) (hpo : ∀ j, j < 15 → po j = 10 ^ j) : Met l y_Mo_field (zw y_Mo_field c_Mo_field 4 none) { frames := 0, cells := 0, slots := 0, locals := 0 } (va_Pc [.ref (ad 12), .int (nI f)] (zPre D (zty ca) k (wM ad ca cd po nu pt st cy pl bk me kc ro en un li tn tx ia ct md lb wn) sz)) (va_Qv (fun w => w = wM ad ca cd po nu pt st cy pl bk me kc ro en (fU pt f) (fL pt f) tn tx ia ct md lb wn) (zB D (zty ca) (wM ad ca cd po nu pt st cy pl bk me kc ro en un li tn tx ia ct md lb wn) sz) (va_A (wM ad ca cd po nu pt st cy pl bk me kc ro en un li tn tx ia ct md lb wn) sz)) 0 0 (va_A (wM ad ca cd po nu pt st cy pl bk me kc ro en un li tn tx ia ct md lb wn) sz) := by
  refine zOf (own := "DigitChipModel") (by decide +kernel) rfl (Nat.le_of_ble_eq_true rfl) ?_
  intro p e s m below meth c A ls C0 hr hnm hAe hsz hl hP hD hS
  have hl : lv_has ls 4 [(0, .ref (ad 12)), (1, .int (nI f))] := hl
  obtain ⟨hx, hb, hml, hown, ht, hK, hX, hA, hlk⟩ := id C0
  rcases (show f = 0 ∨ f = 1 ∨ f = 2 ∨ f = 3 ∨ f = 4 ∨ f = 5 ∨ f = 6 ∨ f = 7 from by omega) with rfl | rfl | rfl | rfl | rfl | rfl | rfl | rfl
  · skip
    refine lv_iload_n hx hb d_Mo_field_0 rfl (lv_at hl 1 rfl) ?_
    refine lv_if_ne (tgt := 11) hx hb d_Mo_field_1 (by decide) (fun h1 => absurd (by decide) h1) (fun _ => ?_)
    refine lv_aload_n hx hb d_Mo_field_4 rfl (lv_at hl 0 rfl) ?_
    refine va_get (D := D) (ci := 5) (v := .int (nI pt)) (C := RMo) (T := TMo) (N := 21) hx hb ht inMo hown hK hP 0 rfl rfl 3 (by decide) (ht _ q549) (fun _ h9 => h9) rfl d_Mo_field_5 ?_
    refine lv_goto (tgt := 46) hx hb d_Mo_field_8 (by decide) ?_
    refine lv_istore_n hx hb d_Mo_field_46 rfl hl (by decide) rfl (fun ls hl => ?_)
    have hl : lv_has ls 4 [(2, .int (nI pt)), (0, .ref (ad 12)), (1, .int (nI 0))] := hl
    refine lv_iload_n hx hb d_Mo_field_47 rfl (lv_at hl 2 rfl) ?_
    refine lv_if_eq (tgt := 56) hx hb d_Mo_field_48 (by decide) (fun _ => ?_) (fun h2 => absurd (by decide) h2)
    refine lv_aload_n hx hb d_Mo_field_56 rfl (lv_at hl 1 rfl) ?_
    refine va_get (D := D) (ci := 5) (v := .int (nI pt)) (C := RMo) (T := TMo) (N := 21) hx hb ht inMo hown hK hP 0 rfl rfl 3 (by decide) (ht _ q549) (fun _ h9 => h9) rfl d_Mo_field_57 ?_
    refine lv_goto (tgt := 89) hx hb d_Mo_field_60 (by decide) ?_
    refine lv_istore_n hx hb d_Mo_field_89 rfl hl (by decide) rfl (fun ls hl => ?_)
    have hl : lv_has ls 4 [(3, .int (nI pt)), (2, .int (nI pt)), (0, .ref (ad 12)), (1, .int (nI 0))] := hl
    refine lv_aload_n hx hb d_Mo_field_90 rfl (lv_at hl 2 rfl) ?_
    refine lv_aload_n hx hb d_Mo_field_91 rfl (lv_at hl 2 rfl) ?_
    refine va_get (D := D) (ci := 5) (v := .ref (ad 13)) (C := RMo) (T := TMo) (N := 21) hx hb ht inMo hown hK hP 0 rfl rfl 1 (by decide) (ht _ q547) (fun _ h9 => h9) rfl d_Mo_field_92 ?_
    refine lv_iload_n hx hb d_Mo_field_95 rfl (lv_at hl 1 rfl) ?_
    refine va_lald hx hb hK hP 1 1 rfl rfl (vp_in_nI (n := pt) (by omega) (by decide)) d_Mo_field_96 ?_
    refine ztl (y := lN (po pt)) (lF_at (by omega)) ?_
    refine ztl (y := lN (10 ^ pt)) (by rw [hpo _ (by omega)]) ?_
    refine va_put (D := D) (ci := 5) (v := .long (lN (10 ^ pt))) (ty := .long) (C := RMo) (T := TMo) (N := 21) hx hb ht inMo tyMo tyMo_ok nmMo hown hK hP hD hS 0 rfl rfl 12 (by decide) (ht _ q558) (fun _ h9 => h9) rfl (by decide +kernel) rfl rfl (Nat.le_of_ble_eq_true rfl) d_Mo_field_97 (fun H locs hP hD hS => ?_)
    have hP : va_P D vCl (wM ad ca cd po nu pt st cy pl bk me kc ro en (10 ^ pt) li tn tx ia ct md lb wn) H := hP
    have hD : va_D A (wM ad ca cd po nu pt st cy pl bk me kc ro en (10 ^ pt) li tn tx ia ct md lb wn) := hD
    refine lv_aload_n hx hb d_Mo_field_100 rfl (lv_at hl 2 rfl) ?_
    refine lv_aload_n hx hb d_Mo_field_101 rfl (lv_at hl 2 rfl) ?_
    refine va_get (D := D) (ci := 5) (v := .ref (ad 13)) (C := RMo) (T := TMo) (N := 21) hx hb ht inMo hown hK hP 0 rfl rfl 1 (by decide) (ht _ q547) (fun _ h9 => h9) rfl d_Mo_field_102 ?_
    refine lv_iload_n hx hb d_Mo_field_105 rfl (lv_at hl 0 rfl) ?_
    refine lv_iload_n hx hb d_Mo_field_106 rfl (lv_at hl 1 rfl) ?_
    refine lv_isub hx hb d_Mo_field_107 ?_
    refine zti (y := nI (pt - pt)) (pk_sub (by omega)) ?_
    refine lv_iconst (v := nI 1) hx hb d_Mo_field_108 (by decide) ?_
    refine lv_iadd hx hb d_Mo_field_109 ?_
    refine zti (y := nI ((pt - pt) + 1)) (nI_add _ _) ?_
    refine va_lald hx hb hK hP 1 1 rfl rfl (vp_in_nI (n := (pt - pt) + 1) (by omega) (by decide)) d_Mo_field_110 ?_
    refine ztl (y := lN (po ((pt - pt) + 1))) (lF_at (by omega)) ?_
    refine ztl (y := lN (10 ^ ((pt - pt) + 1))) (by rw [hpo _ (by omega)]) ?_
    refine va_put (D := D) (ci := 5) (v := .long (lN (10 ^ ((pt - pt) + 1)))) (ty := .long) (C := RMo) (T := TMo) (N := 21) hx hb ht inMo tyMo tyMo_ok nmMo hown hK hP hD hS 0 rfl rfl 13 (by decide) (ht _ q559) (fun _ h9 => h9) rfl (by decide +kernel) rfl rfl (Nat.le_of_ble_eq_true rfl) d_Mo_field_111 (fun H locs hP hD hS => ?_)
    have hP : va_P D vCl (wM ad ca cd po nu pt st cy pl bk me kc ro en (10 ^ pt) (10 ^ ((pt - pt) + 1)) tn tx ia ct md lb wn) H := hP
    have hD : va_D A (wM ad ca cd po nu pt st cy pl bk me kc ro en (10 ^ pt) (10 ^ ((pt - pt) + 1)) tn tx ia ct md lb wn) := hD
    exact zret_v C0 hr hAe hP hD hS rfl d_Mo_field_114
  · skip
    refine lv_iload_n hx hb d_Mo_field_0 rfl (lv_at hl 1 rfl) ?_
    refine lv_if_ne (tgt := 11) hx hb d_Mo_field_1 (by decide) (fun _ => ?_) (fun h3 => absurd h3 (by decide))
    refine lv_iload_n hx hb d_Mo_field_11 rfl (lv_at hl 1 rfl) ?_
    refine lv_iconst (v := nI 2) hx hb d_Mo_field_12 (by decide) ?_
    refine lv_icmp_ne (tgt := 20) hx hb d_Mo_field_13 (by decide) (fun _ => ?_) (fun h4 => absurd h4 (by decide))
    refine lv_iload_n hx hb d_Mo_field_20 rfl (lv_at hl 1 rfl) ?_
    refine lv_iconst (v := nI 4) hx hb d_Mo_field_21 (by decide) ?_
    refine lv_icmp_ne (tgt := 30) hx hb d_Mo_field_22 (by decide) (fun _ => ?_) (fun h5 => absurd h5 (by decide))
    refine lv_iload_n hx hb d_Mo_field_30 rfl (lv_at hl 1 rfl) ?_
    refine lv_iconst (v := nI 5) hx hb d_Mo_field_31 (by decide) ?_
    refine lv_icmp_eq (tgt := 41) hx hb d_Mo_field_32 (by decide) (fun h6 => absurd h6 (by decide)) (fun _ => ?_)
    refine lv_iload_n hx hb d_Mo_field_35 rfl (lv_at hl 1 rfl) ?_
    refine lv_bipush (v := nI 6) hx hb d_Mo_field_36 (by decide) ?_
    refine lv_icmp_ne (tgt := 45) hx hb d_Mo_field_38 (by decide) (fun _ => ?_) (fun h7 => absurd h7 (by decide))
    refine lv_iconst (v := nI 0) hx hb d_Mo_field_45 (by decide) ?_
    refine lv_istore_n hx hb d_Mo_field_46 rfl hl (by decide) rfl (fun ls hl => ?_)
    have hl : lv_has ls 4 [(2, .int (nI 0)), (0, .ref (ad 12)), (1, .int (nI 1))] := hl
    refine lv_iload_n hx hb d_Mo_field_47 rfl (lv_at hl 2 rfl) ?_
    refine lv_if_eq (tgt := 56) hx hb d_Mo_field_48 (by decide) (fun h8 => absurd h8 (by decide)) (fun _ => ?_)
    refine lv_iload_n hx hb d_Mo_field_51 rfl (lv_at hl 2 rfl) ?_
    refine lv_iconst (v := nI 1) hx hb d_Mo_field_52 (by decide) ?_
    refine lv_icmp_ne (tgt := 63) hx hb d_Mo_field_53 (by decide) (fun h9 => absurd (by decide) h9) (fun _ => ?_)
    refine lv_aload_n hx hb d_Mo_field_56 rfl (lv_at hl 1 rfl) ?_
    refine va_get (D := D) (ci := 5) (v := .int (nI pt)) (C := RMo) (T := TMo) (N := 21) hx hb ht inMo hown hK hP 0 rfl rfl 3 (by decide) (ht _ q549) (fun _ h9 => h9) rfl d_Mo_field_57 ?_
    refine lv_goto (tgt := 89) hx hb d_Mo_field_60 (by decide) ?_
    refine lv_istore_n hx hb d_Mo_field_89 rfl hl (by decide) rfl (fun ls hl => ?_)
    have hl : lv_has ls 4 [(3, .int (nI pt)), (2, .int (nI 0)), (0, .ref (ad 12)), (1, .int (nI 1))] := hl
    refine lv_aload_n hx hb d_Mo_field_90 rfl (lv_at hl 2 rfl) ?_
    refine lv_aload_n hx hb d_Mo_field_91 rfl (lv_at hl 2 rfl) ?_
    refine va_get (D := D) (ci := 5) (v := .ref (ad 13)) (C := RMo) (T := TMo) (N := 21) hx hb ht inMo hown hK hP 0 rfl rfl 1 (by decide) (ht _ q547) (fun _ h9 => h9) rfl d_Mo_field_92 ?_
    refine lv_iload_n hx hb d_Mo_field_95 rfl (lv_at hl 1 rfl) ?_
    refine va_lald hx hb hK hP 1 1 rfl rfl (vp_in_nI (n := 0) (by omega) (by decide)) d_Mo_field_96 ?_
    refine ztl (y := lN (po 0)) (lF_at (by omega)) ?_
    refine ztl (y := lN (10 ^ 0)) (by rw [hpo _ (by omega)]) ?_
    refine va_put (D := D) (ci := 5) (v := .long (lN (10 ^ 0))) (ty := .long) (C := RMo) (T := TMo) (N := 21) hx hb ht inMo tyMo tyMo_ok nmMo hown hK hP hD hS 0 rfl rfl 12 (by decide) (ht _ q558) (fun _ h9 => h9) rfl (by decide +kernel) rfl rfl (Nat.le_of_ble_eq_true rfl) d_Mo_field_97 (fun H locs hP hD hS => ?_)
    have hP : va_P D vCl (wM ad ca cd po nu pt st cy pl bk me kc ro en (10 ^ 0) li tn tx ia ct md lb wn) H := hP
    have hD : va_D A (wM ad ca cd po nu pt st cy pl bk me kc ro en (10 ^ 0) li tn tx ia ct md lb wn) := hD
    refine lv_aload_n hx hb d_Mo_field_100 rfl (lv_at hl 2 rfl) ?_
    refine lv_aload_n hx hb d_Mo_field_101 rfl (lv_at hl 2 rfl) ?_
    refine va_get (D := D) (ci := 5) (v := .ref (ad 13)) (C := RMo) (T := TMo) (N := 21) hx hb ht inMo hown hK hP 0 rfl rfl 1 (by decide) (ht _ q547) (fun _ h9 => h9) rfl d_Mo_field_102 ?_
    refine lv_iload_n hx hb d_Mo_field_105 rfl (lv_at hl 0 rfl) ?_
    refine lv_iload_n hx hb d_Mo_field_106 rfl (lv_at hl 1 rfl) ?_
    refine lv_isub hx hb d_Mo_field_107 ?_
    refine zti (y := nI (pt - 0)) (pk_sub (by omega)) ?_
    refine lv_iconst (v := nI 1) hx hb d_Mo_field_108 (by decide) ?_
    refine lv_iadd hx hb d_Mo_field_109 ?_
    refine zti (y := nI ((pt - 0) + 1)) (nI_add _ _) ?_
    refine va_lald hx hb hK hP 1 1 rfl rfl (vp_in_nI (n := (pt - 0) + 1) (by omega) (by decide)) d_Mo_field_110 ?_
    refine ztl (y := lN (po ((pt - 0) + 1))) (lF_at (by omega)) ?_
    refine ztl (y := lN (10 ^ ((pt - 0) + 1))) (by rw [hpo _ (by omega)]) ?_
    refine va_put (D := D) (ci := 5) (v := .long (lN (10 ^ ((pt - 0) + 1)))) (ty := .long) (C := RMo) (T := TMo) (N := 21) hx hb ht inMo tyMo tyMo_ok nmMo hown hK hP hD hS 0 rfl rfl 13 (by decide) (ht _ q559) (fun _ h9 => h9) rfl (by decide +kernel) rfl rfl (Nat.le_of_ble_eq_true rfl) d_Mo_field_111 (fun H locs hP hD hS => ?_)
    have hP : va_P D vCl (wM ad ca cd po nu pt st cy pl bk me kc ro en (10 ^ 0) (10 ^ ((pt - 0) + 1)) tn tx ia ct md lb wn) H := hP
    have hD : va_D A (wM ad ca cd po nu pt st cy pl bk me kc ro en (10 ^ 0) (10 ^ ((pt - 0) + 1)) tn tx ia ct md lb wn) := hD
    exact zret_v C0 hr hAe hP hD hS rfl d_Mo_field_114
  · skip
    refine lv_iload_n hx hb d_Mo_field_0 rfl (lv_at hl 1 rfl) ?_
    refine lv_if_ne (tgt := 11) hx hb d_Mo_field_1 (by decide) (fun _ => ?_) (fun h10 => absurd h10 (by decide))
    refine lv_iload_n hx hb d_Mo_field_11 rfl (lv_at hl 1 rfl) ?_
    refine lv_iconst (v := nI 2) hx hb d_Mo_field_12 (by decide) ?_
    refine lv_icmp_ne (tgt := 20) hx hb d_Mo_field_13 (by decide) (fun h11 => absurd (by decide) h11) (fun _ => ?_)
    refine lv_iconst (v := nI 2) hx hb d_Mo_field_16 (by decide) ?_
    refine lv_goto (tgt := 46) hx hb d_Mo_field_17 (by decide) ?_
    refine lv_istore_n hx hb d_Mo_field_46 rfl hl (by decide) rfl (fun ls hl => ?_)
    have hl : lv_has ls 4 [(2, .int (nI 2)), (0, .ref (ad 12)), (1, .int (nI 2))] := hl
    refine lv_iload_n hx hb d_Mo_field_47 rfl (lv_at hl 2 rfl) ?_
    refine lv_if_eq (tgt := 56) hx hb d_Mo_field_48 (by decide) (fun h12 => absurd h12 (by decide)) (fun _ => ?_)
    refine lv_iload_n hx hb d_Mo_field_51 rfl (lv_at hl 2 rfl) ?_
    refine lv_iconst (v := nI 1) hx hb d_Mo_field_52 (by decide) ?_
    refine lv_icmp_ne (tgt := 63) hx hb d_Mo_field_53 (by decide) (fun _ => ?_) (fun h13 => absurd h13 (by decide))
    refine lv_iload_n hx hb d_Mo_field_63 rfl (lv_at hl 2 rfl) ?_
    refine lv_iconst (v := nI 2) hx hb d_Mo_field_64 (by decide) ?_
    refine lv_icmp_eq (tgt := 73) hx hb d_Mo_field_65 (by decide) (fun _ => ?_) (fun h14 => absurd (by decide) h14)
    refine lv_iconst (v := nI 2) hx hb d_Mo_field_73 (by decide) ?_
    refine lv_goto (tgt := 89) hx hb d_Mo_field_74 (by decide) ?_
    refine lv_istore_n hx hb d_Mo_field_89 rfl hl (by decide) rfl (fun ls hl => ?_)
    have hl : lv_has ls 4 [(3, .int (nI 2)), (2, .int (nI 2)), (0, .ref (ad 12)), (1, .int (nI 2))] := hl
    refine lv_aload_n hx hb d_Mo_field_90 rfl (lv_at hl 2 rfl) ?_
    refine lv_aload_n hx hb d_Mo_field_91 rfl (lv_at hl 2 rfl) ?_
    refine va_get (D := D) (ci := 5) (v := .ref (ad 13)) (C := RMo) (T := TMo) (N := 21) hx hb ht inMo hown hK hP 0 rfl rfl 1 (by decide) (ht _ q547) (fun _ h9 => h9) rfl d_Mo_field_92 ?_
    refine lv_iload_n hx hb d_Mo_field_95 rfl (lv_at hl 1 rfl) ?_
    refine va_lald hx hb hK hP 1 1 rfl rfl (vp_in_nI (n := 2) (by omega) (by decide)) d_Mo_field_96 ?_
    refine ztl (y := lN (po 2)) (lF_at (by omega)) ?_
    refine ztl (y := lN (10 ^ 2)) (by rw [hpo _ (by omega)]) ?_
    refine va_put (D := D) (ci := 5) (v := .long (lN (10 ^ 2))) (ty := .long) (C := RMo) (T := TMo) (N := 21) hx hb ht inMo tyMo tyMo_ok nmMo hown hK hP hD hS 0 rfl rfl 12 (by decide) (ht _ q558) (fun _ h9 => h9) rfl (by decide +kernel) rfl rfl (Nat.le_of_ble_eq_true rfl) d_Mo_field_97 (fun H locs hP hD hS => ?_)
    have hP : va_P D vCl (wM ad ca cd po nu pt st cy pl bk me kc ro en (10 ^ 2) li tn tx ia ct md lb wn) H := hP
    have hD : va_D A (wM ad ca cd po nu pt st cy pl bk me kc ro en (10 ^ 2) li tn tx ia ct md lb wn) := hD
    refine lv_aload_n hx hb d_Mo_field_100 rfl (lv_at hl 2 rfl) ?_
    refine lv_aload_n hx hb d_Mo_field_101 rfl (lv_at hl 2 rfl) ?_
    refine va_get (D := D) (ci := 5) (v := .ref (ad 13)) (C := RMo) (T := TMo) (N := 21) hx hb ht inMo hown hK hP 0 rfl rfl 1 (by decide) (ht _ q547) (fun _ h9 => h9) rfl d_Mo_field_102 ?_
    refine lv_iload_n hx hb d_Mo_field_105 rfl (lv_at hl 0 rfl) ?_
    refine lv_iload_n hx hb d_Mo_field_106 rfl (lv_at hl 1 rfl) ?_
    refine lv_isub hx hb d_Mo_field_107 ?_
    refine zti (y := nI 0) (by decide) ?_
    refine lv_iconst (v := nI 1) hx hb d_Mo_field_108 (by decide) ?_
    refine lv_iadd hx hb d_Mo_field_109 ?_
    refine zti (y := nI 1) (by decide) ?_
    refine va_lald hx hb hK hP 1 1 rfl rfl (vp_in_nI (n := 1) (by omega) (by decide)) d_Mo_field_110 ?_
    refine ztl (y := lN (po 1)) (lF_at (by omega)) ?_
    refine ztl (y := lN (10 ^ 1)) (by rw [hpo _ (by omega)]) ?_
    refine va_put (D := D) (ci := 5) (v := .long (lN (10 ^ 1))) (ty := .long) (C := RMo) (T := TMo) (N := 21) hx hb ht inMo tyMo tyMo_ok nmMo hown hK hP hD hS 0 rfl rfl 13 (by decide) (ht _ q559) (fun _ h9 => h9) rfl (by decide +kernel) rfl rfl (Nat.le_of_ble_eq_true rfl) d_Mo_field_111 (fun H locs hP hD hS => ?_)
    have hP : va_P D vCl (wM ad ca cd po nu pt st cy pl bk me kc ro en (10 ^ 2) (10 ^ 1) tn tx ia ct md lb wn) H := hP
    have hD : va_D A (wM ad ca cd po nu pt st cy pl bk me kc ro en (10 ^ 2) (10 ^ 1) tn tx ia ct md lb wn) := hD
    exact zret_v C0 hr hAe hP hD hS rfl d_Mo_field_114
  · skip
    refine lv_iload_n hx hb d_Mo_field_0 rfl (lv_at hl 1 rfl) ?_
    refine lv_if_ne (tgt := 11) hx hb d_Mo_field_1 (by decide) (fun _ => ?_) (fun h15 => absurd h15 (by decide))
    refine lv_iload_n hx hb d_Mo_field_11 rfl (lv_at hl 1 rfl) ?_
    refine lv_iconst (v := nI 2) hx hb d_Mo_field_12 (by decide) ?_
    refine lv_icmp_ne (tgt := 20) hx hb d_Mo_field_13 (by decide) (fun _ => ?_) (fun h16 => absurd h16 (by decide))
    refine lv_iload_n hx hb d_Mo_field_20 rfl (lv_at hl 1 rfl) ?_
    refine lv_iconst (v := nI 4) hx hb d_Mo_field_21 (by decide) ?_
    refine lv_icmp_ne (tgt := 30) hx hb d_Mo_field_22 (by decide) (fun _ => ?_) (fun h17 => absurd h17 (by decide))
    refine lv_iload_n hx hb d_Mo_field_30 rfl (lv_at hl 1 rfl) ?_
    refine lv_iconst (v := nI 5) hx hb d_Mo_field_31 (by decide) ?_
    refine lv_icmp_eq (tgt := 41) hx hb d_Mo_field_32 (by decide) (fun h18 => absurd h18 (by decide)) (fun _ => ?_)
    refine lv_iload_n hx hb d_Mo_field_35 rfl (lv_at hl 1 rfl) ?_
    refine lv_bipush (v := nI 6) hx hb d_Mo_field_36 (by decide) ?_
    refine lv_icmp_ne (tgt := 45) hx hb d_Mo_field_38 (by decide) (fun _ => ?_) (fun h19 => absurd h19 (by decide))
    refine lv_iconst (v := nI 0) hx hb d_Mo_field_45 (by decide) ?_
    refine lv_istore_n hx hb d_Mo_field_46 rfl hl (by decide) rfl (fun ls hl => ?_)
    have hl : lv_has ls 4 [(2, .int (nI 0)), (0, .ref (ad 12)), (1, .int (nI 3))] := hl
    refine lv_iload_n hx hb d_Mo_field_47 rfl (lv_at hl 2 rfl) ?_
    refine lv_if_eq (tgt := 56) hx hb d_Mo_field_48 (by decide) (fun h20 => absurd h20 (by decide)) (fun _ => ?_)
    refine lv_iload_n hx hb d_Mo_field_51 rfl (lv_at hl 2 rfl) ?_
    refine lv_iconst (v := nI 1) hx hb d_Mo_field_52 (by decide) ?_
    refine lv_icmp_ne (tgt := 63) hx hb d_Mo_field_53 (by decide) (fun _ => ?_) (fun h21 => absurd h21 (by decide))
    refine lv_iload_n hx hb d_Mo_field_63 rfl (lv_at hl 2 rfl) ?_
    refine lv_iconst (v := nI 2) hx hb d_Mo_field_64 (by decide) ?_
    refine lv_icmp_eq (tgt := 73) hx hb d_Mo_field_65 (by decide) (fun h22 => absurd h22 (by decide)) (fun _ => ?_)
    refine lv_iload_n hx hb d_Mo_field_68 rfl (lv_at hl 2 rfl) ?_
    refine lv_iconst (v := nI 3) hx hb d_Mo_field_69 (by decide) ?_
    refine lv_icmp_ne (tgt := 77) hx hb d_Mo_field_70 (by decide) (fun h23 => absurd (by decide) h23) (fun _ => ?_)
    refine lv_iconst (v := nI 2) hx hb d_Mo_field_73 (by decide) ?_
    refine lv_goto (tgt := 89) hx hb d_Mo_field_74 (by decide) ?_
    refine lv_istore_n hx hb d_Mo_field_89 rfl hl (by decide) rfl (fun ls hl => ?_)
    have hl : lv_has ls 4 [(3, .int (nI 2)), (2, .int (nI 0)), (0, .ref (ad 12)), (1, .int (nI 3))] := hl
    refine lv_aload_n hx hb d_Mo_field_90 rfl (lv_at hl 2 rfl) ?_
    refine lv_aload_n hx hb d_Mo_field_91 rfl (lv_at hl 2 rfl) ?_
    refine va_get (D := D) (ci := 5) (v := .ref (ad 13)) (C := RMo) (T := TMo) (N := 21) hx hb ht inMo hown hK hP 0 rfl rfl 1 (by decide) (ht _ q547) (fun _ h9 => h9) rfl d_Mo_field_92 ?_
    refine lv_iload_n hx hb d_Mo_field_95 rfl (lv_at hl 1 rfl) ?_
    refine va_lald hx hb hK hP 1 1 rfl rfl (vp_in_nI (n := 0) (by omega) (by decide)) d_Mo_field_96 ?_
    refine ztl (y := lN (po 0)) (lF_at (by omega)) ?_
    refine ztl (y := lN (10 ^ 0)) (by rw [hpo _ (by omega)]) ?_
    refine va_put (D := D) (ci := 5) (v := .long (lN (10 ^ 0))) (ty := .long) (C := RMo) (T := TMo) (N := 21) hx hb ht inMo tyMo tyMo_ok nmMo hown hK hP hD hS 0 rfl rfl 12 (by decide) (ht _ q558) (fun _ h9 => h9) rfl (by decide +kernel) rfl rfl (Nat.le_of_ble_eq_true rfl) d_Mo_field_97 (fun H locs hP hD hS => ?_)
    have hP : va_P D vCl (wM ad ca cd po nu pt st cy pl bk me kc ro en (10 ^ 0) li tn tx ia ct md lb wn) H := hP
    have hD : va_D A (wM ad ca cd po nu pt st cy pl bk me kc ro en (10 ^ 0) li tn tx ia ct md lb wn) := hD
    refine lv_aload_n hx hb d_Mo_field_100 rfl (lv_at hl 2 rfl) ?_
    refine lv_aload_n hx hb d_Mo_field_101 rfl (lv_at hl 2 rfl) ?_
    refine va_get (D := D) (ci := 5) (v := .ref (ad 13)) (C := RMo) (T := TMo) (N := 21) hx hb ht inMo hown hK hP 0 rfl rfl 1 (by decide) (ht _ q547) (fun _ h9 => h9) rfl d_Mo_field_102 ?_
    refine lv_iload_n hx hb d_Mo_field_105 rfl (lv_at hl 0 rfl) ?_
    refine lv_iload_n hx hb d_Mo_field_106 rfl (lv_at hl 1 rfl) ?_
    refine lv_isub hx hb d_Mo_field_107 ?_
    refine zti (y := nI 2) (by decide) ?_
    refine lv_iconst (v := nI 1) hx hb d_Mo_field_108 (by decide) ?_
    refine lv_iadd hx hb d_Mo_field_109 ?_
    refine zti (y := nI 3) (by decide) ?_
    refine va_lald hx hb hK hP 1 1 rfl rfl (vp_in_nI (n := 3) (by omega) (by decide)) d_Mo_field_110 ?_
    refine ztl (y := lN (po 3)) (lF_at (by omega)) ?_
    refine ztl (y := lN (10 ^ 3)) (by rw [hpo _ (by omega)]) ?_
    refine va_put (D := D) (ci := 5) (v := .long (lN (10 ^ 3))) (ty := .long) (C := RMo) (T := TMo) (N := 21) hx hb ht inMo tyMo tyMo_ok nmMo hown hK hP hD hS 0 rfl rfl 13 (by decide) (ht _ q559) (fun _ h9 => h9) rfl (by decide +kernel) rfl rfl (Nat.le_of_ble_eq_true rfl) d_Mo_field_111 (fun H locs hP hD hS => ?_)
    have hP : va_P D vCl (wM ad ca cd po nu pt st cy pl bk me kc ro en (10 ^ 0) (10 ^ 3) tn tx ia ct md lb wn) H := hP
    have hD : va_D A (wM ad ca cd po nu pt st cy pl bk me kc ro en (10 ^ 0) (10 ^ 3) tn tx ia ct md lb wn) := hD
    exact zret_v C0 hr hAe hP hD hS rfl d_Mo_field_114
  · skip
    refine lv_iload_n hx hb d_Mo_field_0 rfl (lv_at hl 1 rfl) ?_
    refine lv_if_ne (tgt := 11) hx hb d_Mo_field_1 (by decide) (fun _ => ?_) (fun h24 => absurd h24 (by decide))
    refine lv_iload_n hx hb d_Mo_field_11 rfl (lv_at hl 1 rfl) ?_
    refine lv_iconst (v := nI 2) hx hb d_Mo_field_12 (by decide) ?_
    refine lv_icmp_ne (tgt := 20) hx hb d_Mo_field_13 (by decide) (fun _ => ?_) (fun h25 => absurd h25 (by decide))
    refine lv_iload_n hx hb d_Mo_field_20 rfl (lv_at hl 1 rfl) ?_
    refine lv_iconst (v := nI 4) hx hb d_Mo_field_21 (by decide) ?_
    refine lv_icmp_ne (tgt := 30) hx hb d_Mo_field_22 (by decide) (fun h26 => absurd (by decide) h26) (fun _ => ?_)
    refine lv_bipush (v := nI 13) hx hb d_Mo_field_25 (by decide) ?_
    refine lv_goto (tgt := 46) hx hb d_Mo_field_27 (by decide) ?_
    refine lv_istore_n hx hb d_Mo_field_46 rfl hl (by decide) rfl (fun ls hl => ?_)
    have hl : lv_has ls 4 [(2, .int (nI 13)), (0, .ref (ad 12)), (1, .int (nI 4))] := hl
    refine lv_iload_n hx hb d_Mo_field_47 rfl (lv_at hl 2 rfl) ?_
    refine lv_if_eq (tgt := 56) hx hb d_Mo_field_48 (by decide) (fun h27 => absurd h27 (by decide)) (fun _ => ?_)
    refine lv_iload_n hx hb d_Mo_field_51 rfl (lv_at hl 2 rfl) ?_
    refine lv_iconst (v := nI 1) hx hb d_Mo_field_52 (by decide) ?_
    refine lv_icmp_ne (tgt := 63) hx hb d_Mo_field_53 (by decide) (fun _ => ?_) (fun h28 => absurd h28 (by decide))
    refine lv_iload_n hx hb d_Mo_field_63 rfl (lv_at hl 2 rfl) ?_
    refine lv_iconst (v := nI 2) hx hb d_Mo_field_64 (by decide) ?_
    refine lv_icmp_eq (tgt := 73) hx hb d_Mo_field_65 (by decide) (fun h29 => absurd h29 (by decide)) (fun _ => ?_)
    refine lv_iload_n hx hb d_Mo_field_68 rfl (lv_at hl 2 rfl) ?_
    refine lv_iconst (v := nI 3) hx hb d_Mo_field_69 (by decide) ?_
    refine lv_icmp_ne (tgt := 77) hx hb d_Mo_field_70 (by decide) (fun _ => ?_) (fun h30 => absurd h30 (by decide))
    refine lv_iload_n hx hb d_Mo_field_77 rfl (lv_at hl 2 rfl) ?_
    refine lv_iconst (v := nI 5) hx hb d_Mo_field_78 (by decide) ?_
    refine lv_icmp_ne (tgt := 87) hx hb d_Mo_field_79 (by decide) (fun _ => ?_) (fun h31 => absurd h31 (by decide))
    refine lv_bipush (v := nI 13) hx hb d_Mo_field_87 (by decide) ?_
    refine lv_istore_n hx hb d_Mo_field_89 rfl hl (by decide) rfl (fun ls hl => ?_)
    have hl : lv_has ls 4 [(3, .int (nI 13)), (2, .int (nI 13)), (0, .ref (ad 12)), (1, .int (nI 4))] := hl
    refine lv_aload_n hx hb d_Mo_field_90 rfl (lv_at hl 2 rfl) ?_
    refine lv_aload_n hx hb d_Mo_field_91 rfl (lv_at hl 2 rfl) ?_
    refine va_get (D := D) (ci := 5) (v := .ref (ad 13)) (C := RMo) (T := TMo) (N := 21) hx hb ht inMo hown hK hP 0 rfl rfl 1 (by decide) (ht _ q547) (fun _ h9 => h9) rfl d_Mo_field_92 ?_
    refine lv_iload_n hx hb d_Mo_field_95 rfl (lv_at hl 1 rfl) ?_
    refine va_lald hx hb hK hP 1 1 rfl rfl (vp_in_nI (n := 13) (by omega) (by decide)) d_Mo_field_96 ?_
    refine ztl (y := lN (po 13)) (lF_at (by omega)) ?_
    refine ztl (y := lN (10 ^ 13)) (by rw [hpo _ (by omega)]) ?_
    refine va_put (D := D) (ci := 5) (v := .long (lN (10 ^ 13))) (ty := .long) (C := RMo) (T := TMo) (N := 21) hx hb ht inMo tyMo tyMo_ok nmMo hown hK hP hD hS 0 rfl rfl 12 (by decide) (ht _ q558) (fun _ h9 => h9) rfl (by decide +kernel) rfl rfl (Nat.le_of_ble_eq_true rfl) d_Mo_field_97 (fun H locs hP hD hS => ?_)
    have hP : va_P D vCl (wM ad ca cd po nu pt st cy pl bk me kc ro en (10 ^ 13) li tn tx ia ct md lb wn) H := hP
    have hD : va_D A (wM ad ca cd po nu pt st cy pl bk me kc ro en (10 ^ 13) li tn tx ia ct md lb wn) := hD
    refine lv_aload_n hx hb d_Mo_field_100 rfl (lv_at hl 2 rfl) ?_
    refine lv_aload_n hx hb d_Mo_field_101 rfl (lv_at hl 2 rfl) ?_
    refine va_get (D := D) (ci := 5) (v := .ref (ad 13)) (C := RMo) (T := TMo) (N := 21) hx hb ht inMo hown hK hP 0 rfl rfl 1 (by decide) (ht _ q547) (fun _ h9 => h9) rfl d_Mo_field_102 ?_
    refine lv_iload_n hx hb d_Mo_field_105 rfl (lv_at hl 0 rfl) ?_
    refine lv_iload_n hx hb d_Mo_field_106 rfl (lv_at hl 1 rfl) ?_
    refine lv_isub hx hb d_Mo_field_107 ?_
    refine zti (y := nI 0) (by decide) ?_
    refine lv_iconst (v := nI 1) hx hb d_Mo_field_108 (by decide) ?_
    refine lv_iadd hx hb d_Mo_field_109 ?_
    refine zti (y := nI 1) (by decide) ?_
    refine va_lald hx hb hK hP 1 1 rfl rfl (vp_in_nI (n := 1) (by omega) (by decide)) d_Mo_field_110 ?_
    refine ztl (y := lN (po 1)) (lF_at (by omega)) ?_
    refine ztl (y := lN (10 ^ 1)) (by rw [hpo _ (by omega)]) ?_
    refine va_put (D := D) (ci := 5) (v := .long (lN (10 ^ 1))) (ty := .long) (C := RMo) (T := TMo) (N := 21) hx hb ht inMo tyMo tyMo_ok nmMo hown hK hP hD hS 0 rfl rfl 13 (by decide) (ht _ q559) (fun _ h9 => h9) rfl (by decide +kernel) rfl rfl (Nat.le_of_ble_eq_true rfl) d_Mo_field_111 (fun H locs hP hD hS => ?_)
    have hP : va_P D vCl (wM ad ca cd po nu pt st cy pl bk me kc ro en (10 ^ 13) (10 ^ 1) tn tx ia ct md lb wn) H := hP
    have hD : va_D A (wM ad ca cd po nu pt st cy pl bk me kc ro en (10 ^ 13) (10 ^ 1) tn tx ia ct md lb wn) := hD
    exact zret_v C0 hr hAe hP hD hS rfl d_Mo_field_114
  · skip
    refine lv_iload_n hx hb d_Mo_field_0 rfl (lv_at hl 1 rfl) ?_
    refine lv_if_ne (tgt := 11) hx hb d_Mo_field_1 (by decide) (fun _ => ?_) (fun h32 => absurd h32 (by decide))
    refine lv_iload_n hx hb d_Mo_field_11 rfl (lv_at hl 1 rfl) ?_
    refine lv_iconst (v := nI 2) hx hb d_Mo_field_12 (by decide) ?_
    refine lv_icmp_ne (tgt := 20) hx hb d_Mo_field_13 (by decide) (fun _ => ?_) (fun h33 => absurd h33 (by decide))
    refine lv_iload_n hx hb d_Mo_field_20 rfl (lv_at hl 1 rfl) ?_
    refine lv_iconst (v := nI 4) hx hb d_Mo_field_21 (by decide) ?_
    refine lv_icmp_ne (tgt := 30) hx hb d_Mo_field_22 (by decide) (fun _ => ?_) (fun h34 => absurd h34 (by decide))
    refine lv_iload_n hx hb d_Mo_field_30 rfl (lv_at hl 1 rfl) ?_
    refine lv_iconst (v := nI 5) hx hb d_Mo_field_31 (by decide) ?_
    refine lv_icmp_eq (tgt := 41) hx hb d_Mo_field_32 (by decide) (fun _ => ?_) (fun h35 => absurd (by decide) h35)
    refine lv_iconst (v := nI 3) hx hb d_Mo_field_41 (by decide) ?_
    refine lv_goto (tgt := 46) hx hb d_Mo_field_42 (by decide) ?_
    refine lv_istore_n hx hb d_Mo_field_46 rfl hl (by decide) rfl (fun ls hl => ?_)
    have hl : lv_has ls 4 [(2, .int (nI 3)), (0, .ref (ad 12)), (1, .int (nI 5))] := hl
    refine lv_iload_n hx hb d_Mo_field_47 rfl (lv_at hl 2 rfl) ?_
    refine lv_if_eq (tgt := 56) hx hb d_Mo_field_48 (by decide) (fun h36 => absurd h36 (by decide)) (fun _ => ?_)
    refine lv_iload_n hx hb d_Mo_field_51 rfl (lv_at hl 2 rfl) ?_
    refine lv_iconst (v := nI 1) hx hb d_Mo_field_52 (by decide) ?_
    refine lv_icmp_ne (tgt := 63) hx hb d_Mo_field_53 (by decide) (fun _ => ?_) (fun h37 => absurd h37 (by decide))
    refine lv_iload_n hx hb d_Mo_field_63 rfl (lv_at hl 2 rfl) ?_
    refine lv_iconst (v := nI 2) hx hb d_Mo_field_64 (by decide) ?_
    refine lv_icmp_eq (tgt := 73) hx hb d_Mo_field_65 (by decide) (fun h38 => absurd h38 (by decide)) (fun _ => ?_)
    refine lv_iload_n hx hb d_Mo_field_68 rfl (lv_at hl 2 rfl) ?_
    refine lv_iconst (v := nI 3) hx hb d_Mo_field_69 (by decide) ?_
    refine lv_icmp_ne (tgt := 77) hx hb d_Mo_field_70 (by decide) (fun _ => ?_) (fun h39 => absurd h39 (by decide))
    refine lv_iload_n hx hb d_Mo_field_77 rfl (lv_at hl 2 rfl) ?_
    refine lv_iconst (v := nI 5) hx hb d_Mo_field_78 (by decide) ?_
    refine lv_icmp_ne (tgt := 87) hx hb d_Mo_field_79 (by decide) (fun h40 => absurd (by decide) h40) (fun _ => ?_)
    refine lv_bipush (v := nI 12) hx hb d_Mo_field_82 (by decide) ?_
    refine lv_goto (tgt := 89) hx hb d_Mo_field_84 (by decide) ?_
    refine lv_istore_n hx hb d_Mo_field_89 rfl hl (by decide) rfl (fun ls hl => ?_)
    have hl : lv_has ls 4 [(3, .int (nI 12)), (2, .int (nI 3)), (0, .ref (ad 12)), (1, .int (nI 5))] := hl
    refine lv_aload_n hx hb d_Mo_field_90 rfl (lv_at hl 2 rfl) ?_
    refine lv_aload_n hx hb d_Mo_field_91 rfl (lv_at hl 2 rfl) ?_
    refine va_get (D := D) (ci := 5) (v := .ref (ad 13)) (C := RMo) (T := TMo) (N := 21) hx hb ht inMo hown hK hP 0 rfl rfl 1 (by decide) (ht _ q547) (fun _ h9 => h9) rfl d_Mo_field_92 ?_
    refine lv_iload_n hx hb d_Mo_field_95 rfl (lv_at hl 1 rfl) ?_
    refine va_lald hx hb hK hP 1 1 rfl rfl (vp_in_nI (n := 3) (by omega) (by decide)) d_Mo_field_96 ?_
    refine ztl (y := lN (po 3)) (lF_at (by omega)) ?_
    refine ztl (y := lN (10 ^ 3)) (by rw [hpo _ (by omega)]) ?_
    refine va_put (D := D) (ci := 5) (v := .long (lN (10 ^ 3))) (ty := .long) (C := RMo) (T := TMo) (N := 21) hx hb ht inMo tyMo tyMo_ok nmMo hown hK hP hD hS 0 rfl rfl 12 (by decide) (ht _ q558) (fun _ h9 => h9) rfl (by decide +kernel) rfl rfl (Nat.le_of_ble_eq_true rfl) d_Mo_field_97 (fun H locs hP hD hS => ?_)
    have hP : va_P D vCl (wM ad ca cd po nu pt st cy pl bk me kc ro en (10 ^ 3) li tn tx ia ct md lb wn) H := hP
    have hD : va_D A (wM ad ca cd po nu pt st cy pl bk me kc ro en (10 ^ 3) li tn tx ia ct md lb wn) := hD
    refine lv_aload_n hx hb d_Mo_field_100 rfl (lv_at hl 2 rfl) ?_
    refine lv_aload_n hx hb d_Mo_field_101 rfl (lv_at hl 2 rfl) ?_
    refine va_get (D := D) (ci := 5) (v := .ref (ad 13)) (C := RMo) (T := TMo) (N := 21) hx hb ht inMo hown hK hP 0 rfl rfl 1 (by decide) (ht _ q547) (fun _ h9 => h9) rfl d_Mo_field_102 ?_
    refine lv_iload_n hx hb d_Mo_field_105 rfl (lv_at hl 0 rfl) ?_
    refine lv_iload_n hx hb d_Mo_field_106 rfl (lv_at hl 1 rfl) ?_
    refine lv_isub hx hb d_Mo_field_107 ?_
    refine zti (y := nI 9) (by decide) ?_
    refine lv_iconst (v := nI 1) hx hb d_Mo_field_108 (by decide) ?_
    refine lv_iadd hx hb d_Mo_field_109 ?_
    refine zti (y := nI 10) (by decide) ?_
    refine va_lald hx hb hK hP 1 1 rfl rfl (vp_in_nI (n := 10) (by omega) (by decide)) d_Mo_field_110 ?_
    refine ztl (y := lN (po 10)) (lF_at (by omega)) ?_
    refine ztl (y := lN (10 ^ 10)) (by rw [hpo _ (by omega)]) ?_
    refine va_put (D := D) (ci := 5) (v := .long (lN (10 ^ 10))) (ty := .long) (C := RMo) (T := TMo) (N := 21) hx hb ht inMo tyMo tyMo_ok nmMo hown hK hP hD hS 0 rfl rfl 13 (by decide) (ht _ q559) (fun _ h9 => h9) rfl (by decide +kernel) rfl rfl (Nat.le_of_ble_eq_true rfl) d_Mo_field_111 (fun H locs hP hD hS => ?_)
    have hP : va_P D vCl (wM ad ca cd po nu pt st cy pl bk me kc ro en (10 ^ 3) (10 ^ 10) tn tx ia ct md lb wn) H := hP
    have hD : va_D A (wM ad ca cd po nu pt st cy pl bk me kc ro en (10 ^ 3) (10 ^ 10) tn tx ia ct md lb wn) := hD
    exact zret_v C0 hr hAe hP hD hS rfl d_Mo_field_114
  · skip
    refine lv_iload_n hx hb d_Mo_field_0 rfl (lv_at hl 1 rfl) ?_
    refine lv_if_ne (tgt := 11) hx hb d_Mo_field_1 (by decide) (fun _ => ?_) (fun h41 => absurd h41 (by decide))
    refine lv_iload_n hx hb d_Mo_field_11 rfl (lv_at hl 1 rfl) ?_
    refine lv_iconst (v := nI 2) hx hb d_Mo_field_12 (by decide) ?_
    refine lv_icmp_ne (tgt := 20) hx hb d_Mo_field_13 (by decide) (fun _ => ?_) (fun h42 => absurd h42 (by decide))
    refine lv_iload_n hx hb d_Mo_field_20 rfl (lv_at hl 1 rfl) ?_
    refine lv_iconst (v := nI 4) hx hb d_Mo_field_21 (by decide) ?_
    refine lv_icmp_ne (tgt := 30) hx hb d_Mo_field_22 (by decide) (fun _ => ?_) (fun h43 => absurd h43 (by decide))
    refine lv_iload_n hx hb d_Mo_field_30 rfl (lv_at hl 1 rfl) ?_
    refine lv_iconst (v := nI 5) hx hb d_Mo_field_31 (by decide) ?_
    refine lv_icmp_eq (tgt := 41) hx hb d_Mo_field_32 (by decide) (fun h44 => absurd h44 (by decide)) (fun _ => ?_)
    refine lv_iload_n hx hb d_Mo_field_35 rfl (lv_at hl 1 rfl) ?_
    refine lv_bipush (v := nI 6) hx hb d_Mo_field_36 (by decide) ?_
    refine lv_icmp_ne (tgt := 45) hx hb d_Mo_field_38 (by decide) (fun h45 => absurd (by decide) h45) (fun _ => ?_)
    refine lv_iconst (v := nI 3) hx hb d_Mo_field_41 (by decide) ?_
    refine lv_goto (tgt := 46) hx hb d_Mo_field_42 (by decide) ?_
    refine lv_istore_n hx hb d_Mo_field_46 rfl hl (by decide) rfl (fun ls hl => ?_)
    have hl : lv_has ls 4 [(2, .int (nI 3)), (0, .ref (ad 12)), (1, .int (nI 6))] := hl
    refine lv_iload_n hx hb d_Mo_field_47 rfl (lv_at hl 2 rfl) ?_
    refine lv_if_eq (tgt := 56) hx hb d_Mo_field_48 (by decide) (fun h46 => absurd h46 (by decide)) (fun _ => ?_)
    refine lv_iload_n hx hb d_Mo_field_51 rfl (lv_at hl 2 rfl) ?_
    refine lv_iconst (v := nI 1) hx hb d_Mo_field_52 (by decide) ?_
    refine lv_icmp_ne (tgt := 63) hx hb d_Mo_field_53 (by decide) (fun _ => ?_) (fun h47 => absurd h47 (by decide))
    refine lv_iload_n hx hb d_Mo_field_63 rfl (lv_at hl 2 rfl) ?_
    refine lv_iconst (v := nI 2) hx hb d_Mo_field_64 (by decide) ?_
    refine lv_icmp_eq (tgt := 73) hx hb d_Mo_field_65 (by decide) (fun h48 => absurd h48 (by decide)) (fun _ => ?_)
    refine lv_iload_n hx hb d_Mo_field_68 rfl (lv_at hl 2 rfl) ?_
    refine lv_iconst (v := nI 3) hx hb d_Mo_field_69 (by decide) ?_
    refine lv_icmp_ne (tgt := 77) hx hb d_Mo_field_70 (by decide) (fun _ => ?_) (fun h49 => absurd h49 (by decide))
    refine lv_iload_n hx hb d_Mo_field_77 rfl (lv_at hl 2 rfl) ?_
    refine lv_iconst (v := nI 5) hx hb d_Mo_field_78 (by decide) ?_
    refine lv_icmp_ne (tgt := 87) hx hb d_Mo_field_79 (by decide) (fun _ => ?_) (fun h50 => absurd h50 (by decide))
    refine lv_bipush (v := nI 13) hx hb d_Mo_field_87 (by decide) ?_
    refine lv_istore_n hx hb d_Mo_field_89 rfl hl (by decide) rfl (fun ls hl => ?_)
    have hl : lv_has ls 4 [(3, .int (nI 13)), (2, .int (nI 3)), (0, .ref (ad 12)), (1, .int (nI 6))] := hl
    refine lv_aload_n hx hb d_Mo_field_90 rfl (lv_at hl 2 rfl) ?_
    refine lv_aload_n hx hb d_Mo_field_91 rfl (lv_at hl 2 rfl) ?_
    refine va_get (D := D) (ci := 5) (v := .ref (ad 13)) (C := RMo) (T := TMo) (N := 21) hx hb ht inMo hown hK hP 0 rfl rfl 1 (by decide) (ht _ q547) (fun _ h9 => h9) rfl d_Mo_field_92 ?_
    refine lv_iload_n hx hb d_Mo_field_95 rfl (lv_at hl 1 rfl) ?_
    refine va_lald hx hb hK hP 1 1 rfl rfl (vp_in_nI (n := 3) (by omega) (by decide)) d_Mo_field_96 ?_
    refine ztl (y := lN (po 3)) (lF_at (by omega)) ?_
    refine ztl (y := lN (10 ^ 3)) (by rw [hpo _ (by omega)]) ?_
    refine va_put (D := D) (ci := 5) (v := .long (lN (10 ^ 3))) (ty := .long) (C := RMo) (T := TMo) (N := 21) hx hb ht inMo tyMo tyMo_ok nmMo hown hK hP hD hS 0 rfl rfl 12 (by decide) (ht _ q558) (fun _ h9 => h9) rfl (by decide +kernel) rfl rfl (Nat.le_of_ble_eq_true rfl) d_Mo_field_97 (fun H locs hP hD hS => ?_)
    have hP : va_P D vCl (wM ad ca cd po nu pt st cy pl bk me kc ro en (10 ^ 3) li tn tx ia ct md lb wn) H := hP
    have hD : va_D A (wM ad ca cd po nu pt st cy pl bk me kc ro en (10 ^ 3) li tn tx ia ct md lb wn) := hD
    refine lv_aload_n hx hb d_Mo_field_100 rfl (lv_at hl 2 rfl) ?_
    refine lv_aload_n hx hb d_Mo_field_101 rfl (lv_at hl 2 rfl) ?_
    refine va_get (D := D) (ci := 5) (v := .ref (ad 13)) (C := RMo) (T := TMo) (N := 21) hx hb ht inMo hown hK hP 0 rfl rfl 1 (by decide) (ht _ q547) (fun _ h9 => h9) rfl d_Mo_field_102 ?_
    refine lv_iload_n hx hb d_Mo_field_105 rfl (lv_at hl 0 rfl) ?_
    refine lv_iload_n hx hb d_Mo_field_106 rfl (lv_at hl 1 rfl) ?_
    refine lv_isub hx hb d_Mo_field_107 ?_
    refine zti (y := nI 10) (by decide) ?_
    refine lv_iconst (v := nI 1) hx hb d_Mo_field_108 (by decide) ?_
    refine lv_iadd hx hb d_Mo_field_109 ?_
    refine zti (y := nI 11) (by decide) ?_
    refine va_lald hx hb hK hP 1 1 rfl rfl (vp_in_nI (n := 11) (by omega) (by decide)) d_Mo_field_110 ?_
    refine ztl (y := lN (po 11)) (lF_at (by omega)) ?_
    refine ztl (y := lN (10 ^ 11)) (by rw [hpo _ (by omega)]) ?_
    refine va_put (D := D) (ci := 5) (v := .long (lN (10 ^ 11))) (ty := .long) (C := RMo) (T := TMo) (N := 21) hx hb ht inMo tyMo tyMo_ok nmMo hown hK hP hD hS 0 rfl rfl 13 (by decide) (ht _ q559) (fun _ h9 => h9) rfl (by decide +kernel) rfl rfl (Nat.le_of_ble_eq_true rfl) d_Mo_field_111 (fun H locs hP hD hS => ?_)
    have hP : va_P D vCl (wM ad ca cd po nu pt st cy pl bk me kc ro en (10 ^ 3) (10 ^ 11) tn tx ia ct md lb wn) H := hP
    have hD : va_D A (wM ad ca cd po nu pt st cy pl bk me kc ro en (10 ^ 3) (10 ^ 11) tn tx ia ct md lb wn) := hD
    exact zret_v C0 hr hAe hP hD hS rfl d_Mo_field_114
  · skip
    refine lv_iload_n hx hb d_Mo_field_0 rfl (lv_at hl 1 rfl) ?_
    refine lv_if_ne (tgt := 11) hx hb d_Mo_field_1 (by decide) (fun _ => ?_) (fun h51 => absurd h51 (by decide))
    refine lv_iload_n hx hb d_Mo_field_11 rfl (lv_at hl 1 rfl) ?_
    refine lv_iconst (v := nI 2) hx hb d_Mo_field_12 (by decide) ?_
    refine lv_icmp_ne (tgt := 20) hx hb d_Mo_field_13 (by decide) (fun _ => ?_) (fun h52 => absurd h52 (by decide))
    refine lv_iload_n hx hb d_Mo_field_20 rfl (lv_at hl 1 rfl) ?_
    refine lv_iconst (v := nI 4) hx hb d_Mo_field_21 (by decide) ?_
    refine lv_icmp_ne (tgt := 30) hx hb d_Mo_field_22 (by decide) (fun _ => ?_) (fun h53 => absurd h53 (by decide))
    refine lv_iload_n hx hb d_Mo_field_30 rfl (lv_at hl 1 rfl) ?_
    refine lv_iconst (v := nI 5) hx hb d_Mo_field_31 (by decide) ?_
    refine lv_icmp_eq (tgt := 41) hx hb d_Mo_field_32 (by decide) (fun h54 => absurd h54 (by decide)) (fun _ => ?_)
    refine lv_iload_n hx hb d_Mo_field_35 rfl (lv_at hl 1 rfl) ?_
    refine lv_bipush (v := nI 6) hx hb d_Mo_field_36 (by decide) ?_
    refine lv_icmp_ne (tgt := 45) hx hb d_Mo_field_38 (by decide) (fun _ => ?_) (fun h55 => absurd h55 (by decide))
    refine lv_iconst (v := nI 0) hx hb d_Mo_field_45 (by decide) ?_
    refine lv_istore_n hx hb d_Mo_field_46 rfl hl (by decide) rfl (fun ls hl => ?_)
    have hl : lv_has ls 4 [(2, .int (nI 0)), (0, .ref (ad 12)), (1, .int (nI 7))] := hl
    refine lv_iload_n hx hb d_Mo_field_47 rfl (lv_at hl 2 rfl) ?_
    refine lv_if_eq (tgt := 56) hx hb d_Mo_field_48 (by decide) (fun h56 => absurd h56 (by decide)) (fun _ => ?_)
    refine lv_iload_n hx hb d_Mo_field_51 rfl (lv_at hl 2 rfl) ?_
    refine lv_iconst (v := nI 1) hx hb d_Mo_field_52 (by decide) ?_
    refine lv_icmp_ne (tgt := 63) hx hb d_Mo_field_53 (by decide) (fun _ => ?_) (fun h57 => absurd h57 (by decide))
    refine lv_iload_n hx hb d_Mo_field_63 rfl (lv_at hl 2 rfl) ?_
    refine lv_iconst (v := nI 2) hx hb d_Mo_field_64 (by decide) ?_
    refine lv_icmp_eq (tgt := 73) hx hb d_Mo_field_65 (by decide) (fun h58 => absurd h58 (by decide)) (fun _ => ?_)
    refine lv_iload_n hx hb d_Mo_field_68 rfl (lv_at hl 2 rfl) ?_
    refine lv_iconst (v := nI 3) hx hb d_Mo_field_69 (by decide) ?_
    refine lv_icmp_ne (tgt := 77) hx hb d_Mo_field_70 (by decide) (fun _ => ?_) (fun h59 => absurd h59 (by decide))
    refine lv_iload_n hx hb d_Mo_field_77 rfl (lv_at hl 2 rfl) ?_
    refine lv_iconst (v := nI 5) hx hb d_Mo_field_78 (by decide) ?_
    refine lv_icmp_ne (tgt := 87) hx hb d_Mo_field_79 (by decide) (fun _ => ?_) (fun h60 => absurd h60 (by decide))
    refine lv_bipush (v := nI 13) hx hb d_Mo_field_87 (by decide) ?_
    refine lv_istore_n hx hb d_Mo_field_89 rfl hl (by decide) rfl (fun ls hl => ?_)
    have hl : lv_has ls 4 [(3, .int (nI 13)), (2, .int (nI 0)), (0, .ref (ad 12)), (1, .int (nI 7))] := hl
    refine lv_aload_n hx hb d_Mo_field_90 rfl (lv_at hl 2 rfl) ?_
    refine lv_aload_n hx hb d_Mo_field_91 rfl (lv_at hl 2 rfl) ?_
    refine va_get (D := D) (ci := 5) (v := .ref (ad 13)) (C := RMo) (T := TMo) (N := 21) hx hb ht inMo hown hK hP 0 rfl rfl 1 (by decide) (ht _ q547) (fun _ h9 => h9) rfl d_Mo_field_92 ?_
    refine lv_iload_n hx hb d_Mo_field_95 rfl (lv_at hl 1 rfl) ?_
    refine va_lald hx hb hK hP 1 1 rfl rfl (vp_in_nI (n := 0) (by omega) (by decide)) d_Mo_field_96 ?_
    refine ztl (y := lN (po 0)) (lF_at (by omega)) ?_
    refine ztl (y := lN (10 ^ 0)) (by rw [hpo _ (by omega)]) ?_
    refine va_put (D := D) (ci := 5) (v := .long (lN (10 ^ 0))) (ty := .long) (C := RMo) (T := TMo) (N := 21) hx hb ht inMo tyMo tyMo_ok nmMo hown hK hP hD hS 0 rfl rfl 12 (by decide) (ht _ q558) (fun _ h9 => h9) rfl (by decide +kernel) rfl rfl (Nat.le_of_ble_eq_true rfl) d_Mo_field_97 (fun H locs hP hD hS => ?_)
    have hP : va_P D vCl (wM ad ca cd po nu pt st cy pl bk me kc ro en (10 ^ 0) li tn tx ia ct md lb wn) H := hP
    have hD : va_D A (wM ad ca cd po nu pt st cy pl bk me kc ro en (10 ^ 0) li tn tx ia ct md lb wn) := hD
    refine lv_aload_n hx hb d_Mo_field_100 rfl (lv_at hl 2 rfl) ?_
    refine lv_aload_n hx hb d_Mo_field_101 rfl (lv_at hl 2 rfl) ?_
    refine va_get (D := D) (ci := 5) (v := .ref (ad 13)) (C := RMo) (T := TMo) (N := 21) hx hb ht inMo hown hK hP 0 rfl rfl 1 (by decide) (ht _ q547) (fun _ h9 => h9) rfl d_Mo_field_102 ?_
    refine lv_iload_n hx hb d_Mo_field_105 rfl (lv_at hl 0 rfl) ?_
    refine lv_iload_n hx hb d_Mo_field_106 rfl (lv_at hl 1 rfl) ?_
    refine lv_isub hx hb d_Mo_field_107 ?_
    refine zti (y := nI 13) (by decide) ?_
    refine lv_iconst (v := nI 1) hx hb d_Mo_field_108 (by decide) ?_
    refine lv_iadd hx hb d_Mo_field_109 ?_
    refine zti (y := nI 14) (by decide) ?_
    refine va_lald hx hb hK hP 1 1 rfl rfl (vp_in_nI (n := 14) (by omega) (by decide)) d_Mo_field_110 ?_
    refine ztl (y := lN (po 14)) (lF_at (by omega)) ?_
    refine ztl (y := lN (10 ^ 14)) (by rw [hpo _ (by omega)]) ?_
    refine va_put (D := D) (ci := 5) (v := .long (lN (10 ^ 14))) (ty := .long) (C := RMo) (T := TMo) (N := 21) hx hb ht inMo tyMo tyMo_ok nmMo hown hK hP hD hS 0 rfl rfl 13 (by decide) (ht _ q559) (fun _ h9 => h9) rfl (by decide +kernel) rfl rfl (Nat.le_of_ble_eq_true rfl) d_Mo_field_111 (fun H locs hP hD hS => ?_)
    have hP : va_P D vCl (wM ad ca cd po nu pt st cy pl bk me kc ro en (10 ^ 0) (10 ^ 14) tn tx ia ct md lb wn) H := hP
    have hD : va_D A (wM ad ca cd po nu pt st cy pl bk me kc ro en (10 ^ 0) (10 ^ 14) tn tx ia ct md lb wn) := hD
    exact zret_v C0 hr hAe hP hD hS rfl d_Mo_field_114
