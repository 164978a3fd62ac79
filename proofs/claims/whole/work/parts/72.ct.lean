set_option maxHeartbeats 4000000 in
set_option maxRecDepth 100000 in
theorem m_Re_init (l : Launch) (D : va_G) (ca : Nat → ClassId) (k : Nat → Nat) (sz : Nat) (ad : Nat → Nat) (a : Nat) : Met l y_Re_init (zw y_Re_init c_Re_init 1 none) { frames := 1, cells := 1, slots := 7, locals := 20 } (va_Pc [.ref a] (zPre D (zty ca) k ([(a, .inr (2, [.null, .long (lN 0), .long (lN 0)]))]) sz)) (va_Qv (fun w => ∃ q1 : Nat, w = [(a, .inr (2, [.ref q1, .long (lN 1), .long (lN 1)])), (q1, .inl (ca 1, 7, .inr (.inl (lF z0))))]) (zB D (zty ca) ([(a, .inr (2, [.null, .long (lN 0), .long (lN 0)]))]) sz) (va_A ([(a, .inr (2, [.null, .long (lN 0), .long (lN 0)]))]) sz)) 1 7 (va_A ([(a, .inr (2, [.null, .long (lN 0), .long (lN 0)]))]) sz) := by
  refine zOf (own := "DigitChip$Registers") (by decide +kernel) rfl (Nat.le_of_ble_eq_true rfl) ?_
  intro p e s m below meth c A ls C0 hr hnm hAe hsz hl hP hD hS
  have hl : lv_has ls 1 [(0, .ref a)] := hl
  obtain ⟨hx, hb, hml, hown, ht, hK, hX, hA, hlk⟩ := id C0
  have hP : va_P D vCl ([(a, .inr (2, [.null, .long (lN 0), .long (lN 0)]))]) s.heap := hP
  refine lv_aload_n hx hb d_Re_init_0 rfl (lv_at hl 0 rfl) ?_
  refine zobj C0 q85 hl.1 d_Re_init_1 (Nat.le_of_ble_eq_true rfl) (Nat.le_of_ble_eq_true rfl) ?_
  refine lv_aload_n hx hb d_Re_init_4 rfl (lv_at hl 0 rfl) ?_
  refine lv_bipush (v := nI 7) hx hb d_Re_init_5 (by decide) ?_
  refine znewa (atype := .long) (ty := .long) (N' := 7) C0 hP hD hS rfl q99 1 rfl zoneL za_l (by decide) (by decide) (by decide) (Nat.le_of_ble_eq_true rfl) (Nat.le_of_ble_eq_true rfl) d_Re_init_7 (fun q1 H hP hD hS => ?_)
  have hP : va_P D vCl ([(a, .inr (2, [.null, .long (lN 0), .long (lN 0)])), (q1, .inl (ca 1, 7, .inr (.inl (lF z0))))]) H := hP
  have hD : va_D A ([(a, .inr (2, [.null, .long (lN 0), .long (lN 0)])), (q1, .inl (ca 1, 7, .inr (.inl (lF z0))))]) := hD
  refine va_putF (D := D) (ci := 2) (v := .ref q1) (ty := tyRe 0) (C := RRe) (T := TRe) (N := 3) hx hb ht inRe tyRe tyRe_ok nmRe hown hK hP hD hS 0 rfl rfl 0 (by decide) (ht _ q86) (fun _ h9 => h9) rfl hnm rfl (tyRe_ok 0 (by decide)) rfl rfl (Nat.le_of_ble_eq_true rfl) d_Re_init_9 (fun H locs hP hD hS => ?_)
  have hP : va_P D vCl ([(a, .inr (2, [.ref q1, .long (lN 0), .long (lN 0)])), (q1, .inl (ca 1, 7, .inr (.inl (lF z0))))]) H := hP
  have hD : va_D A ([(a, .inr (2, [.ref q1, .long (lN 0), .long (lN 0)])), (q1, .inl (ca 1, 7, .inr (.inl (lF z0))))]) := hD
  refine lv_aload_n hx hb d_Re_init_12 rfl (lv_at hl 0 rfl) ?_
  refine lv_lconst (v := lN 1) hx hb d_Re_init_13 rfl ?_
  refine va_put (D := D) (ci := 2) (v := .long (lN 1)) (ty := tyRe 1) (C := RRe) (T := TRe) (N := 3) hx hb ht inRe tyRe tyRe_ok nmRe hown hK hP hD hS 0 rfl rfl 1 (by decide) (ht _ q89) (fun _ h9 => h9) rfl (tyRe_ok 1 (by decide)) rfl rfl (Nat.le_of_ble_eq_true rfl) d_Re_init_14 (fun H locs hP hD hS => ?_)
  have hP : va_P D vCl ([(a, .inr (2, [.ref q1, .long (lN 1), .long (lN 0)])), (q1, .inl (ca 1, 7, .inr (.inl (lF z0))))]) H := hP
  have hD : va_D A ([(a, .inr (2, [.ref q1, .long (lN 1), .long (lN 0)])), (q1, .inl (ca 1, 7, .inr (.inl (lF z0))))]) := hD
  refine lv_aload_n hx hb d_Re_init_17 rfl (lv_at hl 0 rfl) ?_
  refine lv_lconst (v := lN 1) hx hb d_Re_init_18 rfl ?_
  refine va_put (D := D) (ci := 2) (v := .long (lN 1)) (ty := tyRe 2) (C := RRe) (T := TRe) (N := 3) hx hb ht inRe tyRe tyRe_ok nmRe hown hK hP hD hS 0 rfl rfl 2 (by decide) (ht _ q90) (fun _ h9 => h9) rfl (tyRe_ok 2 (by decide)) rfl rfl (Nat.le_of_ble_eq_true rfl) d_Re_init_19 (fun H locs hP hD hS => ?_)
  have hP : va_P D vCl ([(a, .inr (2, [.ref q1, .long (lN 1), .long (lN 1)])), (q1, .inl (ca 1, 7, .inr (.inl (lF z0))))]) H := hP
  have hD : va_D A ([(a, .inr (2, [.ref q1, .long (lN 1), .long (lN 1)])), (q1, .inl (ca 1, 7, .inr (.inl (lF z0))))]) := hD
  exact zret_v C0 hr hAe hP hD hS ⟨q1, rfl⟩ d_Re_init_22
set_option maxHeartbeats 4000000 in
set_option maxRecDepth 100000 in
theorem m_Wa_init (l : Launch) (D : va_G) (ca : Nat → ClassId) (k : Nat → Nat) (sz : Nat) (ad : Nat → Nat) (a : Nat) : Met l y_Wa_init (zw y_Wa_init c_Wa_init 1 none) { frames := 1, cells := 1, slots := 3, locals := 20 } (va_Pc [.ref a] (zPre D (zty ca) k ([(a, .inr (3, [.null, .int (nI 0)]))]) sz)) (va_Qv (fun w => ∃ q1 : Nat, w = [(a, .inr (3, [.ref q1, .int (nI 0)])), (q1, .inl (ca 0, 3, .inl (nF z0)))]) (zB D (zty ca) ([(a, .inr (3, [.null, .int (nI 0)]))]) sz) (va_A ([(a, .inr (3, [.null, .int (nI 0)]))]) sz)) 1 3 (va_A ([(a, .inr (3, [.null, .int (nI 0)]))]) sz) := by
  refine zOf (own := "DigitChip$Waiting") (by decide +kernel) rfl (Nat.le_of_ble_eq_true rfl) ?_
  intro p e s m below meth c A ls C0 hr hnm hAe hsz hl hP hD hS
  have hl : lv_has ls 1 [(0, .ref a)] := hl
  obtain ⟨hx, hb, hml, hown, ht, hK, hX, hA, hlk⟩ := id C0
  have hP : va_P D vCl ([(a, .inr (3, [.null, .int (nI 0)]))]) s.heap := hP
  refine lv_aload_n hx hb d_Wa_init_0 rfl (lv_at hl 0 rfl) ?_
  refine zobj C0 q105 hl.1 d_Wa_init_1 (Nat.le_of_ble_eq_true rfl) (Nat.le_of_ble_eq_true rfl) ?_
  refine lv_aload_n hx hb d_Wa_init_4 rfl (lv_at hl 0 rfl) ?_
  refine lv_iconst (v := nI 3) hx hb d_Wa_init_5 (by decide) ?_
  refine znewa (atype := .int) (ty := .int) (N' := 3) C0 hP hD hS rfl q73 0 rfl zone za_i (by decide) (by decide) (by decide) (Nat.le_of_ble_eq_true rfl) (Nat.le_of_ble_eq_true rfl) d_Wa_init_6 (fun q1 H hP hD hS => ?_)
  have hP : va_P D vCl ([(a, .inr (3, [.null, .int (nI 0)])), (q1, .inl (ca 0, 3, .inl (nF z0)))]) H := hP
  have hD : va_D A ([(a, .inr (3, [.null, .int (nI 0)])), (q1, .inl (ca 0, 3, .inl (nF z0)))]) := hD
  refine va_putF (D := D) (ci := 3) (v := .ref q1) (ty := tyWa 0) (C := RWa) (T := TWa) (N := 2) hx hb ht inWa tyWa tyWa_ok nmWa hown hK hP hD hS 0 rfl rfl 0 (by decide) (ht _ q106) (fun _ h9 => h9) rfl hnm rfl (tyWa_ok 0 (by decide)) rfl rfl (Nat.le_of_ble_eq_true rfl) d_Wa_init_8 (fun H locs hP hD hS => ?_)
  have hP : va_P D vCl ([(a, .inr (3, [.ref q1, .int (nI 0)])), (q1, .inl (ca 0, 3, .inl (nF z0)))]) H := hP
  have hD : va_D A ([(a, .inr (3, [.ref q1, .int (nI 0)])), (q1, .inl (ca 0, 3, .inl (nF z0)))]) := hD
  refine lv_aload_n hx hb d_Wa_init_11 rfl (lv_at hl 0 rfl) ?_
  refine lv_iconst (v := nI 0) hx hb d_Wa_init_12 (by decide) ?_
  refine va_put (D := D) (ci := 3) (v := .int (nI 0)) (ty := tyWa 1) (C := RWa) (T := TWa) (N := 2) hx hb ht inWa tyWa tyWa_ok nmWa hown hK hP hD hS 0 rfl rfl 1 (by decide) (ht _ q107) (fun _ h9 => h9) rfl (tyWa_ok 1 (by decide)) rfl rfl (Nat.le_of_ble_eq_true rfl) d_Wa_init_13 (fun H locs hP hD hS => ?_)
  have hP : va_P D vCl ([(a, .inr (3, [.ref q1, .int (nI 0)])), (q1, .inl (ca 0, 3, .inl (nF z0)))]) H := hP
  have hD : va_D A ([(a, .inr (3, [.ref q1, .int (nI 0)])), (q1, .inl (ca 0, 3, .inl (nF z0)))]) := hD
  exact zret_v C0 hr hAe hP hD hS ⟨q1, rfl⟩ d_Wa_init_16
set_option maxHeartbeats 4000000 in
set_option maxRecDepth 100000 in
theorem m_Pr_init (l : Launch) (D : va_G) (ca : Nat → ClassId) (k : Nat → Nat) (sz : Nat) (ad : Nat → Nat) (a : Nat) : Met l y_Pr_init (zw y_Pr_init c_Pr_init 1 none) { frames := 2, cells := 5, slots := 79, locals := 40 } (va_Pc [.ref a] (zPre D (zty ca) k ([(a, .inr (1, [.null, .null, .null, .int (nI 0), .int (nI 0), .int (nI 0), .int (nI 0), .int (nI 0), .int (nI 0)]))]) sz)) (va_Qv (fun w => ∃ q1 q2 q1_3 q4 q1_5 : Nat, w = [(a, .inr (1, [.ref q1, .ref q2, .ref q4, .int (nI 0), .int (nI 0), .int (nI 0), .int (nI 0), .int (nI 0), .int (nI 0)])), (q1, .inl (ca 0, 64, .inl (nF z0))), (q2, .inr (2, [.ref q1_3, .long (lN 1), .long (lN 1)])), (q1_3, .inl (ca 1, 7, .inr (.inl (lF z0)))), (q4, .inr (3, [.ref q1_5, .int (nI 0)])), (q1_5, .inl (ca 0, 3, .inl (nF z0)))]) (zB D (zty ca) ([(a, .inr (1, [.null, .null, .null, .int (nI 0), .int (nI 0), .int (nI 0), .int (nI 0), .int (nI 0), .int (nI 0)]))]) sz) (va_A ([(a, .inr (1, [.null, .null, .null, .int (nI 0), .int (nI 0), .int (nI 0), .int (nI 0), .int (nI 0), .int (nI 0)]))]) sz)) 5 79 (va_A ([(a, .inr (1, [.null, .null, .null, .int (nI 0), .int (nI 0), .int (nI 0), .int (nI 0), .int (nI 0), .int (nI 0)]))]) sz) := by
  refine zOf (own := "DigitChip$Processor") (by decide +kernel) rfl (Nat.le_of_ble_eq_true rfl) ?_
  intro p e s m below meth c A ls C0 hr hnm hAe hsz hl hP hD hS
  have hl : lv_has ls 1 [(0, .ref a)] := hl
  obtain ⟨hx, hb, hml, hown, ht, hK, hX, hA, hlk⟩ := id C0
  have hP : va_P D vCl ([(a, .inr (1, [.null, .null, .null, .int (nI 0), .int (nI 0), .int (nI 0), .int (nI 0), .int (nI 0), .int (nI 0)]))]) s.heap := hP
  refine lv_aload_n hx hb d_Pr_init_0 rfl (lv_at hl 0 rfl) ?_
  refine zobj C0 q79 hl.1 d_Pr_init_1 (Nat.le_of_ble_eq_true rfl) (Nat.le_of_ble_eq_true rfl) ?_
  refine lv_aload_n hx hb d_Pr_init_4 rfl (lv_at hl 0 rfl) ?_
  refine lv_bipush (v := nI 64) hx hb d_Pr_init_5 (by decide) ?_
  refine znewa (atype := .int) (ty := .int) (N' := 64) C0 hP hD hS rfl q73 0 rfl zone za_i (by decide) (by decide) (by decide) (Nat.le_of_ble_eq_true rfl) (Nat.le_of_ble_eq_true rfl) d_Pr_init_7 (fun q1 H hP hD hS => ?_)
  have hP : va_P D vCl ([(a, .inr (1, [.null, .null, .null, .int (nI 0), .int (nI 0), .int (nI 0), .int (nI 0), .int (nI 0), .int (nI 0)])), (q1, .inl (ca 0, 64, .inl (nF z0)))]) H := hP
  have hD : va_D A ([(a, .inr (1, [.null, .null, .null, .int (nI 0), .int (nI 0), .int (nI 0), .int (nI 0), .int (nI 0), .int (nI 0)])), (q1, .inl (ca 0, 64, .inl (nF z0)))]) := hD
  refine va_putF (D := D) (ci := 1) (v := .ref q1) (ty := tyPr 0) (C := RPr) (T := TPr) (N := 9) hx hb ht inPr tyPr tyPr_ok nmPr hown hK hP hD hS 0 rfl rfl 0 (by decide) (ht _ q114) (fun _ h9 => h9) rfl hnm rfl (tyPr_ok 0 (by decide)) rfl rfl (Nat.le_of_ble_eq_true rfl) d_Pr_init_9 (fun H locs hP hD hS => ?_)
  have hP : va_P D vCl ([(a, .inr (1, [.ref q1, .null, .null, .int (nI 0), .int (nI 0), .int (nI 0), .int (nI 0), .int (nI 0), .int (nI 0)])), (q1, .inl (ca 0, 64, .inl (nF z0)))]) H := hP
  have hD : va_D A ([(a, .inr (1, [.ref q1, .null, .null, .int (nI 0), .int (nI 0), .int (nI 0), .int (nI 0), .int (nI 0), .int (nI 0)])), (q1, .inl (ca 0, 64, .inl (nF z0)))]) := hD
  refine lv_aload_n hx hb d_Pr_init_12 rfl (lv_at hl 0 rfl) ?_
  refine va_new (D := D) (ci := 2) (fs := dfRe) (C := RRe) (T := TRe) (N := 3) hx hb ht inRe tyRe tyRe_ok hown (ht _ q80) (ht _ q81) (ht _ q5) hK hP hD hS hA rfl dfRe_ok (Nat.le_of_ble_eq_true rfl) (Nat.le_of_ble_eq_true rfl) d_Pr_init_13 (fun q2 H hP hD hS => ?_)
  have hP : va_P D vCl ([(a, .inr (1, [.ref q1, .null, .null, .int (nI 0), .int (nI 0), .int (nI 0), .int (nI 0), .int (nI 0), .int (nI 0)])), (q1, .inl (ca 0, 64, .inl (nF z0))), (q2, .inr (2, [.null, .long (lN 0), .long (lN 0)]))]) H := hP
  have hD : va_D A ([(a, .inr (1, [.ref q1, .null, .null, .int (nI 0), .int (nI 0), .int (nI 0), .int (nI 0), .int (nI 0), .int (nI 0)])), (q1, .inl (ca 0, 64, .inl (nF z0))), (q2, .inr (2, [.null, .long (lN 0), .long (lN 0)]))]) := hD
  refine lv_dup hx hb d_Pr_init_16 rfl ?_
  refine zgo_n (mc := 1) (ms := 7) (wr := [(a, .inr (1, [.ref q1, .null, .null, .int (nI 0), .int (nI 0), .int (nI 0), .int (nI 0), .int (nI 0), .int (nI 0)])), (q1, .inl (ca 0, 64, .inl (nF z0)))]) C0 (zrunN (host := "DigitChip") C0 hP hD hS [2] rfl rfl (m_Re_init l D ca k H.size ad q2) q84 (List.mem_of_getElem? (i := 6) rfl) q5 q83 rfl (by decide +kernel) rfl rfl ⟨by decide, by decide⟩ hl.1 rfl (Nat.le_of_ble_eq_true rfl) d_Pr_init_17 ⟨Nat.le_of_ble_eq_true rfl, Nat.le_of_ble_eq_true rfl⟩) hP hD hS [2] [0, 1] rfl rfl (by decide) (by decide) (fun w1 H locs hw hP hD hS => ?_)
  obtain ⟨q1_3, rfl⟩ := hw
  have hP : va_P D vCl ([(a, .inr (1, [.ref q1, .null, .null, .int (nI 0), .int (nI 0), .int (nI 0), .int (nI 0), .int (nI 0), .int (nI 0)])), (q1, .inl (ca 0, 64, .inl (nF z0))), (q2, .inr (2, [.ref q1_3, .long (lN 1), .long (lN 1)])), (q1_3, .inl (ca 1, 7, .inr (.inl (lF z0))))]) H := hP
  have hD : va_D A ([(a, .inr (1, [.ref q1, .null, .null, .int (nI 0), .int (nI 0), .int (nI 0), .int (nI 0), .int (nI 0), .int (nI 0)])), (q1, .inl (ca 0, 64, .inl (nF z0))), (q2, .inr (2, [.ref q1_3, .long (lN 1), .long (lN 1)])), (q1_3, .inl (ca 1, 7, .inr (.inl (lF z0))))]) := hD
  refine va_putF (D := D) (ci := 1) (v := .ref q2) (ty := tyPr 1) (C := RPr) (T := TPr) (N := 9) hx hb ht inPr tyPr tyPr_ok nmPr hown hK hP hD hS 0 rfl rfl 1 (by decide) (ht _ q116) (fun _ h9 => h9) rfl hnm rfl (tyPr_ok 1 (by decide)) rfl rfl (Nat.le_of_ble_eq_true rfl) d_Pr_init_20 (fun H locs hP hD hS => ?_)
  have hP : va_P D vCl ([(a, .inr (1, [.ref q1, .ref q2, .null, .int (nI 0), .int (nI 0), .int (nI 0), .int (nI 0), .int (nI 0), .int (nI 0)])), (q1, .inl (ca 0, 64, .inl (nF z0))), (q2, .inr (2, [.ref q1_3, .long (lN 1), .long (lN 1)])), (q1_3, .inl (ca 1, 7, .inr (.inl (lF z0))))]) H := hP
  have hD : va_D A ([(a, .inr (1, [.ref q1, .ref q2, .null, .int (nI 0), .int (nI 0), .int (nI 0), .int (nI 0), .int (nI 0), .int (nI 0)])), (q1, .inl (ca 0, 64, .inl (nF z0))), (q2, .inr (2, [.ref q1_3, .long (lN 1), .long (lN 1)])), (q1_3, .inl (ca 1, 7, .inr (.inl (lF z0))))]) := hD
  refine lv_aload_n hx hb d_Pr_init_23 rfl (lv_at hl 0 rfl) ?_
  refine va_new (D := D) (ci := 3) (fs := dfWa) (C := RWa) (T := TWa) (N := 2) hx hb ht inWa tyWa tyWa_ok hown (ht _ q100) (ht _ q101) (ht _ q6) hK hP hD hS hA rfl dfWa_ok (Nat.le_of_ble_eq_true rfl) (Nat.le_of_ble_eq_true rfl) d_Pr_init_24 (fun q4 H hP hD hS => ?_)
  have hP : va_P D vCl ([(a, .inr (1, [.ref q1, .ref q2, .null, .int (nI 0), .int (nI 0), .int (nI 0), .int (nI 0), .int (nI 0), .int (nI 0)])), (q1, .inl (ca 0, 64, .inl (nF z0))), (q2, .inr (2, [.ref q1_3, .long (lN 1), .long (lN 1)])), (q1_3, .inl (ca 1, 7, .inr (.inl (lF z0)))), (q4, .inr (3, [.null, .int (nI 0)]))]) H := hP
  have hD : va_D A ([(a, .inr (1, [.ref q1, .ref q2, .null, .int (nI 0), .int (nI 0), .int (nI 0), .int (nI 0), .int (nI 0), .int (nI 0)])), (q1, .inl (ca 0, 64, .inl (nF z0))), (q2, .inr (2, [.ref q1_3, .long (lN 1), .long (lN 1)])), (q1_3, .inl (ca 1, 7, .inr (.inl (lF z0)))), (q4, .inr (3, [.null, .int (nI 0)]))]) := hD
  refine lv_dup hx hb d_Pr_init_27 rfl ?_
  refine zgo_n (mc := 1) (ms := 3) (wr := [(a, .inr (1, [.ref q1, .ref q2, .null, .int (nI 0), .int (nI 0), .int (nI 0), .int (nI 0), .int (nI 0), .int (nI 0)])), (q1, .inl (ca 0, 64, .inl (nF z0))), (q2, .inr (2, [.ref q1_3, .long (lN 1), .long (lN 1)])), (q1_3, .inl (ca 1, 7, .inr (.inl (lF z0))))]) C0 (zrunN (host := "DigitChip") C0 hP hD hS [4] rfl rfl (m_Wa_init l D ca k H.size ad q4) q104 (List.mem_of_getElem? (i := 7) rfl) q6 q103 rfl (by decide +kernel) rfl rfl ⟨by decide, by decide⟩ hl.1 rfl (Nat.le_of_ble_eq_true rfl) d_Pr_init_28 ⟨Nat.le_of_ble_eq_true rfl, Nat.le_of_ble_eq_true rfl⟩) hP hD hS [4] [0, 1, 2, 3] rfl rfl (by decide) (by decide) (fun w1 H locs hw hP hD hS => ?_)
  obtain ⟨q1_5, rfl⟩ := hw
  have hP : va_P D vCl ([(a, .inr (1, [.ref q1, .ref q2, .null, .int (nI 0), .int (nI 0), .int (nI 0), .int (nI 0), .int (nI 0), .int (nI 0)])), (q1, .inl (ca 0, 64, .inl (nF z0))), (q2, .inr (2, [.ref q1_3, .long (lN 1), .long (lN 1)])), (q1_3, .inl (ca 1, 7, .inr (.inl (lF z0)))), (q4, .inr (3, [.ref q1_5, .int (nI 0)])), (q1_5, .inl (ca 0, 3, .inl (nF z0)))]) H := hP
  have hD : va_D A ([(a, .inr (1, [.ref q1, .ref q2, .null, .int (nI 0), .int (nI 0), .int (nI 0), .int (nI 0), .int (nI 0), .int (nI 0)])), (q1, .inl (ca 0, 64, .inl (nF z0))), (q2, .inr (2, [.ref q1_3, .long (lN 1), .long (lN 1)])), (q1_3, .inl (ca 1, 7, .inr (.inl (lF z0)))), (q4, .inr (3, [.ref q1_5, .int (nI 0)])), (q1_5, .inl (ca 0, 3, .inl (nF z0)))]) := hD
  refine va_putF (D := D) (ci := 1) (v := .ref q4) (ty := tyPr 2) (C := RPr) (T := TPr) (N := 9) hx hb ht inPr tyPr tyPr_ok nmPr hown hK hP hD hS 0 rfl rfl 2 (by decide) (ht _ q118) (fun _ h9 => h9) rfl hnm rfl (tyPr_ok 2 (by decide)) rfl rfl (Nat.le_of_ble_eq_true rfl) d_Pr_init_31 (fun H locs hP hD hS => ?_)
  have hP : va_P D vCl ([(a, .inr (1, [.ref q1, .ref q2, .ref q4, .int (nI 0), .int (nI 0), .int (nI 0), .int (nI 0), .int (nI 0), .int (nI 0)])), (q1, .inl (ca 0, 64, .inl (nF z0))), (q2, .inr (2, [.ref q1_3, .long (lN 1), .long (lN 1)])), (q1_3, .inl (ca 1, 7, .inr (.inl (lF z0)))), (q4, .inr (3, [.ref q1_5, .int (nI 0)])), (q1_5, .inl (ca 0, 3, .inl (nF z0)))]) H := hP
  have hD : va_D A ([(a, .inr (1, [.ref q1, .ref q2, .ref q4, .int (nI 0), .int (nI 0), .int (nI 0), .int (nI 0), .int (nI 0), .int (nI 0)])), (q1, .inl (ca 0, 64, .inl (nF z0))), (q2, .inr (2, [.ref q1_3, .long (lN 1), .long (lN 1)])), (q1_3, .inl (ca 1, 7, .inr (.inl (lF z0)))), (q4, .inr (3, [.ref q1_5, .int (nI 0)])), (q1_5, .inl (ca 0, 3, .inl (nF z0)))]) := hD
  refine lv_aload_n hx hb d_Pr_init_34 rfl (lv_at hl 0 rfl) ?_
  refine lv_iconst (v := nI 0) hx hb d_Pr_init_35 (by decide) ?_
  refine va_put (D := D) (ci := 1) (v := .int (nI 0)) (ty := tyPr 3) (C := RPr) (T := TPr) (N := 9) hx hb ht inPr tyPr tyPr_ok nmPr hown hK hP hD hS 0 rfl rfl 3 (by decide) (ht _ q120) (fun _ h9 => h9) rfl (tyPr_ok 3 (by decide)) rfl rfl (Nat.le_of_ble_eq_true rfl) d_Pr_init_36 (fun H locs hP hD hS => ?_)
  have hP : va_P D vCl ([(a, .inr (1, [.ref q1, .ref q2, .ref q4, .int (nI 0), .int (nI 0), .int (nI 0), .int (nI 0), .int (nI 0), .int (nI 0)])), (q1, .inl (ca 0, 64, .inl (nF z0))), (q2, .inr (2, [.ref q1_3, .long (lN 1), .long (lN 1)])), (q1_3, .inl (ca 1, 7, .inr (.inl (lF z0)))), (q4, .inr (3, [.ref q1_5, .int (nI 0)])), (q1_5, .inl (ca 0, 3, .inl (nF z0)))]) H := hP
  have hD : va_D A ([(a, .inr (1, [.ref q1, .ref q2, .ref q4, .int (nI 0), .int (nI 0), .int (nI 0), .int (nI 0), .int (nI 0), .int (nI 0)])), (q1, .inl (ca 0, 64, .inl (nF z0))), (q2, .inr (2, [.ref q1_3, .long (lN 1), .long (lN 1)])), (q1_3, .inl (ca 1, 7, .inr (.inl (lF z0)))), (q4, .inr (3, [.ref q1_5, .int (nI 0)])), (q1_5, .inl (ca 0, 3, .inl (nF z0)))]) := hD
  refine lv_aload_n hx hb d_Pr_init_39 rfl (lv_at hl 0 rfl) ?_
  refine lv_iconst (v := nI 0) hx hb d_Pr_init_40 (by decide) ?_
  refine va_put (D := D) (ci := 1) (v := .int (nI 0)) (ty := tyPr 4) (C := RPr) (T := TPr) (N := 9) hx hb ht inPr tyPr tyPr_ok nmPr hown hK hP hD hS 0 rfl rfl 4 (by decide) (ht _ q122) (fun _ h9 => h9) rfl (tyPr_ok 4 (by decide)) rfl rfl (Nat.le_of_ble_eq_true rfl) d_Pr_init_41 (fun H locs hP hD hS => ?_)
  have hP : va_P D vCl ([(a, .inr (1, [.ref q1, .ref q2, .ref q4, .int (nI 0), .int (nI 0), .int (nI 0), .int (nI 0), .int (nI 0), .int (nI 0)])), (q1, .inl (ca 0, 64, .inl (nF z0))), (q2, .inr (2, [.ref q1_3, .long (lN 1), .long (lN 1)])), (q1_3, .inl (ca 1, 7, .inr (.inl (lF z0)))), (q4, .inr (3, [.ref q1_5, .int (nI 0)])), (q1_5, .inl (ca 0, 3, .inl (nF z0)))]) H := hP
  have hD : va_D A ([(a, .inr (1, [.ref q1, .ref q2, .ref q4, .int (nI 0), .int (nI 0), .int (nI 0), .int (nI 0), .int (nI 0), .int (nI 0)])), (q1, .inl (ca 0, 64, .inl (nF z0))), (q2, .inr (2, [.ref q1_3, .long (lN 1), .long (lN 1)])), (q1_3, .inl (ca 1, 7, .inr (.inl (lF z0)))), (q4, .inr (3, [.ref q1_5, .int (nI 0)])), (q1_5, .inl (ca 0, 3, .inl (nF z0)))]) := hD
  refine lv_aload_n hx hb d_Pr_init_44 rfl (lv_at hl 0 rfl) ?_
  refine lv_iconst (v := nI 0) hx hb d_Pr_init_45 (by decide) ?_
  refine va_put (D := D) (ci := 1) (v := .int (nI 0)) (ty := tyPr 5) (C := RPr) (T := TPr) (N := 9) hx hb ht inPr tyPr tyPr_ok nmPr hown hK hP hD hS 0 rfl rfl 5 (by decide) (ht _ q124) (fun _ h9 => h9) rfl (tyPr_ok 5 (by decide)) (zbn (by omega)) (zbf (by omega)) (Nat.le_of_ble_eq_true rfl) d_Pr_init_46 (fun H locs hP hD hS => ?_)
  have hP : va_P D vCl ([(a, .inr (1, [.ref q1, .ref q2, .ref q4, .int (nI 0), .int (nI 0), .int (nI 0), .int (nI 0), .int (nI 0), .int (nI 0)])), (q1, .inl (ca 0, 64, .inl (nF z0))), (q2, .inr (2, [.ref q1_3, .long (lN 1), .long (lN 1)])), (q1_3, .inl (ca 1, 7, .inr (.inl (lF z0)))), (q4, .inr (3, [.ref q1_5, .int (nI 0)])), (q1_5, .inl (ca 0, 3, .inl (nF z0)))]) H := hP
  have hD : va_D A ([(a, .inr (1, [.ref q1, .ref q2, .ref q4, .int (nI 0), .int (nI 0), .int (nI 0), .int (nI 0), .int (nI 0), .int (nI 0)])), (q1, .inl (ca 0, 64, .inl (nF z0))), (q2, .inr (2, [.ref q1_3, .long (lN 1), .long (lN 1)])), (q1_3, .inl (ca 1, 7, .inr (.inl (lF z0)))), (q4, .inr (3, [.ref q1_5, .int (nI 0)])), (q1_5, .inl (ca 0, 3, .inl (nF z0)))]) := hD
  refine lv_aload_n hx hb d_Pr_init_49 rfl (lv_at hl 0 rfl) ?_
  refine lv_iconst (v := nI 0) hx hb d_Pr_init_50 (by decide) ?_
  refine va_put (D := D) (ci := 1) (v := .int (nI 0)) (ty := tyPr 6) (C := RPr) (T := TPr) (N := 9) hx hb ht inPr tyPr tyPr_ok nmPr hown hK hP hD hS 0 rfl rfl 6 (by decide) (ht _ q126) (fun _ h9 => h9) rfl (tyPr_ok 6 (by decide)) rfl rfl (Nat.le_of_ble_eq_true rfl) d_Pr_init_51 (fun H locs hP hD hS => ?_)
  have hP : va_P D vCl ([(a, .inr (1, [.ref q1, .ref q2, .ref q4, .int (nI 0), .int (nI 0), .int (nI 0), .int (nI 0), .int (nI 0), .int (nI 0)])), (q1, .inl (ca 0, 64, .inl (nF z0))), (q2, .inr (2, [.ref q1_3, .long (lN 1), .long (lN 1)])), (q1_3, .inl (ca 1, 7, .inr (.inl (lF z0)))), (q4, .inr (3, [.ref q1_5, .int (nI 0)])), (q1_5, .inl (ca 0, 3, .inl (nF z0)))]) H := hP
  have hD : va_D A ([(a, .inr (1, [.ref q1, .ref q2, .ref q4, .int (nI 0), .int (nI 0), .int (nI 0), .int (nI 0), .int (nI 0), .int (nI 0)])), (q1, .inl (ca 0, 64, .inl (nF z0))), (q2, .inr (2, [.ref q1_3, .long (lN 1), .long (lN 1)])), (q1_3, .inl (ca 1, 7, .inr (.inl (lF z0)))), (q4, .inr (3, [.ref q1_5, .int (nI 0)])), (q1_5, .inl (ca 0, 3, .inl (nF z0)))]) := hD
  refine lv_aload_n hx hb d_Pr_init_54 rfl (lv_at hl 0 rfl) ?_
  refine lv_iconst (v := nI 0) hx hb d_Pr_init_55 (by decide) ?_
  refine va_put (D := D) (ci := 1) (v := .int (nI 0)) (ty := tyPr 7) (C := RPr) (T := TPr) (N := 9) hx hb ht inPr tyPr tyPr_ok nmPr hown hK hP hD hS 0 rfl rfl 7 (by decide) (ht _ q128) (fun _ h9 => h9) rfl (tyPr_ok 7 (by decide)) rfl rfl (Nat.le_of_ble_eq_true rfl) d_Pr_init_56 (fun H locs hP hD hS => ?_)
  have hP : va_P D vCl ([(a, .inr (1, [.ref q1, .ref q2, .ref q4, .int (nI 0), .int (nI 0), .int (nI 0), .int (nI 0), .int (nI 0), .int (nI 0)])), (q1, .inl (ca 0, 64, .inl (nF z0))), (q2, .inr (2, [.ref q1_3, .long (lN 1), .long (lN 1)])), (q1_3, .inl (ca 1, 7, .inr (.inl (lF z0)))), (q4, .inr (3, [.ref q1_5, .int (nI 0)])), (q1_5, .inl (ca 0, 3, .inl (nF z0)))]) H := hP
  have hD : va_D A ([(a, .inr (1, [.ref q1, .ref q2, .ref q4, .int (nI 0), .int (nI 0), .int (nI 0), .int (nI 0), .int (nI 0), .int (nI 0)])), (q1, .inl (ca 0, 64, .inl (nF z0))), (q2, .inr (2, [.ref q1_3, .long (lN 1), .long (lN 1)])), (q1_3, .inl (ca 1, 7, .inr (.inl (lF z0)))), (q4, .inr (3, [.ref q1_5, .int (nI 0)])), (q1_5, .inl (ca 0, 3, .inl (nF z0)))]) := hD
  refine lv_aload_n hx hb d_Pr_init_59 rfl (lv_at hl 0 rfl) ?_
  refine lv_iconst (v := nI 0) hx hb d_Pr_init_60 (by decide) ?_
  refine va_put (D := D) (ci := 1) (v := .int (nI 0)) (ty := tyPr 8) (C := RPr) (T := TPr) (N := 9) hx hb ht inPr tyPr tyPr_ok nmPr hown hK hP hD hS 0 rfl rfl 8 (by decide) (ht _ q130) (fun _ h9 => h9) rfl (tyPr_ok 8 (by decide)) (zbn (by omega)) (zbf (by omega)) (Nat.le_of_ble_eq_true rfl) d_Pr_init_61 (fun H locs hP hD hS => ?_)
  have hP : va_P D vCl ([(a, .inr (1, [.ref q1, .ref q2, .ref q4, .int (nI 0), .int (nI 0), .int (nI 0), .int (nI 0), .int (nI 0), .int (nI 0)])), (q1, .inl (ca 0, 64, .inl (nF z0))), (q2, .inr (2, [.ref q1_3, .long (lN 1), .long (lN 1)])), (q1_3, .inl (ca 1, 7, .inr (.inl (lF z0)))), (q4, .inr (3, [.ref q1_5, .int (nI 0)])), (q1_5, .inl (ca 0, 3, .inl (nF z0)))]) H := hP
  have hD : va_D A ([(a, .inr (1, [.ref q1, .ref q2, .ref q4, .int (nI 0), .int (nI 0), .int (nI 0), .int (nI 0), .int (nI 0), .int (nI 0)])), (q1, .inl (ca 0, 64, .inl (nF z0))), (q2, .inr (2, [.ref q1_3, .long (lN 1), .long (lN 1)])), (q1_3, .inl (ca 1, 7, .inr (.inl (lF z0)))), (q4, .inr (3, [.ref q1_5, .int (nI 0)])), (q1_5, .inl (ca 0, 3, .inl (nF z0)))]) := hD
  exact zret_v C0 hr hAe hP hD hS ⟨q1, q2, q1_3, q4, q1_5, rfl⟩ d_Pr_init_64
