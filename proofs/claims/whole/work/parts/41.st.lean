set_option maxHeartbeats 4000000 in
set_option maxRecDepth 100000 in
theorem m_St_coder (l : Launch) (D : va_G) (ca : Nat → ClassId) (k : Nat → Nat) (sz : Nat) (ad : Nat → Nat) (sn : Nat) (hsn : sn < 7) : Met l y_St_coder (zw y_St_coder c_St_coder 1 (some .byte)) { frames := 0, cells := 0, slots := 0, locals := 0 } (va_Pc [.ref (k (sn + 1))] (zPre D (zty ca) k ([]) sz)) (va_Qi (fun r w => r = nI 0 ∧ w = []) (zB D (zty ca) ([]) sz) (va_A ([]) sz)) 0 0 (va_A ([]) sz) := by
  refine zOfF (own := "java/lang/String") (by decide +kernel) rfl (Nat.le_of_ble_eq_true rfl) ?_
  intro p e s m below meth c A ls C0 hr hnm hAe hsz hl hP hD hS
  have hl : lv_has ls 1 [(0, .ref (k (sn + 1)))] := hl
  obtain ⟨hx, hb, hml, hown, ht, hK, hX, hA, hlk⟩ := id C0
  refine va_gets hx hb hX.2.2.1 hS hown (ht _ q41) (fun _ h9 => h9) d_St_coder_0 ?_
  refine zti (y := nI 1) rfl ?_
  refine lv_if_eq (tgt := 13) hx hb d_St_coder_3 (by decide) (fun h1 => absurd h1 (by decide)) (fun _ => ?_)
  refine lv_aload_n hx hb d_St_coder_6 rfl (lv_at hl 0 rfl) ?_
  refine vk_getf hx hb (zXs hX hsn).1 hS hown (ht _ q797) (fun _ h9 => h9) d_St_coder_7 ?_
  refine zti (y := nI 0) rfl ?_
  refine lv_goto (tgt := 14) hx hb d_St_coder_10 (by decide) ?_
  exact zret_z C0 hr rfl hAe hP hD hS ⟨rfl, rfl⟩ d_St_coder_14
set_option maxHeartbeats 4000000 in
set_option maxRecDepth 100000 in
theorem m_St_isLatin1 (l : Launch) (D : va_G) (ca : Nat → ClassId) (k : Nat → Nat) (sz : Nat) (ad : Nat → Nat) (sn : Nat) (hsn : sn < 7) : Met l y_St_isLatin1 (zw y_St_isLatin1 c_St_isLatin1 1 (some .boolean)) { frames := 0, cells := 0, slots := 0, locals := 0 } (va_Pc [.ref (k (sn + 1))] (zPre D (zty ca) k ([]) sz)) (va_Qi (fun r w => r = nI 1 ∧ w = []) (zB D (zty ca) ([]) sz) (va_A ([]) sz)) 0 0 (va_A ([]) sz) := by
  refine zOfF (own := "java/lang/String") (by decide +kernel) rfl (Nat.le_of_ble_eq_true rfl) ?_
  intro p e s m below meth c A ls C0 hr hnm hAe hsz hl hP hD hS
  have hl : lv_has ls 1 [(0, .ref (k (sn + 1)))] := hl
  obtain ⟨hx, hb, hml, hown, ht, hK, hX, hA, hlk⟩ := id C0
  refine va_gets hx hb hX.2.2.1 hS hown (ht _ q41) (fun _ h9 => h9) d_St_isLatin1_0 ?_
  refine zti (y := nI 1) rfl ?_
  refine lv_if_eq (tgt := 17) hx hb d_St_isLatin1_3 (by decide) (fun h1 => absurd h1 (by decide)) (fun _ => ?_)
  refine lv_aload_n hx hb d_St_isLatin1_6 rfl (lv_at hl 0 rfl) ?_
  refine vk_getf hx hb (zXs hX hsn).1 hS hown (ht _ q797) (fun _ h9 => h9) d_St_isLatin1_7 ?_
  refine zti (y := nI 0) rfl ?_
  refine lv_if_ne (tgt := 17) hx hb d_St_isLatin1_10 (by decide) (fun h2 => absurd (by decide) h2) (fun _ => ?_)
  refine lv_iconst (v := nI 1) hx hb d_St_isLatin1_13 (by decide) ?_
  refine lv_goto (tgt := 18) hx hb d_St_isLatin1_14 (by decide) ?_
  exact zret_z C0 hr (zbn (by omega)) hAe hP hD hS ⟨rfl, rfl⟩ d_St_isLatin1_18
set_option maxHeartbeats 4000000 in
set_option maxRecDepth 100000 in
theorem m_St_length (l : Launch) (D : va_G) (ca : Nat → ClassId) (k : Nat → Nat) (sz : Nat) (ad : Nat → Nat) (sn : Nat) (hsn : sn < 7) : Met l y_St_length (zw y_St_length c_St_length 1 (some .int)) { frames := 1, cells := 0, slots := 0, locals := 20 } (va_Pc [.ref (k (sn + 1))] (zPre D (zty ca) k ([]) sz)) (va_Qi (fun r w => r = nI (zS sn).length ∧ w = []) (zB D (zty ca) ([]) sz) (va_A ([]) sz)) 0 0 (va_A ([]) sz) := by
  refine zOfF (own := "java/lang/String") (by decide +kernel) rfl (Nat.le_of_ble_eq_true rfl) ?_
  intro p e s m below meth c A ls C0 hr hnm hAe hsz hl hP hD hS
  have hl : lv_has ls 1 [(0, .ref (k (sn + 1)))] := hl
  obtain ⟨hx, hb, hml, hown, ht, hK, hX, hA, hlk⟩ := id C0
  refine lv_aload_n hx hb d_St_length_0 rfl (lv_at hl 0 rfl) ?_
  refine vk_getf hx hb (zXs hX hsn).2.1 hS hown (ht _ q796) (fun _ h9 => h9) d_St_length_1 ?_
  refine va_tlen hx hb (zXs hX hsn).2.2 hS rfl d_St_length_4 ?_
  refine zti (y := nI (zS sn).length) rfl ?_
  refine lv_aload_n hx hb d_St_length_5 rfl (lv_at hl 0 rfl) ?_
  refine zgo_i (wr := []) C0 (zrunR (na := 0) (As := []) (rest := [.int (nI ((zS sn).length))]) C0 hP hD hS [] rfl rfl (m_St_coder l D ca k s.heap.size ad sn hsn) (zg_V q37 q38 q39 q3 q40) (by decide +kernel) rfl rfl ⟨by decide, by decide⟩ (vk_recv (i := sn) hX.2.2.2.1 hsn hS) rfl hl.1 rfl (Nat.le_of_ble_eq_true rfl) d_St_length_6 ⟨Nat.zero_le _, Nat.zero_le _⟩) hP hD hS [] [] rfl rfl (by decide) (by decide) (fun r1 w1 H locs hw hP hD hS => ?_)
  obtain ⟨rfl, rfl⟩ := hw
  have hP : va_P D vCl ([]) H := hP
  have hD : va_D A ([]) := hD
  refine lv_ishr hx hb d_St_length_9 ?_
  refine zti (y := nI (zS sn).length) (sc_shr0 (zSl_all _ hsn)) ?_
  exact zret_i C0 hr hAe hP hD hS ⟨rfl, rfl⟩ d_St_length_10
set_option maxHeartbeats 4000000 in
set_option maxRecDepth 100000 in
theorem m_Pc_checkIndex_n (l : Launch) (D : va_G) (ca : Nat → ClassId) (k : Nat → Nat) (sz : Nat) (ad : Nat → Nat) (i n : Nat) (t0 : Nat) (hi : i < n) (hn : n < 2 ^ 31) : Met l y_Pc_checkIndex (zw y_Pc_checkIndex c_Pc_checkIndex 3 (some .int)) { frames := 0, cells := 0, slots := 0, locals := 0 } (va_Pc [.int (nI i), .int (nI n), .null] (zPre D (zty ca) k ([]) sz)) (va_Qi (fun r w => r = nI i ∧ w = []) (zB D (zty ca) ([]) sz) (va_A ([]) sz)) 0 0 (va_A ([]) sz) := by
  refine zOfF (own := "jdk/internal/util/Preconditions") (by decide +kernel) rfl (Nat.le_of_ble_eq_true rfl) ?_
  intro p e s m below meth c A ls C0 hr hnm hAe hsz hl hP hD hS
  have hl : lv_has ls 3 [(0, .int (nI i)), (1, .int (nI n)), (2, .null)] := hl
  obtain ⟨hx, hb, hml, hown, ht, hK, hX, hA, hlk⟩ := id C0
  refine lv_iload_n hx hb d_Pc_checkIndex_0 rfl (lv_at hl 0 rfl) ?_
  refine lv_if_lt (tgt := 9) hx hb d_Pc_checkIndex_1 (by decide) (fun h1 => (nI_pos (by omega) h1).elim) (fun _ => ?_)
  refine lv_iload_n hx hb d_Pc_checkIndex_4 rfl (lv_at hl 0 rfl) ?_
  refine lv_iload_n hx hb d_Pc_checkIndex_5 rfl (lv_at hl 1 rfl) ?_
  refine lv_icmp_lt (tgt := 16) hx hb d_Pc_checkIndex_6 (by decide) (fun _ => ?_) (fun h2 => (h2 (nI_lt (by omega) (by omega))).elim)
  refine lv_iload_n hx hb d_Pc_checkIndex_16 rfl (lv_at hl 0 rfl) ?_
  exact zret_i C0 hr hAe hP hD hS ⟨rfl, rfl⟩ d_Pc_checkIndex_17
set_option maxHeartbeats 4000000 in
set_option maxRecDepth 100000 in
theorem m_Pc_checkIndex_r (l : Launch) (D : va_G) (ca : Nat → ClassId) (k : Nat → Nat) (sz : Nat) (ad : Nat → Nat) (i n : Nat) (t0 : Nat) (hi : i < n) (hn : n < 2 ^ 31) : Met l y_Pc_checkIndex (zw y_Pc_checkIndex c_Pc_checkIndex 3 (some .int)) { frames := 0, cells := 0, slots := 0, locals := 0 } (va_Pc [.int (nI i), .int (nI n), .ref t0] (zPre D (zty ca) k ([]) sz)) (va_Qi (fun r w => r = nI i ∧ w = []) (zB D (zty ca) ([]) sz) (va_A ([]) sz)) 0 0 (va_A ([]) sz) := by
  refine zOfF (own := "jdk/internal/util/Preconditions") (by decide +kernel) rfl (Nat.le_of_ble_eq_true rfl) ?_
  intro p e s m below meth c A ls C0 hr hnm hAe hsz hl hP hD hS
  have hl : lv_has ls 3 [(0, .int (nI i)), (1, .int (nI n)), (2, .ref t0)] := hl
  obtain ⟨hx, hb, hml, hown, ht, hK, hX, hA, hlk⟩ := id C0
  refine lv_iload_n hx hb d_Pc_checkIndex_0 rfl (lv_at hl 0 rfl) ?_
  refine lv_if_lt (tgt := 9) hx hb d_Pc_checkIndex_1 (by decide) (fun h1 => (nI_pos (by omega) h1).elim) (fun _ => ?_)
  refine lv_iload_n hx hb d_Pc_checkIndex_4 rfl (lv_at hl 0 rfl) ?_
  refine lv_iload_n hx hb d_Pc_checkIndex_5 rfl (lv_at hl 1 rfl) ?_
  refine lv_icmp_lt (tgt := 16) hx hb d_Pc_checkIndex_6 (by decide) (fun _ => ?_) (fun h2 => (h2 (nI_lt (by omega) (by omega))).elim)
  refine lv_iload_n hx hb d_Pc_checkIndex_16 rfl (lv_at hl 0 rfl) ?_
  exact zret_i C0 hr hAe hP hD hS ⟨rfl, rfl⟩ d_Pc_checkIndex_17
set_option maxHeartbeats 4000000 in
set_option maxRecDepth 100000 in
theorem m_St_checkIndex (l : Launch) (D : va_G) (ca : Nat → ClassId) (k : Nat → Nat) (sz : Nat) (ad : Nat → Nat) (i n : Nat) (hi : i < n) (hn : n < 2 ^ 31) : Met l y_St_checkIndex (zw y_St_checkIndex c_St_checkIndex 2 none) { frames := 1, cells := 0, slots := 0, locals := 22 } (va_Pc [.int (nI i), .int (nI n)] (zPre D (zty ca) k ([]) sz)) (va_Qv (fun w => w = []) (zB D (zty ca) ([]) sz) (va_A ([]) sz)) 0 0 (va_A ([]) sz) := by
  refine zOfF (own := "java/lang/String") (by decide +kernel) rfl (Nat.le_of_ble_eq_true rfl) ?_
  intro p e s m below meth c A ls C0 hr hnm hAe hsz hl hP hD hS
  have hl : lv_has ls 2 [(0, .int (nI i)), (1, .int (nI n))] := hl
  obtain ⟨hx, hb, hml, hown, ht, hK, hX, hA, hlk⟩ := id C0
  refine lv_iload_n hx hb d_St_checkIndex_0 rfl (lv_at hl 0 rfl) ?_
  refine lv_iload_n hx hb d_St_checkIndex_1 rfl (lv_at hl 1 rfl) ?_
  rcases hX.2.2.2.2.2.2.2.1 with hz | ⟨t0, hz⟩
  · skip
    refine va_gets hx hb hz hS hown (ht _ q278) (fun _ h9 => h9) d_St_checkIndex_2 ?_
    refine zgo_i (wr := []) C0 (zrunS (na := 3) (As := [.int (nI i), .int (nI n), .null]) (rest := []) C0 hP hD hS [] rfl rfl (m_Pc_checkIndex_n l D ca k s.heap.size ad i n 0 (by omega) (by omega)) (zg_S q280 q281 q10 q282) (by decide +kernel) rfl rfl ⟨by decide, by decide⟩ rfl hl.1 rfl (Nat.le_of_ble_eq_true rfl) d_St_checkIndex_5 ⟨Nat.zero_le _, Nat.zero_le _⟩) hP hD hS [] [] rfl rfl (by decide) (by decide) (fun r1 w1 H locs hw hP hD hS => ?_)
    obtain ⟨rfl, rfl⟩ := hw
    have hP : va_P D vCl ([]) H := hP
    have hD : va_D A ([]) := hD
    refine lv_pop hx hb d_St_checkIndex_8 rfl ?_
    exact zret_v C0 hr hAe hP hD hS rfl d_St_checkIndex_9
  · skip
    refine va_gets hx hb hz hS hown (ht _ q278) (fun _ h9 => h9) d_St_checkIndex_2 ?_
    refine zgo_i (wr := []) C0 (zrunS (na := 3) (As := [.int (nI i), .int (nI n), .ref t0]) (rest := []) C0 hP hD hS [] rfl rfl (m_Pc_checkIndex_r l D ca k s.heap.size ad i n t0 (by omega) (by omega)) (zg_S q280 q281 q10 q282) (by decide +kernel) rfl rfl ⟨by decide, by decide⟩ rfl hl.1 rfl (Nat.le_of_ble_eq_true rfl) d_St_checkIndex_5 ⟨Nat.zero_le _, Nat.zero_le _⟩) hP hD hS [] [] rfl rfl (by decide) (by decide) (fun r2 w1 H locs hw hP hD hS => ?_)
    obtain ⟨rfl, rfl⟩ := hw
    have hP : va_P D vCl ([]) H := hP
    have hD : va_D A ([]) := hD
    refine lv_pop hx hb d_St_checkIndex_8 rfl ?_
    exact zret_v C0 hr hAe hP hD hS rfl d_St_checkIndex_9
set_option maxHeartbeats 4000000 in
set_option maxRecDepth 100000 in
theorem m_SL_charAt (l : Launch) (D : va_G) (ca : Nat → ClassId) (k : Nat → Nat) (sz : Nat) (ad : Nat → Nat) (sn : Nat) (hsn : sn < 7) (i : Nat) (hi : i < (zS sn).length) : Met l y_SL_charAt (zw y_SL_charAt c_SL_charAt 2 (some .char)) { frames := 2, cells := 0, slots := 0, locals := 43 } (va_Pc [.ref (k (sn + 8)), .int (nI i)] (zPre D (zty ca) k ([]) sz)) (va_Qi (fun r w => r = nI ((zS sn).getD i 0) ∧ w = []) (zB D (zty ca) ([]) sz) (va_A ([]) sz)) 0 0 (va_A ([]) sz) := by
  refine zOfF (own := "java/lang/StringLatin1") (by decide +kernel) rfl (Nat.le_of_ble_eq_true rfl) ?_
  intro p e s m below meth c A ls C0 hr hnm hAe hsz hl hP hD hS
  have hl : lv_has ls 2 [(0, .ref (k (sn + 8))), (1, .int (nI i))] := hl
  obtain ⟨hx, hb, hml, hown, ht, hK, hX, hA, hlk⟩ := id C0
  have hc := zS_c hsn hi
  have hlen := zSl_all sn hsn
  refine lv_iload_n hx hb d_SL_charAt_0 rfl (lv_at hl 1 rfl) ?_
  refine lv_aload_n hx hb d_SL_charAt_1 rfl (lv_at hl 0 rfl) ?_
  refine va_tlen hx hb (zXs hX hsn).2.2 hS rfl d_SL_charAt_2 ?_
  refine zti (y := nI (zS sn).length) rfl ?_
  refine zgo_v (wr := []) C0 (zrunS (na := 2) (As := [.int (nI i), .int (nI ((zS sn).length))]) (rest := []) C0 hP hD hS [] rfl rfl (m_St_checkIndex l D ca k s.heap.size ad i ((zS sn).length) (by omega) (by omega)) (zg_S q275 q276 q3 q277) (by decide +kernel) rfl rfl ⟨by decide, by decide⟩ rfl hl.1 rfl (Nat.le_of_ble_eq_true rfl) d_SL_charAt_3 ⟨Nat.zero_le _, Nat.zero_le _⟩) hP hD hS [] [] rfl rfl (by decide) (by decide) (fun w1 H locs hw hP hD hS => ?_)
  obtain rfl := hw
  have hP : va_P D vCl ([]) H := hP
  have hD : va_D A ([]) := hD
  refine lv_aload_n hx hb d_SL_charAt_6 rfl (lv_at hl 0 rfl) ?_
  refine lv_iload_n hx hb d_SL_charAt_7 rfl (lv_at hl 1 rfl) ?_
  refine va_tb hx hb (zXs hX hsn).2.2 hS (vp_in_nI (n := i) (by omega) (zSl_all _ hsn)) (v := .int (nI ((zS sn).getD i 0))) (zsb (by omega)) d_SL_charAt_8 ?_
  refine lv_sipush (v := nI 255) hx hb d_SL_charAt_9 (by decide) ?_
  refine lv_iand hx hb d_SL_charAt_12 ?_
  refine zti (y := nI ((zS sn).getD i 0)) (zand255 (by omega)) ?_
  refine lv_i2c (v := nI ((zS sn).getD i 0)) hx hb d_SL_charAt_13 (zi2c (by omega)) ?_
  exact zret_z C0 hr (zcn (by omega)) hAe hP hD hS ⟨rfl, rfl⟩ d_SL_charAt_14
set_option maxHeartbeats 4000000 in
set_option maxRecDepth 100000 in
theorem m_St_charAt (l : Launch) (D : va_G) (ca : Nat → ClassId) (k : Nat → Nat) (sz : Nat) (ad : Nat → Nat) (sn : Nat) (hsn : sn < 7) (i : Nat) (hi : i < (zS sn).length) : Met l y_St_charAt (zw y_St_charAt c_St_charAt 2 (some .char)) { frames := 3, cells := 0, slots := 0, locals := 64 } (va_Pc [.ref (k (sn + 1)), .int (nI i)] (zPre D (zty ca) k ([]) sz)) (va_Qi (fun r w => r = nI ((zS sn).getD i 0) ∧ w = []) (zB D (zty ca) ([]) sz) (va_A ([]) sz)) 0 0 (va_A ([]) sz) := by
  refine zOfF (own := "java/lang/String") (by decide +kernel) rfl (Nat.le_of_ble_eq_true rfl) ?_
  intro p e s m below meth c A ls C0 hr hnm hAe hsz hl hP hD hS
  have hl : lv_has ls 2 [(0, .ref (k (sn + 1))), (1, .int (nI i))] := hl
  obtain ⟨hx, hb, hml, hown, ht, hK, hX, hA, hlk⟩ := id C0
  have hc := zS_c hsn hi
  refine lv_aload_n hx hb d_St_charAt_0 rfl (lv_at hl 0 rfl) ?_
  refine zgo_i (wr := []) C0 (zrunR (na := 0) (As := []) (rest := []) C0 hP hD hS [] rfl rfl (m_St_isLatin1 l D ca k s.heap.size ad sn hsn) (zg_V q268 q269 q270 q3 q271) (by decide +kernel) rfl rfl ⟨by decide, by decide⟩ (vk_recv (i := sn) hX.2.2.2.1 hsn hS) rfl hl.1 rfl (Nat.le_of_ble_eq_true rfl) d_St_charAt_1 ⟨Nat.zero_le _, Nat.zero_le _⟩) hP hD hS [] [] rfl rfl (by decide) (by decide) (fun r1 w1 H locs hw hP hD hS => ?_)
  obtain ⟨rfl, rfl⟩ := hw
  have hP : va_P D vCl ([]) H := hP
  have hD : va_D A ([]) := hD
  refine lv_if_eq (tgt := 16) hx hb d_St_charAt_4 (by decide) (fun h2 => absurd h2 (by decide)) (fun _ => ?_)
  refine lv_aload_n hx hb d_St_charAt_7 rfl (lv_at hl 0 rfl) ?_
  refine vk_getf hx hb (zXs hX hsn).2.1 hS hown (ht _ q796) (fun _ h9 => h9) d_St_charAt_8 ?_
  refine lv_iload_n hx hb d_St_charAt_11 rfl (lv_at hl 1 rfl) ?_
  refine zgo_i (wr := []) C0 (zrunS (na := 2) (As := [.ref (k (sn + 8)), .int (nI i)]) (rest := []) C0 hP hD hS [] rfl rfl (m_SL_charAt l D ca k H.size ad sn hsn i (by omega)) (zg_S q272 q273 q9 q274) (by decide +kernel) rfl rfl ⟨by decide, by decide⟩ rfl hl.1 rfl (Nat.le_of_ble_eq_true rfl) d_St_charAt_12 ⟨Nat.zero_le _, Nat.zero_le _⟩) hP hD hS [] [] rfl rfl (by decide) (by decide) (fun r3 w1 H locs hw hP hD hS => ?_)
  obtain ⟨rfl, rfl⟩ := hw
  have hP : va_P D vCl ([]) H := hP
  have hD : va_D A ([]) := hD
  exact zret_z C0 hr (zcn (by omega)) hAe hP hD hS ⟨rfl, rfl⟩ d_St_charAt_15
