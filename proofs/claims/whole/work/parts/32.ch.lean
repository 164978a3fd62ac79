set_option maxHeartbeats 4000000 in
set_option maxRecDepth 100000 in
theorem m_Ch_state (l : Launch) (D : va_G) (ca : Nat → ClassId) (k : Nat → Nat) (sz : Nat) (ad : Nat → Nat) (tx : Nat → Nat) (ln : Nat) (lb : Nat → Int32) (bg : Nat → Nat) (ch : Int32) (ct : Nat) (ia : Int32) (wo : Nat → Nat) (me nu ro : Nat → Nat) (un li pt : Nat) (st : Int32) (cy pl bk en kc : Nat) (x : Int32) (hcy : cy ≤ 1) : Met l y_Ch_state (zw y_Ch_state c_Ch_state 2 (some .int)) { frames := 0, cells := 0, slots := 0, locals := 0 } (va_Pc [.ref (ad 0), .int x] (zPre D (zty ca) k (wX ad ca  ++ (wA ad ca tx ln lb bg ch ct ia ++ (wW ad ca wo ++ (wP ad ca me nu ro un li pt st cy pl bk en kc)))) sz)) (va_Qi (fun r w => r = sta x pt st cy pl bk ∧ w = wX ad ca ++ (wA ad ca tx ln lb bg ch ct ia ++ (wW ad ca wo ++ (wP ad ca me nu ro un li pt st cy pl bk en kc)))) (zB D (zty ca) (wX ad ca  ++ (wA ad ca tx ln lb bg ch ct ia ++ (wW ad ca wo ++ (wP ad ca me nu ro un li pt st cy pl bk en kc)))) sz) (va_A (wX ad ca  ++ (wA ad ca tx ln lb bg ch ct ia ++ (wW ad ca wo ++ (wP ad ca me nu ro un li pt st cy pl bk en kc)))) sz)) 0 0 (va_A (wX ad ca  ++ (wA ad ca tx ln lb bg ch ct ia ++ (wW ad ca wo ++ (wP ad ca me nu ro un li pt st cy pl bk en kc)))) sz) := by
  refine zOf (own := "DigitChip") (by decide +kernel) rfl (Nat.le_of_ble_eq_true rfl) ?_
  intro p e s m below meth c A ls C0 hr hnm hAe hsz hl hP hD hS
  have hl : lv_has ls 2 [(0, .ref (ad 0)), (1, .int x)] := hl
  obtain ⟨hx, hb, hml, hown, ht, hK, hX, hA, hlk⟩ := id C0
  refine lv_iload_n hx hb d_Ch_state_0 rfl (lv_at hl 1 rfl) ?_
  by_cases hx0 : x = nI 0
  · subst hx0
    refine lv_tableIn (off := 35) (tgt := 36) hx hb d_Ch_state_1 (by decide) (by decide) (by decide) (by decide) ?_
    refine lv_aload_n hx hb d_Ch_state_36 rfl (lv_at hl 0 rfl) ?_
    refine va_get (D := D) (ci := 4) (v := .ref (ad 6)) (C := RCh) (T := TCh) (N := 2) hx hb ht inCh hown hK hP 0 rfl rfl 1 (by decide) (ht _ q151) (fun _ h9 => h9) rfl d_Ch_state_37 ?_
    refine va_get (D := D) (ci := 1) (v := .int (nI pt)) (C := RPr) (T := TPr) (N := 9) hx hb ht inPr hown hK hP 6 rfl rfl 3 (by decide) (ht _ q121) (fun _ h9 => h9) rfl d_Ch_state_40 ?_
    exact zret_i C0 hr hAe hP hD hS ⟨by unfold sta; rw [if_pos rfl], rfl⟩ d_Ch_state_43
  by_cases hx1 : x = nI 1
  · subst hx1
    refine lv_tableIn (off := 43) (tgt := 44) hx hb d_Ch_state_1 (by decide) (by decide) (by decide) (by decide) ?_
    refine lv_aload_n hx hb d_Ch_state_44 rfl (lv_at hl 0 rfl) ?_
    refine va_get (D := D) (ci := 4) (v := .ref (ad 6)) (C := RCh) (T := TCh) (N := 2) hx hb ht inCh hown hK hP 0 rfl rfl 1 (by decide) (ht _ q151) (fun _ h9 => h9) rfl d_Ch_state_45 ?_
    refine va_get (D := D) (ci := 1) (v := .int st) (C := RPr) (T := TPr) (N := 9) hx hb ht inPr hown hK hP 6 rfl rfl 4 (by decide) (ht _ q123) (fun _ h9 => h9) rfl d_Ch_state_48 ?_
    exact zret_i C0 hr hAe hP hD hS ⟨by unfold sta; rw [if_neg (by decide), if_pos rfl], rfl⟩ d_Ch_state_51
  by_cases hx2 : x = nI 2
  · subst hx2
    refine lv_tableIn (off := 51) (tgt := 52) hx hb d_Ch_state_1 (by decide) (by decide) (by decide) (by decide) ?_
    refine lv_aload_n hx hb d_Ch_state_52 rfl (lv_at hl 0 rfl) ?_
    refine va_get (D := D) (ci := 4) (v := .ref (ad 6)) (C := RCh) (T := TCh) (N := 2) hx hb ht inCh hown hK hP 0 rfl rfl 1 (by decide) (ht _ q151) (fun _ h9 => h9) rfl d_Ch_state_53 ?_
    refine va_get (D := D) (ci := 1) (v := .int (nI cy)) (C := RPr) (T := TPr) (N := 9) hx hb ht inPr hown hK hP 6 rfl rfl 5 (by decide) (ht _ q125) (fun _ h9 => h9) rfl d_Ch_state_56 ?_
    refine lv_if_eq (tgt := 66) hx hb d_Ch_state_59 (by decide) (fun h1 => ?_) (fun h1 => ?_)
    · skip
      have h1 : (cy = 0) := (nI_eq (by omega) (by decide)).mp (h1.trans nI_0.symm)
      refine lv_iconst (v := nI 0) hx hb d_Ch_state_66 (by decide) ?_
      exact zret_i C0 hr hAe hP hD hS ⟨by unfold sta; rw [if_neg (by decide), if_neg (by decide), if_pos rfl]; rw [show cy = 0 by omega], rfl⟩ d_Ch_state_67
    · skip
      have h1 : ¬ (cy = 0) := fun z => h1 (by rw [z]; rfl)
      refine lv_iconst (v := nI 1) hx hb d_Ch_state_62 (by decide) ?_
      refine lv_goto (tgt := 67) hx hb d_Ch_state_63 (by decide) ?_
      exact zret_i C0 hr hAe hP hD hS ⟨by unfold sta; rw [if_neg (by decide), if_neg (by decide), if_pos rfl]; rw [show cy = 1 by omega], rfl⟩ d_Ch_state_67
  by_cases hx3 : x = nI 3
  · subst hx3
    refine lv_tableIn (off := 67) (tgt := 68) hx hb d_Ch_state_1 (by decide) (by decide) (by decide) (by decide) ?_
    refine lv_aload_n hx hb d_Ch_state_68 rfl (lv_at hl 0 rfl) ?_
    refine va_get (D := D) (ci := 4) (v := .ref (ad 6)) (C := RCh) (T := TCh) (N := 2) hx hb ht inCh hown hK hP 0 rfl rfl 1 (by decide) (ht _ q151) (fun _ h9 => h9) rfl d_Ch_state_69 ?_
    refine va_get (D := D) (ci := 1) (v := .int (nI pl)) (C := RPr) (T := TPr) (N := 9) hx hb ht inPr hown hK hP 6 rfl rfl 6 (by decide) (ht _ q127) (fun _ h9 => h9) rfl d_Ch_state_72 ?_
    exact zret_i C0 hr hAe hP hD hS ⟨by unfold sta; rw [if_neg (by decide), if_neg (by decide), if_neg (by decide), if_pos rfl], rfl⟩ d_Ch_state_75
  by_cases hx4 : x = nI 4
  · subst hx4
    refine lv_tableIn (off := 75) (tgt := 76) hx hb d_Ch_state_1 (by decide) (by decide) (by decide) (by decide) ?_
    refine lv_aload_n hx hb d_Ch_state_76 rfl (lv_at hl 0 rfl) ?_
    refine va_get (D := D) (ci := 4) (v := .ref (ad 6)) (C := RCh) (T := TCh) (N := 2) hx hb ht inCh hown hK hP 0 rfl rfl 1 (by decide) (ht _ q151) (fun _ h9 => h9) rfl d_Ch_state_77 ?_
    refine va_get (D := D) (ci := 1) (v := .int (nI bk)) (C := RPr) (T := TPr) (N := 9) hx hb ht inPr hown hK hP 6 rfl rfl 7 (by decide) (ht _ q129) (fun _ h9 => h9) rfl d_Ch_state_80 ?_
    exact zret_i C0 hr hAe hP hD hS ⟨by unfold sta; rw [if_neg (by decide), if_neg (by decide), if_neg (by decide), if_neg (by decide), if_pos rfl], rfl⟩ d_Ch_state_83
  refine lv_tableOut (tgt := 84) hx hb d_Ch_state_1 (sta_o hx0 hx1 hx2 hx3 hx4) (by decide) ?_
  refine lv_iconst (v := (-1)) hx hb d_Ch_state_84 (by decide) ?_
  exact zret_i C0 hr hAe hP hD hS ⟨by unfold sta; rw [if_neg hx0, if_neg hx1, if_neg hx2, if_neg hx3, if_neg hx4], rfl⟩ d_Ch_state_85
set_option maxHeartbeats 4000000 in
set_option maxRecDepth 100000 in
theorem m_Ch_digitBeforePoint (l : Launch) (D : va_G) (ca : Nat → ClassId) (k : Nat → Nat) (sz : Nat) (ad : Nat → Nat) (tx : Nat → Nat) (ln : Nat) (lb : Nat → Int32) (bg : Nat → Nat) (ch : Int32) (ct : Nat) (ia : Int32) (wo : Nat → Nat) (me nu ro : Nat → Nat) (un li pt : Nat) (st : Int32) (cy pl bk en kc : Nat) (hn : ∀ j, nu j < 10 ^ 14) : Met l y_Ch_digitBeforePoint (zw y_Ch_digitBeforePoint c_Ch_digitBeforePoint 2 (some .int)) { frames := 1, cells := 0, slots := 0, locals := 22 } (va_Pc [.ref (ad 0)] (zPre D (zty ca) k (wX ad ca  ++ (wA ad ca tx ln lb bg ch ct ia ++ (wW ad ca wo ++ (wP ad ca me nu ro un li pt st cy pl bk en kc)))) sz)) (va_Qi (fun r w => r = dp nu 10 ∧ w = wX ad ca ++ (wA ad ca tx ln lb bg ch ct ia ++ (wW ad ca wo ++ (wP ad ca me nu ro un li pt st cy pl bk en kc)))) (zB D (zty ca) (wX ad ca  ++ (wA ad ca tx ln lb bg ch ct ia ++ (wW ad ca wo ++ (wP ad ca me nu ro un li pt st cy pl bk en kc)))) sz) (va_A (wX ad ca  ++ (wA ad ca tx ln lb bg ch ct ia ++ (wW ad ca wo ++ (wP ad ca me nu ro un li pt st cy pl bk en kc)))) sz)) 0 0 (va_A (wX ad ca  ++ (wA ad ca tx ln lb bg ch ct ia ++ (wW ad ca wo ++ (wP ad ca me nu ro un li pt st cy pl bk en kc)))) sz) := by
  refine zOf (own := "DigitChip") (by decide +kernel) rfl (Nat.le_of_ble_eq_true rfl) ?_
  intro p e s m below meth c A ls C0 hr hnm hAe hsz hl hP hD hS
  have hl : lv_has ls 2 [(0, .ref (ad 0))] := hl
  obtain ⟨hx, hb, hml, hown, ht, hK, hX, hA, hlk⟩ := id C0
  refine lv_bipush (v := nI 12) hx hb d_Ch_digitBeforePoint_0 (by decide) ?_
  refine lv_istore_n hx hb d_Ch_digitBeforePoint_2 rfl hl (by decide) rfl (fun ls hl => ?_)
  have hl : lv_has ls 2 [(1, .int (nI 12)), (0, .ref (ad 0))] := hl
  refine lv_iload_n hx hb d_Ch_digitBeforePoint_3 rfl (lv_at hl 0 rfl) ?_
  refine lv_iconst (v := nI 2) hx hb d_Ch_digitBeforePoint_4 (by decide) ?_
  refine lv_icmp_le (tgt := 32) hx hb d_Ch_digitBeforePoint_5 (by decide) (fun h1 => absurd h1 (by decide)) (fun _ => ?_)
  refine lv_aload_n hx hb d_Ch_digitBeforePoint_8 rfl (lv_at hl 1 rfl) ?_
  refine va_get (D := D) (ci := 4) (v := .ref (ad 6)) (C := RCh) (T := TCh) (N := 2) hx hb ht inCh hown hK hP 0 rfl rfl 1 (by decide) (ht _ q151) (fun _ h9 => h9) rfl d_Ch_digitBeforePoint_9 ?_
  refine va_get (D := D) (ci := 1) (v := .ref (ad 8)) (C := RPr) (T := TPr) (N := 9) hx hb ht inPr hown hK hP 6 rfl rfl 1 (by decide) (ht _ q117) (fun _ h9 => h9) rfl d_Ch_digitBeforePoint_12 ?_
  refine lv_iconst (v := nI 1) hx hb d_Ch_digitBeforePoint_15 (by decide) ?_
  refine lv_iload_n hx hb d_Ch_digitBeforePoint_16 rfl (lv_at hl 0 rfl) ?_
  refine zgo_i (wr := wX ad ca  ++ wA ad ca tx ln lb bg ch ct ia ++ wW ad ca wo) C0 (zrunV (na := 2) (As := [.int (nI 1), .int (nI 12)]) (rest := []) C0 hP hD hS [6, 7, 8, 9, 10, 11] rfl rfl (m_Re_digit l D ca k s.heap.size ad me nu ro un li pt st cy pl bk en kc 1 12 (by omega) (by omega) hn) (zg_V q222 q223 q224 q5 q225) (by decide +kernel) rfl rfl ⟨by decide, by decide⟩ 8 rfl rfl rfl hl.1 rfl (Nat.le_of_ble_eq_true rfl) d_Ch_digitBeforePoint_17 ⟨Nat.zero_le _, Nat.zero_le _⟩) hP hD hS [6, 7, 8, 9, 10, 11] [0, 1, 2, 3, 4, 5] rfl rfl (by decide) (by decide) (fun r2 w1 H locs hw hP hD hS => ?_)
  obtain ⟨rfl, rfl⟩ := hw
  have hP : va_P D vCl (wX ad ca  ++ (wA ad ca tx ln lb bg ch ct ia ++ (wW ad ca wo ++ (wP ad ca me nu ro un li pt st cy pl bk en kc)))) H := hP
  have hD : va_D A (wX ad ca  ++ (wA ad ca tx ln lb bg ch ct ia ++ (wW ad ca wo ++ (wP ad ca me nu ro un li pt st cy pl bk en kc)))) := hD
  refine lv_iconst (v := nI 2) hx hb d_Ch_digitBeforePoint_20 (by decide) ?_
  refine lv_icmp_ne (tgt := 26) hx hb d_Ch_digitBeforePoint_21 (by decide) (fun h3 => ?_) (fun h3 => ?_)
  · skip
    have h3 : ¬ ((nu 1 / 10 ^ 12 % 10) = 2) := fun z => h3 ((nI_eq (by omega) (by omega)).mpr z)
    refine lv_iinc (k := 0) (v := nI (11)) hx hb d_Ch_digitBeforePoint_26 hl rfl (by decide) (by decide) rfl (fun ls hl => ?_)
    have hl : lv_has ls 2 [(1, .int (nI 11)), (0, .ref (ad 0))] := hl
    refine lv_goto (tgt := 3) hx hb d_Ch_digitBeforePoint_29 (by decide) ?_
    refine lv_iload_n hx hb d_Ch_digitBeforePoint_3 rfl (lv_at hl 0 rfl) ?_
    refine lv_iconst (v := nI 2) hx hb d_Ch_digitBeforePoint_4 (by decide) ?_
    refine lv_icmp_le (tgt := 32) hx hb d_Ch_digitBeforePoint_5 (by decide) (fun h4 => absurd h4 (by decide)) (fun _ => ?_)
    refine lv_aload_n hx hb d_Ch_digitBeforePoint_8 rfl (lv_at hl 1 rfl) ?_
    refine va_get (D := D) (ci := 4) (v := .ref (ad 6)) (C := RCh) (T := TCh) (N := 2) hx hb ht inCh hown hK hP 0 rfl rfl 1 (by decide) (ht _ q151) (fun _ h9 => h9) rfl d_Ch_digitBeforePoint_9 ?_
    refine va_get (D := D) (ci := 1) (v := .ref (ad 8)) (C := RPr) (T := TPr) (N := 9) hx hb ht inPr hown hK hP 6 rfl rfl 1 (by decide) (ht _ q117) (fun _ h9 => h9) rfl d_Ch_digitBeforePoint_12 ?_
    refine lv_iconst (v := nI 1) hx hb d_Ch_digitBeforePoint_15 (by decide) ?_
    refine lv_iload_n hx hb d_Ch_digitBeforePoint_16 rfl (lv_at hl 0 rfl) ?_
    refine zgo_i (wr := wX ad ca  ++ wA ad ca tx ln lb bg ch ct ia ++ wW ad ca wo) C0 (zrunV (na := 2) (As := [.int (nI 1), .int (nI 11)]) (rest := []) C0 hP hD hS [6, 7, 8, 9, 10, 11] rfl rfl (m_Re_digit l D ca k H.size ad me nu ro un li pt st cy pl bk en kc 1 11 (by omega) (by omega) hn) (zg_V q222 q223 q224 q5 q225) (by decide +kernel) rfl rfl ⟨by decide, by decide⟩ 8 rfl rfl rfl hl.1 rfl (Nat.le_of_ble_eq_true rfl) d_Ch_digitBeforePoint_17 ⟨Nat.zero_le _, Nat.zero_le _⟩) hP hD hS [6, 7, 8, 9, 10, 11] [0, 1, 2, 3, 4, 5] rfl rfl (by decide) (by decide) (fun r5 w1 H locs hw hP hD hS => ?_)
    obtain ⟨rfl, rfl⟩ := hw
    have hP : va_P D vCl (wX ad ca  ++ (wA ad ca tx ln lb bg ch ct ia ++ (wW ad ca wo ++ (wP ad ca me nu ro un li pt st cy pl bk en kc)))) H := hP
    have hD : va_D A (wX ad ca  ++ (wA ad ca tx ln lb bg ch ct ia ++ (wW ad ca wo ++ (wP ad ca me nu ro un li pt st cy pl bk en kc)))) := hD
    refine lv_iconst (v := nI 2) hx hb d_Ch_digitBeforePoint_20 (by decide) ?_
    refine lv_icmp_ne (tgt := 26) hx hb d_Ch_digitBeforePoint_21 (by decide) (fun h6 => ?_) (fun h6 => ?_)
    · skip
      have h6 : ¬ ((nu 1 / 10 ^ 11 % 10) = 2) := fun z => h6 ((nI_eq (by omega) (by omega)).mpr z)
      refine lv_iinc (k := 0) (v := nI (10)) hx hb d_Ch_digitBeforePoint_26 hl rfl (by decide) (by decide) rfl (fun ls hl => ?_)
      have hl : lv_has ls 2 [(1, .int (nI 10)), (0, .ref (ad 0))] := hl
      refine lv_goto (tgt := 3) hx hb d_Ch_digitBeforePoint_29 (by decide) ?_
      refine lv_iload_n hx hb d_Ch_digitBeforePoint_3 rfl (lv_at hl 0 rfl) ?_
      refine lv_iconst (v := nI 2) hx hb d_Ch_digitBeforePoint_4 (by decide) ?_
      refine lv_icmp_le (tgt := 32) hx hb d_Ch_digitBeforePoint_5 (by decide) (fun h7 => absurd h7 (by decide)) (fun _ => ?_)
      refine lv_aload_n hx hb d_Ch_digitBeforePoint_8 rfl (lv_at hl 1 rfl) ?_
      refine va_get (D := D) (ci := 4) (v := .ref (ad 6)) (C := RCh) (T := TCh) (N := 2) hx hb ht inCh hown hK hP 0 rfl rfl 1 (by decide) (ht _ q151) (fun _ h9 => h9) rfl d_Ch_digitBeforePoint_9 ?_
      refine va_get (D := D) (ci := 1) (v := .ref (ad 8)) (C := RPr) (T := TPr) (N := 9) hx hb ht inPr hown hK hP 6 rfl rfl 1 (by decide) (ht _ q117) (fun _ h9 => h9) rfl d_Ch_digitBeforePoint_12 ?_
      refine lv_iconst (v := nI 1) hx hb d_Ch_digitBeforePoint_15 (by decide) ?_
      refine lv_iload_n hx hb d_Ch_digitBeforePoint_16 rfl (lv_at hl 0 rfl) ?_
      refine zgo_i (wr := wX ad ca  ++ wA ad ca tx ln lb bg ch ct ia ++ wW ad ca wo) C0 (zrunV (na := 2) (As := [.int (nI 1), .int (nI 10)]) (rest := []) C0 hP hD hS [6, 7, 8, 9, 10, 11] rfl rfl (m_Re_digit l D ca k H.size ad me nu ro un li pt st cy pl bk en kc 1 10 (by omega) (by omega) hn) (zg_V q222 q223 q224 q5 q225) (by decide +kernel) rfl rfl ⟨by decide, by decide⟩ 8 rfl rfl rfl hl.1 rfl (Nat.le_of_ble_eq_true rfl) d_Ch_digitBeforePoint_17 ⟨Nat.zero_le _, Nat.zero_le _⟩) hP hD hS [6, 7, 8, 9, 10, 11] [0, 1, 2, 3, 4, 5] rfl rfl (by decide) (by decide) (fun r8 w1 H locs hw hP hD hS => ?_)
      obtain ⟨rfl, rfl⟩ := hw
      have hP : va_P D vCl (wX ad ca  ++ (wA ad ca tx ln lb bg ch ct ia ++ (wW ad ca wo ++ (wP ad ca me nu ro un li pt st cy pl bk en kc)))) H := hP
      have hD : va_D A (wX ad ca  ++ (wA ad ca tx ln lb bg ch ct ia ++ (wW ad ca wo ++ (wP ad ca me nu ro un li pt st cy pl bk en kc)))) := hD
      refine lv_iconst (v := nI 2) hx hb d_Ch_digitBeforePoint_20 (by decide) ?_
      refine lv_icmp_ne (tgt := 26) hx hb d_Ch_digitBeforePoint_21 (by decide) (fun h9 => ?_) (fun h9 => ?_)
      · skip
        have h9 : ¬ ((nu 1 / 10 ^ 10 % 10) = 2) := fun z => h9 ((nI_eq (by omega) (by omega)).mpr z)
        refine lv_iinc (k := 0) (v := nI (9)) hx hb d_Ch_digitBeforePoint_26 hl rfl (by decide) (by decide) rfl (fun ls hl => ?_)
        have hl : lv_has ls 2 [(1, .int (nI 9)), (0, .ref (ad 0))] := hl
        refine lv_goto (tgt := 3) hx hb d_Ch_digitBeforePoint_29 (by decide) ?_
        refine lv_iload_n hx hb d_Ch_digitBeforePoint_3 rfl (lv_at hl 0 rfl) ?_
        refine lv_iconst (v := nI 2) hx hb d_Ch_digitBeforePoint_4 (by decide) ?_
        refine lv_icmp_le (tgt := 32) hx hb d_Ch_digitBeforePoint_5 (by decide) (fun h10 => absurd h10 (by decide)) (fun _ => ?_)
        refine lv_aload_n hx hb d_Ch_digitBeforePoint_8 rfl (lv_at hl 1 rfl) ?_
        refine va_get (D := D) (ci := 4) (v := .ref (ad 6)) (C := RCh) (T := TCh) (N := 2) hx hb ht inCh hown hK hP 0 rfl rfl 1 (by decide) (ht _ q151) (fun _ h9 => h9) rfl d_Ch_digitBeforePoint_9 ?_
        refine va_get (D := D) (ci := 1) (v := .ref (ad 8)) (C := RPr) (T := TPr) (N := 9) hx hb ht inPr hown hK hP 6 rfl rfl 1 (by decide) (ht _ q117) (fun _ h9 => h9) rfl d_Ch_digitBeforePoint_12 ?_
        refine lv_iconst (v := nI 1) hx hb d_Ch_digitBeforePoint_15 (by decide) ?_
        refine lv_iload_n hx hb d_Ch_digitBeforePoint_16 rfl (lv_at hl 0 rfl) ?_
        refine zgo_i (wr := wX ad ca  ++ wA ad ca tx ln lb bg ch ct ia ++ wW ad ca wo) C0 (zrunV (na := 2) (As := [.int (nI 1), .int (nI 9)]) (rest := []) C0 hP hD hS [6, 7, 8, 9, 10, 11] rfl rfl (m_Re_digit l D ca k H.size ad me nu ro un li pt st cy pl bk en kc 1 9 (by omega) (by omega) hn) (zg_V q222 q223 q224 q5 q225) (by decide +kernel) rfl rfl ⟨by decide, by decide⟩ 8 rfl rfl rfl hl.1 rfl (Nat.le_of_ble_eq_true rfl) d_Ch_digitBeforePoint_17 ⟨Nat.zero_le _, Nat.zero_le _⟩) hP hD hS [6, 7, 8, 9, 10, 11] [0, 1, 2, 3, 4, 5] rfl rfl (by decide) (by decide) (fun r11 w1 H locs hw hP hD hS => ?_)
        obtain ⟨rfl, rfl⟩ := hw
        have hP : va_P D vCl (wX ad ca  ++ (wA ad ca tx ln lb bg ch ct ia ++ (wW ad ca wo ++ (wP ad ca me nu ro un li pt st cy pl bk en kc)))) H := hP
        have hD : va_D A (wX ad ca  ++ (wA ad ca tx ln lb bg ch ct ia ++ (wW ad ca wo ++ (wP ad ca me nu ro un li pt st cy pl bk en kc)))) := hD
        refine lv_iconst (v := nI 2) hx hb d_Ch_digitBeforePoint_20 (by decide) ?_
        refine lv_icmp_ne (tgt := 26) hx hb d_Ch_digitBeforePoint_21 (by decide) (fun h12 => ?_) (fun h12 => ?_)
        · skip
          have h12 : ¬ ((nu 1 / 10 ^ 9 % 10) = 2) := fun z => h12 ((nI_eq (by omega) (by omega)).mpr z)
          refine lv_iinc (k := 0) (v := nI (8)) hx hb d_Ch_digitBeforePoint_26 hl rfl (by decide) (by decide) rfl (fun ls hl => ?_)
          have hl : lv_has ls 2 [(1, .int (nI 8)), (0, .ref (ad 0))] := hl
          refine lv_goto (tgt := 3) hx hb d_Ch_digitBeforePoint_29 (by decide) ?_
          refine lv_iload_n hx hb d_Ch_digitBeforePoint_3 rfl (lv_at hl 0 rfl) ?_
          refine lv_iconst (v := nI 2) hx hb d_Ch_digitBeforePoint_4 (by decide) ?_
          refine lv_icmp_le (tgt := 32) hx hb d_Ch_digitBeforePoint_5 (by decide) (fun h13 => absurd h13 (by decide)) (fun _ => ?_)
          refine lv_aload_n hx hb d_Ch_digitBeforePoint_8 rfl (lv_at hl 1 rfl) ?_
          refine va_get (D := D) (ci := 4) (v := .ref (ad 6)) (C := RCh) (T := TCh) (N := 2) hx hb ht inCh hown hK hP 0 rfl rfl 1 (by decide) (ht _ q151) (fun _ h9 => h9) rfl d_Ch_digitBeforePoint_9 ?_
          refine va_get (D := D) (ci := 1) (v := .ref (ad 8)) (C := RPr) (T := TPr) (N := 9) hx hb ht inPr hown hK hP 6 rfl rfl 1 (by decide) (ht _ q117) (fun _ h9 => h9) rfl d_Ch_digitBeforePoint_12 ?_
          refine lv_iconst (v := nI 1) hx hb d_Ch_digitBeforePoint_15 (by decide) ?_
          refine lv_iload_n hx hb d_Ch_digitBeforePoint_16 rfl (lv_at hl 0 rfl) ?_
          refine zgo_i (wr := wX ad ca  ++ wA ad ca tx ln lb bg ch ct ia ++ wW ad ca wo) C0 (zrunV (na := 2) (As := [.int (nI 1), .int (nI 8)]) (rest := []) C0 hP hD hS [6, 7, 8, 9, 10, 11] rfl rfl (m_Re_digit l D ca k H.size ad me nu ro un li pt st cy pl bk en kc 1 8 (by omega) (by omega) hn) (zg_V q222 q223 q224 q5 q225) (by decide +kernel) rfl rfl ⟨by decide, by decide⟩ 8 rfl rfl rfl hl.1 rfl (Nat.le_of_ble_eq_true rfl) d_Ch_digitBeforePoint_17 ⟨Nat.zero_le _, Nat.zero_le _⟩) hP hD hS [6, 7, 8, 9, 10, 11] [0, 1, 2, 3, 4, 5] rfl rfl (by decide) (by decide) (fun r14 w1 H locs hw hP hD hS => ?_)
          obtain ⟨rfl, rfl⟩ := hw
          have hP : va_P D vCl (wX ad ca  ++ (wA ad ca tx ln lb bg ch ct ia ++ (wW ad ca wo ++ (wP ad ca me nu ro un li pt st cy pl bk en kc)))) H := hP
          have hD : va_D A (wX ad ca  ++ (wA ad ca tx ln lb bg ch ct ia ++ (wW ad ca wo ++ (wP ad ca me nu ro un li pt st cy pl bk en kc)))) := hD
          refine lv_iconst (v := nI 2) hx hb d_Ch_digitBeforePoint_20 (by decide) ?_
          refine lv_icmp_ne (tgt := 26) hx hb d_Ch_digitBeforePoint_21 (by decide) (fun h15 => ?_) (fun h15 => ?_)
          · skip
            have h15 : ¬ ((nu 1 / 10 ^ 8 % 10) = 2) := fun z => h15 ((nI_eq (by omega) (by omega)).mpr z)
            refine lv_iinc (k := 0) (v := nI (7)) hx hb d_Ch_digitBeforePoint_26 hl rfl (by decide) (by decide) rfl (fun ls hl => ?_)
            have hl : lv_has ls 2 [(1, .int (nI 7)), (0, .ref (ad 0))] := hl
            refine lv_goto (tgt := 3) hx hb d_Ch_digitBeforePoint_29 (by decide) ?_
            refine lv_iload_n hx hb d_Ch_digitBeforePoint_3 rfl (lv_at hl 0 rfl) ?_
            refine lv_iconst (v := nI 2) hx hb d_Ch_digitBeforePoint_4 (by decide) ?_
            refine lv_icmp_le (tgt := 32) hx hb d_Ch_digitBeforePoint_5 (by decide) (fun h16 => absurd h16 (by decide)) (fun _ => ?_)
            refine lv_aload_n hx hb d_Ch_digitBeforePoint_8 rfl (lv_at hl 1 rfl) ?_
            refine va_get (D := D) (ci := 4) (v := .ref (ad 6)) (C := RCh) (T := TCh) (N := 2) hx hb ht inCh hown hK hP 0 rfl rfl 1 (by decide) (ht _ q151) (fun _ h9 => h9) rfl d_Ch_digitBeforePoint_9 ?_
            refine va_get (D := D) (ci := 1) (v := .ref (ad 8)) (C := RPr) (T := TPr) (N := 9) hx hb ht inPr hown hK hP 6 rfl rfl 1 (by decide) (ht _ q117) (fun _ h9 => h9) rfl d_Ch_digitBeforePoint_12 ?_
            refine lv_iconst (v := nI 1) hx hb d_Ch_digitBeforePoint_15 (by decide) ?_
            refine lv_iload_n hx hb d_Ch_digitBeforePoint_16 rfl (lv_at hl 0 rfl) ?_
            refine zgo_i (wr := wX ad ca  ++ wA ad ca tx ln lb bg ch ct ia ++ wW ad ca wo) C0 (zrunV (na := 2) (As := [.int (nI 1), .int (nI 7)]) (rest := []) C0 hP hD hS [6, 7, 8, 9, 10, 11] rfl rfl (m_Re_digit l D ca k H.size ad me nu ro un li pt st cy pl bk en kc 1 7 (by omega) (by omega) hn) (zg_V q222 q223 q224 q5 q225) (by decide +kernel) rfl rfl ⟨by decide, by decide⟩ 8 rfl rfl rfl hl.1 rfl (Nat.le_of_ble_eq_true rfl) d_Ch_digitBeforePoint_17 ⟨Nat.zero_le _, Nat.zero_le _⟩) hP hD hS [6, 7, 8, 9, 10, 11] [0, 1, 2, 3, 4, 5] rfl rfl (by decide) (by decide) (fun r17 w1 H locs hw hP hD hS => ?_)
            obtain ⟨rfl, rfl⟩ := hw
            have hP : va_P D vCl (wX ad ca  ++ (wA ad ca tx ln lb bg ch ct ia ++ (wW ad ca wo ++ (wP ad ca me nu ro un li pt st cy pl bk en kc)))) H := hP
            have hD : va_D A (wX ad ca  ++ (wA ad ca tx ln lb bg ch ct ia ++ (wW ad ca wo ++ (wP ad ca me nu ro un li pt st cy pl bk en kc)))) := hD
            refine lv_iconst (v := nI 2) hx hb d_Ch_digitBeforePoint_20 (by decide) ?_
            refine lv_icmp_ne (tgt := 26) hx hb d_Ch_digitBeforePoint_21 (by decide) (fun h18 => ?_) (fun h18 => ?_)
            · skip
              have h18 : ¬ ((nu 1 / 10 ^ 7 % 10) = 2) := fun z => h18 ((nI_eq (by omega) (by omega)).mpr z)
              refine lv_iinc (k := 0) (v := nI (6)) hx hb d_Ch_digitBeforePoint_26 hl rfl (by decide) (by decide) rfl (fun ls hl => ?_)
              have hl : lv_has ls 2 [(1, .int (nI 6)), (0, .ref (ad 0))] := hl
              refine lv_goto (tgt := 3) hx hb d_Ch_digitBeforePoint_29 (by decide) ?_
              refine lv_iload_n hx hb d_Ch_digitBeforePoint_3 rfl (lv_at hl 0 rfl) ?_
              refine lv_iconst (v := nI 2) hx hb d_Ch_digitBeforePoint_4 (by decide) ?_
              refine lv_icmp_le (tgt := 32) hx hb d_Ch_digitBeforePoint_5 (by decide) (fun h19 => absurd h19 (by decide)) (fun _ => ?_)
              refine lv_aload_n hx hb d_Ch_digitBeforePoint_8 rfl (lv_at hl 1 rfl) ?_
              refine va_get (D := D) (ci := 4) (v := .ref (ad 6)) (C := RCh) (T := TCh) (N := 2) hx hb ht inCh hown hK hP 0 rfl rfl 1 (by decide) (ht _ q151) (fun _ h9 => h9) rfl d_Ch_digitBeforePoint_9 ?_
              refine va_get (D := D) (ci := 1) (v := .ref (ad 8)) (C := RPr) (T := TPr) (N := 9) hx hb ht inPr hown hK hP 6 rfl rfl 1 (by decide) (ht _ q117) (fun _ h9 => h9) rfl d_Ch_digitBeforePoint_12 ?_
              refine lv_iconst (v := nI 1) hx hb d_Ch_digitBeforePoint_15 (by decide) ?_
              refine lv_iload_n hx hb d_Ch_digitBeforePoint_16 rfl (lv_at hl 0 rfl) ?_
              refine zgo_i (wr := wX ad ca  ++ wA ad ca tx ln lb bg ch ct ia ++ wW ad ca wo) C0 (zrunV (na := 2) (As := [.int (nI 1), .int (nI 6)]) (rest := []) C0 hP hD hS [6, 7, 8, 9, 10, 11] rfl rfl (m_Re_digit l D ca k H.size ad me nu ro un li pt st cy pl bk en kc 1 6 (by omega) (by omega) hn) (zg_V q222 q223 q224 q5 q225) (by decide +kernel) rfl rfl ⟨by decide, by decide⟩ 8 rfl rfl rfl hl.1 rfl (Nat.le_of_ble_eq_true rfl) d_Ch_digitBeforePoint_17 ⟨Nat.zero_le _, Nat.zero_le _⟩) hP hD hS [6, 7, 8, 9, 10, 11] [0, 1, 2, 3, 4, 5] rfl rfl (by decide) (by decide) (fun r20 w1 H locs hw hP hD hS => ?_)
              obtain ⟨rfl, rfl⟩ := hw
              have hP : va_P D vCl (wX ad ca  ++ (wA ad ca tx ln lb bg ch ct ia ++ (wW ad ca wo ++ (wP ad ca me nu ro un li pt st cy pl bk en kc)))) H := hP
              have hD : va_D A (wX ad ca  ++ (wA ad ca tx ln lb bg ch ct ia ++ (wW ad ca wo ++ (wP ad ca me nu ro un li pt st cy pl bk en kc)))) := hD
              refine lv_iconst (v := nI 2) hx hb d_Ch_digitBeforePoint_20 (by decide) ?_
              refine lv_icmp_ne (tgt := 26) hx hb d_Ch_digitBeforePoint_21 (by decide) (fun h21 => ?_) (fun h21 => ?_)
              · skip
                have h21 : ¬ ((nu 1 / 10 ^ 6 % 10) = 2) := fun z => h21 ((nI_eq (by omega) (by omega)).mpr z)
                refine lv_iinc (k := 0) (v := nI (5)) hx hb d_Ch_digitBeforePoint_26 hl rfl (by decide) (by decide) rfl (fun ls hl => ?_)
                have hl : lv_has ls 2 [(1, .int (nI 5)), (0, .ref (ad 0))] := hl
                refine lv_goto (tgt := 3) hx hb d_Ch_digitBeforePoint_29 (by decide) ?_
                refine lv_iload_n hx hb d_Ch_digitBeforePoint_3 rfl (lv_at hl 0 rfl) ?_
                refine lv_iconst (v := nI 2) hx hb d_Ch_digitBeforePoint_4 (by decide) ?_
                refine lv_icmp_le (tgt := 32) hx hb d_Ch_digitBeforePoint_5 (by decide) (fun h22 => absurd h22 (by decide)) (fun _ => ?_)
                refine lv_aload_n hx hb d_Ch_digitBeforePoint_8 rfl (lv_at hl 1 rfl) ?_
                refine va_get (D := D) (ci := 4) (v := .ref (ad 6)) (C := RCh) (T := TCh) (N := 2) hx hb ht inCh hown hK hP 0 rfl rfl 1 (by decide) (ht _ q151) (fun _ h9 => h9) rfl d_Ch_digitBeforePoint_9 ?_
                refine va_get (D := D) (ci := 1) (v := .ref (ad 8)) (C := RPr) (T := TPr) (N := 9) hx hb ht inPr hown hK hP 6 rfl rfl 1 (by decide) (ht _ q117) (fun _ h9 => h9) rfl d_Ch_digitBeforePoint_12 ?_
                refine lv_iconst (v := nI 1) hx hb d_Ch_digitBeforePoint_15 (by decide) ?_
                refine lv_iload_n hx hb d_Ch_digitBeforePoint_16 rfl (lv_at hl 0 rfl) ?_
                refine zgo_i (wr := wX ad ca  ++ wA ad ca tx ln lb bg ch ct ia ++ wW ad ca wo) C0 (zrunV (na := 2) (As := [.int (nI 1), .int (nI 5)]) (rest := []) C0 hP hD hS [6, 7, 8, 9, 10, 11] rfl rfl (m_Re_digit l D ca k H.size ad me nu ro un li pt st cy pl bk en kc 1 5 (by omega) (by omega) hn) (zg_V q222 q223 q224 q5 q225) (by decide +kernel) rfl rfl ⟨by decide, by decide⟩ 8 rfl rfl rfl hl.1 rfl (Nat.le_of_ble_eq_true rfl) d_Ch_digitBeforePoint_17 ⟨Nat.zero_le _, Nat.zero_le _⟩) hP hD hS [6, 7, 8, 9, 10, 11] [0, 1, 2, 3, 4, 5] rfl rfl (by decide) (by decide) (fun r23 w1 H locs hw hP hD hS => ?_)
                obtain ⟨rfl, rfl⟩ := hw
                have hP : va_P D vCl (wX ad ca  ++ (wA ad ca tx ln lb bg ch ct ia ++ (wW ad ca wo ++ (wP ad ca me nu ro un li pt st cy pl bk en kc)))) H := hP
                have hD : va_D A (wX ad ca  ++ (wA ad ca tx ln lb bg ch ct ia ++ (wW ad ca wo ++ (wP ad ca me nu ro un li pt st cy pl bk en kc)))) := hD
                refine lv_iconst (v := nI 2) hx hb d_Ch_digitBeforePoint_20 (by decide) ?_
                refine lv_icmp_ne (tgt := 26) hx hb d_Ch_digitBeforePoint_21 (by decide) (fun h24 => ?_) (fun h24 => ?_)
                · skip
                  have h24 : ¬ ((nu 1 / 10 ^ 5 % 10) = 2) := fun z => h24 ((nI_eq (by omega) (by omega)).mpr z)
                  refine lv_iinc (k := 0) (v := nI (4)) hx hb d_Ch_digitBeforePoint_26 hl rfl (by decide) (by decide) rfl (fun ls hl => ?_)
                  have hl : lv_has ls 2 [(1, .int (nI 4)), (0, .ref (ad 0))] := hl
                  refine lv_goto (tgt := 3) hx hb d_Ch_digitBeforePoint_29 (by decide) ?_
                  refine lv_iload_n hx hb d_Ch_digitBeforePoint_3 rfl (lv_at hl 0 rfl) ?_
                  refine lv_iconst (v := nI 2) hx hb d_Ch_digitBeforePoint_4 (by decide) ?_
                  refine lv_icmp_le (tgt := 32) hx hb d_Ch_digitBeforePoint_5 (by decide) (fun h25 => absurd h25 (by decide)) (fun _ => ?_)
                  refine lv_aload_n hx hb d_Ch_digitBeforePoint_8 rfl (lv_at hl 1 rfl) ?_
                  refine va_get (D := D) (ci := 4) (v := .ref (ad 6)) (C := RCh) (T := TCh) (N := 2) hx hb ht inCh hown hK hP 0 rfl rfl 1 (by decide) (ht _ q151) (fun _ h9 => h9) rfl d_Ch_digitBeforePoint_9 ?_
                  refine va_get (D := D) (ci := 1) (v := .ref (ad 8)) (C := RPr) (T := TPr) (N := 9) hx hb ht inPr hown hK hP 6 rfl rfl 1 (by decide) (ht _ q117) (fun _ h9 => h9) rfl d_Ch_digitBeforePoint_12 ?_
                  refine lv_iconst (v := nI 1) hx hb d_Ch_digitBeforePoint_15 (by decide) ?_
                  refine lv_iload_n hx hb d_Ch_digitBeforePoint_16 rfl (lv_at hl 0 rfl) ?_
                  refine zgo_i (wr := wX ad ca  ++ wA ad ca tx ln lb bg ch ct ia ++ wW ad ca wo) C0 (zrunV (na := 2) (As := [.int (nI 1), .int (nI 4)]) (rest := []) C0 hP hD hS [6, 7, 8, 9, 10, 11] rfl rfl (m_Re_digit l D ca k H.size ad me nu ro un li pt st cy pl bk en kc 1 4 (by omega) (by omega) hn) (zg_V q222 q223 q224 q5 q225) (by decide +kernel) rfl rfl ⟨by decide, by decide⟩ 8 rfl rfl rfl hl.1 rfl (Nat.le_of_ble_eq_true rfl) d_Ch_digitBeforePoint_17 ⟨Nat.zero_le _, Nat.zero_le _⟩) hP hD hS [6, 7, 8, 9, 10, 11] [0, 1, 2, 3, 4, 5] rfl rfl (by decide) (by decide) (fun r26 w1 H locs hw hP hD hS => ?_)
                  obtain ⟨rfl, rfl⟩ := hw
                  have hP : va_P D vCl (wX ad ca  ++ (wA ad ca tx ln lb bg ch ct ia ++ (wW ad ca wo ++ (wP ad ca me nu ro un li pt st cy pl bk en kc)))) H := hP
                  have hD : va_D A (wX ad ca  ++ (wA ad ca tx ln lb bg ch ct ia ++ (wW ad ca wo ++ (wP ad ca me nu ro un li pt st cy pl bk en kc)))) := hD
                  refine lv_iconst (v := nI 2) hx hb d_Ch_digitBeforePoint_20 (by decide) ?_
                  refine lv_icmp_ne (tgt := 26) hx hb d_Ch_digitBeforePoint_21 (by decide) (fun h27 => ?_) (fun h27 => ?_)
                  · skip
                    have h27 : ¬ ((nu 1 / 10 ^ 4 % 10) = 2) := fun z => h27 ((nI_eq (by omega) (by omega)).mpr z)
                    refine lv_iinc (k := 0) (v := nI (3)) hx hb d_Ch_digitBeforePoint_26 hl rfl (by decide) (by decide) rfl (fun ls hl => ?_)
                    have hl : lv_has ls 2 [(1, .int (nI 3)), (0, .ref (ad 0))] := hl
                    refine lv_goto (tgt := 3) hx hb d_Ch_digitBeforePoint_29 (by decide) ?_
                    refine lv_iload_n hx hb d_Ch_digitBeforePoint_3 rfl (lv_at hl 0 rfl) ?_
                    refine lv_iconst (v := nI 2) hx hb d_Ch_digitBeforePoint_4 (by decide) ?_
                    refine lv_icmp_le (tgt := 32) hx hb d_Ch_digitBeforePoint_5 (by decide) (fun h28 => absurd h28 (by decide)) (fun _ => ?_)
                    refine lv_aload_n hx hb d_Ch_digitBeforePoint_8 rfl (lv_at hl 1 rfl) ?_
                    refine va_get (D := D) (ci := 4) (v := .ref (ad 6)) (C := RCh) (T := TCh) (N := 2) hx hb ht inCh hown hK hP 0 rfl rfl 1 (by decide) (ht _ q151) (fun _ h9 => h9) rfl d_Ch_digitBeforePoint_9 ?_
                    refine va_get (D := D) (ci := 1) (v := .ref (ad 8)) (C := RPr) (T := TPr) (N := 9) hx hb ht inPr hown hK hP 6 rfl rfl 1 (by decide) (ht _ q117) (fun _ h9 => h9) rfl d_Ch_digitBeforePoint_12 ?_
                    refine lv_iconst (v := nI 1) hx hb d_Ch_digitBeforePoint_15 (by decide) ?_
                    refine lv_iload_n hx hb d_Ch_digitBeforePoint_16 rfl (lv_at hl 0 rfl) ?_
                    refine zgo_i (wr := wX ad ca  ++ wA ad ca tx ln lb bg ch ct ia ++ wW ad ca wo) C0 (zrunV (na := 2) (As := [.int (nI 1), .int (nI 3)]) (rest := []) C0 hP hD hS [6, 7, 8, 9, 10, 11] rfl rfl (m_Re_digit l D ca k H.size ad me nu ro un li pt st cy pl bk en kc 1 3 (by omega) (by omega) hn) (zg_V q222 q223 q224 q5 q225) (by decide +kernel) rfl rfl ⟨by decide, by decide⟩ 8 rfl rfl rfl hl.1 rfl (Nat.le_of_ble_eq_true rfl) d_Ch_digitBeforePoint_17 ⟨Nat.zero_le _, Nat.zero_le _⟩) hP hD hS [6, 7, 8, 9, 10, 11] [0, 1, 2, 3, 4, 5] rfl rfl (by decide) (by decide) (fun r29 w1 H locs hw hP hD hS => ?_)
                    obtain ⟨rfl, rfl⟩ := hw
                    have hP : va_P D vCl (wX ad ca  ++ (wA ad ca tx ln lb bg ch ct ia ++ (wW ad ca wo ++ (wP ad ca me nu ro un li pt st cy pl bk en kc)))) H := hP
                    have hD : va_D A (wX ad ca  ++ (wA ad ca tx ln lb bg ch ct ia ++ (wW ad ca wo ++ (wP ad ca me nu ro un li pt st cy pl bk en kc)))) := hD
                    refine lv_iconst (v := nI 2) hx hb d_Ch_digitBeforePoint_20 (by decide) ?_
                    refine lv_icmp_ne (tgt := 26) hx hb d_Ch_digitBeforePoint_21 (by decide) (fun h30 => ?_) (fun h30 => ?_)
                    · skip
                      have h30 : ¬ ((nu 1 / 10 ^ 3 % 10) = 2) := fun z => h30 ((nI_eq (by omega) (by omega)).mpr z)
                      refine lv_iinc (k := 0) (v := nI (2)) hx hb d_Ch_digitBeforePoint_26 hl rfl (by decide) (by decide) rfl (fun ls hl => ?_)
                      have hl : lv_has ls 2 [(1, .int (nI 2)), (0, .ref (ad 0))] := hl
                      refine lv_goto (tgt := 3) hx hb d_Ch_digitBeforePoint_29 (by decide) ?_
                      refine lv_iload_n hx hb d_Ch_digitBeforePoint_3 rfl (lv_at hl 0 rfl) ?_
                      refine lv_iconst (v := nI 2) hx hb d_Ch_digitBeforePoint_4 (by decide) ?_
                      refine lv_icmp_le (tgt := 32) hx hb d_Ch_digitBeforePoint_5 (by decide) (fun _ => ?_) (fun h31 => absurd (by decide) h31)
                      refine lv_iconst (v := (-1)) hx hb d_Ch_digitBeforePoint_32 (by decide) ?_
                      exact zret_i C0 hr hAe hP hD hS ⟨(by rw [dp_n h3, dp_n h6, dp_n h9, dp_n h12, dp_n h15, dp_n h18, dp_n h21, dp_n h24, dp_n h27, dp_n h30]; rfl), rfl⟩ d_Ch_digitBeforePoint_33
                    · skip
                      have h30 : ((nu 1 / 10 ^ 3 % 10) = 2) := (nI_eq (by omega) (by omega)).mp h30
                      refine lv_iload_n hx hb d_Ch_digitBeforePoint_24 rfl (lv_at hl 0 rfl) ?_
                      exact zret_i C0 hr hAe hP hD hS ⟨(by rw [dp_n h3, dp_n h6, dp_n h9, dp_n h12, dp_n h15, dp_n h18, dp_n h21, dp_n h24, dp_n h27, dp_p h30]), rfl⟩ d_Ch_digitBeforePoint_25
                  · skip
                    have h27 : ((nu 1 / 10 ^ 4 % 10) = 2) := (nI_eq (by omega) (by omega)).mp h27
                    refine lv_iload_n hx hb d_Ch_digitBeforePoint_24 rfl (lv_at hl 0 rfl) ?_
                    exact zret_i C0 hr hAe hP hD hS ⟨(by rw [dp_n h3, dp_n h6, dp_n h9, dp_n h12, dp_n h15, dp_n h18, dp_n h21, dp_n h24, dp_p h27]), rfl⟩ d_Ch_digitBeforePoint_25
                · skip
                  have h24 : ((nu 1 / 10 ^ 5 % 10) = 2) := (nI_eq (by omega) (by omega)).mp h24
                  refine lv_iload_n hx hb d_Ch_digitBeforePoint_24 rfl (lv_at hl 0 rfl) ?_
                  exact zret_i C0 hr hAe hP hD hS ⟨(by rw [dp_n h3, dp_n h6, dp_n h9, dp_n h12, dp_n h15, dp_n h18, dp_n h21, dp_p h24]), rfl⟩ d_Ch_digitBeforePoint_25
              · skip
                have h21 : ((nu 1 / 10 ^ 6 % 10) = 2) := (nI_eq (by omega) (by omega)).mp h21
                refine lv_iload_n hx hb d_Ch_digitBeforePoint_24 rfl (lv_at hl 0 rfl) ?_
                exact zret_i C0 hr hAe hP hD hS ⟨(by rw [dp_n h3, dp_n h6, dp_n h9, dp_n h12, dp_n h15, dp_n h18, dp_p h21]), rfl⟩ d_Ch_digitBeforePoint_25
            · skip
              have h18 : ((nu 1 / 10 ^ 7 % 10) = 2) := (nI_eq (by omega) (by omega)).mp h18
              refine lv_iload_n hx hb d_Ch_digitBeforePoint_24 rfl (lv_at hl 0 rfl) ?_
              exact zret_i C0 hr hAe hP hD hS ⟨(by rw [dp_n h3, dp_n h6, dp_n h9, dp_n h12, dp_n h15, dp_p h18]), rfl⟩ d_Ch_digitBeforePoint_25
          · skip
            have h15 : ((nu 1 / 10 ^ 8 % 10) = 2) := (nI_eq (by omega) (by omega)).mp h15
            refine lv_iload_n hx hb d_Ch_digitBeforePoint_24 rfl (lv_at hl 0 rfl) ?_
            exact zret_i C0 hr hAe hP hD hS ⟨(by rw [dp_n h3, dp_n h6, dp_n h9, dp_n h12, dp_p h15]), rfl⟩ d_Ch_digitBeforePoint_25
        · skip
          have h12 : ((nu 1 / 10 ^ 9 % 10) = 2) := (nI_eq (by omega) (by omega)).mp h12
          refine lv_iload_n hx hb d_Ch_digitBeforePoint_24 rfl (lv_at hl 0 rfl) ?_
          exact zret_i C0 hr hAe hP hD hS ⟨(by rw [dp_n h3, dp_n h6, dp_n h9, dp_p h12]), rfl⟩ d_Ch_digitBeforePoint_25
      · skip
        have h9 : ((nu 1 / 10 ^ 10 % 10) = 2) := (nI_eq (by omega) (by omega)).mp h9
        refine lv_iload_n hx hb d_Ch_digitBeforePoint_24 rfl (lv_at hl 0 rfl) ?_
        exact zret_i C0 hr hAe hP hD hS ⟨(by rw [dp_n h3, dp_n h6, dp_p h9]), rfl⟩ d_Ch_digitBeforePoint_25
    · skip
      have h6 : ((nu 1 / 10 ^ 11 % 10) = 2) := (nI_eq (by omega) (by omega)).mp h6
      refine lv_iload_n hx hb d_Ch_digitBeforePoint_24 rfl (lv_at hl 0 rfl) ?_
      exact zret_i C0 hr hAe hP hD hS ⟨(by rw [dp_n h3, dp_p h6]), rfl⟩ d_Ch_digitBeforePoint_25
  · skip
    have h3 : ((nu 1 / 10 ^ 12 % 10) = 2) := (nI_eq (by omega) (by omega)).mp h3
    refine lv_iload_n hx hb d_Ch_digitBeforePoint_24 rfl (lv_at hl 0 rfl) ?_
    exact zret_i C0 hr hAe hP hD hS ⟨(by rw [dp_p h3]), rfl⟩ d_Ch_digitBeforePoint_25
set_option maxHeartbeats 4000000 in
set_option maxRecDepth 100000 in
theorem m_Ch_codeOfDigit (l : Launch) (D : va_G) (ca : Nat → ClassId) (k : Nat → Nat) (sz : Nat) (ad : Nat → Nat) (tx : Nat → Nat) (ln : Nat) (lb : Nat → Int32) (bg : Nat → Nat) (ch : Int32) (ct : Nat) (ia : Int32) (wo : Nat → Nat) (me nu ro : Nat → Nat) (un li pt : Nat) (st : Int32) (cy pl bk en kc : Nat) (q : Nat) (hq : q < 14) (hn : ∀ j, nu j < 10 ^ 14) : Met l y_Ch_codeOfDigit (zw y_Ch_codeOfDigit c_Ch_codeOfDigit 3 (some .int)) { frames := 1, cells := 0, slots := 0, locals := 22 } (va_Pc [.ref (ad 0), .int (nI q)] (zPre D (zty ca) k (wX ad ca  ++ (wA ad ca tx ln lb bg ch ct ia ++ (wW ad ca wo ++ (wP ad ca me nu ro un li pt st cy pl bk en kc)))) sz)) (va_Qi (fun r w => r = nI (cod nu q) ∧ w = wX ad ca ++ (wA ad ca tx ln lb bg ch ct ia ++ (wW ad ca wo ++ (wP ad ca me nu ro un li pt st cy pl bk en kc)))) (zB D (zty ca) (wX ad ca  ++ (wA ad ca tx ln lb bg ch ct ia ++ (wW ad ca wo ++ (wP ad ca me nu ro un li pt st cy pl bk en kc)))) sz) (va_A (wX ad ca  ++ (wA ad ca tx ln lb bg ch ct ia ++ (wW ad ca wo ++ (wP ad ca me nu ro un li pt st cy pl bk en kc)))) sz)) 0 0 (va_A (wX ad ca  ++ (wA ad ca tx ln lb bg ch ct ia ++ (wW ad ca wo ++ (wP ad ca me nu ro un li pt st cy pl bk en kc)))) sz) := by
  refine zOf (own := "DigitChip") (by decide +kernel) rfl (Nat.le_of_ble_eq_true rfl) ?_
  intro p e s m below meth c A ls C0 hr hnm hAe hsz hl hP hD hS
  have hl : lv_has ls 3 [(0, .ref (ad 0)), (1, .int (nI q))] := hl
  obtain ⟨hx, hb, hml, hown, ht, hK, hX, hA, hlk⟩ := id C0
  refine lv_aload_n hx hb d_Ch_codeOfDigit_0 rfl (lv_at hl 0 rfl) ?_
  refine va_get (D := D) (ci := 4) (v := .ref (ad 6)) (C := RCh) (T := TCh) (N := 2) hx hb ht inCh hown hK hP 0 rfl rfl 1 (by decide) (ht _ q151) (fun _ h9 => h9) rfl d_Ch_codeOfDigit_1 ?_
  refine va_get (D := D) (ci := 1) (v := .ref (ad 8)) (C := RPr) (T := TPr) (N := 9) hx hb ht inPr hown hK hP 6 rfl rfl 1 (by decide) (ht _ q117) (fun _ h9 => h9) rfl d_Ch_codeOfDigit_4 ?_
  refine lv_iconst (v := nI 1) hx hb d_Ch_codeOfDigit_7 (by decide) ?_
  refine lv_iload_n hx hb d_Ch_codeOfDigit_8 rfl (lv_at hl 1 rfl) ?_
  refine zgo_i (wr := wX ad ca  ++ wA ad ca tx ln lb bg ch ct ia ++ wW ad ca wo) C0 (zrunV (na := 2) (As := [.int (nI 1), .int (nI q)]) (rest := []) C0 hP hD hS [6, 7, 8, 9, 10, 11] rfl rfl (m_Re_digit l D ca k s.heap.size ad me nu ro un li pt st cy pl bk en kc 1 q (by omega) (by omega) hn) (zg_V q222 q223 q224 q5 q225) (by decide +kernel) rfl rfl ⟨by decide, by decide⟩ 8 rfl rfl rfl hl.1 rfl (Nat.le_of_ble_eq_true rfl) d_Ch_codeOfDigit_9 ⟨Nat.zero_le _, Nat.zero_le _⟩) hP hD hS [6, 7, 8, 9, 10, 11] [0, 1, 2, 3, 4, 5] rfl rfl (by decide) (by decide) (fun r1 w1 H locs hw hP hD hS => ?_)
  obtain ⟨rfl, rfl⟩ := hw
  have hP : va_P D vCl (wX ad ca  ++ (wA ad ca tx ln lb bg ch ct ia ++ (wW ad ca wo ++ (wP ad ca me nu ro un li pt st cy pl bk en kc)))) H := hP
  have hD : va_D A (wX ad ca  ++ (wA ad ca tx ln lb bg ch ct ia ++ (wW ad ca wo ++ (wP ad ca me nu ro un li pt st cy pl bk en kc)))) := hD
  refine lv_bipush (v := nI 9) hx hb d_Ch_codeOfDigit_12 (by decide) ?_
  refine lv_icmp_ne (tgt := 20) hx hb d_Ch_codeOfDigit_14 (by decide) (fun h2 => ?_) (fun h2 => ?_)
  · skip
    have h2 : ¬ ((nu 1 / 10 ^ q % 10) = 9) := fun z => h2 ((nI_eq (by omega) (by omega)).mpr z)
    refine lv_aload_n hx hb d_Ch_codeOfDigit_20 rfl (lv_at hl 0 rfl) ?_
    refine va_get (D := D) (ci := 4) (v := .ref (ad 6)) (C := RCh) (T := TCh) (N := 2) hx hb ht inCh hown hK hP 0 rfl rfl 1 (by decide) (ht _ q151) (fun _ h9 => h9) rfl d_Ch_codeOfDigit_21 ?_
    refine va_get (D := D) (ci := 1) (v := .ref (ad 8)) (C := RPr) (T := TPr) (N := 9) hx hb ht inPr hown hK hP 6 rfl rfl 1 (by decide) (ht _ q117) (fun _ h9 => h9) rfl d_Ch_codeOfDigit_24 ?_
    refine lv_iconst (v := nI 0) hx hb d_Ch_codeOfDigit_27 (by decide) ?_
    refine lv_iload_n hx hb d_Ch_codeOfDigit_28 rfl (lv_at hl 1 rfl) ?_
    refine zgo_i (wr := wX ad ca  ++ wA ad ca tx ln lb bg ch ct ia ++ wW ad ca wo) C0 (zrunV (na := 2) (As := [.int (nI 0), .int (nI q)]) (rest := []) C0 hP hD hS [6, 7, 8, 9, 10, 11] rfl rfl (m_Re_digit l D ca k H.size ad me nu ro un li pt st cy pl bk en kc 0 q (by omega) (by omega) hn) (zg_V q222 q223 q224 q5 q225) (by decide +kernel) rfl rfl ⟨by decide, by decide⟩ 8 rfl rfl rfl hl.1 rfl (Nat.le_of_ble_eq_true rfl) d_Ch_codeOfDigit_29 ⟨Nat.zero_le _, Nat.zero_le _⟩) hP hD hS [6, 7, 8, 9, 10, 11] [0, 1, 2, 3, 4, 5] rfl rfl (by decide) (by decide) (fun r3 w1 H locs hw hP hD hS => ?_)
    obtain ⟨rfl, rfl⟩ := hw
    have hP : va_P D vCl (wX ad ca  ++ (wA ad ca tx ln lb bg ch ct ia ++ (wW ad ca wo ++ (wP ad ca me nu ro un li pt st cy pl bk en kc)))) H := hP
    have hD : va_D A (wX ad ca  ++ (wA ad ca tx ln lb bg ch ct ia ++ (wW ad ca wo ++ (wP ad ca me nu ro un li pt st cy pl bk en kc)))) := hD
    refine lv_istore_n hx hb d_Ch_codeOfDigit_32 rfl hl (by decide) rfl (fun ls hl => ?_)
    have hl : lv_has ls 3 [(2, .int (nI (nu 0 / 10 ^ q % 10))), (0, .ref (ad 0)), (1, .int (nI q))] := hl
    refine lv_iload_n hx hb d_Ch_codeOfDigit_33 rfl (lv_at hl 2 rfl) ?_
    refine lv_bipush (v := nI 13) hx hb d_Ch_codeOfDigit_34 (by decide) ?_
    refine lv_icmp_eq (tgt := 44) hx hb d_Ch_codeOfDigit_36 (by decide) (fun h4 => ?_) (fun h4 => ?_)
    · skip
      have h4 : (q = 13) := (nI_eq (by omega) (by omega)).mp h4
      refine lv_iload_n hx hb d_Ch_codeOfDigit_44 rfl (lv_at hl 0 rfl) ?_
      refine lv_bipush (v := nI 9) hx hb d_Ch_codeOfDigit_45 (by decide) ?_
      refine lv_icmp_ne (tgt := 55) hx hb d_Ch_codeOfDigit_47 (by decide) (fun h5 => ?_) (fun h5 => ?_)
      · skip
        have h5 : ¬ ((nu 0 / 10 ^ q % 10) = 9) := fun z => h5 ((nI_eq (by omega) (by omega)).mpr z)
        refine lv_bipush (v := nI 32) hx hb d_Ch_codeOfDigit_55 (by decide) ?_
        exact zret_i C0 hr hAe hP hD hS ⟨by unfold cod; rw [if_neg h2, if_pos (by omega), if_neg h5], rfl⟩ d_Ch_codeOfDigit_57
      · skip
        have h5 : ((nu 0 / 10 ^ q % 10) = 9) := (nI_eq (by omega) (by omega)).mp h5
        refine lv_bipush (v := nI 45) hx hb d_Ch_codeOfDigit_50 (by decide) ?_
        refine lv_goto (tgt := 57) hx hb d_Ch_codeOfDigit_52 (by decide) ?_
        exact zret_i C0 hr hAe hP hD hS ⟨by unfold cod; rw [if_neg h2, if_pos (by omega), if_pos h5], rfl⟩ d_Ch_codeOfDigit_57
    · skip
      have h4 : ¬ (q = 13) := fun z => h4 ((nI_eq (by omega) (by omega)).mpr z)
      refine lv_iload_n hx hb d_Ch_codeOfDigit_39 rfl (lv_at hl 2 rfl) ?_
      refine lv_iconst (v := nI 2) hx hb d_Ch_codeOfDigit_40 (by decide) ?_
      refine lv_icmp_ne (tgt := 58) hx hb d_Ch_codeOfDigit_41 (by decide) (fun h6 => ?_) (fun h6 => ?_)
      · skip
        have h6 : ¬ (q = 2) := fun z => h6 ((nI_eq (by omega) (by omega)).mpr z)
        refine lv_bipush (v := nI 48) hx hb d_Ch_codeOfDigit_58 (by decide) ?_
        refine lv_iload_n hx hb d_Ch_codeOfDigit_60 rfl (lv_at hl 0 rfl) ?_
        refine lv_iadd hx hb d_Ch_codeOfDigit_61 ?_
        refine zti (y := nI (48 + (nu 0 / 10 ^ q % 10))) (nI_add _ _) ?_
        exact zret_i C0 hr hAe hP hD hS ⟨by unfold cod; rw [if_neg h2, if_neg (by omega)], rfl⟩ d_Ch_codeOfDigit_62
      · skip
        have h6 : (q = 2) := (nI_eq (by omega) (by omega)).mp h6
        refine lv_iload_n hx hb d_Ch_codeOfDigit_44 rfl (lv_at hl 0 rfl) ?_
        refine lv_bipush (v := nI 9) hx hb d_Ch_codeOfDigit_45 (by decide) ?_
        refine lv_icmp_ne (tgt := 55) hx hb d_Ch_codeOfDigit_47 (by decide) (fun h7 => ?_) (fun h7 => ?_)
        · skip
          have h7 : ¬ ((nu 0 / 10 ^ q % 10) = 9) := fun z => h7 ((nI_eq (by omega) (by omega)).mpr z)
          refine lv_bipush (v := nI 32) hx hb d_Ch_codeOfDigit_55 (by decide) ?_
          exact zret_i C0 hr hAe hP hD hS ⟨by unfold cod; rw [if_neg h2, if_pos (by omega), if_neg h7], rfl⟩ d_Ch_codeOfDigit_57
        · skip
          have h7 : ((nu 0 / 10 ^ q % 10) = 9) := (nI_eq (by omega) (by omega)).mp h7
          refine lv_bipush (v := nI 45) hx hb d_Ch_codeOfDigit_50 (by decide) ?_
          refine lv_goto (tgt := 57) hx hb d_Ch_codeOfDigit_52 (by decide) ?_
          exact zret_i C0 hr hAe hP hD hS ⟨by unfold cod; rw [if_neg h2, if_pos (by omega), if_pos h7], rfl⟩ d_Ch_codeOfDigit_57
  · skip
    have h2 : ((nu 1 / 10 ^ q % 10) = 9) := (nI_eq (by omega) (by omega)).mp h2
    refine lv_bipush (v := nI 32) hx hb d_Ch_codeOfDigit_17 (by decide) ?_
    exact zret_i C0 hr hAe hP hD hS ⟨by unfold cod; rw [if_pos h2], rfl⟩ d_Ch_codeOfDigit_19
set_option maxHeartbeats 4000000 in
set_option maxRecDepth 100000 in
theorem m_Ch_display (l : Launch) (D : va_G) (ca : Nat → ClassId) (k : Nat → Nat) (sz : Nat) (ad : Nat → Nat) (tx : Nat → Nat) (ln : Nat) (lb : Nat → Int32) (bg : Nat → Nat) (ch : Int32) (ct : Nat) (ia : Int32) (wo : Nat → Nat) (me nu ro : Nat → Nat) (un li pt : Nat) (st : Int32) (cy pl bk en kc : Nat) (x : Int32) (hn : ∀ j, nu j < 10 ^ 14) : Met l y_Ch_display (zw y_Ch_display c_Ch_display 2 (some .int)) { frames := 2, cells := 0, slots := 0, locals := 44 } (va_Pc [.ref (ad 0), .int x] (zPre D (zty ca) k (wX ad ca  ++ (wA ad ca tx ln lb bg ch ct ia ++ (wW ad ca wo ++ (wP ad ca me nu ro un li pt st cy pl bk en kc)))) sz)) (va_Qi (fun r w => r = dsp x nu ∧ w = wX ad ca ++ (wA ad ca tx ln lb bg ch ct ia ++ (wW ad ca wo ++ (wP ad ca me nu ro un li pt st cy pl bk en kc)))) (zB D (zty ca) (wX ad ca  ++ (wA ad ca tx ln lb bg ch ct ia ++ (wW ad ca wo ++ (wP ad ca me nu ro un li pt st cy pl bk en kc)))) sz) (va_A (wX ad ca  ++ (wA ad ca tx ln lb bg ch ct ia ++ (wW ad ca wo ++ (wP ad ca me nu ro un li pt st cy pl bk en kc)))) sz)) 0 0 (va_A (wX ad ca  ++ (wA ad ca tx ln lb bg ch ct ia ++ (wW ad ca wo ++ (wP ad ca me nu ro un li pt st cy pl bk en kc)))) sz) := by
  refine zOf (own := "DigitChip") (by decide +kernel) rfl (Nat.le_of_ble_eq_true rfl) ?_
  intro p e s m below meth c A ls C0 hr hnm hAe hsz hl hP hD hS
  have hl : lv_has ls 2 [(0, .ref (ad 0)), (1, .int x)] := hl
  obtain ⟨hx, hb, hml, hown, ht, hK, hX, hA, hlk⟩ := id C0
  refine lv_iload_n hx hb d_Ch_display_0 rfl (lv_at hl 1 rfl) ?_
  refine lv_bipush (v := nI 14) hx hb d_Ch_display_1 (by decide) ?_
  refine lv_icmp_ne (tgt := 11) hx hb d_Ch_display_3 (by decide) (fun h1 => ?_) (fun h1 => ?_)
  · skip
    refine lv_iload_n hx hb d_Ch_display_11 rfl (lv_at hl 1 rfl) ?_
    refine lv_if_lt (tgt := 32) hx hb d_Ch_display_12 (by decide) (fun h2 => ?_) (fun h2 => ?_)
    · skip
      refine lv_iconst (v := (-1)) hx hb d_Ch_display_32 (by decide) ?_
      exact zret_i C0 hr hAe hP hD hS ⟨by unfold dsp; rw [if_neg h1, if_neg (dR_1 h2)], rfl⟩ d_Ch_display_33
    · skip
      obtain ⟨j, hj, rfl⟩ := nI_of h2
      refine lv_iload_n hx hb d_Ch_display_15 rfl (lv_at hl 1 rfl) ?_
      refine lv_bipush (v := nI 14) hx hb d_Ch_display_16 (by decide) ?_
      refine lv_icmp_ge (tgt := 32) hx hb d_Ch_display_18 (by decide) (fun h3 => ?_) (fun h3 => ?_)
      · skip
        have h3 : (14 ≤ j) := (nI_leI (by omega) (by omega)).mp h3
        refine lv_iconst (v := (-1)) hx hb d_Ch_display_32 (by decide) ?_
        exact zret_i C0 hr hAe hP hD hS ⟨by unfold dsp; rw [if_neg h1, if_neg (dR_2 (by decide) (by omega) (by omega))], rfl⟩ d_Ch_display_33
      · skip
        have h3 : ¬ (14 ≤ j) := fun z => h3 ((nI_leI (by omega) (by omega)).mpr z)
        refine lv_aload_n hx hb d_Ch_display_21 rfl (lv_at hl 0 rfl) ?_
        refine lv_bipush (v := nI 13) hx hb d_Ch_display_22 (by decide) ?_
        refine lv_iload_n hx hb d_Ch_display_24 rfl (lv_at hl 1 rfl) ?_
        refine lv_isub hx hb d_Ch_display_25 ?_
        refine zti (y := nI (13 - j)) (pk_sub (by omega)) ?_
        refine zgo_i (wr := []) C0 (zrunV (na := 1) (As := [.int (nI (13 - j))]) (rest := []) C0 hP hD hS [0, 1, 2, 3, 4, 5, 6, 7, 8, 9, 10, 11] rfl rfl (m_Ch_codeOfDigit l D ca k s.heap.size ad tx ln lb bg ch ct ia wo me nu ro un li pt st cy pl bk en kc (13 - j) (by omega) hn) (zg_V q228 q230 q799 q1 q231) (by decide +kernel) rfl rfl ⟨by decide, by decide⟩ 0 rfl rfl rfl hl.1 rfl (Nat.le_of_ble_eq_true rfl) d_Ch_display_26 ⟨Nat.zero_le _, Nat.zero_le _⟩) hP hD hS [0, 1, 2, 3, 4, 5, 6, 7, 8, 9, 10, 11] [] rfl rfl (by decide) (by decide) (fun r4 w1 H locs hw hP hD hS => ?_)
        obtain ⟨rfl, rfl⟩ := hw
        have hP : va_P D vCl (wX ad ca  ++ (wA ad ca tx ln lb bg ch ct ia ++ (wW ad ca wo ++ (wP ad ca me nu ro un li pt st cy pl bk en kc)))) H := hP
        have hD : va_D A (wX ad ca  ++ (wA ad ca tx ln lb bg ch ct ia ++ (wW ad ca wo ++ (wP ad ca me nu ro un li pt st cy pl bk en kc)))) := hD
        refine lv_goto (tgt := 33) hx hb d_Ch_display_29 (by decide) ?_
        exact zret_i C0 hr hAe hP hD hS ⟨by unfold dsp; rw [if_neg h1, if_pos (dR_y (by omega) (by decide)), nI_clamp (by omega)], rfl⟩ d_Ch_display_33
  · skip
    refine lv_aload_n hx hb d_Ch_display_6 rfl (lv_at hl 0 rfl) ?_
    refine zgo_i (wr := []) C0 (zrunV (na := 0) (As := []) (rest := []) C0 hP hD hS [0, 1, 2, 3, 4, 5, 6, 7, 8, 9, 10, 11] rfl rfl (m_Ch_digitBeforePoint l D ca k s.heap.size ad tx ln lb bg ch ct ia wo me nu ro un li pt st cy pl bk en kc hn) (zg_V q218 q220 q798 q1 q221) (by decide +kernel) rfl rfl ⟨by decide, by decide⟩ 0 rfl rfl rfl hl.1 rfl (Nat.le_of_ble_eq_true rfl) d_Ch_display_7 ⟨Nat.zero_le _, Nat.zero_le _⟩) hP hD hS [0, 1, 2, 3, 4, 5, 6, 7, 8, 9, 10, 11] [] rfl rfl (by decide) (by decide) (fun r5 w1 H locs hw hP hD hS => ?_)
    obtain ⟨rfl, rfl⟩ := hw
    have hP : va_P D vCl (wX ad ca  ++ (wA ad ca tx ln lb bg ch ct ia ++ (wW ad ca wo ++ (wP ad ca me nu ro un li pt st cy pl bk en kc)))) H := hP
    have hD : va_D A (wX ad ca  ++ (wA ad ca tx ln lb bg ch ct ia ++ (wW ad ca wo ++ (wP ad ca me nu ro un li pt st cy pl bk en kc)))) := hD
    exact zret_i C0 hr hAe hP hD hS ⟨by unfold dsp; rw [if_pos h1], rfl⟩ d_Ch_display_10
