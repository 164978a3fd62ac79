set_option maxHeartbeats 4000000 in
set_option maxRecDepth 100000 in
theorem m_Mo_assemble (l : Launch) (D : va_G) (ca : Nat → ClassId) (k : Nat → Nat) (sz : Nat) (ad : Nat → Nat) (cd : Nat) (po nu : Nat → Nat) (pt : Nat) (st : Int32) (cy pl bk : Nat) (me : Nat → Nat) (kc : Nat) (ro : Nat → Nat) (en un li tn : Nat) (tx : Nat → Nat) (ia : Int32) (ct : Nat) (md : Nat → Nat) (lb wn : Nat → Int32) (hln : tn ≤ 240) (htx : ∀ j, tx j < 127) : Met l y_Mo_assemble (zw y_Mo_assemble c_Mo_assemble 2 (some .int)) { frames := 4, cells := 0, slots := 0, locals := 100 } (va_Pc [.ref (ad 12)] (zPre D (zty ca) k (wM ad ca cd po nu pt st cy pl bk me kc ro en un li tn tx ia ct md lb wn) sz)) (va_Qi (fun r w => (∃ T, asM tx tn lb md wn = ((-1), T) ∧ T.2.1 ≤ 64 ∧ r = nI T.2.1 ∧ w = wM ad ca 0 po nu pt st cy 0 bk (ldM T.2.2.1 T.2.1 me 64) kc ro en un li 0 tx (-1) ((T).2.1) ((T).2.2.1) ((T).1) ((T).2.2.2)) ∨ (∃ b T, asM tx tn lb md wn = (nI b, T) ∧ b < 240 ∧ r = nI 0 ∧ w = wM ad ca 1 po nu pt st cy pl bk me kc ro en un li 0 tx (nI b) ((T).2.1) ((T).2.2.1) ((T).1) ((T).2.2.2))) (zB D (zty ca) (wM ad ca cd po nu pt st cy pl bk me kc ro en un li tn tx ia ct md lb wn) sz) (va_A (wM ad ca cd po nu pt st cy pl bk me kc ro en un li tn tx ia ct md lb wn) sz)) 0 0 (va_A (wM ad ca cd po nu pt st cy pl bk me kc ro en un li tn tx ia ct md lb wn) sz) := by
  refine zOf (own := "DigitChipModel") (by decide +kernel) rfl (Nat.le_of_ble_eq_true rfl) ?_
  intro p e s m below meth c A ls C0 hr hnm hAe hsz hl hP hD hS
  have hl : lv_has ls 2 [(0, .ref (ad 12))] := hl
  obtain ⟨hx, hb, hml, hown, ht, hK, hX, hA, hlk⟩ := id C0
  refine lv_aload_n hx hb d_Mo_assemble_0 rfl (lv_at hl 0 rfl) ?_
  refine lv_aload_n hx hb d_Mo_assemble_1 rfl (lv_at hl 0 rfl) ?_
  refine zgo_i (wr := []) C0 (zrunV (na := 0) (As := []) (rest := [.ref (ad 12)]) C0 hP hD hS [0, 1, 2, 3, 4, 5, 6, 7, 8] rfl rfl (m_Mo_read l D ca k s.heap.size ad cd po nu pt st cy pl bk me kc ro en un li tn tx ia ct md lb wn (by omega) htx) (zg_V q670 q672 q835 q7 q673) (by decide +kernel) rfl rfl ⟨by decide, by decide⟩ 0 rfl rfl rfl hl.1 rfl (Nat.le_of_ble_eq_true rfl) d_Mo_assemble_2 ⟨Nat.zero_le _, Nat.zero_le _⟩) hP hD hS [0, 1, 2, 3, 4, 5, 6, 7, 8] [] rfl rfl (by decide) (by decide) (fun r1 w1 H locs hw hP hD hS => ?_)
  rcases hw with ⟨T1, hT1, hct1, rfl, rfl⟩ | ⟨b1, T1, hT1, hb1, hct1, rfl, rfl⟩
  · skip
    have hP : va_P D vCl (wM ad ca cd po nu pt st cy pl bk me kc ro en un li tn tx ia T1.2.1 T1.2.2.1 T1.1 T1.2.2.2) H := hP
    have hD : va_D A (wM ad ca cd po nu pt st cy pl bk me kc ro en un li tn tx ia T1.2.1 T1.2.2.1 T1.1 T1.2.2.2) := hD
    refine va_put (D := D) (ci := 5) (v := .int (-1)) (ty := .int) (C := RMo) (T := TMo) (N := 21) hx hb ht inMo tyMo tyMo_ok nmMo hown hK hP hD hS 0 rfl rfl 16 (by decide) (ht _ q562) (fun _ h9 => h9) rfl (by decide +kernel) rfl rfl (Nat.le_of_ble_eq_true rfl) d_Mo_assemble_5 (fun H locs hP hD hS => ?_)
    have hP : va_P D vCl (wM ad ca cd po nu pt st cy pl bk me kc ro en un li tn tx (-1) T1.2.1 T1.2.2.1 T1.1 T1.2.2.2) H := hP
    have hD : va_D A (wM ad ca cd po nu pt st cy pl bk me kc ro en un li tn tx (-1) T1.2.1 T1.2.2.1 T1.1 T1.2.2.2) := hD
    refine lv_aload_n hx hb d_Mo_assemble_8 rfl (lv_at hl 0 rfl) ?_
    refine lv_iconst (v := nI 0) hx hb d_Mo_assemble_9 (by decide) ?_
    refine va_put (D := D) (ci := 5) (v := .int (nI 0)) (ty := .int) (C := RMo) (T := TMo) (N := 21) hx hb ht inMo tyMo tyMo_ok nmMo hown hK hP hD hS 0 rfl rfl 14 (by decide) (ht _ q560) (fun _ h9 => h9) rfl (by decide +kernel) rfl rfl (Nat.le_of_ble_eq_true rfl) d_Mo_assemble_10 (fun H locs hP hD hS => ?_)
    have hP : va_P D vCl (wM ad ca cd po nu pt st cy pl bk me kc ro en un li 0 tx (-1) T1.2.1 T1.2.2.1 T1.1 T1.2.2.2) H := hP
    have hD : va_D A (wM ad ca cd po nu pt st cy pl bk me kc ro en un li 0 tx (-1) T1.2.1 T1.2.2.1 T1.1 T1.2.2.2) := hD
    refine lv_aload_n hx hb d_Mo_assemble_13 rfl (lv_at hl 0 rfl) ?_
    refine lv_aload_n hx hb d_Mo_assemble_14 rfl (lv_at hl 0 rfl) ?_
    refine va_get (D := D) (ci := 5) (v := .int (-1)) (C := RMo) (T := TMo) (N := 21) hx hb ht inMo hown hK hP 0 rfl rfl 16 (by decide) (ht _ q562) (fun _ h9 => h9) rfl d_Mo_assemble_15 ?_
    refine lv_if_lt (tgt := 25) hx hb d_Mo_assemble_18 (by decide) (fun _ => ?_) (fun h2 => absurd (by decide) h2)
    refine lv_iconst (v := nI 0) hx hb d_Mo_assemble_25 (by decide) ?_
    refine va_put (D := D) (ci := 5) (v := .int (nI 0)) (ty := .int) (C := RMo) (T := TMo) (N := 21) hx hb ht inMo tyMo tyMo_ok nmMo hown hK hP hD hS 0 rfl rfl 0 (by decide) (ht _ q546) (fun _ h9 => h9) rfl (by decide +kernel) rfl rfl (Nat.le_of_ble_eq_true rfl) d_Mo_assemble_26 (fun H locs hP hD hS => ?_)
    have hP : va_P D vCl (wM ad ca 0 po nu pt st cy pl bk me kc ro en un li 0 tx (-1) T1.2.1 T1.2.2.1 T1.1 T1.2.2.2) H := hP
    have hD : va_D A (wM ad ca 0 po nu pt st cy pl bk me kc ro en un li 0 tx (-1) T1.2.1 T1.2.2.1 T1.1 T1.2.2.2) := hD
    refine lv_aload_n hx hb d_Mo_assemble_29 rfl (lv_at hl 0 rfl) ?_
    refine va_get (D := D) (ci := 5) (v := .int (nI 0)) (C := RMo) (T := TMo) (N := 21) hx hb ht inMo hown hK hP 0 rfl rfl 0 (by decide) (ht _ q546) (fun _ h9 => h9) rfl d_Mo_assemble_30 ?_
    refine lv_if_eq (tgt := 38) hx hb d_Mo_assemble_33 (by decide) (fun _ => ?_) (fun h3 => absurd (by decide) h3)
    refine lv_iconst (v := nI 0) hx hb d_Mo_assemble_38 (by decide) ?_
    refine lv_istore_n hx hb d_Mo_assemble_39 rfl hl (by decide) rfl (fun ls hl => ?_)
    have hl : lv_has ls 2 [(1, .int (nI 0)), (0, .ref (ad 12))] := hl
    rw [← ldM_0 (co := T1.2.2.1) (n := T1.2.1) (me := me)] at hP hD
    have loop_lp : ∀ (n_lp : Nat) (i : Nat) (H : Heap) (locs : List Loc) (ls : Array Slot), 64 - i < n_lp → (i ≤ 64) → lv_has ls 2 [(1, .int (nI i)), (0, .ref (ad 12))] → va_P D vCl (wM ad ca 0 po nu pt st cy pl bk (ldM T1.2.2.1 T1.2.1 me i) kc ro en un li 0 tx (-1) T1.2.1 T1.2.2.1 T1.1 T1.2.2.2) H → va_D A (wM ad ca 0 po nu pt st cy pl bk (ldM T1.2.2.1 T1.2.1 me i) kc ro en un li 0 tx (-1) T1.2.1 T1.2.2.1 T1.1 T1.2.2.2) → va_S A s.heap H locs → W p l e { frames := 4, cells := 0, slots := 0, locals := 100 } s m ([.ref (ad 12)] : List Value).toArray below meth c H locs 0 0 (MQ below (va_Qi (fun r w => (∃ T, asM tx tn lb md wn = ((-1), T) ∧ T.2.1 ≤ 64 ∧ r = nI T.2.1 ∧ w = wM ad ca 0 po nu pt st cy 0 bk (ldM T.2.2.1 T.2.1 me 64) kc ro en un li 0 tx (-1) ((T).2.1) ((T).2.2.1) ((T).1) ((T).2.2.2)) ∨ (∃ b T, asM tx tn lb md wn = (nI b, T) ∧ b < 240 ∧ r = nI 0 ∧ w = wM ad ca 1 po nu pt st cy pl bk me kc ro en un li 0 tx (nI b) ((T).2.1) ((T).2.2.1) ((T).1) ((T).2.2.2))) (zB D (zty ca) (wM ad ca cd po nu pt st cy pl bk me kc ro en un li tn tx ia ct md lb wn) sz) (va_A (wM ad ca cd po nu pt st cy pl bk me kc ro en un li tn tx ia ct md lb wn) sz)) ([.ref (ad 12)] : List Value).toArray s 0 0 (va_A (wM ad ca cd po nu pt st cy pl bk me kc ro en un li tn tx ia ct md lb wn) sz)) (F0 m 40 ls []) := by
      intro n_lp
      induction n_lp with
      | zero => intro i H locs ls hm; exact absurd hm (Nat.not_lt_zero _)
      | succ n_lp ih_lp =>
        intro i H locs ls hm hi hl hP hD hS
        refine lv_iload_n hx hb d_Mo_assemble_40 rfl (lv_at hl 0 rfl) ?_
        refine lv_bipush (v := nI 64) hx hb d_Mo_assemble_41 (by decide) ?_
        refine lv_icmp_ge (tgt := 76) hx hb d_Mo_assemble_43 (by decide) (fun h4 => ?_) (fun h4 => ?_)
        · skip
          have h4 : (64 ≤ i) := (nI_leI (by omega) (by omega)).mp h4
          refine lv_aload_n hx hb d_Mo_assemble_76 rfl (lv_at hl 1 rfl) ?_
          refine lv_iconst (v := nI 0) hx hb d_Mo_assemble_77 (by decide) ?_
          refine va_put (D := D) (ci := 5) (v := .int (nI 0)) (ty := .int) (C := RMo) (T := TMo) (N := 21) hx hb ht inMo tyMo tyMo_ok nmMo hown hK hP hD hS 0 rfl rfl 6 (by decide) (ht _ q552) (fun _ h9 => h9) rfl (by decide +kernel) rfl rfl (Nat.le_of_ble_eq_true rfl) d_Mo_assemble_78 (fun H locs hP hD hS => ?_)
          have hP : va_P D vCl (wM ad ca 0 po nu pt st cy 0 bk (ldM T1.2.2.1 T1.2.1 me i) kc ro en un li 0 tx (-1) T1.2.1 T1.2.2.1 T1.1 T1.2.2.2) H := hP
          have hD : va_D A (wM ad ca 0 po nu pt st cy 0 bk (ldM T1.2.2.1 T1.2.1 me i) kc ro en un li 0 tx (-1) T1.2.1 T1.2.2.1 T1.1 T1.2.2.2) := hD
          refine lv_aload_n hx hb d_Mo_assemble_81 rfl (lv_at hl 1 rfl) ?_
          refine va_get (D := D) (ci := 5) (v := .int (nI T1.2.1)) (C := RMo) (T := TMo) (N := 21) hx hb ht inMo hown hK hP 0 rfl rfl 17 (by decide) (ht _ q563) (fun _ h9 => h9) rfl d_Mo_assemble_82 ?_
          obtain rfl : i = 64 := by omega
          exact zret_i C0 hr hAe hP hD hS (Or.inl ⟨T1, hT1, hct1, rfl, rfl⟩) d_Mo_assemble_85
        · skip
          have h4 : ¬ (64 ≤ i) := fun z => h4 ((nI_leI (by omega) (by omega)).mpr z)
          refine lv_aload_n hx hb d_Mo_assemble_46 rfl (lv_at hl 1 rfl) ?_
          refine va_get (D := D) (ci := 5) (v := .ref (ad 15)) (C := RMo) (T := TMo) (N := 21) hx hb ht inMo hown hK hP 0 rfl rfl 8 (by decide) (ht _ q554) (fun _ h9 => h9) rfl d_Mo_assemble_47 ?_
          refine lv_iload_n hx hb d_Mo_assemble_50 rfl (lv_at hl 0 rfl) ?_
          refine lv_iload_n hx hb d_Mo_assemble_51 rfl (lv_at hl 0 rfl) ?_
          refine lv_aload_n hx hb d_Mo_assemble_52 rfl (lv_at hl 1 rfl) ?_
          refine va_get (D := D) (ci := 5) (v := .int (nI T1.2.1)) (C := RMo) (T := TMo) (N := 21) hx hb ht inMo hown hK hP 0 rfl rfl 17 (by decide) (ht _ q563) (fun _ h9 => h9) rfl d_Mo_assemble_53 ?_
          refine lv_icmp_ge (tgt := 68) hx hb d_Mo_assemble_56 (by decide) (fun h5 => ?_) (fun h5 => ?_)
          · skip
            have h5 : (T1.2.1 ≤ i) := (nI_leI (by omega) (by omega)).mp h5
            refine lv_iconst (v := nI 0) hx hb d_Mo_assemble_68 (by decide) ?_
            refine va_iast hx hb hK hP hD hS 3 0 rfl rfl (vp_in_nI (n := i) (by omega) (by decide)) d_Mo_assemble_69 (fun H locs hP hD hS => ?_)
            rw [nF_up (by omega)] at hP hD
            have hP : va_P D vCl (wM ad ca 0 po nu pt st cy pl bk (uN (ldM T1.2.2.1 T1.2.1 me i) i 0) kc ro en un li 0 tx (-1) T1.2.1 T1.2.2.1 T1.1 T1.2.2.2) H := hP
            have hD : va_D A (wM ad ca 0 po nu pt st cy pl bk (uN (ldM T1.2.2.1 T1.2.1 me i) i 0) kc ro en un li 0 tx (-1) T1.2.1 T1.2.2.1 T1.1 T1.2.2.2) := hD
            refine lv_iinc (k := 0) (v := nI (i + 1)) hx hb d_Mo_assemble_70 hl rfl (zinc _) (by decide) rfl (fun ls hl => ?_)
            have hl : lv_has ls 2 [(1, .int (nI (i + 1))), (0, .ref (ad 12))] := hl
            refine lv_goto (tgt := 40) hx hb d_Mo_assemble_73 (by decide) ?_
            have e0 : uN (ldM T1.2.2.1 T1.2.1 me i) i (0) = ldM T1.2.2.1 T1.2.1 me (i + 1) := by rw [← ldM_step, if_neg (by omega)]
            rw [e0] at hP hD
            exact ih_lp (i + 1) H locs ls (by omega) (by omega) hl hP hD hS
          · skip
            have h5 : ¬ (T1.2.1 ≤ i) := fun z => h5 ((nI_leI (by omega) (by omega)).mpr z)
            refine lv_aload_n hx hb d_Mo_assemble_59 rfl (lv_at hl 1 rfl) ?_
            refine va_get (D := D) (ci := 5) (v := .ref (ad 18)) (C := RMo) (T := TMo) (N := 21) hx hb ht inMo hown hK hP 0 rfl rfl 18 (by decide) (ht _ q564) (fun _ h9 => h9) rfl d_Mo_assemble_60 ?_
            refine lv_iload_n hx hb d_Mo_assemble_63 rfl (lv_at hl 0 rfl) ?_
            refine va_iald hx hb hK hP 6 0 rfl rfl (vp_in_nI (n := i) (by omega) (by decide)) d_Mo_assemble_64 ?_
            refine zti (y := nI (T1.2.2.1 i)) (nF_at (by omega)) ?_
            refine lv_goto (tgt := 69) hx hb d_Mo_assemble_65 (by decide) ?_
            refine va_iast hx hb hK hP hD hS 3 0 rfl rfl (vp_in_nI (n := i) (by omega) (by decide)) d_Mo_assemble_69 (fun H locs hP hD hS => ?_)
            rw [nF_up (by omega)] at hP hD
            have hP : va_P D vCl (wM ad ca 0 po nu pt st cy pl bk (uN (ldM T1.2.2.1 T1.2.1 me i) i (T1.2.2.1 i)) kc ro en un li 0 tx (-1) T1.2.1 T1.2.2.1 T1.1 T1.2.2.2) H := hP
            have hD : va_D A (wM ad ca 0 po nu pt st cy pl bk (uN (ldM T1.2.2.1 T1.2.1 me i) i (T1.2.2.1 i)) kc ro en un li 0 tx (-1) T1.2.1 T1.2.2.1 T1.1 T1.2.2.2) := hD
            refine lv_iinc (k := 0) (v := nI (i + 1)) hx hb d_Mo_assemble_70 hl rfl (zinc _) (by decide) rfl (fun ls hl => ?_)
            have hl : lv_has ls 2 [(1, .int (nI (i + 1))), (0, .ref (ad 12))] := hl
            refine lv_goto (tgt := 40) hx hb d_Mo_assemble_73 (by decide) ?_
            have e0 : uN (ldM T1.2.2.1 T1.2.1 me i) i (T1.2.2.1 i) = ldM T1.2.2.1 T1.2.1 me (i + 1) := by rw [← ldM_step, if_pos (by omega)]
            rw [e0] at hP hD
            exact ih_lp (i + 1) H locs ls (by omega) (by omega) hl hP hD hS
    exact loop_lp (65) 0 _ _ _ (by omega) (by omega) (lv_sub hl [0, 1] rfl) hP hD hS
  · skip
    have hP : va_P D vCl (wM ad ca cd po nu pt st cy pl bk me kc ro en un li tn tx ia T1.2.1 T1.2.2.1 T1.1 T1.2.2.2) H := hP
    have hD : va_D A (wM ad ca cd po nu pt st cy pl bk me kc ro en un li tn tx ia T1.2.1 T1.2.2.1 T1.1 T1.2.2.2) := hD
    refine va_put (D := D) (ci := 5) (v := .int (nI b1)) (ty := .int) (C := RMo) (T := TMo) (N := 21) hx hb ht inMo tyMo tyMo_ok nmMo hown hK hP hD hS 0 rfl rfl 16 (by decide) (ht _ q562) (fun _ h9 => h9) rfl (by decide +kernel) rfl rfl (Nat.le_of_ble_eq_true rfl) d_Mo_assemble_5 (fun H locs hP hD hS => ?_)
    have hP : va_P D vCl (wM ad ca cd po nu pt st cy pl bk me kc ro en un li tn tx (nI b1) T1.2.1 T1.2.2.1 T1.1 T1.2.2.2) H := hP
    have hD : va_D A (wM ad ca cd po nu pt st cy pl bk me kc ro en un li tn tx (nI b1) T1.2.1 T1.2.2.1 T1.1 T1.2.2.2) := hD
    refine lv_aload_n hx hb d_Mo_assemble_8 rfl (lv_at hl 0 rfl) ?_
    refine lv_iconst (v := nI 0) hx hb d_Mo_assemble_9 (by decide) ?_
    refine va_put (D := D) (ci := 5) (v := .int (nI 0)) (ty := .int) (C := RMo) (T := TMo) (N := 21) hx hb ht inMo tyMo tyMo_ok nmMo hown hK hP hD hS 0 rfl rfl 14 (by decide) (ht _ q560) (fun _ h9 => h9) rfl (by decide +kernel) rfl rfl (Nat.le_of_ble_eq_true rfl) d_Mo_assemble_10 (fun H locs hP hD hS => ?_)
    have hP : va_P D vCl (wM ad ca cd po nu pt st cy pl bk me kc ro en un li 0 tx (nI b1) T1.2.1 T1.2.2.1 T1.1 T1.2.2.2) H := hP
    have hD : va_D A (wM ad ca cd po nu pt st cy pl bk me kc ro en un li 0 tx (nI b1) T1.2.1 T1.2.2.1 T1.1 T1.2.2.2) := hD
    refine lv_aload_n hx hb d_Mo_assemble_13 rfl (lv_at hl 0 rfl) ?_
    refine lv_aload_n hx hb d_Mo_assemble_14 rfl (lv_at hl 0 rfl) ?_
    refine va_get (D := D) (ci := 5) (v := .int (nI b1)) (C := RMo) (T := TMo) (N := 21) hx hb ht inMo hown hK hP 0 rfl rfl 16 (by decide) (ht _ q562) (fun _ h9 => h9) rfl d_Mo_assemble_15 ?_
    refine lv_if_lt (tgt := 25) hx hb d_Mo_assemble_18 (by decide) (fun h6 => (nI_pos (by omega) h6).elim) (fun _ => ?_)
    refine lv_iconst (v := nI 1) hx hb d_Mo_assemble_21 (by decide) ?_
    refine lv_goto (tgt := 26) hx hb d_Mo_assemble_22 (by decide) ?_
    refine va_put (D := D) (ci := 5) (v := .int (nI 1)) (ty := .int) (C := RMo) (T := TMo) (N := 21) hx hb ht inMo tyMo tyMo_ok nmMo hown hK hP hD hS 0 rfl rfl 0 (by decide) (ht _ q546) (fun _ h9 => h9) rfl (by decide +kernel) rfl rfl (Nat.le_of_ble_eq_true rfl) d_Mo_assemble_26 (fun H locs hP hD hS => ?_)
    have hP : va_P D vCl (wM ad ca 1 po nu pt st cy pl bk me kc ro en un li 0 tx (nI b1) T1.2.1 T1.2.2.1 T1.1 T1.2.2.2) H := hP
    have hD : va_D A (wM ad ca 1 po nu pt st cy pl bk me kc ro en un li 0 tx (nI b1) T1.2.1 T1.2.2.1 T1.1 T1.2.2.2) := hD
    refine lv_aload_n hx hb d_Mo_assemble_29 rfl (lv_at hl 0 rfl) ?_
    refine va_get (D := D) (ci := 5) (v := .int (nI 1)) (C := RMo) (T := TMo) (N := 21) hx hb ht inMo hown hK hP 0 rfl rfl 0 (by decide) (ht _ q546) (fun _ h9 => h9) rfl d_Mo_assemble_30 ?_
    refine lv_if_eq (tgt := 38) hx hb d_Mo_assemble_33 (by decide) (fun h7 => absurd h7 (by decide)) (fun _ => ?_)
    refine lv_iconst (v := nI 0) hx hb d_Mo_assemble_36 (by decide) ?_
    exact zret_i C0 hr hAe hP hD hS (Or.inr ⟨b1, T1, hT1, hb1, rfl, rfl⟩) d_Mo_assemble_37
