set_option maxHeartbeats 4000000 in
set_option maxRecDepth 100000 in
theorem m_Pr_load (l : Launch) (D : va_G) (ca : Nat → ClassId) (k : Nat → Nat) (sz : Nat) (ad : Nat → Nat) (me nu ro : Nat → Nat) (un li pt : Nat) (st : Int32) (cy pl bk en kc : Nat) (wo : Nat → Nat) (co : Nat) (hco : co ≤ 64) : Met l y_Pr_load (zw y_Pr_load c_Pr_load 4 none) { frames := 0, cells := 0, slots := 0, locals := 0 } (va_Pc [.ref (ad 6), .ref (ad 5), .int (nI co)] (zPre D (zty ca) k (wW ad ca wo ++ (wP ad ca me nu ro un li pt st cy pl bk en kc)) sz)) (va_Qv (fun w => w = wW ad ca wo ++ (wP ad ca (ldM wo co me 64) nu ro un li pt st cy 0 bk en kc)) (zB D (zty ca) (wW ad ca wo ++ (wP ad ca me nu ro un li pt st cy pl bk en kc)) sz) (va_A (wW ad ca wo ++ (wP ad ca me nu ro un li pt st cy pl bk en kc)) sz)) 0 0 (va_A (wW ad ca wo ++ (wP ad ca me nu ro un li pt st cy pl bk en kc)) sz) := by
  refine zOf (own := "DigitChip$Processor") (by decide +kernel) rfl (Nat.le_of_ble_eq_true rfl) ?_
  intro p e s m below meth c A ls C0 hr hnm hAe hsz hl hP hD hS
  have hl : lv_has ls 4 [(0, .ref (ad 6)), (1, .ref (ad 5)), (2, .int (nI co))] := hl
  obtain ⟨hx, hb, hml, hown, ht, hK, hX, hA, hlk⟩ := id C0
  refine lv_iconst (v := nI 0) hx hb d_Pr_load_0 (by decide) ?_
  refine lv_istore_n hx hb d_Pr_load_1 rfl hl (by decide) rfl (fun ls hl => ?_)
  have hl : lv_has ls 4 [(3, .int (nI 0)), (0, .ref (ad 6)), (1, .ref (ad 5)), (2, .int (nI co))] := hl
  have loop_lp : ∀ (n_lp : Nat) (i : Nat) (H : Heap) (locs : List Loc) (ls : Array Slot), 64 - i < n_lp → (i ≤ 64) → lv_has ls 4 [(3, .int (nI i)), (0, .ref (ad 6)), (1, .ref (ad 5)), (2, .int (nI co))] → va_P D vCl (wW ad ca wo ++ (wP ad ca (ldM wo co me i) nu ro un li pt st cy pl bk en kc)) H → va_D A (wW ad ca wo ++ (wP ad ca (ldM wo co me i) nu ro un li pt st cy pl bk en kc)) → va_S A s.heap H locs → W p l e { frames := 0, cells := 0, slots := 0, locals := 0 } s m ([.ref (ad 6), .ref (ad 5), .int (nI co)] : List Value).toArray below meth c H locs 0 0 (MQ below (va_Qv (fun w => w = wW ad ca wo ++ (wP ad ca (ldM wo co me 64) nu ro un li pt st cy 0 bk en kc)) (zB D (zty ca) (wW ad ca wo ++ (wP ad ca me nu ro un li pt st cy pl bk en kc)) sz) (va_A (wW ad ca wo ++ (wP ad ca me nu ro un li pt st cy pl bk en kc)) sz)) ([.ref (ad 6), .ref (ad 5), .int (nI co)] : List Value).toArray s 0 0 (va_A (wW ad ca wo ++ (wP ad ca me nu ro un li pt st cy pl bk en kc)) sz)) (F0 m 2 ls []) := by
    intro n_lp
    induction n_lp with
    | zero => intro i H locs ls hm; exact absurd hm (Nat.not_lt_zero _)
    | succ n_lp ih_lp =>
      intro i H locs ls hm hi hl hP hD hS
      refine lv_iload_n hx hb d_Pr_load_2 rfl (lv_at hl 0 rfl) ?_
      refine lv_bipush (v := nI 64) hx hb d_Pr_load_3 (by decide) ?_
      refine lv_icmp_ge (tgt := 32) hx hb d_Pr_load_5 (by decide) (fun h1 => ?_) (fun h1 => ?_)
      · skip
        have h1 : (64 ≤ i) := (nI_leI (by omega) (by omega)).mp h1
        refine lv_aload_n hx hb d_Pr_load_32 rfl (lv_at hl 1 rfl) ?_
        refine lv_iconst (v := nI 0) hx hb d_Pr_load_33 (by decide) ?_
        refine va_put (D := D) (ci := 1) (v := .int (nI 0)) (ty := .int) (C := RPr) (T := TPr) (N := 9) hx hb ht inPr tyPr tyPr_ok nmPr hown hK hP hD hS 1 rfl rfl 6 (by decide) (ht _ q126) (fun _ h9 => h9) rfl (by decide +kernel) rfl rfl (Nat.le_of_ble_eq_true rfl) d_Pr_load_34 (fun H locs hP hD hS => ?_)
        have hP : va_P D vCl (wW ad ca wo ++ (wP ad ca (ldM wo co me i) nu ro un li pt st cy 0 bk en kc)) H := hP
        have hD : va_D A (wW ad ca wo ++ (wP ad ca (ldM wo co me i) nu ro un li pt st cy 0 bk en kc)) := hD
        exact zret_v C0 hr hAe hP hD hS (by rw [show i = 64 by omega]) d_Pr_load_37
      · skip
        have h1 : ¬ (64 ≤ i) := fun z => h1 ((nI_leI (by omega) (by omega)).mpr z)
        refine lv_aload_n hx hb d_Pr_load_8 rfl (lv_at hl 1 rfl) ?_
        refine va_get (D := D) (ci := 1) (v := .ref (ad 7)) (C := RPr) (T := TPr) (N := 9) hx hb ht inPr hown hK hP 1 rfl rfl 0 (by decide) (ht _ q114) (fun _ h9 => h9) rfl d_Pr_load_9 ?_
        refine lv_iload_n hx hb d_Pr_load_12 rfl (lv_at hl 0 rfl) ?_
        refine lv_iload_n hx hb d_Pr_load_13 rfl (lv_at hl 0 rfl) ?_
        refine lv_iload_n hx hb d_Pr_load_14 rfl (lv_at hl 3 rfl) ?_
        refine lv_icmp_ge (tgt := 24) hx hb d_Pr_load_15 (by decide) (fun h2 => ?_) (fun h2 => ?_)
        · skip
          have h2 : (co ≤ i) := (nI_leI (by omega) (by omega)).mp h2
          refine lv_iconst (v := nI 0) hx hb d_Pr_load_24 (by decide) ?_
          refine va_iast hx hb hK hP hD hS 2 0 rfl rfl (vp_in_nI (n := i) (by omega) (by decide)) d_Pr_load_25 (fun H locs hP hD hS => ?_)
          rw [nF_up (by omega)] at hP hD
          have hP : va_P D vCl (wW ad ca wo ++ (wP ad ca (uN (ldM wo co me i) i 0) nu ro un li pt st cy pl bk en kc)) H := hP
          have hD : va_D A (wW ad ca wo ++ (wP ad ca (uN (ldM wo co me i) i 0) nu ro un li pt st cy pl bk en kc)) := hD
          refine lv_iinc (k := 0) (v := nI (i + 1)) hx hb d_Pr_load_26 hl rfl (zinc _) (by decide) rfl (fun ls hl => ?_)
          have hl : lv_has ls 4 [(3, .int (nI (i + 1))), (0, .ref (ad 6)), (1, .ref (ad 5)), (2, .int (nI co))] := hl
          refine lv_goto (tgt := 2) hx hb d_Pr_load_29 (by decide) ?_
          have e0 : uN (ldM wo co me i) i (0) = ldM wo co me (i + 1) := by rw [← ldM_step, if_neg (by omega)]
          rw [e0] at hP hD
          exact ih_lp (i + 1) H locs ls (by omega) (by omega) hl hP hD hS
        · skip
          have h2 : ¬ (co ≤ i) := fun z => h2 ((nI_leI (by omega) (by omega)).mpr z)
          refine lv_aload_n hx hb d_Pr_load_18 rfl (lv_at hl 2 rfl) ?_
          refine lv_iload_n hx hb d_Pr_load_19 rfl (lv_at hl 0 rfl) ?_
          refine va_iald hx hb hK hP 0 0 rfl rfl (vp_in_nI (n := i) (by omega) (by decide)) d_Pr_load_20 ?_
          refine zti (y := nI (wo i)) (nF_at (by omega)) ?_
          refine lv_goto (tgt := 25) hx hb d_Pr_load_21 (by decide) ?_
          refine va_iast hx hb hK hP hD hS 2 0 rfl rfl (vp_in_nI (n := i) (by omega) (by decide)) d_Pr_load_25 (fun H locs hP hD hS => ?_)
          rw [nF_up (by omega)] at hP hD
          have hP : va_P D vCl (wW ad ca wo ++ (wP ad ca (uN (ldM wo co me i) i (wo i)) nu ro un li pt st cy pl bk en kc)) H := hP
          have hD : va_D A (wW ad ca wo ++ (wP ad ca (uN (ldM wo co me i) i (wo i)) nu ro un li pt st cy pl bk en kc)) := hD
          refine lv_iinc (k := 0) (v := nI (i + 1)) hx hb d_Pr_load_26 hl rfl (zinc _) (by decide) rfl (fun ls hl => ?_)
          have hl : lv_has ls 4 [(3, .int (nI (i + 1))), (0, .ref (ad 6)), (1, .ref (ad 5)), (2, .int (nI co))] := hl
          refine lv_goto (tgt := 2) hx hb d_Pr_load_29 (by decide) ?_
          have e0 : uN (ldM wo co me i) i (wo i) = ldM wo co me (i + 1) := by rw [← ldM_step, if_pos (by omega)]
          rw [e0] at hP hD
          exact ih_lp (i + 1) H locs ls (by omega) (by omega) hl hP hD hS
  exact loop_lp (65) 0 _ _ _ (by omega) (by omega) (lv_sub hl [0, 1, 2, 3] rfl) hP hD hS
