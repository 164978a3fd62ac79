set_option maxHeartbeats 4000000 in
set_option maxRecDepth 100000 in
theorem m_SL_canEncode (l : Launch) (D : va_G) (ca : Nat → ClassId) (k : Nat → Nat) (sz : Nat) (ad : Nat → Nat) (c0 : Nat) (hc : c0 < 128) : Met l y_SL_canEncode (zw y_SL_canEncode c_SL_canEncode 1 (some .boolean)) { frames := 0, cells := 0, slots := 0, locals := 0 } (va_Pc [.int (nI c0)] (zPre D (zty ca) k ([]) sz)) (va_Qi (fun r w => r = nI 1 ∧ w = []) (zB D (zty ca) ([]) sz) (va_A ([]) sz)) 0 0 (va_A ([]) sz) := by
  refine zOfF (own := "java/lang/StringLatin1") (by decide +kernel) rfl (Nat.le_of_ble_eq_true rfl) ?_
  intro p e s m below meth c A ls C0 hr hnm hAe hsz hl hP hD hS
  have hl : lv_has ls 1 [(0, .int (nI c0))] := hl
  obtain ⟨hx, hb, hml, hown, ht, hK, hX, hA, hlk⟩ := id C0
  refine lv_iload_n hx hb d_SL_canEncode_0 rfl (lv_at hl 0 rfl) ?_
  refine lv_if_lt (tgt := 15) hx hb d_SL_canEncode_1 (by decide) (fun h1 => (nI_pos (by omega) h1).elim) (fun _ => ?_)
  refine lv_iload_n hx hb d_SL_canEncode_4 rfl (lv_at hl 0 rfl) ?_
  refine lv_sipush (v := nI 255) hx hb d_SL_canEncode_5 (by decide) ?_
  refine lv_icmp_gt (tgt := 15) hx hb d_SL_canEncode_8 (by decide) (fun h2 => ?_) (fun h2 => ?_)
  · skip
    have h2 : (255 < c0) := (nI_ltI (by omega) (by omega)).mp h2
    refine lv_iconst (v := nI 0) hx hb d_SL_canEncode_15 (by decide) ?_
    exact zret_z C0 hr (zbn (by omega)) hAe hP hD hS (by exfalso; omega) d_SL_canEncode_16
  · skip
    have h2 : ¬ (255 < c0) := fun z => h2 ((nI_ltI (by omega) (by omega)).mpr z)
    refine lv_iconst (v := nI 1) hx hb d_SL_canEncode_11 (by decide) ?_
    refine lv_goto (tgt := 16) hx hb d_SL_canEncode_12 (by decide) ?_
    exact zret_z C0 hr (zbn (by omega)) hAe hP hD hS ⟨rfl, rfl⟩ d_SL_canEncode_16
set_option maxHeartbeats 4000000 in
set_option maxRecDepth 100000 in
theorem m_SL_indexOfChar (l : Launch) (D : va_G) (ca : Nat → ClassId) (k : Nat → Nat) (sz : Nat) (ad : Nat → Nat) (sn : Nat) (hsn : sn < 7) (c0 : Nat) (hc : c0 < 128) : Met l y_SL_indexOfChar (zw y_SL_indexOfChar c_SL_indexOfChar 6 (some .int)) { frames := 0, cells := 0, slots := 0, locals := 0 } (va_Pc [.ref (k (sn + 8)), .int (nI c0), .int (nI 0), .int (nI ((zS sn).length))] (zPre D (zty ca) k ([]) sz)) (va_Qi (fun r w => r = ixR (ixO (zS sn) c0 0) ∧ w = []) (zB D (zty ca) ([]) sz) (va_A ([]) sz)) 0 0 (va_A ([]) sz) := by
  refine zOfF (own := "java/lang/StringLatin1") (by decide +kernel) rfl (Nat.le_of_ble_eq_true rfl) ?_
  intro p e s m below meth c A ls C0 hr hnm hAe hsz hl hP hD hS
  have hl : lv_has ls 6 [(0, .ref (k (sn + 8))), (1, .int (nI c0)), (2, .int (nI 0)), (3, .int (nI ((zS sn).length)))] := hl
  obtain ⟨hx, hb, hml, hown, ht, hK, hX, hA, hlk⟩ := id C0
  have hlen := zSl_all sn hsn
  refine lv_iload_n hx hb d_SL_indexOfChar_0 rfl (lv_at hl 1 rfl) ?_
  refine lv_i2b (v := nI c0) hx hb d_SL_indexOfChar_1 (zi2b (by omega)) ?_
  refine lv_istore hx hb d_SL_indexOfChar_2 hl (by decide) rfl (fun ls hl => ?_)
  have hl : lv_has ls 6 [(4, .int (nI c0)), (0, .ref (k (sn + 8))), (1, .int (nI c0)), (2, .int (nI 0)), (3, .int (nI ((zS sn).length)))] := hl
  refine lv_iload_n hx hb d_SL_indexOfChar_4 rfl (lv_at hl 3 rfl) ?_
  refine lv_istore hx hb d_SL_indexOfChar_5 hl (by decide) rfl (fun ls hl => ?_)
  have hl : lv_has ls 6 [(5, .int (nI 0)), (4, .int (nI c0)), (0, .ref (k (sn + 8))), (1, .int (nI c0)), (2, .int (nI 0)), (3, .int (nI ((zS sn).length)))] := hl
  have loop_lp : ∀ (n_lp : Nat) (i : Nat) (H : Heap) (locs : List Loc) (ls : Array Slot), (zS sn).length - i < n_lp → (i ≤ (zS sn).length) → (ixO (zS sn) c0 0 = ixO ((zS sn).drop i) c0 i) → lv_has ls 6 [(5, .int (nI i)), (4, .int (nI c0)), (0, .ref (k (sn + 8))), (1, .int (nI c0)), (2, .int (nI 0)), (3, .int (nI ((zS sn).length)))] → va_P D vCl ([]) H → va_D A ([]) → va_S A s.heap H locs → W p l e { frames := 0, cells := 0, slots := 0, locals := 0 } s m ([.ref (k (sn + 8)), .int (nI c0), .int (nI 0), .int (nI ((zS sn).length))] : List Value).toArray below meth c H locs 0 0 (MQ below (va_Qi (fun r w => r = ixR (ixO (zS sn) c0 0) ∧ w = []) (zB D (zty ca) ([]) sz) (va_A ([]) sz)) ([.ref (k (sn + 8)), .int (nI c0), .int (nI 0), .int (nI ((zS sn).length))] : List Value).toArray s 0 0 (va_A ([]) sz)) (F0 m 7 ls []) := by
    intro n_lp
    induction n_lp with
    | zero => intro i H locs ls hm; exact absurd hm (Nat.not_lt_zero _)
    | succ n_lp ih_lp =>
      intro i H locs ls hm hi hL hl hP hD hS
      have hcc : i < (zS sn).length → (zS sn).getD i 0 < 127 := fun h => (zS_c hsn h).2
      refine lv_iload hx hb d_SL_indexOfChar_7 (lv_at hl 0 rfl) ?_
      refine lv_iload_n hx hb d_SL_indexOfChar_9 rfl (lv_at hl 5 rfl) ?_
      refine lv_icmp_ge (tgt := 31) hx hb d_SL_indexOfChar_10 (by decide) (fun h1 => ?_) (fun h1 => ?_)
      · skip
        have h1 : (((zS sn).length) ≤ i) := (nI_leI (by omega) (by omega)).mp h1
        refine lv_iconst (v := (-1)) hx hb d_SL_indexOfChar_31 (by decide) ?_
        exact zret_i C0 hr hAe hP hD hS ⟨(by rw [hL, ix_e (by omega)]; rfl), rfl⟩ d_SL_indexOfChar_32
      · skip
        have h1 : ¬ (((zS sn).length) ≤ i) := fun z => h1 ((nI_leI (by omega) (by omega)).mpr z)
        refine lv_aload_n hx hb d_SL_indexOfChar_13 rfl (lv_at hl 2 rfl) ?_
        refine lv_iload hx hb d_SL_indexOfChar_14 (lv_at hl 0 rfl) ?_
        refine va_tb hx hb (zXs hX hsn).2.2 hS (vp_in_nI (n := i) (by omega) (zSl_all _ hsn)) (v := .int (nI ((zS sn).getD i 0))) (zsb (by omega)) d_SL_indexOfChar_16 ?_
        have hcd := hcc (by omega)
        refine lv_iload hx hb d_SL_indexOfChar_17 (lv_at hl 1 rfl) ?_
        refine lv_icmp_ne (tgt := 25) hx hb d_SL_indexOfChar_19 (by decide) (fun h2 => ?_) (fun h2 => ?_)
        · skip
          have h2 : ¬ (((zS sn).getD i 0) = c0) := fun z => h2 ((nI_eq (by omega) (by omega)).mpr z)
          refine lv_iinc (k := 0) (v := nI (i + 1)) hx hb d_SL_indexOfChar_25 hl rfl (zinc _) (by decide) rfl (fun ls hl => ?_)
          have hl : lv_has ls 6 [(5, .int (nI (i + 1))), (4, .int (nI c0)), (0, .ref (k (sn + 8))), (1, .int (nI c0)), (2, .int (nI 0)), (3, .int (nI ((zS sn).length)))] := hl
          refine lv_goto (tgt := 7) hx hb d_SL_indexOfChar_28 (by decide) ?_
          rw [ix_n (by omega) (by assumption)] at hL
          exact ih_lp (i + 1) H locs ls (by omega) (by omega) hL hl hP hD hS
        · skip
          have h2 : (((zS sn).getD i 0) = c0) := (nI_eq (by omega) (by omega)).mp h2
          refine lv_iload hx hb d_SL_indexOfChar_22 (lv_at hl 0 rfl) ?_
          exact zret_i C0 hr hAe hP hD hS ⟨(by rw [hL, ix_y (by omega) h2]; rfl), rfl⟩ d_SL_indexOfChar_24
  exact loop_lp ((zS sn).length + 1) 0 _ _ _ (by omega) (by omega) rfl (lv_sub hl [0, 1, 2, 3, 4, 5] rfl) hP hD hS
set_option maxHeartbeats 4000000 in
set_option maxRecDepth 100000 in
theorem m_SL_indexOf (l : Launch) (D : va_G) (ca : Nat → ClassId) (k : Nat → Nat) (sz : Nat) (ad : Nat → Nat) (sn : Nat) (hsn : sn < 7) (c0 : Nat) (hc : c0 < 128) : Met l y_SL_indexOf (zw y_SL_indexOf c_SL_indexOf 4 (some .int)) { frames := 1, cells := 0, slots := 0, locals := 25 } (va_Pc [.ref (k (sn + 8)), .int (nI c0), .int (nI 0), .int (nI ((zS sn).length))] (zPre D (zty ca) k ([]) sz)) (va_Qi (fun r w => r = ixR (ixO (zS sn) c0 0) ∧ w = []) (zB D (zty ca) ([]) sz) (va_A ([]) sz)) 0 0 (va_A ([]) sz) := by
  refine zOfF (own := "java/lang/StringLatin1") (by decide +kernel) rfl (Nat.le_of_ble_eq_true rfl) ?_
  intro p e s m below meth c A ls C0 hr hnm hAe hsz hl hP hD hS
  have hl : lv_has ls 4 [(0, .ref (k (sn + 8))), (1, .int (nI c0)), (2, .int (nI 0)), (3, .int (nI ((zS sn).length)))] := hl
  obtain ⟨hx, hb, hml, hown, ht, hK, hX, hA, hlk⟩ := id C0
  have hlen := zSl_all sn hsn
  refine lv_iload_n hx hb d_SL_indexOf_0 rfl (lv_at hl 1 rfl) ?_
  refine zgo_i (wr := []) C0 (zrunS (na := 1) (As := [.int (nI c0)]) (rest := []) C0 hP hD hS [] rfl rfl (m_SL_canEncode l D ca k s.heap.size ad c0 (by omega)) (zg_S q319 q320 q9 q321) (by decide +kernel) rfl rfl ⟨by decide, by decide⟩ rfl hl.1 rfl (Nat.le_of_ble_eq_true rfl) d_SL_indexOf_1 ⟨Nat.zero_le _, Nat.zero_le _⟩) hP hD hS [] [] rfl rfl (by decide) (by decide) (fun r1 w1 H locs hw hP hD hS => ?_)
  obtain ⟨rfl, rfl⟩ := hw
  have hP : va_P D vCl ([]) H := hP
  have hD : va_D A ([]) := hD
  refine lv_if_ne (tgt := 9) hx hb d_SL_indexOf_4 (by decide) (fun _ => ?_) (fun h2 => absurd h2 (by decide))
  refine lv_iload_n hx hb d_SL_indexOf_9 rfl (lv_at hl 2 rfl) ?_
  refine lv_iconst (v := nI 0) hx hb d_SL_indexOf_10 (by decide) ?_
  refine va_mmax hx hb (hml.trans hl.1.symm) hown (ht _ q322) (ht _ q323) (ht _ q12) (ht _ q324) (by decide) (Nat.le_of_ble_eq_true rfl) (Nat.zero_le _) (Nat.zero_le _) d_SL_indexOf_11 ?_
  refine zti (y := nI 0) (ite_self _) ?_
  refine lv_istore_n hx hb d_SL_indexOf_14 rfl hl (by decide) rfl (fun ls hl => ?_)
  have hl : lv_has ls 4 [(2, .int (nI 0)), (0, .ref (k (sn + 8))), (1, .int (nI c0)), (3, .int (nI ((zS sn).length)))] := hl
  refine lv_iload_n hx hb d_SL_indexOf_15 rfl (lv_at hl 3 rfl) ?_
  refine lv_aload_n hx hb d_SL_indexOf_16 rfl (lv_at hl 1 rfl) ?_
  refine va_tlen hx hb (zXs hX hsn).2.2 hS rfl d_SL_indexOf_17 ?_
  refine zti (y := nI (zS sn).length) rfl ?_
  refine va_mmin hx hb (hml.trans hl.1.symm) hown (ht _ q325) (ht _ q326) (ht _ q12) (ht _ q327) (by decide) (Nat.le_of_ble_eq_true rfl) (Nat.zero_le _) (Nat.zero_le _) d_SL_indexOf_18 ?_
  refine zti (y := nI ((zS sn).length)) (ite_self _) ?_
  refine lv_istore_n hx hb d_SL_indexOf_21 rfl hl (by decide) rfl (fun ls hl => ?_)
  have hl : lv_has ls 4 [(3, .int (nI ((zS sn).length))), (2, .int (nI 0)), (0, .ref (k (sn + 8))), (1, .int (nI c0))] := hl
  refine lv_iload_n hx hb d_SL_indexOf_22 rfl (lv_at hl 1 rfl) ?_
  refine lv_iload_n hx hb d_SL_indexOf_23 rfl (lv_at hl 0 rfl) ?_
  refine lv_icmp_lt (tgt := 29) hx hb d_SL_indexOf_24 (by decide) (fun h3 => ?_) (fun h3 => ?_)
  · skip
    have h3 : (0 < ((zS sn).length)) := (nI_ltI (by omega) (by omega)).mp h3
    refine lv_aload_n hx hb d_SL_indexOf_29 rfl (lv_at hl 2 rfl) ?_
    refine lv_iload_n hx hb d_SL_indexOf_30 rfl (lv_at hl 3 rfl) ?_
    refine lv_iload_n hx hb d_SL_indexOf_31 rfl (lv_at hl 1 rfl) ?_
    refine lv_iload_n hx hb d_SL_indexOf_32 rfl (lv_at hl 0 rfl) ?_
    refine zgo_i (wr := []) C0 (zrunS (na := 4) (As := [.ref (k (sn + 8)), .int (nI c0), .int (nI 0), .int (nI ((zS sn).length))]) (rest := []) C0 hP hD hS [] rfl rfl (m_SL_indexOfChar l D ca k H.size ad sn hsn c0 (by omega)) (zg_S q328 q329 q9 q330) (by decide +kernel) rfl rfl ⟨by decide, by decide⟩ rfl hl.1 rfl (Nat.le_of_ble_eq_true rfl) d_SL_indexOf_33 ⟨Nat.zero_le _, Nat.zero_le _⟩) hP hD hS [] [] rfl rfl (by decide) (by decide) (fun r4 w1 H locs hw hP hD hS => ?_)
    obtain ⟨rfl, rfl⟩ := hw
    have hP : va_P D vCl ([]) H := hP
    have hD : va_D A ([]) := hD
    exact zret_i C0 hr hAe hP hD hS ⟨rfl, rfl⟩ d_SL_indexOf_36
  · skip
    have h3 : ¬ (0 < ((zS sn).length)) := fun z => h3 ((nI_ltI (by omega) (by omega)).mpr z)
    refine lv_iconst (v := (-1)) hx hb d_SL_indexOf_27 (by decide) ?_
    exact zret_i C0 hr hAe hP hD hS ⟨(by rw [show ixO (zS sn) c0 0 = ixO ((zS sn).drop 0) c0 0 from rfl, ix_e (by omega)]; rfl), rfl⟩ d_SL_indexOf_28
set_option maxHeartbeats 4000000 in
set_option maxRecDepth 100000 in
theorem m_St_indexOf1 (l : Launch) (D : va_G) (ca : Nat → ClassId) (k : Nat → Nat) (sz : Nat) (ad : Nat → Nat) (sn : Nat) (hsn : sn < 7) (c0 : Nat) (hc : c0 < 128) : Met l y_St_indexOf1 (zw y_St_indexOf1 c_St_indexOf1 3 (some .int)) { frames := 2, cells := 0, slots := 0, locals := 48 } (va_Pc [.ref (k (sn + 1)), .int (nI c0), .int (nI 0)] (zPre D (zty ca) k ([]) sz)) (va_Qi (fun r w => r = ixR (ixO (zS sn) c0 0) ∧ w = []) (zB D (zty ca) ([]) sz) (va_A ([]) sz)) 0 0 (va_A ([]) sz) := by
  refine zOfF (own := "java/lang/String") (by decide +kernel) rfl (Nat.le_of_ble_eq_true rfl) ?_
  intro p e s m below meth c A ls C0 hr hnm hAe hsz hl hP hD hS
  have hl : lv_has ls 3 [(0, .ref (k (sn + 1))), (1, .int (nI c0)), (2, .int (nI 0))] := hl
  obtain ⟨hx, hb, hml, hown, ht, hK, hX, hA, hlk⟩ := id C0
  refine lv_aload_n hx hb d_St_indexOf1_0 rfl (lv_at hl 0 rfl) ?_
  refine zgo_i (wr := []) C0 (zrunR (na := 0) (As := []) (rest := []) C0 hP hD hS [] rfl rfl (m_St_isLatin1 l D ca k s.heap.size ad sn hsn) (zg_V q268 q269 q270 q3 q271) (by decide +kernel) rfl rfl ⟨by decide, by decide⟩ (vk_recv (i := sn) hX.2.2.2.1 hsn hS) rfl hl.1 rfl (Nat.le_of_ble_eq_true rfl) d_St_indexOf1_1 ⟨Nat.zero_le _, Nat.zero_le _⟩) hP hD hS [] [] rfl rfl (by decide) (by decide) (fun r1 w1 H locs hw hP hD hS => ?_)
  obtain ⟨rfl, rfl⟩ := hw
  have hP : va_P D vCl ([]) H := hP
  have hD : va_D A ([]) := hD
  refine lv_if_eq (tgt := 23) hx hb d_St_indexOf1_4 (by decide) (fun h2 => absurd h2 (by decide)) (fun _ => ?_)
  refine lv_aload_n hx hb d_St_indexOf1_7 rfl (lv_at hl 0 rfl) ?_
  refine vk_getf hx hb (zXs hX hsn).2.1 hS hown (ht _ q796) (fun _ h9 => h9) d_St_indexOf1_8 ?_
  refine lv_iload_n hx hb d_St_indexOf1_11 rfl (lv_at hl 1 rfl) ?_
  refine lv_iload_n hx hb d_St_indexOf1_12 rfl (lv_at hl 2 rfl) ?_
  refine lv_aload_n hx hb d_St_indexOf1_13 rfl (lv_at hl 0 rfl) ?_
  refine zgo_i (wr := []) C0 (zrunR (na := 0) (As := []) (rest := [.int (nI 0), .int (nI c0), .ref (k (sn + 8))]) C0 hP hD hS [] rfl rfl (m_St_length l D ca k H.size ad sn hsn) (zg_V q315 q34 q35 q3 q36) (by decide +kernel) rfl rfl ⟨by decide, by decide⟩ (vk_recv (i := sn) hX.2.2.2.1 hsn hS) rfl hl.1 rfl (Nat.le_of_ble_eq_true rfl) d_St_indexOf1_14 ⟨Nat.zero_le _, Nat.zero_le _⟩) hP hD hS [] [] rfl rfl (by decide) (by decide) (fun r3 w1 H locs hw hP hD hS => ?_)
  obtain ⟨rfl, rfl⟩ := hw
  have hP : va_P D vCl ([]) H := hP
  have hD : va_D A ([]) := hD
  refine zgo_i (wr := []) C0 (zrunS (na := 4) (As := [.ref (k (sn + 8)), .int (nI c0), .int (nI 0), .int (nI ((zS sn).length))]) (rest := []) C0 hP hD hS [] rfl rfl (m_SL_indexOf l D ca k H.size ad sn hsn c0 (by omega)) (zg_S q316 q317 q9 q318) (by decide +kernel) rfl rfl ⟨by decide, by decide⟩ rfl hl.1 rfl (Nat.le_of_ble_eq_true rfl) d_St_indexOf1_17 ⟨Nat.zero_le _, Nat.zero_le _⟩) hP hD hS [] [] rfl rfl (by decide) (by decide) (fun r4 w1 H locs hw hP hD hS => ?_)
  obtain ⟨rfl, rfl⟩ := hw
  have hP : va_P D vCl ([]) H := hP
  have hD : va_D A ([]) := hD
  refine lv_goto (tgt := 36) hx hb d_St_indexOf1_20 (by decide) ?_
  exact zret_i C0 hr hAe hP hD hS ⟨rfl, rfl⟩ d_St_indexOf1_36
set_option maxHeartbeats 4000000 in
set_option maxRecDepth 100000 in
theorem m_St_indexOf0 (l : Launch) (D : va_G) (ca : Nat → ClassId) (k : Nat → Nat) (sz : Nat) (ad : Nat → Nat) (sn : Nat) (hsn : sn < 7) (c0 : Nat) (hc : c0 < 128) : Met l y_St_indexOf0 (zw y_St_indexOf0 c_St_indexOf0 2 (some .int)) { frames := 3, cells := 0, slots := 0, locals := 70 } (va_Pc [.ref (k (sn + 1)), .int (nI c0)] (zPre D (zty ca) k ([]) sz)) (va_Qi (fun r w => r = ixR (ixO (zS sn) c0 0) ∧ w = []) (zB D (zty ca) ([]) sz) (va_A ([]) sz)) 0 0 (va_A ([]) sz) := by
  refine zOfF (own := "java/lang/String") (by decide +kernel) rfl (Nat.le_of_ble_eq_true rfl) ?_
  intro p e s m below meth c A ls C0 hr hnm hAe hsz hl hP hD hS
  have hl : lv_has ls 2 [(0, .ref (k (sn + 1))), (1, .int (nI c0))] := hl
  obtain ⟨hx, hb, hml, hown, ht, hK, hX, hA, hlk⟩ := id C0
  refine lv_aload_n hx hb d_St_indexOf0_0 rfl (lv_at hl 0 rfl) ?_
  refine lv_iload_n hx hb d_St_indexOf0_1 rfl (lv_at hl 1 rfl) ?_
  refine lv_iconst (v := nI 0) hx hb d_St_indexOf0_2 (by decide) ?_
  refine zgo_i (wr := []) C0 (zrunR (na := 2) (As := [.int (nI c0), .int (nI 0)]) (rest := []) C0 hP hD hS [] rfl rfl (m_St_indexOf1 l D ca k s.heap.size ad sn hsn c0 (by omega)) (zg_V q311 q312 q313 q3 q314) (by decide +kernel) rfl rfl ⟨by decide, by decide⟩ (vk_recv (i := sn) hX.2.2.2.1 hsn hS) rfl hl.1 rfl (Nat.le_of_ble_eq_true rfl) d_St_indexOf0_3 ⟨Nat.zero_le _, Nat.zero_le _⟩) hP hD hS [] [] rfl rfl (by decide) (by decide) (fun r1 w1 H locs hw hP hD hS => ?_)
  obtain ⟨rfl, rfl⟩ := hw
  have hP : va_P D vCl ([]) H := hP
  have hD : va_D A ([]) := hD
  exact zret_i C0 hr hAe hP hD hS ⟨rfl, rfl⟩ d_St_indexOf0_6
