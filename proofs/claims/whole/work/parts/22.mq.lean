set_option maxHeartbeats 4000000 in
set_option maxRecDepth 100000 in
theorem m_Mo_become (l : Launch) (D : va_G) (ca : Nat → ClassId) (k : Nat → Nat) (sz : Nat) (ad : Nat → Nat) (cd : Nat) (po nu : Nat → Nat) (pt : Nat) (st : Int32) (cy pl bk : Nat) (me : Nat → Nat) (kc : Nat) (ro : Nat → Nat) (en un li tn : Nat) (tx : Nat → Nat) (ia : Int32) (ct : Nat) (md : Nat → Nat) (lb wn : Nat → Int32) (r : Nat) (z : Int) (hr7 : r < 7) (hz1 : -(li : Int) ≤ z) (hz2 : z ≤ 10 ^ 15) (hn : ∀ j, nu j < 10 ^ 14) (hu : 0 < un) (hu2 : un ≤ 10 ^ 14) (hl0 : 0 < li) (hl2 : li ≤ 10 ^ 14) : Met l y_Mo_become (zw y_Mo_become c_Mo_become 4 none) { frames := 2, cells := 0, slots := 0, locals := 44 } (va_Pc [.ref (ad 12), .int (nI r), .long (Int64.ofInt z)] (zPre D (zty ca) k (wM ad ca cd po nu pt st cy pl bk me kc ro en un li tn tx ia ct md lb wn) sz)) (va_Qv (fun w => w = wM ad ca cd po (wr un li nu r (rz li z)) pt st (rc li z) pl bk me kc ro en un li tn tx ia ct md lb wn) (zB D (zty ca) (wM ad ca cd po nu pt st cy pl bk me kc ro en un li tn tx ia ct md lb wn) sz) (va_A (wM ad ca cd po nu pt st cy pl bk me kc ro en un li tn tx ia ct md lb wn) sz)) 0 0 (va_A (wM ad ca cd po nu pt st cy pl bk me kc ro en un li tn tx ia ct md lb wn) sz) := by
  refine zOf (own := "DigitChipModel") (by decide +kernel) rfl (Nat.le_of_ble_eq_true rfl) ?_
  intro p e s m below meth c A ls C0 hr hnm hAe hsz hl hP hD hS
  have hl : lv_has ls 4 [(0, .ref (ad 12)), (1, .int (nI r)), (2, .long (Int64.ofInt z))] := hl
  obtain ⟨hx, hb, hml, hown, ht, hK, hX, hA, hlk⟩ := id C0
  refine lv_aload_n hx hb d_Mo_become_0 rfl (lv_at hl 0 rfl) ?_
  refine lv_lload_n hx hb d_Mo_become_1 rfl (lv_at hl 2 rfl) ?_
  refine lv_lconst (v := lN 0) hx hb d_Mo_become_2 rfl ?_
  refine W.lcmp hx hb d_Mo_become_3 ?_
  refine lv_if_lt (tgt := 16) hx hb d_Mo_become_4 (by decide) (fun h1 => ?_) (fun h1 => ?_)
  · skip
    have h1 : (z < ((0 : Nat) : Int)) := (zc_lt (by omega) (by omega)).mp ((lg_cmp_lt _ _).mp h1)
    refine lv_iconst (v := nI 1) hx hb d_Mo_become_16 (by decide) ?_
    refine lv_goto (tgt := 21) hx hb d_Mo_become_17 (by decide) ?_
    refine va_put (D := D) (ci := 5) (v := .int (nI 1)) (ty := .boolean) (C := RMo) (T := TMo) (N := 21) hx hb ht inMo tyMo tyMo_ok nmMo hown hK hP hD hS 0 rfl rfl 5 (by decide) (ht _ q551) (fun _ h9 => h9) rfl (by decide +kernel) (zbn (by omega)) (zbf (by omega)) (Nat.le_of_ble_eq_true rfl) d_Mo_become_21 (fun H locs hP hD hS => ?_)
    have hP : va_P D vCl (wM ad ca cd po nu pt st 1 pl bk me kc ro en un li tn tx ia ct md lb wn) H := hP
    have hD : va_D A (wM ad ca cd po nu pt st 1 pl bk me kc ro en un li tn tx ia ct md lb wn) := hD
    refine lv_aload_n hx hb d_Mo_become_24 rfl (lv_at hl 0 rfl) ?_
    refine lv_iload_n hx hb d_Mo_become_25 rfl (lv_at hl 1 rfl) ?_
    refine lv_lload_n hx hb d_Mo_become_26 rfl (lv_at hl 2 rfl) ?_
    refine lv_lconst (v := lN 0) hx hb d_Mo_become_27 rfl ?_
    refine W.lcmp hx hb d_Mo_become_28 ?_
    refine lv_if_ge (tgt := 41) hx hb d_Mo_become_29 (by decide) (fun h2 => ?_) (fun h2 => ?_)
    · skip
      have h2 : (((0 : Nat) : Int) ≤ z) := (zc_ge (by omega) (by omega)).mp ((lg_cmp_ge _ _).mp h2)
      refine lv_lload_n hx hb d_Mo_become_41 rfl (lv_at hl 2 rfl) ?_
      refine lv_aload_n hx hb d_Mo_become_42 rfl (lv_at hl 0 rfl) ?_
      refine va_get (D := D) (ci := 5) (v := .long (lN li)) (C := RMo) (T := TMo) (N := 21) hx hb ht inMo hown hK hP 0 rfl rfl 13 (by decide) (ht _ q559) (fun _ h9 => h9) rfl d_Mo_become_43 ?_
      refine lv_lrem hx hb d_Mo_become_46 (zlne (by omega) (by omega)) ?_
      refine ztl (y := lN (rz li z)) (bc_p (by omega) hl0 (by omega) (by omega)) ?_
      refine zgo_v (wr := []) C0 (zrunV (na := 2) (As := [.int (nI r), .long (lN (rz li z))]) (rest := []) C0 hP hD hS [0, 1, 2, 3, 4, 5, 6, 7, 8] rfl rfl (m_Mo_write l D ca k H.size ad cd po nu pt st 1 pl bk me kc ro en un li tn tx ia ct md lb wn r (rz li z) (by omega) hn hu hu2 hl0 hl2) (zg_V q630 q632 q827 q7 q633) (by decide +kernel) rfl rfl ⟨by decide, by decide⟩ 0 rfl rfl rfl hl.1 rfl (Nat.le_of_ble_eq_true rfl) d_Mo_become_47 ⟨Nat.zero_le _, Nat.zero_le _⟩) hP hD hS [0, 1, 2, 3, 4, 5, 6, 7, 8] [] rfl rfl (by decide) (by decide) (fun w1 H locs hw hP hD hS => ?_)
      obtain rfl := hw
      have hP : va_P D vCl (wM ad ca cd po (wr un li nu r (rz li z)) pt st 1 pl bk me kc ro en un li tn tx ia ct md lb wn) H := hP
      have hD : va_D A (wM ad ca cd po (wr un li nu r (rz li z)) pt st 1 pl bk me kc ro en un li tn tx ia ct md lb wn) := hD
      exact zret_v C0 hr hAe hP hD hS (by rw [show rc li z = 1 from if_pos (by omega)]) d_Mo_become_50
    · skip
      have h2 : ¬ (((0 : Nat) : Int) ≤ z) := fun z => h2 ((lg_cmp_ge _ _).mpr ((zc_ge (by omega) (by omega)).mpr z))
      refine lv_lload_n hx hb d_Mo_become_32 rfl (lv_at hl 2 rfl) ?_
      refine lv_aload_n hx hb d_Mo_become_33 rfl (lv_at hl 0 rfl) ?_
      refine va_get (D := D) (ci := 5) (v := .long (lN li)) (C := RMo) (T := TMo) (N := 21) hx hb ht inMo hown hK hP 0 rfl rfl 13 (by decide) (ht _ q559) (fun _ h9 => h9) rfl d_Mo_become_34 ?_
      refine lv_ladd hx hb d_Mo_become_37 ?_
      refine lv_goto (tgt := 47) hx hb d_Mo_become_38 (by decide) ?_
      refine ztl (y := lN (rz li z)) (bc_n (by omega) (by omega)) ?_
      refine zgo_v (wr := []) C0 (zrunV (na := 2) (As := [.int (nI r), .long (lN (rz li z))]) (rest := []) C0 hP hD hS [0, 1, 2, 3, 4, 5, 6, 7, 8] rfl rfl (m_Mo_write l D ca k H.size ad cd po nu pt st 1 pl bk me kc ro en un li tn tx ia ct md lb wn r (rz li z) (by omega) hn hu hu2 hl0 hl2) (zg_V q630 q632 q827 q7 q633) (by decide +kernel) rfl rfl ⟨by decide, by decide⟩ 0 rfl rfl rfl hl.1 rfl (Nat.le_of_ble_eq_true rfl) d_Mo_become_47 ⟨Nat.zero_le _, Nat.zero_le _⟩) hP hD hS [0, 1, 2, 3, 4, 5, 6, 7, 8] [] rfl rfl (by decide) (by decide) (fun w1 H locs hw hP hD hS => ?_)
      obtain rfl := hw
      have hP : va_P D vCl (wM ad ca cd po (wr un li nu r (rz li z)) pt st 1 pl bk me kc ro en un li tn tx ia ct md lb wn) H := hP
      have hD : va_D A (wM ad ca cd po (wr un li nu r (rz li z)) pt st 1 pl bk me kc ro en un li tn tx ia ct md lb wn) := hD
      exact zret_v C0 hr hAe hP hD hS (by rw [show rc li z = 1 from if_pos (by omega)]) d_Mo_become_50
  · skip
    have h1 : ¬ (z < ((0 : Nat) : Int)) := fun z => h1 ((lg_cmp_lt _ _).mpr ((zc_lt (by omega) (by omega)).mpr z))
    refine lv_lload_n hx hb d_Mo_become_7 rfl (lv_at hl 2 rfl) ?_
    refine lv_aload_n hx hb d_Mo_become_8 rfl (lv_at hl 0 rfl) ?_
    refine va_get (D := D) (ci := 5) (v := .long (lN li)) (C := RMo) (T := TMo) (N := 21) hx hb ht inMo hown hK hP 0 rfl rfl 13 (by decide) (ht _ q559) (fun _ h9 => h9) rfl d_Mo_become_9 ?_
    refine W.lcmp hx hb d_Mo_become_12 ?_
    refine lv_if_lt (tgt := 20) hx hb d_Mo_become_13 (by decide) (fun h5 => ?_) (fun h5 => ?_)
    · skip
      have h5 : (z < ((li : Nat) : Int)) := (zc_lt (by omega) (by omega)).mp ((lg_cmp_lt _ _).mp h5)
      refine lv_iconst (v := nI 0) hx hb d_Mo_become_20 (by decide) ?_
      refine va_put (D := D) (ci := 5) (v := .int (nI 0)) (ty := .boolean) (C := RMo) (T := TMo) (N := 21) hx hb ht inMo tyMo tyMo_ok nmMo hown hK hP hD hS 0 rfl rfl 5 (by decide) (ht _ q551) (fun _ h9 => h9) rfl (by decide +kernel) (zbn (by omega)) (zbf (by omega)) (Nat.le_of_ble_eq_true rfl) d_Mo_become_21 (fun H locs hP hD hS => ?_)
      have hP : va_P D vCl (wM ad ca cd po nu pt st 0 pl bk me kc ro en un li tn tx ia ct md lb wn) H := hP
      have hD : va_D A (wM ad ca cd po nu pt st 0 pl bk me kc ro en un li tn tx ia ct md lb wn) := hD
      refine lv_aload_n hx hb d_Mo_become_24 rfl (lv_at hl 0 rfl) ?_
      refine lv_iload_n hx hb d_Mo_become_25 rfl (lv_at hl 1 rfl) ?_
      refine lv_lload_n hx hb d_Mo_become_26 rfl (lv_at hl 2 rfl) ?_
      refine lv_lconst (v := lN 0) hx hb d_Mo_become_27 rfl ?_
      refine W.lcmp hx hb d_Mo_become_28 ?_
      refine lv_if_ge (tgt := 41) hx hb d_Mo_become_29 (by decide) (fun h6 => ?_) (fun h6 => ?_)
      · skip
        have h6 : (((0 : Nat) : Int) ≤ z) := (zc_ge (by omega) (by omega)).mp ((lg_cmp_ge _ _).mp h6)
        refine lv_lload_n hx hb d_Mo_become_41 rfl (lv_at hl 2 rfl) ?_
        refine lv_aload_n hx hb d_Mo_become_42 rfl (lv_at hl 0 rfl) ?_
        refine va_get (D := D) (ci := 5) (v := .long (lN li)) (C := RMo) (T := TMo) (N := 21) hx hb ht inMo hown hK hP 0 rfl rfl 13 (by decide) (ht _ q559) (fun _ h9 => h9) rfl d_Mo_become_43 ?_
        refine lv_lrem hx hb d_Mo_become_46 (zlne (by omega) (by omega)) ?_
        refine ztl (y := lN (rz li z)) (bc_p (by omega) hl0 (by omega) (by omega)) ?_
        refine zgo_v (wr := []) C0 (zrunV (na := 2) (As := [.int (nI r), .long (lN (rz li z))]) (rest := []) C0 hP hD hS [0, 1, 2, 3, 4, 5, 6, 7, 8] rfl rfl (m_Mo_write l D ca k H.size ad cd po nu pt st 0 pl bk me kc ro en un li tn tx ia ct md lb wn r (rz li z) (by omega) hn hu hu2 hl0 hl2) (zg_V q630 q632 q827 q7 q633) (by decide +kernel) rfl rfl ⟨by decide, by decide⟩ 0 rfl rfl rfl hl.1 rfl (Nat.le_of_ble_eq_true rfl) d_Mo_become_47 ⟨Nat.zero_le _, Nat.zero_le _⟩) hP hD hS [0, 1, 2, 3, 4, 5, 6, 7, 8] [] rfl rfl (by decide) (by decide) (fun w1 H locs hw hP hD hS => ?_)
        obtain rfl := hw
        have hP : va_P D vCl (wM ad ca cd po (wr un li nu r (rz li z)) pt st 0 pl bk me kc ro en un li tn tx ia ct md lb wn) H := hP
        have hD : va_D A (wM ad ca cd po (wr un li nu r (rz li z)) pt st 0 pl bk me kc ro en un li tn tx ia ct md lb wn) := hD
        exact zret_v C0 hr hAe hP hD hS (by rw [show rc li z = 0 from if_neg (by omega)]) d_Mo_become_50
      · skip
        have h6 : ¬ (((0 : Nat) : Int) ≤ z) := fun z => h6 ((lg_cmp_ge _ _).mpr ((zc_ge (by omega) (by omega)).mpr z))
        refine lv_lload_n hx hb d_Mo_become_32 rfl (lv_at hl 2 rfl) ?_
        refine lv_aload_n hx hb d_Mo_become_33 rfl (lv_at hl 0 rfl) ?_
        refine va_get (D := D) (ci := 5) (v := .long (lN li)) (C := RMo) (T := TMo) (N := 21) hx hb ht inMo hown hK hP 0 rfl rfl 13 (by decide) (ht _ q559) (fun _ h9 => h9) rfl d_Mo_become_34 ?_
        refine lv_ladd hx hb d_Mo_become_37 ?_
        refine lv_goto (tgt := 47) hx hb d_Mo_become_38 (by decide) ?_
        refine ztl (y := lN (rz li z)) (bc_n (by omega) (by omega)) ?_
        refine zgo_v (wr := []) C0 (zrunV (na := 2) (As := [.int (nI r), .long (lN (rz li z))]) (rest := []) C0 hP hD hS [0, 1, 2, 3, 4, 5, 6, 7, 8] rfl rfl (m_Mo_write l D ca k H.size ad cd po nu pt st 0 pl bk me kc ro en un li tn tx ia ct md lb wn r (rz li z) (by omega) hn hu hu2 hl0 hl2) (zg_V q630 q632 q827 q7 q633) (by decide +kernel) rfl rfl ⟨by decide, by decide⟩ 0 rfl rfl rfl hl.1 rfl (Nat.le_of_ble_eq_true rfl) d_Mo_become_47 ⟨Nat.zero_le _, Nat.zero_le _⟩) hP hD hS [0, 1, 2, 3, 4, 5, 6, 7, 8] [] rfl rfl (by decide) (by decide) (fun w1 H locs hw hP hD hS => ?_)
        obtain rfl := hw
        have hP : va_P D vCl (wM ad ca cd po (wr un li nu r (rz li z)) pt st 0 pl bk me kc ro en un li tn tx ia ct md lb wn) H := hP
        have hD : va_D A (wM ad ca cd po (wr un li nu r (rz li z)) pt st 0 pl bk me kc ro en un li tn tx ia ct md lb wn) := hD
        exact zret_v C0 hr hAe hP hD hS (by rw [show rc li z = 0 from if_neg (by omega)]) d_Mo_become_50
    · skip
      have h5 : ¬ (z < ((li : Nat) : Int)) := fun z => h5 ((lg_cmp_lt _ _).mpr ((zc_lt (by omega) (by omega)).mpr z))
      refine lv_iconst (v := nI 1) hx hb d_Mo_become_16 (by decide) ?_
      refine lv_goto (tgt := 21) hx hb d_Mo_become_17 (by decide) ?_
      refine va_put (D := D) (ci := 5) (v := .int (nI 1)) (ty := .boolean) (C := RMo) (T := TMo) (N := 21) hx hb ht inMo tyMo tyMo_ok nmMo hown hK hP hD hS 0 rfl rfl 5 (by decide) (ht _ q551) (fun _ h9 => h9) rfl (by decide +kernel) (zbn (by omega)) (zbf (by omega)) (Nat.le_of_ble_eq_true rfl) d_Mo_become_21 (fun H locs hP hD hS => ?_)
      have hP : va_P D vCl (wM ad ca cd po nu pt st 1 pl bk me kc ro en un li tn tx ia ct md lb wn) H := hP
      have hD : va_D A (wM ad ca cd po nu pt st 1 pl bk me kc ro en un li tn tx ia ct md lb wn) := hD
      refine lv_aload_n hx hb d_Mo_become_24 rfl (lv_at hl 0 rfl) ?_
      refine lv_iload_n hx hb d_Mo_become_25 rfl (lv_at hl 1 rfl) ?_
      refine lv_lload_n hx hb d_Mo_become_26 rfl (lv_at hl 2 rfl) ?_
      refine lv_lconst (v := lN 0) hx hb d_Mo_become_27 rfl ?_
      refine W.lcmp hx hb d_Mo_become_28 ?_
      refine lv_if_ge (tgt := 41) hx hb d_Mo_become_29 (by decide) (fun h9 => ?_) (fun h9 => ?_)
      · skip
        have h9 : (((0 : Nat) : Int) ≤ z) := (zc_ge (by omega) (by omega)).mp ((lg_cmp_ge _ _).mp h9)
        refine lv_lload_n hx hb d_Mo_become_41 rfl (lv_at hl 2 rfl) ?_
        refine lv_aload_n hx hb d_Mo_become_42 rfl (lv_at hl 0 rfl) ?_
        refine va_get (D := D) (ci := 5) (v := .long (lN li)) (C := RMo) (T := TMo) (N := 21) hx hb ht inMo hown hK hP 0 rfl rfl 13 (by decide) (ht _ q559) (fun _ h9 => h9) rfl d_Mo_become_43 ?_
        refine lv_lrem hx hb d_Mo_become_46 (zlne (by omega) (by omega)) ?_
        refine ztl (y := lN (rz li z)) (bc_p (by omega) hl0 (by omega) (by omega)) ?_
        refine zgo_v (wr := []) C0 (zrunV (na := 2) (As := [.int (nI r), .long (lN (rz li z))]) (rest := []) C0 hP hD hS [0, 1, 2, 3, 4, 5, 6, 7, 8] rfl rfl (m_Mo_write l D ca k H.size ad cd po nu pt st 1 pl bk me kc ro en un li tn tx ia ct md lb wn r (rz li z) (by omega) hn hu hu2 hl0 hl2) (zg_V q630 q632 q827 q7 q633) (by decide +kernel) rfl rfl ⟨by decide, by decide⟩ 0 rfl rfl rfl hl.1 rfl (Nat.le_of_ble_eq_true rfl) d_Mo_become_47 ⟨Nat.zero_le _, Nat.zero_le _⟩) hP hD hS [0, 1, 2, 3, 4, 5, 6, 7, 8] [] rfl rfl (by decide) (by decide) (fun w1 H locs hw hP hD hS => ?_)
        obtain rfl := hw
        have hP : va_P D vCl (wM ad ca cd po (wr un li nu r (rz li z)) pt st 1 pl bk me kc ro en un li tn tx ia ct md lb wn) H := hP
        have hD : va_D A (wM ad ca cd po (wr un li nu r (rz li z)) pt st 1 pl bk me kc ro en un li tn tx ia ct md lb wn) := hD
        exact zret_v C0 hr hAe hP hD hS (by rw [show rc li z = 1 from if_pos (by omega)]) d_Mo_become_50
      · skip
        have h9 : ¬ (((0 : Nat) : Int) ≤ z) := fun z => h9 ((lg_cmp_ge _ _).mpr ((zc_ge (by omega) (by omega)).mpr z))
        refine lv_lload_n hx hb d_Mo_become_32 rfl (lv_at hl 2 rfl) ?_
        refine lv_aload_n hx hb d_Mo_become_33 rfl (lv_at hl 0 rfl) ?_
        refine va_get (D := D) (ci := 5) (v := .long (lN li)) (C := RMo) (T := TMo) (N := 21) hx hb ht inMo hown hK hP 0 rfl rfl 13 (by decide) (ht _ q559) (fun _ h9 => h9) rfl d_Mo_become_34 ?_
        refine lv_ladd hx hb d_Mo_become_37 ?_
        refine lv_goto (tgt := 47) hx hb d_Mo_become_38 (by decide) ?_
        refine ztl (y := lN (rz li z)) (bc_n (by omega) (by omega)) ?_
        refine zgo_v (wr := []) C0 (zrunV (na := 2) (As := [.int (nI r), .long (lN (rz li z))]) (rest := []) C0 hP hD hS [0, 1, 2, 3, 4, 5, 6, 7, 8] rfl rfl (m_Mo_write l D ca k H.size ad cd po nu pt st 1 pl bk me kc ro en un li tn tx ia ct md lb wn r (rz li z) (by omega) hn hu hu2 hl0 hl2) (zg_V q630 q632 q827 q7 q633) (by decide +kernel) rfl rfl ⟨by decide, by decide⟩ 0 rfl rfl rfl hl.1 rfl (Nat.le_of_ble_eq_true rfl) d_Mo_become_47 ⟨Nat.zero_le _, Nat.zero_le _⟩) hP hD hS [0, 1, 2, 3, 4, 5, 6, 7, 8] [] rfl rfl (by decide) (by decide) (fun w1 H locs hw hP hD hS => ?_)
        obtain rfl := hw
        have hP : va_P D vCl (wM ad ca cd po (wr un li nu r (rz li z)) pt st 1 pl bk me kc ro en un li tn tx ia ct md lb wn) H := hP
        have hD : va_D A (wM ad ca cd po (wr un li nu r (rz li z)) pt st 1 pl bk me kc ro en un li tn tx ia ct md lb wn) := hD
        exact zret_v C0 hr hAe hP hD hS (by rw [show rc li z = 1 from if_pos (by omega)]) d_Mo_become_50
set_option maxHeartbeats 4000000 in
set_option maxRecDepth 100000 in
theorem m_Mo_change (l : Launch) (D : va_G) (ca : Nat → ClassId) (k : Nat → Nat) (sz : Nat) (ad : Nat → Nat) (cd : Nat) (po nu : Nat → Nat) (pt : Nat) (st : Int32) (cy pl bk : Nat) (me : Nat → Nat) (kc : Nat) (ro : Nat → Nat) (en un li tn : Nat) (tx : Nat → Nat) (ia : Int32) (ct : Nat) (md : Nat → Nat) (lb wn : Nat → Int32) (r q : Nat) (hr7 : r < 7) (hq7 : q < 7) (hn : ∀ j, nu j < 10 ^ 14) (hu : 0 < un) (hu2 : un ≤ 10 ^ 14) (hl0 : 0 < li) (hl2 : li ≤ 10 ^ 14) (hg : un * li ∣ 10 ^ 14) : Met l y_Mo_change (zw y_Mo_change c_Mo_change 5 none) { frames := 2, cells := 0, slots := 0, locals := 44 } (va_Pc [.ref (ad 12), .int (nI r), .int (nI q)] (zPre D (zty ca) k (wM ad ca cd po nu pt st cy pl bk me kc ro en un li tn tx ia ct md lb wn) sz)) (va_Qv (fun w => w = wM ad ca cd po (wr un li (wr un li nu r (pr un li (nu q))) q (pr un li (nu r))) pt st cy pl bk me kc ro en un li tn tx ia ct md lb wn) (zB D (zty ca) (wM ad ca cd po nu pt st cy pl bk me kc ro en un li tn tx ia ct md lb wn) sz) (va_A (wM ad ca cd po nu pt st cy pl bk me kc ro en un li tn tx ia ct md lb wn) sz)) 0 0 (va_A (wM ad ca cd po nu pt st cy pl bk me kc ro en un li tn tx ia ct md lb wn) sz) := by
  refine zOf (own := "DigitChipModel") (by decide +kernel) rfl (Nat.le_of_ble_eq_true rfl) ?_
  intro p e s m below meth c A ls C0 hr hnm hAe hsz hl hP hD hS
  have hl : lv_has ls 5 [(0, .ref (ad 12)), (1, .int (nI r)), (2, .int (nI q))] := hl
  obtain ⟨hx, hb, hml, hown, ht, hK, hX, hA, hlk⟩ := id C0
  refine lv_aload_n hx hb d_Mo_change_0 rfl (lv_at hl 0 rfl) ?_
  refine lv_iload_n hx hb d_Mo_change_1 rfl (lv_at hl 1 rfl) ?_
  refine zgo_l (wr := []) C0 (zrunV (na := 1) (As := [.int (nI r)]) (rest := []) C0 hP hD hS [0, 1, 2, 3, 4, 5, 6, 7, 8] rfl rfl (m_Mo_part l D ca k s.heap.size ad cd po nu pt st cy pl bk me kc ro en un li tn tx ia ct md lb wn r (by omega) hn hu hu2 hl0 hl2) (zg_V q634 q636 q828 q7 q637) (by decide +kernel) rfl rfl ⟨by decide, by decide⟩ 0 rfl rfl rfl hl.1 rfl (Nat.le_of_ble_eq_true rfl) d_Mo_change_2 ⟨Nat.zero_le _, Nat.zero_le _⟩) hP hD hS [0, 1, 2, 3, 4, 5, 6, 7, 8] [] rfl rfl (by decide) (by decide) (fun r1 w1 H locs hw hP hD hS => ?_)
  obtain ⟨rfl, rfl⟩ := hw
  have hP : va_P D vCl (wM ad ca cd po nu pt st cy pl bk me kc ro en un li tn tx ia ct md lb wn) H := hP
  have hD : va_D A (wM ad ca cd po nu pt st cy pl bk me kc ro en un li tn tx ia ct md lb wn) := hD
  refine lv_lstore_n hx hb d_Mo_change_5 rfl hl (by decide) rfl (fun ls hl => ?_)
  have hl : lv_has ls 5 [(3, .long (lN (pr un li (nu r)))), (0, .ref (ad 12)), (1, .int (nI r)), (2, .int (nI q))] := hl
  refine lv_aload_n hx hb d_Mo_change_6 rfl (lv_at hl 1 rfl) ?_
  refine lv_iload_n hx hb d_Mo_change_7 rfl (lv_at hl 2 rfl) ?_
  refine lv_aload_n hx hb d_Mo_change_8 rfl (lv_at hl 1 rfl) ?_
  refine lv_iload_n hx hb d_Mo_change_9 rfl (lv_at hl 3 rfl) ?_
  refine zgo_l (wr := []) C0 (zrunV (na := 1) (As := [.int (nI q)]) (rest := [.int (nI r), .ref (ad 12)]) C0 hP hD hS [0, 1, 2, 3, 4, 5, 6, 7, 8] rfl rfl (m_Mo_part l D ca k H.size ad cd po nu pt st cy pl bk me kc ro en un li tn tx ia ct md lb wn q (by omega) hn hu hu2 hl0 hl2) (zg_V q634 q636 q828 q7 q637) (by decide +kernel) rfl rfl ⟨by decide, by decide⟩ 0 rfl rfl rfl hl.1 rfl (Nat.le_of_ble_eq_true rfl) d_Mo_change_10 ⟨Nat.zero_le _, Nat.zero_le _⟩) hP hD hS [0, 1, 2, 3, 4, 5, 6, 7, 8] [] rfl rfl (by decide) (by decide) (fun r2 w1 H locs hw hP hD hS => ?_)
  obtain ⟨rfl, rfl⟩ := hw
  have hP : va_P D vCl (wM ad ca cd po nu pt st cy pl bk me kc ro en un li tn tx ia ct md lb wn) H := hP
  have hD : va_D A (wM ad ca cd po nu pt st cy pl bk me kc ro en un li tn tx ia ct md lb wn) := hD
  refine zgo_v (wr := []) C0 (zrunV (na := 2) (As := [.int (nI r), .long (lN (pr un li (nu q)))]) (rest := []) C0 hP hD hS [0, 1, 2, 3, 4, 5, 6, 7, 8] rfl rfl (m_Mo_write l D ca k H.size ad cd po nu pt st cy pl bk me kc ro en un li tn tx ia ct md lb wn r (pr un li (nu q)) (by omega) hn hu hu2 hl0 hl2) (zg_V q630 q632 q827 q7 q633) (by decide +kernel) rfl rfl ⟨by decide, by decide⟩ 0 rfl rfl rfl hl.1 rfl (Nat.le_of_ble_eq_true rfl) d_Mo_change_13 ⟨Nat.zero_le _, Nat.zero_le _⟩) hP hD hS [0, 1, 2, 3, 4, 5, 6, 7, 8] [] rfl rfl (by decide) (by decide) (fun w1 H locs hw hP hD hS => ?_)
  obtain rfl := hw
  have hP : va_P D vCl (wM ad ca cd po (wr un li nu r (pr un li (nu q))) pt st cy pl bk me kc ro en un li tn tx ia ct md lb wn) H := hP
  have hD : va_D A (wM ad ca cd po (wr un li nu r (pr un li (nu q))) pt st cy pl bk me kc ro en un li tn tx ia ct md lb wn) := hD
  refine lv_aload_n hx hb d_Mo_change_16 rfl (lv_at hl 1 rfl) ?_
  refine lv_iload_n hx hb d_Mo_change_17 rfl (lv_at hl 3 rfl) ?_
  refine lv_lload_n hx hb d_Mo_change_18 rfl (lv_at hl 0 rfl) ?_
  refine zgo_v (wr := []) C0 (zrunV (na := 2) (As := [.int (nI q), .long (lN (pr un li (nu r)))]) (rest := []) C0 hP hD hS [0, 1, 2, 3, 4, 5, 6, 7, 8] rfl rfl (m_Mo_write l D ca k H.size ad cd po (wr un li nu r (pr un li (nu q))) pt st cy pl bk me kc ro en un li tn tx ia ct md lb wn q (pr un li (nu r)) (by omega) (wr_lt hn hu hg (Nat.mod_lt _ hl0)) hu hu2 hl0 hl2) (zg_V q630 q632 q827 q7 q633) (by decide +kernel) rfl rfl ⟨by decide, by decide⟩ 0 rfl rfl rfl hl.1 rfl (Nat.le_of_ble_eq_true rfl) d_Mo_change_19 ⟨Nat.zero_le _, Nat.zero_le _⟩) hP hD hS [0, 1, 2, 3, 4, 5, 6, 7, 8] [] rfl rfl (by decide) (by decide) (fun w1 H locs hw hP hD hS => ?_)
  obtain rfl := hw
  have hP : va_P D vCl (wM ad ca cd po (wr un li (wr un li nu r (pr un li (nu q))) q (pr un li (nu r))) pt st cy pl bk me kc ro en un li tn tx ia ct md lb wn) H := hP
  have hD : va_D A (wM ad ca cd po (wr un li (wr un li nu r (pr un li (nu q))) q (pr un li (nu r))) pt st cy pl bk me kc ro en un li tn tx ia ct md lb wn) := hD
  exact zret_v C0 hr hAe hP hD hS rfl d_Mo_change_22
