set_option maxHeartbeats 4000000 in
set_option maxRecDepth 100000 in
theorem m_Mo_reckon (l : Launch) (D : va_G) (ca : Nat → ClassId) (k : Nat → Nat) (sz : Nat) (ad : Nat → Nat) (cd : Nat) (po nu : Nat → Nat) (pt : Nat) (st : Int32) (pl bk : Nat) (me : Nat → Nat) (kc : Nat) (ro : Nat → Nat) (en un li tn : Nat) (tx : Nat → Nat) (ia : Int32) (ct : Nat) (md : Nat → Nat) (lb wn : Nat → Int32) (op : Nat) (hop : (8 ≤ op ∧ op < 20) ∨ (24 ≤ op ∧ op < 31)) (hn : ∀ j, nu j < 10 ^ 14) (hu : 0 < un) (hu2 : un ≤ 10 ^ 14) (hl0 : 0 < li) (hl2 : li ≤ 10 ^ 14) (hg : un * li ∣ 10 ^ 14) : Met l y_Mo_reckon (zw y_Mo_reckon c_Mo_reckon 8 none) { frames := 3, cells := 0, slots := 0, locals := 67 } (va_Pc [.ref (ad 12), .int (nI op)] (zPre D (zty ca) k (wM ad ca cd po nu pt st 0 pl bk me kc ro en un li tn tx ia ct md lb wn) sz)) (va_Qv (fun w => w = wM ad ca cd po (fwN op un li nu) pt st (fwC op un li nu) pl bk me kc ro en un li tn tx ia ct md lb wn) (zB D (zty ca) (wM ad ca cd po nu pt st 0 pl bk me kc ro en un li tn tx ia ct md lb wn) sz) (va_A (wM ad ca cd po nu pt st 0 pl bk me kc ro en un li tn tx ia ct md lb wn) sz)) 0 0 (va_A (wM ad ca cd po nu pt st 0 pl bk me kc ro en un li tn tx ia ct md lb wn) sz) := by
  refine zOf (own := "DigitChipModel") (by decide +kernel) rfl (Nat.le_of_ble_eq_true rfl) ?_
  intro p e s m below meth c A ls C0 hr hnm hAe hsz hl hP hD hS
  have hl : lv_has ls 8 [(0, .ref (ad 12)), (1, .int (nI op))] := hl
  obtain ⟨hx, hb, hml, hown, ht, hK, hX, hA, hlk⟩ := id C0
  have ha : pr un li (nu 0) < li := Nat.mod_lt _ hl0
  have hb_ : pr un li (nu 1) < li := Nat.mod_lt _ hl0
  have hc_ : pr un li (nu 2) < li := Nat.mod_lt _ hl0
  rcases (show op = 8 ∨ op = 9 ∨ op = 10 ∨ op = 11 ∨ op = 12 ∨ op = 13 ∨ op = 14 ∨ op = 15 ∨ op = 16 ∨ op = 17 ∨ op = 18 ∨ op = 19 ∨ op = 24 ∨ op = 25 ∨ op = 26 ∨ op = 27 ∨ op = 28 ∨ op = 29 ∨ op = 30 from by omega) with rfl | rfl | rfl | rfl | rfl | rfl | rfl | rfl | rfl | rfl | rfl | rfl | rfl | rfl | rfl | rfl | rfl | rfl | rfl
  · skip
    refine lv_aload_n hx hb d_Mo_reckon_0 rfl (lv_at hl 0 rfl) ?_
    refine lv_iconst (v := nI 0) hx hb d_Mo_reckon_1 (by decide) ?_
    refine zgo_l (wr := []) C0 (zrunV (na := 1) (As := [.int (nI 0)]) (rest := []) C0 hP hD hS [0, 1, 2, 3, 4, 5, 6, 7, 8] rfl rfl (m_Mo_part l D ca k s.heap.size ad cd po nu pt st 0 pl bk me kc ro en un li tn tx ia ct md lb wn 0 (by omega) hn hu hu2 hl0 hl2) (zg_V q634 q636 q828 q7 q637) (by decide +kernel) rfl rfl ⟨by decide, by decide⟩ 0 rfl rfl rfl hl.1 rfl (Nat.le_of_ble_eq_true rfl) d_Mo_reckon_2 ⟨Nat.zero_le _, Nat.zero_le _⟩) hP hD hS [0, 1, 2, 3, 4, 5, 6, 7, 8] [] rfl rfl (by decide) (by decide) (fun r1 w1 H locs hw hP hD hS => ?_)
    obtain ⟨rfl, rfl⟩ := hw
    have hP : va_P D vCl (wM ad ca cd po nu pt st 0 pl bk me kc ro en un li tn tx ia ct md lb wn) H := hP
    have hD : va_D A (wM ad ca cd po nu pt st 0 pl bk me kc ro en un li tn tx ia ct md lb wn) := hD
    refine lv_lstore_n hx hb d_Mo_reckon_5 rfl hl (by decide) rfl (fun ls hl => ?_)
    have hl : lv_has ls 8 [(2, .long (lN (pr un li (nu 0)))), (0, .ref (ad 12)), (1, .int (nI 8))] := hl
    refine lv_aload_n hx hb d_Mo_reckon_6 rfl (lv_at hl 1 rfl) ?_
    refine lv_iconst (v := nI 1) hx hb d_Mo_reckon_7 (by decide) ?_
    refine zgo_l (wr := []) C0 (zrunV (na := 1) (As := [.int (nI 1)]) (rest := []) C0 hP hD hS [0, 1, 2, 3, 4, 5, 6, 7, 8] rfl rfl (m_Mo_part l D ca k H.size ad cd po nu pt st 0 pl bk me kc ro en un li tn tx ia ct md lb wn 1 (by omega) hn hu hu2 hl0 hl2) (zg_V q634 q636 q828 q7 q637) (by decide +kernel) rfl rfl ⟨by decide, by decide⟩ 0 rfl rfl rfl hl.1 rfl (Nat.le_of_ble_eq_true rfl) d_Mo_reckon_8 ⟨Nat.zero_le _, Nat.zero_le _⟩) hP hD hS [0, 1, 2, 3, 4, 5, 6, 7, 8] [] rfl rfl (by decide) (by decide) (fun r2 w1 H locs hw hP hD hS => ?_)
    obtain ⟨rfl, rfl⟩ := hw
    have hP : va_P D vCl (wM ad ca cd po nu pt st 0 pl bk me kc ro en un li tn tx ia ct md lb wn) H := hP
    have hD : va_D A (wM ad ca cd po nu pt st 0 pl bk me kc ro en un li tn tx ia ct md lb wn) := hD
    refine lv_lstore hx hb d_Mo_reckon_11 hl (by decide) rfl (fun ls hl => ?_)
    have hl : lv_has ls 8 [(4, .long (lN (pr un li (nu 1)))), (2, .long (lN (pr un li (nu 0)))), (0, .ref (ad 12)), (1, .int (nI 8))] := hl
    refine lv_aload_n hx hb d_Mo_reckon_13 rfl (lv_at hl 2 rfl) ?_
    refine lv_iconst (v := nI 2) hx hb d_Mo_reckon_14 (by decide) ?_
    refine zgo_l (wr := []) C0 (zrunV (na := 1) (As := [.int (nI 2)]) (rest := []) C0 hP hD hS [0, 1, 2, 3, 4, 5, 6, 7, 8] rfl rfl (m_Mo_part l D ca k H.size ad cd po nu pt st 0 pl bk me kc ro en un li tn tx ia ct md lb wn 2 (by omega) hn hu hu2 hl0 hl2) (zg_V q634 q636 q828 q7 q637) (by decide +kernel) rfl rfl ⟨by decide, by decide⟩ 0 rfl rfl rfl hl.1 rfl (Nat.le_of_ble_eq_true rfl) d_Mo_reckon_15 ⟨Nat.zero_le _, Nat.zero_le _⟩) hP hD hS [0, 1, 2, 3, 4, 5, 6, 7, 8] [] rfl rfl (by decide) (by decide) (fun r3 w1 H locs hw hP hD hS => ?_)
    obtain ⟨rfl, rfl⟩ := hw
    have hP : va_P D vCl (wM ad ca cd po nu pt st 0 pl bk me kc ro en un li tn tx ia ct md lb wn) H := hP
    have hD : va_D A (wM ad ca cd po nu pt st 0 pl bk me kc ro en un li tn tx ia ct md lb wn) := hD
    refine lv_lstore hx hb d_Mo_reckon_18 hl (by decide) rfl (fun ls hl => ?_)
    have hl : lv_has ls 8 [(6, .long (lN (pr un li (nu 2)))), (4, .long (lN (pr un li (nu 1)))), (2, .long (lN (pr un li (nu 0)))), (0, .ref (ad 12)), (1, .int (nI 8))] := hl
    refine lv_iload_n hx hb d_Mo_reckon_20 rfl (lv_at hl 4 rfl) ?_
    refine lv_tableIn (off := 103) (tgt := 124) hx hb d_Mo_reckon_21 (by decide) (by decide) (by decide) (by decide) ?_
    refine lv_aload_n hx hb d_Mo_reckon_124 rfl (lv_at hl 3 rfl) ?_
    refine lv_iconst (v := nI 0) hx hb d_Mo_reckon_125 (by decide) ?_
    refine lv_lload_n hx hb d_Mo_reckon_126 rfl (lv_at hl 2 rfl) ?_
    refine lv_lload hx hb d_Mo_reckon_127 (lv_at hl 1 rfl) ?_
    refine lv_ladd hx hb d_Mo_reckon_129 ?_
    refine ztl (y := lN ((pr un li (nu 0)) + (pr un li (nu 1)))) (lN_add _ _) ?_
    refine ztl (y := Int64.ofInt ((((pr un li (nu 0)) + (pr un li (nu 1)) : Nat) : Int))) lN_int ?_
    refine zgo_v (wr := []) C0 (zrunV (na := 2) (As := [.int (nI 0), .long (Int64.ofInt (((pr un li (nu 0)) + (pr un li (nu 1)) : Nat) : Int))]) (rest := []) C0 hP hD hS [0, 1, 2, 3, 4, 5, 6, 7, 8] rfl rfl (m_Mo_become l D ca k H.size ad cd po nu pt st 0 pl bk me kc ro en un li tn tx ia ct md lb wn 0 (((pr un li (nu 0)) + (pr un li (nu 1)) : Nat) : Int) (by omega) (by omega) (by omega) hn hu hu2 hl0 hl2) (zg_V q646 q648 q831 q7 q649) (by decide +kernel) rfl rfl ⟨by decide, by decide⟩ 0 rfl rfl rfl hl.1 rfl (Nat.le_of_ble_eq_true rfl) d_Mo_reckon_130 ⟨Nat.zero_le _, Nat.zero_le _⟩) hP hD hS [0, 1, 2, 3, 4, 5, 6, 7, 8] [] rfl rfl (by decide) (by decide) (fun w1 H locs hw hP hD hS => ?_)
    obtain rfl := hw
    have hP : va_P D vCl (wM ad ca cd po (wr un li nu 0 (rz li (((pr un li (nu 0)) + (pr un li (nu 1)) : Nat) : Int))) pt st (rc li (((pr un li (nu 0)) + (pr un li (nu 1)) : Nat) : Int)) pl bk me kc ro en un li tn tx ia ct md lb wn) H := hP
    have hD : va_D A (wM ad ca cd po (wr un li nu 0 (rz li (((pr un li (nu 0)) + (pr un li (nu 1)) : Nat) : Int))) pt st (rc li (((pr un li (nu 0)) + (pr un li (nu 1)) : Nat) : Int)) pl bk me kc ro en un li tn tx ia ct md lb wn) := hD
    refine lv_goto (tgt := 389) hx hb d_Mo_reckon_133 (by decide) ?_
    exact zret_v C0 hr hAe hP hD hS rfl d_Mo_reckon_389
  · skip
    refine lv_aload_n hx hb d_Mo_reckon_0 rfl (lv_at hl 0 rfl) ?_
    refine lv_iconst (v := nI 0) hx hb d_Mo_reckon_1 (by decide) ?_
    refine zgo_l (wr := []) C0 (zrunV (na := 1) (As := [.int (nI 0)]) (rest := []) C0 hP hD hS [0, 1, 2, 3, 4, 5, 6, 7, 8] rfl rfl (m_Mo_part l D ca k s.heap.size ad cd po nu pt st 0 pl bk me kc ro en un li tn tx ia ct md lb wn 0 (by omega) hn hu hu2 hl0 hl2) (zg_V q634 q636 q828 q7 q637) (by decide +kernel) rfl rfl ⟨by decide, by decide⟩ 0 rfl rfl rfl hl.1 rfl (Nat.le_of_ble_eq_true rfl) d_Mo_reckon_2 ⟨Nat.zero_le _, Nat.zero_le _⟩) hP hD hS [0, 1, 2, 3, 4, 5, 6, 7, 8] [] rfl rfl (by decide) (by decide) (fun r5 w1 H locs hw hP hD hS => ?_)
    obtain ⟨rfl, rfl⟩ := hw
    have hP : va_P D vCl (wM ad ca cd po nu pt st 0 pl bk me kc ro en un li tn tx ia ct md lb wn) H := hP
    have hD : va_D A (wM ad ca cd po nu pt st 0 pl bk me kc ro en un li tn tx ia ct md lb wn) := hD
    refine lv_lstore_n hx hb d_Mo_reckon_5 rfl hl (by decide) rfl (fun ls hl => ?_)
    have hl : lv_has ls 8 [(2, .long (lN (pr un li (nu 0)))), (0, .ref (ad 12)), (1, .int (nI 9))] := hl
    refine lv_aload_n hx hb d_Mo_reckon_6 rfl (lv_at hl 1 rfl) ?_
    refine lv_iconst (v := nI 1) hx hb d_Mo_reckon_7 (by decide) ?_
    refine zgo_l (wr := []) C0 (zrunV (na := 1) (As := [.int (nI 1)]) (rest := []) C0 hP hD hS [0, 1, 2, 3, 4, 5, 6, 7, 8] rfl rfl (m_Mo_part l D ca k H.size ad cd po nu pt st 0 pl bk me kc ro en un li tn tx ia ct md lb wn 1 (by omega) hn hu hu2 hl0 hl2) (zg_V q634 q636 q828 q7 q637) (by decide +kernel) rfl rfl ⟨by decide, by decide⟩ 0 rfl rfl rfl hl.1 rfl (Nat.le_of_ble_eq_true rfl) d_Mo_reckon_8 ⟨Nat.zero_le _, Nat.zero_le _⟩) hP hD hS [0, 1, 2, 3, 4, 5, 6, 7, 8] [] rfl rfl (by decide) (by decide) (fun r6 w1 H locs hw hP hD hS => ?_)
    obtain ⟨rfl, rfl⟩ := hw
    have hP : va_P D vCl (wM ad ca cd po nu pt st 0 pl bk me kc ro en un li tn tx ia ct md lb wn) H := hP
    have hD : va_D A (wM ad ca cd po nu pt st 0 pl bk me kc ro en un li tn tx ia ct md lb wn) := hD
    refine lv_lstore hx hb d_Mo_reckon_11 hl (by decide) rfl (fun ls hl => ?_)
    have hl : lv_has ls 8 [(4, .long (lN (pr un li (nu 1)))), (2, .long (lN (pr un li (nu 0)))), (0, .ref (ad 12)), (1, .int (nI 9))] := hl
    refine lv_aload_n hx hb d_Mo_reckon_13 rfl (lv_at hl 2 rfl) ?_
    refine lv_iconst (v := nI 2) hx hb d_Mo_reckon_14 (by decide) ?_
    refine zgo_l (wr := []) C0 (zrunV (na := 1) (As := [.int (nI 2)]) (rest := []) C0 hP hD hS [0, 1, 2, 3, 4, 5, 6, 7, 8] rfl rfl (m_Mo_part l D ca k H.size ad cd po nu pt st 0 pl bk me kc ro en un li tn tx ia ct md lb wn 2 (by omega) hn hu hu2 hl0 hl2) (zg_V q634 q636 q828 q7 q637) (by decide +kernel) rfl rfl ⟨by decide, by decide⟩ 0 rfl rfl rfl hl.1 rfl (Nat.le_of_ble_eq_true rfl) d_Mo_reckon_15 ⟨Nat.zero_le _, Nat.zero_le _⟩) hP hD hS [0, 1, 2, 3, 4, 5, 6, 7, 8] [] rfl rfl (by decide) (by decide) (fun r7 w1 H locs hw hP hD hS => ?_)
    obtain ⟨rfl, rfl⟩ := hw
    have hP : va_P D vCl (wM ad ca cd po nu pt st 0 pl bk me kc ro en un li tn tx ia ct md lb wn) H := hP
    have hD : va_D A (wM ad ca cd po nu pt st 0 pl bk me kc ro en un li tn tx ia ct md lb wn) := hD
    refine lv_lstore hx hb d_Mo_reckon_18 hl (by decide) rfl (fun ls hl => ?_)
    have hl : lv_has ls 8 [(6, .long (lN (pr un li (nu 2)))), (4, .long (lN (pr un li (nu 1)))), (2, .long (lN (pr un li (nu 0)))), (0, .ref (ad 12)), (1, .int (nI 9))] := hl
    refine lv_iload_n hx hb d_Mo_reckon_20 rfl (lv_at hl 4 rfl) ?_
    refine lv_tableIn (off := 115) (tgt := 136) hx hb d_Mo_reckon_21 (by decide) (by decide) (by decide) (by decide) ?_
    refine lv_aload_n hx hb d_Mo_reckon_136 rfl (lv_at hl 3 rfl) ?_
    refine lv_iconst (v := nI 0) hx hb d_Mo_reckon_137 (by decide) ?_
    refine lv_lload_n hx hb d_Mo_reckon_138 rfl (lv_at hl 2 rfl) ?_
    refine lv_lload hx hb d_Mo_reckon_139 (lv_at hl 0 rfl) ?_
    refine lv_ladd hx hb d_Mo_reckon_141 ?_
    refine ztl (y := lN ((pr un li (nu 0)) + (pr un li (nu 2)))) (lN_add _ _) ?_
    refine ztl (y := Int64.ofInt ((((pr un li (nu 0)) + (pr un li (nu 2)) : Nat) : Int))) lN_int ?_
    refine zgo_v (wr := []) C0 (zrunV (na := 2) (As := [.int (nI 0), .long (Int64.ofInt (((pr un li (nu 0)) + (pr un li (nu 2)) : Nat) : Int))]) (rest := []) C0 hP hD hS [0, 1, 2, 3, 4, 5, 6, 7, 8] rfl rfl (m_Mo_become l D ca k H.size ad cd po nu pt st 0 pl bk me kc ro en un li tn tx ia ct md lb wn 0 (((pr un li (nu 0)) + (pr un li (nu 2)) : Nat) : Int) (by omega) (by omega) (by omega) hn hu hu2 hl0 hl2) (zg_V q646 q648 q831 q7 q649) (by decide +kernel) rfl rfl ⟨by decide, by decide⟩ 0 rfl rfl rfl hl.1 rfl (Nat.le_of_ble_eq_true rfl) d_Mo_reckon_142 ⟨Nat.zero_le _, Nat.zero_le _⟩) hP hD hS [0, 1, 2, 3, 4, 5, 6, 7, 8] [] rfl rfl (by decide) (by decide) (fun w1 H locs hw hP hD hS => ?_)
    obtain rfl := hw
    have hP : va_P D vCl (wM ad ca cd po (wr un li nu 0 (rz li (((pr un li (nu 0)) + (pr un li (nu 2)) : Nat) : Int))) pt st (rc li (((pr un li (nu 0)) + (pr un li (nu 2)) : Nat) : Int)) pl bk me kc ro en un li tn tx ia ct md lb wn) H := hP
    have hD : va_D A (wM ad ca cd po (wr un li nu 0 (rz li (((pr un li (nu 0)) + (pr un li (nu 2)) : Nat) : Int))) pt st (rc li (((pr un li (nu 0)) + (pr un li (nu 2)) : Nat) : Int)) pl bk me kc ro en un li tn tx ia ct md lb wn) := hD
    refine lv_goto (tgt := 389) hx hb d_Mo_reckon_145 (by decide) ?_
    exact zret_v C0 hr hAe hP hD hS rfl d_Mo_reckon_389
  · skip
    refine lv_aload_n hx hb d_Mo_reckon_0 rfl (lv_at hl 0 rfl) ?_
    refine lv_iconst (v := nI 0) hx hb d_Mo_reckon_1 (by decide) ?_
    refine zgo_l (wr := []) C0 (zrunV (na := 1) (As := [.int (nI 0)]) (rest := []) C0 hP hD hS [0, 1, 2, 3, 4, 5, 6, 7, 8] rfl rfl (m_Mo_part l D ca k s.heap.size ad cd po nu pt st 0 pl bk me kc ro en un li tn tx ia ct md lb wn 0 (by omega) hn hu hu2 hl0 hl2) (zg_V q634 q636 q828 q7 q637) (by decide +kernel) rfl rfl ⟨by decide, by decide⟩ 0 rfl rfl rfl hl.1 rfl (Nat.le_of_ble_eq_true rfl) d_Mo_reckon_2 ⟨Nat.zero_le _, Nat.zero_le _⟩) hP hD hS [0, 1, 2, 3, 4, 5, 6, 7, 8] [] rfl rfl (by decide) (by decide) (fun r9 w1 H locs hw hP hD hS => ?_)
    obtain ⟨rfl, rfl⟩ := hw
    have hP : va_P D vCl (wM ad ca cd po nu pt st 0 pl bk me kc ro en un li tn tx ia ct md lb wn) H := hP
    have hD : va_D A (wM ad ca cd po nu pt st 0 pl bk me kc ro en un li tn tx ia ct md lb wn) := hD
    refine lv_lstore_n hx hb d_Mo_reckon_5 rfl hl (by decide) rfl (fun ls hl => ?_)
    have hl : lv_has ls 8 [(2, .long (lN (pr un li (nu 0)))), (0, .ref (ad 12)), (1, .int (nI 10))] := hl
    refine lv_aload_n hx hb d_Mo_reckon_6 rfl (lv_at hl 1 rfl) ?_
    refine lv_iconst (v := nI 1) hx hb d_Mo_reckon_7 (by decide) ?_
    refine zgo_l (wr := []) C0 (zrunV (na := 1) (As := [.int (nI 1)]) (rest := []) C0 hP hD hS [0, 1, 2, 3, 4, 5, 6, 7, 8] rfl rfl (m_Mo_part l D ca k H.size ad cd po nu pt st 0 pl bk me kc ro en un li tn tx ia ct md lb wn 1 (by omega) hn hu hu2 hl0 hl2) (zg_V q634 q636 q828 q7 q637) (by decide +kernel) rfl rfl ⟨by decide, by decide⟩ 0 rfl rfl rfl hl.1 rfl (Nat.le_of_ble_eq_true rfl) d_Mo_reckon_8 ⟨Nat.zero_le _, Nat.zero_le _⟩) hP hD hS [0, 1, 2, 3, 4, 5, 6, 7, 8] [] rfl rfl (by decide) (by decide) (fun r10 w1 H locs hw hP hD hS => ?_)
    obtain ⟨rfl, rfl⟩ := hw
    have hP : va_P D vCl (wM ad ca cd po nu pt st 0 pl bk me kc ro en un li tn tx ia ct md lb wn) H := hP
    have hD : va_D A (wM ad ca cd po nu pt st 0 pl bk me kc ro en un li tn tx ia ct md lb wn) := hD
    refine lv_lstore hx hb d_Mo_reckon_11 hl (by decide) rfl (fun ls hl => ?_)
    have hl : lv_has ls 8 [(4, .long (lN (pr un li (nu 1)))), (2, .long (lN (pr un li (nu 0)))), (0, .ref (ad 12)), (1, .int (nI 10))] := hl
    refine lv_aload_n hx hb d_Mo_reckon_13 rfl (lv_at hl 2 rfl) ?_
    refine lv_iconst (v := nI 2) hx hb d_Mo_reckon_14 (by decide) ?_
    refine zgo_l (wr := []) C0 (zrunV (na := 1) (As := [.int (nI 2)]) (rest := []) C0 hP hD hS [0, 1, 2, 3, 4, 5, 6, 7, 8] rfl rfl (m_Mo_part l D ca k H.size ad cd po nu pt st 0 pl bk me kc ro en un li tn tx ia ct md lb wn 2 (by omega) hn hu hu2 hl0 hl2) (zg_V q634 q636 q828 q7 q637) (by decide +kernel) rfl rfl ⟨by decide, by decide⟩ 0 rfl rfl rfl hl.1 rfl (Nat.le_of_ble_eq_true rfl) d_Mo_reckon_15 ⟨Nat.zero_le _, Nat.zero_le _⟩) hP hD hS [0, 1, 2, 3, 4, 5, 6, 7, 8] [] rfl rfl (by decide) (by decide) (fun r11 w1 H locs hw hP hD hS => ?_)
    obtain ⟨rfl, rfl⟩ := hw
    have hP : va_P D vCl (wM ad ca cd po nu pt st 0 pl bk me kc ro en un li tn tx ia ct md lb wn) H := hP
    have hD : va_D A (wM ad ca cd po nu pt st 0 pl bk me kc ro en un li tn tx ia ct md lb wn) := hD
    refine lv_lstore hx hb d_Mo_reckon_18 hl (by decide) rfl (fun ls hl => ?_)
    have hl : lv_has ls 8 [(6, .long (lN (pr un li (nu 2)))), (4, .long (lN (pr un li (nu 1)))), (2, .long (lN (pr un li (nu 0)))), (0, .ref (ad 12)), (1, .int (nI 10))] := hl
    refine lv_iload_n hx hb d_Mo_reckon_20 rfl (lv_at hl 4 rfl) ?_
    refine lv_tableIn (off := 127) (tgt := 148) hx hb d_Mo_reckon_21 (by decide) (by decide) (by decide) (by decide) ?_
    refine lv_aload_n hx hb d_Mo_reckon_148 rfl (lv_at hl 3 rfl) ?_
    refine lv_iconst (v := nI 2) hx hb d_Mo_reckon_149 (by decide) ?_
    refine lv_lload_n hx hb d_Mo_reckon_150 rfl (lv_at hl 2 rfl) ?_
    refine lv_lload hx hb d_Mo_reckon_151 (lv_at hl 0 rfl) ?_
    refine lv_ladd hx hb d_Mo_reckon_153 ?_
    refine ztl (y := lN ((pr un li (nu 0)) + (pr un li (nu 2)))) (lN_add _ _) ?_
    refine ztl (y := Int64.ofInt ((((pr un li (nu 0)) + (pr un li (nu 2)) : Nat) : Int))) lN_int ?_
    refine zgo_v (wr := []) C0 (zrunV (na := 2) (As := [.int (nI 2), .long (Int64.ofInt (((pr un li (nu 0)) + (pr un li (nu 2)) : Nat) : Int))]) (rest := []) C0 hP hD hS [0, 1, 2, 3, 4, 5, 6, 7, 8] rfl rfl (m_Mo_become l D ca k H.size ad cd po nu pt st 0 pl bk me kc ro en un li tn tx ia ct md lb wn 2 (((pr un li (nu 0)) + (pr un li (nu 2)) : Nat) : Int) (by omega) (by omega) (by omega) hn hu hu2 hl0 hl2) (zg_V q646 q648 q831 q7 q649) (by decide +kernel) rfl rfl ⟨by decide, by decide⟩ 0 rfl rfl rfl hl.1 rfl (Nat.le_of_ble_eq_true rfl) d_Mo_reckon_154 ⟨Nat.zero_le _, Nat.zero_le _⟩) hP hD hS [0, 1, 2, 3, 4, 5, 6, 7, 8] [] rfl rfl (by decide) (by decide) (fun w1 H locs hw hP hD hS => ?_)
    obtain rfl := hw
    have hP : va_P D vCl (wM ad ca cd po (wr un li nu 2 (rz li (((pr un li (nu 0)) + (pr un li (nu 2)) : Nat) : Int))) pt st (rc li (((pr un li (nu 0)) + (pr un li (nu 2)) : Nat) : Int)) pl bk me kc ro en un li tn tx ia ct md lb wn) H := hP
    have hD : va_D A (wM ad ca cd po (wr un li nu 2 (rz li (((pr un li (nu 0)) + (pr un li (nu 2)) : Nat) : Int))) pt st (rc li (((pr un li (nu 0)) + (pr un li (nu 2)) : Nat) : Int)) pl bk me kc ro en un li tn tx ia ct md lb wn) := hD
    refine lv_goto (tgt := 389) hx hb d_Mo_reckon_157 (by decide) ?_
    exact zret_v C0 hr hAe hP hD hS rfl d_Mo_reckon_389
  · skip
    refine lv_aload_n hx hb d_Mo_reckon_0 rfl (lv_at hl 0 rfl) ?_
    refine lv_iconst (v := nI 0) hx hb d_Mo_reckon_1 (by decide) ?_
    refine zgo_l (wr := []) C0 (zrunV (na := 1) (As := [.int (nI 0)]) (rest := []) C0 hP hD hS [0, 1, 2, 3, 4, 5, 6, 7, 8] rfl rfl (m_Mo_part l D ca k s.heap.size ad cd po nu pt st 0 pl bk me kc ro en un li tn tx ia ct md lb wn 0 (by omega) hn hu hu2 hl0 hl2) (zg_V q634 q636 q828 q7 q637) (by decide +kernel) rfl rfl ⟨by decide, by decide⟩ 0 rfl rfl rfl hl.1 rfl (Nat.le_of_ble_eq_true rfl) d_Mo_reckon_2 ⟨Nat.zero_le _, Nat.zero_le _⟩) hP hD hS [0, 1, 2, 3, 4, 5, 6, 7, 8] [] rfl rfl (by decide) (by decide) (fun r13 w1 H locs hw hP hD hS => ?_)
    obtain ⟨rfl, rfl⟩ := hw
    have hP : va_P D vCl (wM ad ca cd po nu pt st 0 pl bk me kc ro en un li tn tx ia ct md lb wn) H := hP
    have hD : va_D A (wM ad ca cd po nu pt st 0 pl bk me kc ro en un li tn tx ia ct md lb wn) := hD
    refine lv_lstore_n hx hb d_Mo_reckon_5 rfl hl (by decide) rfl (fun ls hl => ?_)
    have hl : lv_has ls 8 [(2, .long (lN (pr un li (nu 0)))), (0, .ref (ad 12)), (1, .int (nI 11))] := hl
    refine lv_aload_n hx hb d_Mo_reckon_6 rfl (lv_at hl 1 rfl) ?_
    refine lv_iconst (v := nI 1) hx hb d_Mo_reckon_7 (by decide) ?_
    refine zgo_l (wr := []) C0 (zrunV (na := 1) (As := [.int (nI 1)]) (rest := []) C0 hP hD hS [0, 1, 2, 3, 4, 5, 6, 7, 8] rfl rfl (m_Mo_part l D ca k H.size ad cd po nu pt st 0 pl bk me kc ro en un li tn tx ia ct md lb wn 1 (by omega) hn hu hu2 hl0 hl2) (zg_V q634 q636 q828 q7 q637) (by decide +kernel) rfl rfl ⟨by decide, by decide⟩ 0 rfl rfl rfl hl.1 rfl (Nat.le_of_ble_eq_true rfl) d_Mo_reckon_8 ⟨Nat.zero_le _, Nat.zero_le _⟩) hP hD hS [0, 1, 2, 3, 4, 5, 6, 7, 8] [] rfl rfl (by decide) (by decide) (fun r14 w1 H locs hw hP hD hS => ?_)
    obtain ⟨rfl, rfl⟩ := hw
    have hP : va_P D vCl (wM ad ca cd po nu pt st 0 pl bk me kc ro en un li tn tx ia ct md lb wn) H := hP
    have hD : va_D A (wM ad ca cd po nu pt st 0 pl bk me kc ro en un li tn tx ia ct md lb wn) := hD
    refine lv_lstore hx hb d_Mo_reckon_11 hl (by decide) rfl (fun ls hl => ?_)
    have hl : lv_has ls 8 [(4, .long (lN (pr un li (nu 1)))), (2, .long (lN (pr un li (nu 0)))), (0, .ref (ad 12)), (1, .int (nI 11))] := hl
    refine lv_aload_n hx hb d_Mo_reckon_13 rfl (lv_at hl 2 rfl) ?_
    refine lv_iconst (v := nI 2) hx hb d_Mo_reckon_14 (by decide) ?_
    refine zgo_l (wr := []) C0 (zrunV (na := 1) (As := [.int (nI 2)]) (rest := []) C0 hP hD hS [0, 1, 2, 3, 4, 5, 6, 7, 8] rfl rfl (m_Mo_part l D ca k H.size ad cd po nu pt st 0 pl bk me kc ro en un li tn tx ia ct md lb wn 2 (by omega) hn hu hu2 hl0 hl2) (zg_V q634 q636 q828 q7 q637) (by decide +kernel) rfl rfl ⟨by decide, by decide⟩ 0 rfl rfl rfl hl.1 rfl (Nat.le_of_ble_eq_true rfl) d_Mo_reckon_15 ⟨Nat.zero_le _, Nat.zero_le _⟩) hP hD hS [0, 1, 2, 3, 4, 5, 6, 7, 8] [] rfl rfl (by decide) (by decide) (fun r15 w1 H locs hw hP hD hS => ?_)
    obtain ⟨rfl, rfl⟩ := hw
    have hP : va_P D vCl (wM ad ca cd po nu pt st 0 pl bk me kc ro en un li tn tx ia ct md lb wn) H := hP
    have hD : va_D A (wM ad ca cd po nu pt st 0 pl bk me kc ro en un li tn tx ia ct md lb wn) := hD
    refine lv_lstore hx hb d_Mo_reckon_18 hl (by decide) rfl (fun ls hl => ?_)
    have hl : lv_has ls 8 [(6, .long (lN (pr un li (nu 2)))), (4, .long (lN (pr un li (nu 1)))), (2, .long (lN (pr un li (nu 0)))), (0, .ref (ad 12)), (1, .int (nI 11))] := hl
    refine lv_iload_n hx hb d_Mo_reckon_20 rfl (lv_at hl 4 rfl) ?_
    refine lv_tableIn (off := 139) (tgt := 160) hx hb d_Mo_reckon_21 (by decide) (by decide) (by decide) (by decide) ?_
    refine lv_aload_n hx hb d_Mo_reckon_160 rfl (lv_at hl 3 rfl) ?_
    refine lv_iconst (v := nI 0) hx hb d_Mo_reckon_161 (by decide) ?_
    refine lv_lload_n hx hb d_Mo_reckon_162 rfl (lv_at hl 2 rfl) ?_
    refine lv_lconst (v := lN 1) hx hb d_Mo_reckon_163 rfl ?_
    refine lv_ladd hx hb d_Mo_reckon_164 ?_
    refine ztl (y := lN ((pr un li (nu 0)) + 1)) (lN_add _ _) ?_
    refine ztl (y := Int64.ofInt ((((pr un li (nu 0)) + 1 : Nat) : Int))) lN_int ?_
    refine zgo_v (wr := []) C0 (zrunV (na := 2) (As := [.int (nI 0), .long (Int64.ofInt (((pr un li (nu 0)) + 1 : Nat) : Int))]) (rest := []) C0 hP hD hS [0, 1, 2, 3, 4, 5, 6, 7, 8] rfl rfl (m_Mo_become l D ca k H.size ad cd po nu pt st 0 pl bk me kc ro en un li tn tx ia ct md lb wn 0 (((pr un li (nu 0)) + 1 : Nat) : Int) (by omega) (by omega) (by omega) hn hu hu2 hl0 hl2) (zg_V q646 q648 q831 q7 q649) (by decide +kernel) rfl rfl ⟨by decide, by decide⟩ 0 rfl rfl rfl hl.1 rfl (Nat.le_of_ble_eq_true rfl) d_Mo_reckon_165 ⟨Nat.zero_le _, Nat.zero_le _⟩) hP hD hS [0, 1, 2, 3, 4, 5, 6, 7, 8] [] rfl rfl (by decide) (by decide) (fun w1 H locs hw hP hD hS => ?_)
    obtain rfl := hw
    have hP : va_P D vCl (wM ad ca cd po (wr un li nu 0 (rz li (((pr un li (nu 0)) + 1 : Nat) : Int))) pt st (rc li (((pr un li (nu 0)) + 1 : Nat) : Int)) pl bk me kc ro en un li tn tx ia ct md lb wn) H := hP
    have hD : va_D A (wM ad ca cd po (wr un li nu 0 (rz li (((pr un li (nu 0)) + 1 : Nat) : Int))) pt st (rc li (((pr un li (nu 0)) + 1 : Nat) : Int)) pl bk me kc ro en un li tn tx ia ct md lb wn) := hD
    refine lv_goto (tgt := 389) hx hb d_Mo_reckon_168 (by decide) ?_
    exact zret_v C0 hr hAe hP hD hS rfl d_Mo_reckon_389
  · skip
    refine lv_aload_n hx hb d_Mo_reckon_0 rfl (lv_at hl 0 rfl) ?_
    refine lv_iconst (v := nI 0) hx hb d_Mo_reckon_1 (by decide) ?_
    refine zgo_l (wr := []) C0 (zrunV (na := 1) (As := [.int (nI 0)]) (rest := []) C0 hP hD hS [0, 1, 2, 3, 4, 5, 6, 7, 8] rfl rfl (m_Mo_part l D ca k s.heap.size ad cd po nu pt st 0 pl bk me kc ro en un li tn tx ia ct md lb wn 0 (by omega) hn hu hu2 hl0 hl2) (zg_V q634 q636 q828 q7 q637) (by decide +kernel) rfl rfl ⟨by decide, by decide⟩ 0 rfl rfl rfl hl.1 rfl (Nat.le_of_ble_eq_true rfl) d_Mo_reckon_2 ⟨Nat.zero_le _, Nat.zero_le _⟩) hP hD hS [0, 1, 2, 3, 4, 5, 6, 7, 8] [] rfl rfl (by decide) (by decide) (fun r17 w1 H locs hw hP hD hS => ?_)
    obtain ⟨rfl, rfl⟩ := hw
    have hP : va_P D vCl (wM ad ca cd po nu pt st 0 pl bk me kc ro en un li tn tx ia ct md lb wn) H := hP
    have hD : va_D A (wM ad ca cd po nu pt st 0 pl bk me kc ro en un li tn tx ia ct md lb wn) := hD
    refine lv_lstore_n hx hb d_Mo_reckon_5 rfl hl (by decide) rfl (fun ls hl => ?_)
    have hl : lv_has ls 8 [(2, .long (lN (pr un li (nu 0)))), (0, .ref (ad 12)), (1, .int (nI 12))] := hl
    refine lv_aload_n hx hb d_Mo_reckon_6 rfl (lv_at hl 1 rfl) ?_
    refine lv_iconst (v := nI 1) hx hb d_Mo_reckon_7 (by decide) ?_
    refine zgo_l (wr := []) C0 (zrunV (na := 1) (As := [.int (nI 1)]) (rest := []) C0 hP hD hS [0, 1, 2, 3, 4, 5, 6, 7, 8] rfl rfl (m_Mo_part l D ca k H.size ad cd po nu pt st 0 pl bk me kc ro en un li tn tx ia ct md lb wn 1 (by omega) hn hu hu2 hl0 hl2) (zg_V q634 q636 q828 q7 q637) (by decide +kernel) rfl rfl ⟨by decide, by decide⟩ 0 rfl rfl rfl hl.1 rfl (Nat.le_of_ble_eq_true rfl) d_Mo_reckon_8 ⟨Nat.zero_le _, Nat.zero_le _⟩) hP hD hS [0, 1, 2, 3, 4, 5, 6, 7, 8] [] rfl rfl (by decide) (by decide) (fun r18 w1 H locs hw hP hD hS => ?_)
    obtain ⟨rfl, rfl⟩ := hw
    have hP : va_P D vCl (wM ad ca cd po nu pt st 0 pl bk me kc ro en un li tn tx ia ct md lb wn) H := hP
    have hD : va_D A (wM ad ca cd po nu pt st 0 pl bk me kc ro en un li tn tx ia ct md lb wn) := hD
    refine lv_lstore hx hb d_Mo_reckon_11 hl (by decide) rfl (fun ls hl => ?_)
    have hl : lv_has ls 8 [(4, .long (lN (pr un li (nu 1)))), (2, .long (lN (pr un li (nu 0)))), (0, .ref (ad 12)), (1, .int (nI 12))] := hl
    refine lv_aload_n hx hb d_Mo_reckon_13 rfl (lv_at hl 2 rfl) ?_
    refine lv_iconst (v := nI 2) hx hb d_Mo_reckon_14 (by decide) ?_
    refine zgo_l (wr := []) C0 (zrunV (na := 1) (As := [.int (nI 2)]) (rest := []) C0 hP hD hS [0, 1, 2, 3, 4, 5, 6, 7, 8] rfl rfl (m_Mo_part l D ca k H.size ad cd po nu pt st 0 pl bk me kc ro en un li tn tx ia ct md lb wn 2 (by omega) hn hu hu2 hl0 hl2) (zg_V q634 q636 q828 q7 q637) (by decide +kernel) rfl rfl ⟨by decide, by decide⟩ 0 rfl rfl rfl hl.1 rfl (Nat.le_of_ble_eq_true rfl) d_Mo_reckon_15 ⟨Nat.zero_le _, Nat.zero_le _⟩) hP hD hS [0, 1, 2, 3, 4, 5, 6, 7, 8] [] rfl rfl (by decide) (by decide) (fun r19 w1 H locs hw hP hD hS => ?_)
    obtain ⟨rfl, rfl⟩ := hw
    have hP : va_P D vCl (wM ad ca cd po nu pt st 0 pl bk me kc ro en un li tn tx ia ct md lb wn) H := hP
    have hD : va_D A (wM ad ca cd po nu pt st 0 pl bk me kc ro en un li tn tx ia ct md lb wn) := hD
    refine lv_lstore hx hb d_Mo_reckon_18 hl (by decide) rfl (fun ls hl => ?_)
    have hl : lv_has ls 8 [(6, .long (lN (pr un li (nu 2)))), (4, .long (lN (pr un li (nu 1)))), (2, .long (lN (pr un li (nu 0)))), (0, .ref (ad 12)), (1, .int (nI 12))] := hl
    refine lv_iload_n hx hb d_Mo_reckon_20 rfl (lv_at hl 4 rfl) ?_
    refine lv_tableIn (off := 150) (tgt := 171) hx hb d_Mo_reckon_21 (by decide) (by decide) (by decide) (by decide) ?_
    refine lv_aload_n hx hb d_Mo_reckon_171 rfl (lv_at hl 3 rfl) ?_
    refine lv_iconst (v := nI 2) hx hb d_Mo_reckon_172 (by decide) ?_
    refine lv_lload hx hb d_Mo_reckon_173 (lv_at hl 0 rfl) ?_
    refine lv_lconst (v := lN 1) hx hb d_Mo_reckon_175 rfl ?_
    refine lv_ladd hx hb d_Mo_reckon_176 ?_
    refine ztl (y := lN ((pr un li (nu 2)) + 1)) (lN_add _ _) ?_
    refine ztl (y := Int64.ofInt ((((pr un li (nu 2)) + 1 : Nat) : Int))) lN_int ?_
    refine zgo_v (wr := []) C0 (zrunV (na := 2) (As := [.int (nI 2), .long (Int64.ofInt (((pr un li (nu 2)) + 1 : Nat) : Int))]) (rest := []) C0 hP hD hS [0, 1, 2, 3, 4, 5, 6, 7, 8] rfl rfl (m_Mo_become l D ca k H.size ad cd po nu pt st 0 pl bk me kc ro en un li tn tx ia ct md lb wn 2 (((pr un li (nu 2)) + 1 : Nat) : Int) (by omega) (by omega) (by omega) hn hu hu2 hl0 hl2) (zg_V q646 q648 q831 q7 q649) (by decide +kernel) rfl rfl ⟨by decide, by decide⟩ 0 rfl rfl rfl hl.1 rfl (Nat.le_of_ble_eq_true rfl) d_Mo_reckon_177 ⟨Nat.zero_le _, Nat.zero_le _⟩) hP hD hS [0, 1, 2, 3, 4, 5, 6, 7, 8] [] rfl rfl (by decide) (by decide) (fun w1 H locs hw hP hD hS => ?_)
    obtain rfl := hw
    have hP : va_P D vCl (wM ad ca cd po (wr un li nu 2 (rz li (((pr un li (nu 2)) + 1 : Nat) : Int))) pt st (rc li (((pr un li (nu 2)) + 1 : Nat) : Int)) pl bk me kc ro en un li tn tx ia ct md lb wn) H := hP
    have hD : va_D A (wM ad ca cd po (wr un li nu 2 (rz li (((pr un li (nu 2)) + 1 : Nat) : Int))) pt st (rc li (((pr un li (nu 2)) + 1 : Nat) : Int)) pl bk me kc ro en un li tn tx ia ct md lb wn) := hD
    refine lv_goto (tgt := 389) hx hb d_Mo_reckon_180 (by decide) ?_
    exact zret_v C0 hr hAe hP hD hS rfl d_Mo_reckon_389
  · skip
    refine lv_aload_n hx hb d_Mo_reckon_0 rfl (lv_at hl 0 rfl) ?_
    refine lv_iconst (v := nI 0) hx hb d_Mo_reckon_1 (by decide) ?_
    refine zgo_l (wr := []) C0 (zrunV (na := 1) (As := [.int (nI 0)]) (rest := []) C0 hP hD hS [0, 1, 2, 3, 4, 5, 6, 7, 8] rfl rfl (m_Mo_part l D ca k s.heap.size ad cd po nu pt st 0 pl bk me kc ro en un li tn tx ia ct md lb wn 0 (by omega) hn hu hu2 hl0 hl2) (zg_V q634 q636 q828 q7 q637) (by decide +kernel) rfl rfl ⟨by decide, by decide⟩ 0 rfl rfl rfl hl.1 rfl (Nat.le_of_ble_eq_true rfl) d_Mo_reckon_2 ⟨Nat.zero_le _, Nat.zero_le _⟩) hP hD hS [0, 1, 2, 3, 4, 5, 6, 7, 8] [] rfl rfl (by decide) (by decide) (fun r21 w1 H locs hw hP hD hS => ?_)
    obtain ⟨rfl, rfl⟩ := hw
    have hP : va_P D vCl (wM ad ca cd po nu pt st 0 pl bk me kc ro en un li tn tx ia ct md lb wn) H := hP
    have hD : va_D A (wM ad ca cd po nu pt st 0 pl bk me kc ro en un li tn tx ia ct md lb wn) := hD
    refine lv_lstore_n hx hb d_Mo_reckon_5 rfl hl (by decide) rfl (fun ls hl => ?_)
    have hl : lv_has ls 8 [(2, .long (lN (pr un li (nu 0)))), (0, .ref (ad 12)), (1, .int (nI 13))] := hl
    refine lv_aload_n hx hb d_Mo_reckon_6 rfl (lv_at hl 1 rfl) ?_
    refine lv_iconst (v := nI 1) hx hb d_Mo_reckon_7 (by decide) ?_
    refine zgo_l (wr := []) C0 (zrunV (na := 1) (As := [.int (nI 1)]) (rest := []) C0 hP hD hS [0, 1, 2, 3, 4, 5, 6, 7, 8] rfl rfl (m_Mo_part l D ca k H.size ad cd po nu pt st 0 pl bk me kc ro en un li tn tx ia ct md lb wn 1 (by omega) hn hu hu2 hl0 hl2) (zg_V q634 q636 q828 q7 q637) (by decide +kernel) rfl rfl ⟨by decide, by decide⟩ 0 rfl rfl rfl hl.1 rfl (Nat.le_of_ble_eq_true rfl) d_Mo_reckon_8 ⟨Nat.zero_le _, Nat.zero_le _⟩) hP hD hS [0, 1, 2, 3, 4, 5, 6, 7, 8] [] rfl rfl (by decide) (by decide) (fun r22 w1 H locs hw hP hD hS => ?_)
    obtain ⟨rfl, rfl⟩ := hw
    have hP : va_P D vCl (wM ad ca cd po nu pt st 0 pl bk me kc ro en un li tn tx ia ct md lb wn) H := hP
    have hD : va_D A (wM ad ca cd po nu pt st 0 pl bk me kc ro en un li tn tx ia ct md lb wn) := hD
    refine lv_lstore hx hb d_Mo_reckon_11 hl (by decide) rfl (fun ls hl => ?_)
    have hl : lv_has ls 8 [(4, .long (lN (pr un li (nu 1)))), (2, .long (lN (pr un li (nu 0)))), (0, .ref (ad 12)), (1, .int (nI 13))] := hl
    refine lv_aload_n hx hb d_Mo_reckon_13 rfl (lv_at hl 2 rfl) ?_
    refine lv_iconst (v := nI 2) hx hb d_Mo_reckon_14 (by decide) ?_
    refine zgo_l (wr := []) C0 (zrunV (na := 1) (As := [.int (nI 2)]) (rest := []) C0 hP hD hS [0, 1, 2, 3, 4, 5, 6, 7, 8] rfl rfl (m_Mo_part l D ca k H.size ad cd po nu pt st 0 pl bk me kc ro en un li tn tx ia ct md lb wn 2 (by omega) hn hu hu2 hl0 hl2) (zg_V q634 q636 q828 q7 q637) (by decide +kernel) rfl rfl ⟨by decide, by decide⟩ 0 rfl rfl rfl hl.1 rfl (Nat.le_of_ble_eq_true rfl) d_Mo_reckon_15 ⟨Nat.zero_le _, Nat.zero_le _⟩) hP hD hS [0, 1, 2, 3, 4, 5, 6, 7, 8] [] rfl rfl (by decide) (by decide) (fun r23 w1 H locs hw hP hD hS => ?_)
    obtain ⟨rfl, rfl⟩ := hw
    have hP : va_P D vCl (wM ad ca cd po nu pt st 0 pl bk me kc ro en un li tn tx ia ct md lb wn) H := hP
    have hD : va_D A (wM ad ca cd po nu pt st 0 pl bk me kc ro en un li tn tx ia ct md lb wn) := hD
    refine lv_lstore hx hb d_Mo_reckon_18 hl (by decide) rfl (fun ls hl => ?_)
    have hl : lv_has ls 8 [(6, .long (lN (pr un li (nu 2)))), (4, .long (lN (pr un li (nu 1)))), (2, .long (lN (pr un li (nu 0)))), (0, .ref (ad 12)), (1, .int (nI 13))] := hl
    refine lv_iload_n hx hb d_Mo_reckon_20 rfl (lv_at hl 4 rfl) ?_
    refine lv_tableIn (off := 162) (tgt := 183) hx hb d_Mo_reckon_21 (by decide) (by decide) (by decide) (by decide) ?_
    refine lv_aload_n hx hb d_Mo_reckon_183 rfl (lv_at hl 3 rfl) ?_
    refine lv_iconst (v := nI 0) hx hb d_Mo_reckon_184 (by decide) ?_
    refine lv_lload_n hx hb d_Mo_reckon_185 rfl (lv_at hl 2 rfl) ?_
    refine lv_lload hx hb d_Mo_reckon_186 (lv_at hl 1 rfl) ?_
    refine lv_lsub hx hb d_Mo_reckon_188 ?_
    refine ztl (y := Int64.ofInt ((((pr un li (nu 0) : Nat) : Int) : Int) - (pr un li (nu 1) : Nat))) zL_sub ?_
    refine zgo_v (wr := []) C0 (zrunV (na := 2) (As := [.int (nI 0), .long (Int64.ofInt ((((pr un li (nu 0) : Nat) : Int) : Int) - (pr un li (nu 1) : Nat)))]) (rest := []) C0 hP hD hS [0, 1, 2, 3, 4, 5, 6, 7, 8] rfl rfl (m_Mo_become l D ca k H.size ad cd po nu pt st 0 pl bk me kc ro en un li tn tx ia ct md lb wn 0 ((((pr un li (nu 0) : Nat) : Int) : Int) - (pr un li (nu 1) : Nat)) (by omega) (by omega) (by omega) hn hu hu2 hl0 hl2) (zg_V q646 q648 q831 q7 q649) (by decide +kernel) rfl rfl ⟨by decide, by decide⟩ 0 rfl rfl rfl hl.1 rfl (Nat.le_of_ble_eq_true rfl) d_Mo_reckon_189 ⟨Nat.zero_le _, Nat.zero_le _⟩) hP hD hS [0, 1, 2, 3, 4, 5, 6, 7, 8] [] rfl rfl (by decide) (by decide) (fun w1 H locs hw hP hD hS => ?_)
    obtain rfl := hw
    have hP : va_P D vCl (wM ad ca cd po (wr un li nu 0 (rz li ((((pr un li (nu 0) : Nat) : Int) : Int) - (pr un li (nu 1) : Nat)))) pt st (rc li ((((pr un li (nu 0) : Nat) : Int) : Int) - (pr un li (nu 1) : Nat))) pl bk me kc ro en un li tn tx ia ct md lb wn) H := hP
    have hD : va_D A (wM ad ca cd po (wr un li nu 0 (rz li ((((pr un li (nu 0) : Nat) : Int) : Int) - (pr un li (nu 1) : Nat)))) pt st (rc li ((((pr un li (nu 0) : Nat) : Int) : Int) - (pr un li (nu 1) : Nat))) pl bk me kc ro en un li tn tx ia ct md lb wn) := hD
    refine lv_goto (tgt := 389) hx hb d_Mo_reckon_192 (by decide) ?_
    exact zret_v C0 hr hAe hP hD hS rfl d_Mo_reckon_389
  · skip
    refine lv_aload_n hx hb d_Mo_reckon_0 rfl (lv_at hl 0 rfl) ?_
    refine lv_iconst (v := nI 0) hx hb d_Mo_reckon_1 (by decide) ?_
    refine zgo_l (wr := []) C0 (zrunV (na := 1) (As := [.int (nI 0)]) (rest := []) C0 hP hD hS [0, 1, 2, 3, 4, 5, 6, 7, 8] rfl rfl (m_Mo_part l D ca k s.heap.size ad cd po nu pt st 0 pl bk me kc ro en un li tn tx ia ct md lb wn 0 (by omega) hn hu hu2 hl0 hl2) (zg_V q634 q636 q828 q7 q637) (by decide +kernel) rfl rfl ⟨by decide, by decide⟩ 0 rfl rfl rfl hl.1 rfl (Nat.le_of_ble_eq_true rfl) d_Mo_reckon_2 ⟨Nat.zero_le _, Nat.zero_le _⟩) hP hD hS [0, 1, 2, 3, 4, 5, 6, 7, 8] [] rfl rfl (by decide) (by decide) (fun r25 w1 H locs hw hP hD hS => ?_)
    obtain ⟨rfl, rfl⟩ := hw
    have hP : va_P D vCl (wM ad ca cd po nu pt st 0 pl bk me kc ro en un li tn tx ia ct md lb wn) H := hP
    have hD : va_D A (wM ad ca cd po nu pt st 0 pl bk me kc ro en un li tn tx ia ct md lb wn) := hD
    refine lv_lstore_n hx hb d_Mo_reckon_5 rfl hl (by decide) rfl (fun ls hl => ?_)
    have hl : lv_has ls 8 [(2, .long (lN (pr un li (nu 0)))), (0, .ref (ad 12)), (1, .int (nI 14))] := hl
    refine lv_aload_n hx hb d_Mo_reckon_6 rfl (lv_at hl 1 rfl) ?_
    refine lv_iconst (v := nI 1) hx hb d_Mo_reckon_7 (by decide) ?_
    refine zgo_l (wr := []) C0 (zrunV (na := 1) (As := [.int (nI 1)]) (rest := []) C0 hP hD hS [0, 1, 2, 3, 4, 5, 6, 7, 8] rfl rfl (m_Mo_part l D ca k H.size ad cd po nu pt st 0 pl bk me kc ro en un li tn tx ia ct md lb wn 1 (by omega) hn hu hu2 hl0 hl2) (zg_V q634 q636 q828 q7 q637) (by decide +kernel) rfl rfl ⟨by decide, by decide⟩ 0 rfl rfl rfl hl.1 rfl (Nat.le_of_ble_eq_true rfl) d_Mo_reckon_8 ⟨Nat.zero_le _, Nat.zero_le _⟩) hP hD hS [0, 1, 2, 3, 4, 5, 6, 7, 8] [] rfl rfl (by decide) (by decide) (fun r26 w1 H locs hw hP hD hS => ?_)
    obtain ⟨rfl, rfl⟩ := hw
    have hP : va_P D vCl (wM ad ca cd po nu pt st 0 pl bk me kc ro en un li tn tx ia ct md lb wn) H := hP
    have hD : va_D A (wM ad ca cd po nu pt st 0 pl bk me kc ro en un li tn tx ia ct md lb wn) := hD
    refine lv_lstore hx hb d_Mo_reckon_11 hl (by decide) rfl (fun ls hl => ?_)
    have hl : lv_has ls 8 [(4, .long (lN (pr un li (nu 1)))), (2, .long (lN (pr un li (nu 0)))), (0, .ref (ad 12)), (1, .int (nI 14))] := hl
    refine lv_aload_n hx hb d_Mo_reckon_13 rfl (lv_at hl 2 rfl) ?_
    refine lv_iconst (v := nI 2) hx hb d_Mo_reckon_14 (by decide) ?_
    refine zgo_l (wr := []) C0 (zrunV (na := 1) (As := [.int (nI 2)]) (rest := []) C0 hP hD hS [0, 1, 2, 3, 4, 5, 6, 7, 8] rfl rfl (m_Mo_part l D ca k H.size ad cd po nu pt st 0 pl bk me kc ro en un li tn tx ia ct md lb wn 2 (by omega) hn hu hu2 hl0 hl2) (zg_V q634 q636 q828 q7 q637) (by decide +kernel) rfl rfl ⟨by decide, by decide⟩ 0 rfl rfl rfl hl.1 rfl (Nat.le_of_ble_eq_true rfl) d_Mo_reckon_15 ⟨Nat.zero_le _, Nat.zero_le _⟩) hP hD hS [0, 1, 2, 3, 4, 5, 6, 7, 8] [] rfl rfl (by decide) (by decide) (fun r27 w1 H locs hw hP hD hS => ?_)
    obtain ⟨rfl, rfl⟩ := hw
    have hP : va_P D vCl (wM ad ca cd po nu pt st 0 pl bk me kc ro en un li tn tx ia ct md lb wn) H := hP
    have hD : va_D A (wM ad ca cd po nu pt st 0 pl bk me kc ro en un li tn tx ia ct md lb wn) := hD
    refine lv_lstore hx hb d_Mo_reckon_18 hl (by decide) rfl (fun ls hl => ?_)
    have hl : lv_has ls 8 [(6, .long (lN (pr un li (nu 2)))), (4, .long (lN (pr un li (nu 1)))), (2, .long (lN (pr un li (nu 0)))), (0, .ref (ad 12)), (1, .int (nI 14))] := hl
    refine lv_iload_n hx hb d_Mo_reckon_20 rfl (lv_at hl 4 rfl) ?_
    refine lv_tableIn (off := 174) (tgt := 195) hx hb d_Mo_reckon_21 (by decide) (by decide) (by decide) (by decide) ?_
    refine lv_aload_n hx hb d_Mo_reckon_195 rfl (lv_at hl 3 rfl) ?_
    refine lv_iconst (v := nI 0) hx hb d_Mo_reckon_196 (by decide) ?_
    refine lv_lload_n hx hb d_Mo_reckon_197 rfl (lv_at hl 2 rfl) ?_
    refine lv_lload hx hb d_Mo_reckon_198 (lv_at hl 0 rfl) ?_
    refine lv_lsub hx hb d_Mo_reckon_200 ?_
    refine ztl (y := Int64.ofInt ((((pr un li (nu 0) : Nat) : Int) : Int) - (pr un li (nu 2) : Nat))) zL_sub ?_
    refine zgo_v (wr := []) C0 (zrunV (na := 2) (As := [.int (nI 0), .long (Int64.ofInt ((((pr un li (nu 0) : Nat) : Int) : Int) - (pr un li (nu 2) : Nat)))]) (rest := []) C0 hP hD hS [0, 1, 2, 3, 4, 5, 6, 7, 8] rfl rfl (m_Mo_become l D ca k H.size ad cd po nu pt st 0 pl bk me kc ro en un li tn tx ia ct md lb wn 0 ((((pr un li (nu 0) : Nat) : Int) : Int) - (pr un li (nu 2) : Nat)) (by omega) (by omega) (by omega) hn hu hu2 hl0 hl2) (zg_V q646 q648 q831 q7 q649) (by decide +kernel) rfl rfl ⟨by decide, by decide⟩ 0 rfl rfl rfl hl.1 rfl (Nat.le_of_ble_eq_true rfl) d_Mo_reckon_201 ⟨Nat.zero_le _, Nat.zero_le _⟩) hP hD hS [0, 1, 2, 3, 4, 5, 6, 7, 8] [] rfl rfl (by decide) (by decide) (fun w1 H locs hw hP hD hS => ?_)
    obtain rfl := hw
    have hP : va_P D vCl (wM ad ca cd po (wr un li nu 0 (rz li ((((pr un li (nu 0) : Nat) : Int) : Int) - (pr un li (nu 2) : Nat)))) pt st (rc li ((((pr un li (nu 0) : Nat) : Int) : Int) - (pr un li (nu 2) : Nat))) pl bk me kc ro en un li tn tx ia ct md lb wn) H := hP
    have hD : va_D A (wM ad ca cd po (wr un li nu 0 (rz li ((((pr un li (nu 0) : Nat) : Int) : Int) - (pr un li (nu 2) : Nat)))) pt st (rc li ((((pr un li (nu 0) : Nat) : Int) : Int) - (pr un li (nu 2) : Nat))) pl bk me kc ro en un li tn tx ia ct md lb wn) := hD
    refine lv_goto (tgt := 389) hx hb d_Mo_reckon_204 (by decide) ?_
    exact zret_v C0 hr hAe hP hD hS rfl d_Mo_reckon_389
  · skip
    refine lv_aload_n hx hb d_Mo_reckon_0 rfl (lv_at hl 0 rfl) ?_
    refine lv_iconst (v := nI 0) hx hb d_Mo_reckon_1 (by decide) ?_
    refine zgo_l (wr := []) C0 (zrunV (na := 1) (As := [.int (nI 0)]) (rest := []) C0 hP hD hS [0, 1, 2, 3, 4, 5, 6, 7, 8] rfl rfl (m_Mo_part l D ca k s.heap.size ad cd po nu pt st 0 pl bk me kc ro en un li tn tx ia ct md lb wn 0 (by omega) hn hu hu2 hl0 hl2) (zg_V q634 q636 q828 q7 q637) (by decide +kernel) rfl rfl ⟨by decide, by decide⟩ 0 rfl rfl rfl hl.1 rfl (Nat.le_of_ble_eq_true rfl) d_Mo_reckon_2 ⟨Nat.zero_le _, Nat.zero_le _⟩) hP hD hS [0, 1, 2, 3, 4, 5, 6, 7, 8] [] rfl rfl (by decide) (by decide) (fun r29 w1 H locs hw hP hD hS => ?_)
    obtain ⟨rfl, rfl⟩ := hw
    have hP : va_P D vCl (wM ad ca cd po nu pt st 0 pl bk me kc ro en un li tn tx ia ct md lb wn) H := hP
    have hD : va_D A (wM ad ca cd po nu pt st 0 pl bk me kc ro en un li tn tx ia ct md lb wn) := hD
    refine lv_lstore_n hx hb d_Mo_reckon_5 rfl hl (by decide) rfl (fun ls hl => ?_)
    have hl : lv_has ls 8 [(2, .long (lN (pr un li (nu 0)))), (0, .ref (ad 12)), (1, .int (nI 15))] := hl
    refine lv_aload_n hx hb d_Mo_reckon_6 rfl (lv_at hl 1 rfl) ?_
    refine lv_iconst (v := nI 1) hx hb d_Mo_reckon_7 (by decide) ?_
    refine zgo_l (wr := []) C0 (zrunV (na := 1) (As := [.int (nI 1)]) (rest := []) C0 hP hD hS [0, 1, 2, 3, 4, 5, 6, 7, 8] rfl rfl (m_Mo_part l D ca k H.size ad cd po nu pt st 0 pl bk me kc ro en un li tn tx ia ct md lb wn 1 (by omega) hn hu hu2 hl0 hl2) (zg_V q634 q636 q828 q7 q637) (by decide +kernel) rfl rfl ⟨by decide, by decide⟩ 0 rfl rfl rfl hl.1 rfl (Nat.le_of_ble_eq_true rfl) d_Mo_reckon_8 ⟨Nat.zero_le _, Nat.zero_le _⟩) hP hD hS [0, 1, 2, 3, 4, 5, 6, 7, 8] [] rfl rfl (by decide) (by decide) (fun r30 w1 H locs hw hP hD hS => ?_)
    obtain ⟨rfl, rfl⟩ := hw
    have hP : va_P D vCl (wM ad ca cd po nu pt st 0 pl bk me kc ro en un li tn tx ia ct md lb wn) H := hP
    have hD : va_D A (wM ad ca cd po nu pt st 0 pl bk me kc ro en un li tn tx ia ct md lb wn) := hD
    refine lv_lstore hx hb d_Mo_reckon_11 hl (by decide) rfl (fun ls hl => ?_)
    have hl : lv_has ls 8 [(4, .long (lN (pr un li (nu 1)))), (2, .long (lN (pr un li (nu 0)))), (0, .ref (ad 12)), (1, .int (nI 15))] := hl
    refine lv_aload_n hx hb d_Mo_reckon_13 rfl (lv_at hl 2 rfl) ?_
    refine lv_iconst (v := nI 2) hx hb d_Mo_reckon_14 (by decide) ?_
    refine zgo_l (wr := []) C0 (zrunV (na := 1) (As := [.int (nI 2)]) (rest := []) C0 hP hD hS [0, 1, 2, 3, 4, 5, 6, 7, 8] rfl rfl (m_Mo_part l D ca k H.size ad cd po nu pt st 0 pl bk me kc ro en un li tn tx ia ct md lb wn 2 (by omega) hn hu hu2 hl0 hl2) (zg_V q634 q636 q828 q7 q637) (by decide +kernel) rfl rfl ⟨by decide, by decide⟩ 0 rfl rfl rfl hl.1 rfl (Nat.le_of_ble_eq_true rfl) d_Mo_reckon_15 ⟨Nat.zero_le _, Nat.zero_le _⟩) hP hD hS [0, 1, 2, 3, 4, 5, 6, 7, 8] [] rfl rfl (by decide) (by decide) (fun r31 w1 H locs hw hP hD hS => ?_)
    obtain ⟨rfl, rfl⟩ := hw
    have hP : va_P D vCl (wM ad ca cd po nu pt st 0 pl bk me kc ro en un li tn tx ia ct md lb wn) H := hP
    have hD : va_D A (wM ad ca cd po nu pt st 0 pl bk me kc ro en un li tn tx ia ct md lb wn) := hD
    refine lv_lstore hx hb d_Mo_reckon_18 hl (by decide) rfl (fun ls hl => ?_)
    have hl : lv_has ls 8 [(6, .long (lN (pr un li (nu 2)))), (4, .long (lN (pr un li (nu 1)))), (2, .long (lN (pr un li (nu 0)))), (0, .ref (ad 12)), (1, .int (nI 15))] := hl
    refine lv_iload_n hx hb d_Mo_reckon_20 rfl (lv_at hl 4 rfl) ?_
    refine lv_tableIn (off := 186) (tgt := 207) hx hb d_Mo_reckon_21 (by decide) (by decide) (by decide) (by decide) ?_
    refine lv_aload_n hx hb d_Mo_reckon_207 rfl (lv_at hl 3 rfl) ?_
    refine lv_iconst (v := nI 2) hx hb d_Mo_reckon_208 (by decide) ?_
    refine lv_lload_n hx hb d_Mo_reckon_209 rfl (lv_at hl 2 rfl) ?_
    refine lv_lload hx hb d_Mo_reckon_210 (lv_at hl 0 rfl) ?_
    refine lv_lsub hx hb d_Mo_reckon_212 ?_
    refine ztl (y := Int64.ofInt ((((pr un li (nu 0) : Nat) : Int) : Int) - (pr un li (nu 2) : Nat))) zL_sub ?_
    refine zgo_v (wr := []) C0 (zrunV (na := 2) (As := [.int (nI 2), .long (Int64.ofInt ((((pr un li (nu 0) : Nat) : Int) : Int) - (pr un li (nu 2) : Nat)))]) (rest := []) C0 hP hD hS [0, 1, 2, 3, 4, 5, 6, 7, 8] rfl rfl (m_Mo_become l D ca k H.size ad cd po nu pt st 0 pl bk me kc ro en un li tn tx ia ct md lb wn 2 ((((pr un li (nu 0) : Nat) : Int) : Int) - (pr un li (nu 2) : Nat)) (by omega) (by omega) (by omega) hn hu hu2 hl0 hl2) (zg_V q646 q648 q831 q7 q649) (by decide +kernel) rfl rfl ⟨by decide, by decide⟩ 0 rfl rfl rfl hl.1 rfl (Nat.le_of_ble_eq_true rfl) d_Mo_reckon_213 ⟨Nat.zero_le _, Nat.zero_le _⟩) hP hD hS [0, 1, 2, 3, 4, 5, 6, 7, 8] [] rfl rfl (by decide) (by decide) (fun w1 H locs hw hP hD hS => ?_)
    obtain rfl := hw
    have hP : va_P D vCl (wM ad ca cd po (wr un li nu 2 (rz li ((((pr un li (nu 0) : Nat) : Int) : Int) - (pr un li (nu 2) : Nat)))) pt st (rc li ((((pr un li (nu 0) : Nat) : Int) : Int) - (pr un li (nu 2) : Nat))) pl bk me kc ro en un li tn tx ia ct md lb wn) H := hP
    have hD : va_D A (wM ad ca cd po (wr un li nu 2 (rz li ((((pr un li (nu 0) : Nat) : Int) : Int) - (pr un li (nu 2) : Nat)))) pt st (rc li ((((pr un li (nu 0) : Nat) : Int) : Int) - (pr un li (nu 2) : Nat))) pl bk me kc ro en un li tn tx ia ct md lb wn) := hD
    refine lv_goto (tgt := 389) hx hb d_Mo_reckon_216 (by decide) ?_
    exact zret_v C0 hr hAe hP hD hS rfl d_Mo_reckon_389
  · skip
    refine lv_aload_n hx hb d_Mo_reckon_0 rfl (lv_at hl 0 rfl) ?_
    refine lv_iconst (v := nI 0) hx hb d_Mo_reckon_1 (by decide) ?_
    refine zgo_l (wr := []) C0 (zrunV (na := 1) (As := [.int (nI 0)]) (rest := []) C0 hP hD hS [0, 1, 2, 3, 4, 5, 6, 7, 8] rfl rfl (m_Mo_part l D ca k s.heap.size ad cd po nu pt st 0 pl bk me kc ro en un li tn tx ia ct md lb wn 0 (by omega) hn hu hu2 hl0 hl2) (zg_V q634 q636 q828 q7 q637) (by decide +kernel) rfl rfl ⟨by decide, by decide⟩ 0 rfl rfl rfl hl.1 rfl (Nat.le_of_ble_eq_true rfl) d_Mo_reckon_2 ⟨Nat.zero_le _, Nat.zero_le _⟩) hP hD hS [0, 1, 2, 3, 4, 5, 6, 7, 8] [] rfl rfl (by decide) (by decide) (fun r33 w1 H locs hw hP hD hS => ?_)
    obtain ⟨rfl, rfl⟩ := hw
    have hP : va_P D vCl (wM ad ca cd po nu pt st 0 pl bk me kc ro en un li tn tx ia ct md lb wn) H := hP
    have hD : va_D A (wM ad ca cd po nu pt st 0 pl bk me kc ro en un li tn tx ia ct md lb wn) := hD
    refine lv_lstore_n hx hb d_Mo_reckon_5 rfl hl (by decide) rfl (fun ls hl => ?_)
    have hl : lv_has ls 8 [(2, .long (lN (pr un li (nu 0)))), (0, .ref (ad 12)), (1, .int (nI 16))] := hl
    refine lv_aload_n hx hb d_Mo_reckon_6 rfl (lv_at hl 1 rfl) ?_
    refine lv_iconst (v := nI 1) hx hb d_Mo_reckon_7 (by decide) ?_
    refine zgo_l (wr := []) C0 (zrunV (na := 1) (As := [.int (nI 1)]) (rest := []) C0 hP hD hS [0, 1, 2, 3, 4, 5, 6, 7, 8] rfl rfl (m_Mo_part l D ca k H.size ad cd po nu pt st 0 pl bk me kc ro en un li tn tx ia ct md lb wn 1 (by omega) hn hu hu2 hl0 hl2) (zg_V q634 q636 q828 q7 q637) (by decide +kernel) rfl rfl ⟨by decide, by decide⟩ 0 rfl rfl rfl hl.1 rfl (Nat.le_of_ble_eq_true rfl) d_Mo_reckon_8 ⟨Nat.zero_le _, Nat.zero_le _⟩) hP hD hS [0, 1, 2, 3, 4, 5, 6, 7, 8] [] rfl rfl (by decide) (by decide) (fun r34 w1 H locs hw hP hD hS => ?_)
    obtain ⟨rfl, rfl⟩ := hw
    have hP : va_P D vCl (wM ad ca cd po nu pt st 0 pl bk me kc ro en un li tn tx ia ct md lb wn) H := hP
    have hD : va_D A (wM ad ca cd po nu pt st 0 pl bk me kc ro en un li tn tx ia ct md lb wn) := hD
    refine lv_lstore hx hb d_Mo_reckon_11 hl (by decide) rfl (fun ls hl => ?_)
    have hl : lv_has ls 8 [(4, .long (lN (pr un li (nu 1)))), (2, .long (lN (pr un li (nu 0)))), (0, .ref (ad 12)), (1, .int (nI 16))] := hl
    refine lv_aload_n hx hb d_Mo_reckon_13 rfl (lv_at hl 2 rfl) ?_
    refine lv_iconst (v := nI 2) hx hb d_Mo_reckon_14 (by decide) ?_
    refine zgo_l (wr := []) C0 (zrunV (na := 1) (As := [.int (nI 2)]) (rest := []) C0 hP hD hS [0, 1, 2, 3, 4, 5, 6, 7, 8] rfl rfl (m_Mo_part l D ca k H.size ad cd po nu pt st 0 pl bk me kc ro en un li tn tx ia ct md lb wn 2 (by omega) hn hu hu2 hl0 hl2) (zg_V q634 q636 q828 q7 q637) (by decide +kernel) rfl rfl ⟨by decide, by decide⟩ 0 rfl rfl rfl hl.1 rfl (Nat.le_of_ble_eq_true rfl) d_Mo_reckon_15 ⟨Nat.zero_le _, Nat.zero_le _⟩) hP hD hS [0, 1, 2, 3, 4, 5, 6, 7, 8] [] rfl rfl (by decide) (by decide) (fun r35 w1 H locs hw hP hD hS => ?_)
    obtain ⟨rfl, rfl⟩ := hw
    have hP : va_P D vCl (wM ad ca cd po nu pt st 0 pl bk me kc ro en un li tn tx ia ct md lb wn) H := hP
    have hD : va_D A (wM ad ca cd po nu pt st 0 pl bk me kc ro en un li tn tx ia ct md lb wn) := hD
    refine lv_lstore hx hb d_Mo_reckon_18 hl (by decide) rfl (fun ls hl => ?_)
    have hl : lv_has ls 8 [(6, .long (lN (pr un li (nu 2)))), (4, .long (lN (pr un li (nu 1)))), (2, .long (lN (pr un li (nu 0)))), (0, .ref (ad 12)), (1, .int (nI 16))] := hl
    refine lv_iload_n hx hb d_Mo_reckon_20 rfl (lv_at hl 4 rfl) ?_
    refine lv_tableIn (off := 198) (tgt := 219) hx hb d_Mo_reckon_21 (by decide) (by decide) (by decide) (by decide) ?_
    refine lv_aload_n hx hb d_Mo_reckon_219 rfl (lv_at hl 3 rfl) ?_
    refine lv_iconst (v := nI 0) hx hb d_Mo_reckon_220 (by decide) ?_
    refine lv_lload_n hx hb d_Mo_reckon_221 rfl (lv_at hl 2 rfl) ?_
    refine lv_lconst (v := lN 1) hx hb d_Mo_reckon_222 rfl ?_
    refine lv_lsub hx hb d_Mo_reckon_223 ?_
    refine ztl (y := Int64.ofInt ((((pr un li (nu 0) : Nat) : Int) : Int) - (1 : Nat))) zL_sub ?_
    refine zgo_v (wr := []) C0 (zrunV (na := 2) (As := [.int (nI 0), .long (Int64.ofInt ((((pr un li (nu 0) : Nat) : Int) : Int) - (1 : Nat)))]) (rest := []) C0 hP hD hS [0, 1, 2, 3, 4, 5, 6, 7, 8] rfl rfl (m_Mo_become l D ca k H.size ad cd po nu pt st 0 pl bk me kc ro en un li tn tx ia ct md lb wn 0 ((((pr un li (nu 0) : Nat) : Int) : Int) - (1 : Nat)) (by omega) (by omega) (by omega) hn hu hu2 hl0 hl2) (zg_V q646 q648 q831 q7 q649) (by decide +kernel) rfl rfl ⟨by decide, by decide⟩ 0 rfl rfl rfl hl.1 rfl (Nat.le_of_ble_eq_true rfl) d_Mo_reckon_224 ⟨Nat.zero_le _, Nat.zero_le _⟩) hP hD hS [0, 1, 2, 3, 4, 5, 6, 7, 8] [] rfl rfl (by decide) (by decide) (fun w1 H locs hw hP hD hS => ?_)
    obtain rfl := hw
    have hP : va_P D vCl (wM ad ca cd po (wr un li nu 0 (rz li ((((pr un li (nu 0) : Nat) : Int) : Int) - (1 : Nat)))) pt st (rc li ((((pr un li (nu 0) : Nat) : Int) : Int) - (1 : Nat))) pl bk me kc ro en un li tn tx ia ct md lb wn) H := hP
    have hD : va_D A (wM ad ca cd po (wr un li nu 0 (rz li ((((pr un li (nu 0) : Nat) : Int) : Int) - (1 : Nat)))) pt st (rc li ((((pr un li (nu 0) : Nat) : Int) : Int) - (1 : Nat))) pl bk me kc ro en un li tn tx ia ct md lb wn) := hD
    refine lv_goto (tgt := 389) hx hb d_Mo_reckon_227 (by decide) ?_
    exact zret_v C0 hr hAe hP hD hS rfl d_Mo_reckon_389
  · skip
    refine lv_aload_n hx hb d_Mo_reckon_0 rfl (lv_at hl 0 rfl) ?_
    refine lv_iconst (v := nI 0) hx hb d_Mo_reckon_1 (by decide) ?_
    refine zgo_l (wr := []) C0 (zrunV (na := 1) (As := [.int (nI 0)]) (rest := []) C0 hP hD hS [0, 1, 2, 3, 4, 5, 6, 7, 8] rfl rfl (m_Mo_part l D ca k s.heap.size ad cd po nu pt st 0 pl bk me kc ro en un li tn tx ia ct md lb wn 0 (by omega) hn hu hu2 hl0 hl2) (zg_V q634 q636 q828 q7 q637) (by decide +kernel) rfl rfl ⟨by decide, by decide⟩ 0 rfl rfl rfl hl.1 rfl (Nat.le_of_ble_eq_true rfl) d_Mo_reckon_2 ⟨Nat.zero_le _, Nat.zero_le _⟩) hP hD hS [0, 1, 2, 3, 4, 5, 6, 7, 8] [] rfl rfl (by decide) (by decide) (fun r37 w1 H locs hw hP hD hS => ?_)
    obtain ⟨rfl, rfl⟩ := hw
    have hP : va_P D vCl (wM ad ca cd po nu pt st 0 pl bk me kc ro en un li tn tx ia ct md lb wn) H := hP
    have hD : va_D A (wM ad ca cd po nu pt st 0 pl bk me kc ro en un li tn tx ia ct md lb wn) := hD
    refine lv_lstore_n hx hb d_Mo_reckon_5 rfl hl (by decide) rfl (fun ls hl => ?_)
    have hl : lv_has ls 8 [(2, .long (lN (pr un li (nu 0)))), (0, .ref (ad 12)), (1, .int (nI 17))] := hl
    refine lv_aload_n hx hb d_Mo_reckon_6 rfl (lv_at hl 1 rfl) ?_
    refine lv_iconst (v := nI 1) hx hb d_Mo_reckon_7 (by decide) ?_
    refine zgo_l (wr := []) C0 (zrunV (na := 1) (As := [.int (nI 1)]) (rest := []) C0 hP hD hS [0, 1, 2, 3, 4, 5, 6, 7, 8] rfl rfl (m_Mo_part l D ca k H.size ad cd po nu pt st 0 pl bk me kc ro en un li tn tx ia ct md lb wn 1 (by omega) hn hu hu2 hl0 hl2) (zg_V q634 q636 q828 q7 q637) (by decide +kernel) rfl rfl ⟨by decide, by decide⟩ 0 rfl rfl rfl hl.1 rfl (Nat.le_of_ble_eq_true rfl) d_Mo_reckon_8 ⟨Nat.zero_le _, Nat.zero_le _⟩) hP hD hS [0, 1, 2, 3, 4, 5, 6, 7, 8] [] rfl rfl (by decide) (by decide) (fun r38 w1 H locs hw hP hD hS => ?_)
    obtain ⟨rfl, rfl⟩ := hw
    have hP : va_P D vCl (wM ad ca cd po nu pt st 0 pl bk me kc ro en un li tn tx ia ct md lb wn) H := hP
    have hD : va_D A (wM ad ca cd po nu pt st 0 pl bk me kc ro en un li tn tx ia ct md lb wn) := hD
    refine lv_lstore hx hb d_Mo_reckon_11 hl (by decide) rfl (fun ls hl => ?_)
    have hl : lv_has ls 8 [(4, .long (lN (pr un li (nu 1)))), (2, .long (lN (pr un li (nu 0)))), (0, .ref (ad 12)), (1, .int (nI 17))] := hl
    refine lv_aload_n hx hb d_Mo_reckon_13 rfl (lv_at hl 2 rfl) ?_
    refine lv_iconst (v := nI 2) hx hb d_Mo_reckon_14 (by decide) ?_
    refine zgo_l (wr := []) C0 (zrunV (na := 1) (As := [.int (nI 2)]) (rest := []) C0 hP hD hS [0, 1, 2, 3, 4, 5, 6, 7, 8] rfl rfl (m_Mo_part l D ca k H.size ad cd po nu pt st 0 pl bk me kc ro en un li tn tx ia ct md lb wn 2 (by omega) hn hu hu2 hl0 hl2) (zg_V q634 q636 q828 q7 q637) (by decide +kernel) rfl rfl ⟨by decide, by decide⟩ 0 rfl rfl rfl hl.1 rfl (Nat.le_of_ble_eq_true rfl) d_Mo_reckon_15 ⟨Nat.zero_le _, Nat.zero_le _⟩) hP hD hS [0, 1, 2, 3, 4, 5, 6, 7, 8] [] rfl rfl (by decide) (by decide) (fun r39 w1 H locs hw hP hD hS => ?_)
    obtain ⟨rfl, rfl⟩ := hw
    have hP : va_P D vCl (wM ad ca cd po nu pt st 0 pl bk me kc ro en un li tn tx ia ct md lb wn) H := hP
    have hD : va_D A (wM ad ca cd po nu pt st 0 pl bk me kc ro en un li tn tx ia ct md lb wn) := hD
    refine lv_lstore hx hb d_Mo_reckon_18 hl (by decide) rfl (fun ls hl => ?_)
    have hl : lv_has ls 8 [(6, .long (lN (pr un li (nu 2)))), (4, .long (lN (pr un li (nu 1)))), (2, .long (lN (pr un li (nu 0)))), (0, .ref (ad 12)), (1, .int (nI 17))] := hl
    refine lv_iload_n hx hb d_Mo_reckon_20 rfl (lv_at hl 4 rfl) ?_
    refine lv_tableIn (off := 209) (tgt := 230) hx hb d_Mo_reckon_21 (by decide) (by decide) (by decide) (by decide) ?_
    refine lv_aload_n hx hb d_Mo_reckon_230 rfl (lv_at hl 3 rfl) ?_
    refine lv_iconst (v := nI 2) hx hb d_Mo_reckon_231 (by decide) ?_
    refine lv_lload hx hb d_Mo_reckon_232 (lv_at hl 0 rfl) ?_
    refine lv_lconst (v := lN 1) hx hb d_Mo_reckon_234 rfl ?_
    refine lv_lsub hx hb d_Mo_reckon_235 ?_
    refine ztl (y := Int64.ofInt ((((pr un li (nu 2) : Nat) : Int) : Int) - (1 : Nat))) zL_sub ?_
    refine zgo_v (wr := []) C0 (zrunV (na := 2) (As := [.int (nI 2), .long (Int64.ofInt ((((pr un li (nu 2) : Nat) : Int) : Int) - (1 : Nat)))]) (rest := []) C0 hP hD hS [0, 1, 2, 3, 4, 5, 6, 7, 8] rfl rfl (m_Mo_become l D ca k H.size ad cd po nu pt st 0 pl bk me kc ro en un li tn tx ia ct md lb wn 2 ((((pr un li (nu 2) : Nat) : Int) : Int) - (1 : Nat)) (by omega) (by omega) (by omega) hn hu hu2 hl0 hl2) (zg_V q646 q648 q831 q7 q649) (by decide +kernel) rfl rfl ⟨by decide, by decide⟩ 0 rfl rfl rfl hl.1 rfl (Nat.le_of_ble_eq_true rfl) d_Mo_reckon_236 ⟨Nat.zero_le _, Nat.zero_le _⟩) hP hD hS [0, 1, 2, 3, 4, 5, 6, 7, 8] [] rfl rfl (by decide) (by decide) (fun w1 H locs hw hP hD hS => ?_)
    obtain rfl := hw
    have hP : va_P D vCl (wM ad ca cd po (wr un li nu 2 (rz li ((((pr un li (nu 2) : Nat) : Int) : Int) - (1 : Nat)))) pt st (rc li ((((pr un li (nu 2) : Nat) : Int) : Int) - (1 : Nat))) pl bk me kc ro en un li tn tx ia ct md lb wn) H := hP
    have hD : va_D A (wM ad ca cd po (wr un li nu 2 (rz li ((((pr un li (nu 2) : Nat) : Int) : Int) - (1 : Nat)))) pt st (rc li ((((pr un li (nu 2) : Nat) : Int) : Int) - (1 : Nat))) pl bk me kc ro en un li tn tx ia ct md lb wn) := hD
    refine lv_goto (tgt := 389) hx hb d_Mo_reckon_239 (by decide) ?_
    exact zret_v C0 hr hAe hP hD hS rfl d_Mo_reckon_389
  · skip
    refine lv_aload_n hx hb d_Mo_reckon_0 rfl (lv_at hl 0 rfl) ?_
    refine lv_iconst (v := nI 0) hx hb d_Mo_reckon_1 (by decide) ?_
    refine zgo_l (wr := []) C0 (zrunV (na := 1) (As := [.int (nI 0)]) (rest := []) C0 hP hD hS [0, 1, 2, 3, 4, 5, 6, 7, 8] rfl rfl (m_Mo_part l D ca k s.heap.size ad cd po nu pt st 0 pl bk me kc ro en un li tn tx ia ct md lb wn 0 (by omega) hn hu hu2 hl0 hl2) (zg_V q634 q636 q828 q7 q637) (by decide +kernel) rfl rfl ⟨by decide, by decide⟩ 0 rfl rfl rfl hl.1 rfl (Nat.le_of_ble_eq_true rfl) d_Mo_reckon_2 ⟨Nat.zero_le _, Nat.zero_le _⟩) hP hD hS [0, 1, 2, 3, 4, 5, 6, 7, 8] [] rfl rfl (by decide) (by decide) (fun r41 w1 H locs hw hP hD hS => ?_)
    obtain ⟨rfl, rfl⟩ := hw
    have hP : va_P D vCl (wM ad ca cd po nu pt st 0 pl bk me kc ro en un li tn tx ia ct md lb wn) H := hP
    have hD : va_D A (wM ad ca cd po nu pt st 0 pl bk me kc ro en un li tn tx ia ct md lb wn) := hD
    refine lv_lstore_n hx hb d_Mo_reckon_5 rfl hl (by decide) rfl (fun ls hl => ?_)
    have hl : lv_has ls 8 [(2, .long (lN (pr un li (nu 0)))), (0, .ref (ad 12)), (1, .int (nI 18))] := hl
    refine lv_aload_n hx hb d_Mo_reckon_6 rfl (lv_at hl 1 rfl) ?_
    refine lv_iconst (v := nI 1) hx hb d_Mo_reckon_7 (by decide) ?_
    refine zgo_l (wr := []) C0 (zrunV (na := 1) (As := [.int (nI 1)]) (rest := []) C0 hP hD hS [0, 1, 2, 3, 4, 5, 6, 7, 8] rfl rfl (m_Mo_part l D ca k H.size ad cd po nu pt st 0 pl bk me kc ro en un li tn tx ia ct md lb wn 1 (by omega) hn hu hu2 hl0 hl2) (zg_V q634 q636 q828 q7 q637) (by decide +kernel) rfl rfl ⟨by decide, by decide⟩ 0 rfl rfl rfl hl.1 rfl (Nat.le_of_ble_eq_true rfl) d_Mo_reckon_8 ⟨Nat.zero_le _, Nat.zero_le _⟩) hP hD hS [0, 1, 2, 3, 4, 5, 6, 7, 8] [] rfl rfl (by decide) (by decide) (fun r42 w1 H locs hw hP hD hS => ?_)
    obtain ⟨rfl, rfl⟩ := hw
    have hP : va_P D vCl (wM ad ca cd po nu pt st 0 pl bk me kc ro en un li tn tx ia ct md lb wn) H := hP
    have hD : va_D A (wM ad ca cd po nu pt st 0 pl bk me kc ro en un li tn tx ia ct md lb wn) := hD
    refine lv_lstore hx hb d_Mo_reckon_11 hl (by decide) rfl (fun ls hl => ?_)
    have hl : lv_has ls 8 [(4, .long (lN (pr un li (nu 1)))), (2, .long (lN (pr un li (nu 0)))), (0, .ref (ad 12)), (1, .int (nI 18))] := hl
    refine lv_aload_n hx hb d_Mo_reckon_13 rfl (lv_at hl 2 rfl) ?_
    refine lv_iconst (v := nI 2) hx hb d_Mo_reckon_14 (by decide) ?_
    refine zgo_l (wr := []) C0 (zrunV (na := 1) (As := [.int (nI 2)]) (rest := []) C0 hP hD hS [0, 1, 2, 3, 4, 5, 6, 7, 8] rfl rfl (m_Mo_part l D ca k H.size ad cd po nu pt st 0 pl bk me kc ro en un li tn tx ia ct md lb wn 2 (by omega) hn hu hu2 hl0 hl2) (zg_V q634 q636 q828 q7 q637) (by decide +kernel) rfl rfl ⟨by decide, by decide⟩ 0 rfl rfl rfl hl.1 rfl (Nat.le_of_ble_eq_true rfl) d_Mo_reckon_15 ⟨Nat.zero_le _, Nat.zero_le _⟩) hP hD hS [0, 1, 2, 3, 4, 5, 6, 7, 8] [] rfl rfl (by decide) (by decide) (fun r43 w1 H locs hw hP hD hS => ?_)
    obtain ⟨rfl, rfl⟩ := hw
    have hP : va_P D vCl (wM ad ca cd po nu pt st 0 pl bk me kc ro en un li tn tx ia ct md lb wn) H := hP
    have hD : va_D A (wM ad ca cd po nu pt st 0 pl bk me kc ro en un li tn tx ia ct md lb wn) := hD
    refine lv_lstore hx hb d_Mo_reckon_18 hl (by decide) rfl (fun ls hl => ?_)
    have hl : lv_has ls 8 [(6, .long (lN (pr un li (nu 2)))), (4, .long (lN (pr un li (nu 1)))), (2, .long (lN (pr un li (nu 0)))), (0, .ref (ad 12)), (1, .int (nI 18))] := hl
    refine lv_iload_n hx hb d_Mo_reckon_20 rfl (lv_at hl 4 rfl) ?_
    refine lv_tableIn (off := 221) (tgt := 242) hx hb d_Mo_reckon_21 (by decide) (by decide) (by decide) (by decide) ?_
    refine lv_aload_n hx hb d_Mo_reckon_242 rfl (lv_at hl 3 rfl) ?_
    refine lv_iconst (v := nI 2) hx hb d_Mo_reckon_243 (by decide) ?_
    refine lv_lload hx hb d_Mo_reckon_244 (lv_at hl 0 rfl) ?_
    refine lv_lneg hx hb d_Mo_reckon_246 ?_
    refine ztl (y := Int64.ofInt (((0 : Nat) : Int) - (pr un li (nu 2) : Nat))) zneg ?_
    refine zgo_v (wr := []) C0 (zrunV (na := 2) (As := [.int (nI 2), .long (Int64.ofInt (((0 : Nat) : Int) - (pr un li (nu 2) : Nat)))]) (rest := []) C0 hP hD hS [0, 1, 2, 3, 4, 5, 6, 7, 8] rfl rfl (m_Mo_become l D ca k H.size ad cd po nu pt st 0 pl bk me kc ro en un li tn tx ia ct md lb wn 2 (((0 : Nat) : Int) - (pr un li (nu 2) : Nat)) (by omega) (by omega) (by omega) hn hu hu2 hl0 hl2) (zg_V q646 q648 q831 q7 q649) (by decide +kernel) rfl rfl ⟨by decide, by decide⟩ 0 rfl rfl rfl hl.1 rfl (Nat.le_of_ble_eq_true rfl) d_Mo_reckon_247 ⟨Nat.zero_le _, Nat.zero_le _⟩) hP hD hS [0, 1, 2, 3, 4, 5, 6, 7, 8] [] rfl rfl (by decide) (by decide) (fun w1 H locs hw hP hD hS => ?_)
    obtain rfl := hw
    have hP : va_P D vCl (wM ad ca cd po (wr un li nu 2 (rz li (((0 : Nat) : Int) - (pr un li (nu 2) : Nat)))) pt st (rc li (((0 : Nat) : Int) - (pr un li (nu 2) : Nat))) pl bk me kc ro en un li tn tx ia ct md lb wn) H := hP
    have hD : va_D A (wM ad ca cd po (wr un li nu 2 (rz li (((0 : Nat) : Int) - (pr un li (nu 2) : Nat)))) pt st (rc li (((0 : Nat) : Int) - (pr un li (nu 2) : Nat))) pl bk me kc ro en un li tn tx ia ct md lb wn) := hD
    refine lv_goto (tgt := 389) hx hb d_Mo_reckon_250 (by decide) ?_
    exact zret_v C0 hr hAe hP hD hS rfl d_Mo_reckon_389
  · skip
    refine lv_aload_n hx hb d_Mo_reckon_0 rfl (lv_at hl 0 rfl) ?_
    refine lv_iconst (v := nI 0) hx hb d_Mo_reckon_1 (by decide) ?_
    refine zgo_l (wr := []) C0 (zrunV (na := 1) (As := [.int (nI 0)]) (rest := []) C0 hP hD hS [0, 1, 2, 3, 4, 5, 6, 7, 8] rfl rfl (m_Mo_part l D ca k s.heap.size ad cd po nu pt st 0 pl bk me kc ro en un li tn tx ia ct md lb wn 0 (by omega) hn hu hu2 hl0 hl2) (zg_V q634 q636 q828 q7 q637) (by decide +kernel) rfl rfl ⟨by decide, by decide⟩ 0 rfl rfl rfl hl.1 rfl (Nat.le_of_ble_eq_true rfl) d_Mo_reckon_2 ⟨Nat.zero_le _, Nat.zero_le _⟩) hP hD hS [0, 1, 2, 3, 4, 5, 6, 7, 8] [] rfl rfl (by decide) (by decide) (fun r45 w1 H locs hw hP hD hS => ?_)
    obtain ⟨rfl, rfl⟩ := hw
    have hP : va_P D vCl (wM ad ca cd po nu pt st 0 pl bk me kc ro en un li tn tx ia ct md lb wn) H := hP
    have hD : va_D A (wM ad ca cd po nu pt st 0 pl bk me kc ro en un li tn tx ia ct md lb wn) := hD
    refine lv_lstore_n hx hb d_Mo_reckon_5 rfl hl (by decide) rfl (fun ls hl => ?_)
    have hl : lv_has ls 8 [(2, .long (lN (pr un li (nu 0)))), (0, .ref (ad 12)), (1, .int (nI 19))] := hl
    refine lv_aload_n hx hb d_Mo_reckon_6 rfl (lv_at hl 1 rfl) ?_
    refine lv_iconst (v := nI 1) hx hb d_Mo_reckon_7 (by decide) ?_
    refine zgo_l (wr := []) C0 (zrunV (na := 1) (As := [.int (nI 1)]) (rest := []) C0 hP hD hS [0, 1, 2, 3, 4, 5, 6, 7, 8] rfl rfl (m_Mo_part l D ca k H.size ad cd po nu pt st 0 pl bk me kc ro en un li tn tx ia ct md lb wn 1 (by omega) hn hu hu2 hl0 hl2) (zg_V q634 q636 q828 q7 q637) (by decide +kernel) rfl rfl ⟨by decide, by decide⟩ 0 rfl rfl rfl hl.1 rfl (Nat.le_of_ble_eq_true rfl) d_Mo_reckon_8 ⟨Nat.zero_le _, Nat.zero_le _⟩) hP hD hS [0, 1, 2, 3, 4, 5, 6, 7, 8] [] rfl rfl (by decide) (by decide) (fun r46 w1 H locs hw hP hD hS => ?_)
    obtain ⟨rfl, rfl⟩ := hw
    have hP : va_P D vCl (wM ad ca cd po nu pt st 0 pl bk me kc ro en un li tn tx ia ct md lb wn) H := hP
    have hD : va_D A (wM ad ca cd po nu pt st 0 pl bk me kc ro en un li tn tx ia ct md lb wn) := hD
    refine lv_lstore hx hb d_Mo_reckon_11 hl (by decide) rfl (fun ls hl => ?_)
    have hl : lv_has ls 8 [(4, .long (lN (pr un li (nu 1)))), (2, .long (lN (pr un li (nu 0)))), (0, .ref (ad 12)), (1, .int (nI 19))] := hl
    refine lv_aload_n hx hb d_Mo_reckon_13 rfl (lv_at hl 2 rfl) ?_
    refine lv_iconst (v := nI 2) hx hb d_Mo_reckon_14 (by decide) ?_
    refine zgo_l (wr := []) C0 (zrunV (na := 1) (As := [.int (nI 2)]) (rest := []) C0 hP hD hS [0, 1, 2, 3, 4, 5, 6, 7, 8] rfl rfl (m_Mo_part l D ca k H.size ad cd po nu pt st 0 pl bk me kc ro en un li tn tx ia ct md lb wn 2 (by omega) hn hu hu2 hl0 hl2) (zg_V q634 q636 q828 q7 q637) (by decide +kernel) rfl rfl ⟨by decide, by decide⟩ 0 rfl rfl rfl hl.1 rfl (Nat.le_of_ble_eq_true rfl) d_Mo_reckon_15 ⟨Nat.zero_le _, Nat.zero_le _⟩) hP hD hS [0, 1, 2, 3, 4, 5, 6, 7, 8] [] rfl rfl (by decide) (by decide) (fun r47 w1 H locs hw hP hD hS => ?_)
    obtain ⟨rfl, rfl⟩ := hw
    have hP : va_P D vCl (wM ad ca cd po nu pt st 0 pl bk me kc ro en un li tn tx ia ct md lb wn) H := hP
    have hD : va_D A (wM ad ca cd po nu pt st 0 pl bk me kc ro en un li tn tx ia ct md lb wn) := hD
    refine lv_lstore hx hb d_Mo_reckon_18 hl (by decide) rfl (fun ls hl => ?_)
    have hl : lv_has ls 8 [(6, .long (lN (pr un li (nu 2)))), (4, .long (lN (pr un li (nu 1)))), (2, .long (lN (pr un li (nu 0)))), (0, .ref (ad 12)), (1, .int (nI 19))] := hl
    refine lv_iload_n hx hb d_Mo_reckon_20 rfl (lv_at hl 4 rfl) ?_
    refine lv_tableIn (off := 232) (tgt := 253) hx hb d_Mo_reckon_21 (by decide) (by decide) (by decide) (by decide) ?_
    refine lv_aload_n hx hb d_Mo_reckon_253 rfl (lv_at hl 3 rfl) ?_
    refine lv_iconst (v := nI 2) hx hb d_Mo_reckon_254 (by decide) ?_
    refine lv_lload hx hb d_Mo_reckon_255 (lv_at hl 0 rfl) ?_
    refine lv_lneg hx hb d_Mo_reckon_257 ?_
    refine ztl (y := Int64.ofInt (((0 : Nat) : Int) - (pr un li (nu 2) : Nat))) zneg ?_
    refine lv_lconst (v := lN 1) hx hb d_Mo_reckon_258 rfl ?_
    refine lv_lsub hx hb d_Mo_reckon_259 ?_
    refine ztl (y := Int64.ofInt ((((0 : Nat) : Int) - (pr un li (nu 2) : Nat) : Int) - (1 : Nat))) zI_sub ?_
    refine zgo_v (wr := []) C0 (zrunV (na := 2) (As := [.int (nI 2), .long (Int64.ofInt ((((0 : Nat) : Int) - (pr un li (nu 2) : Nat) : Int) - (1 : Nat)))]) (rest := []) C0 hP hD hS [0, 1, 2, 3, 4, 5, 6, 7, 8] rfl rfl (m_Mo_become l D ca k H.size ad cd po nu pt st 0 pl bk me kc ro en un li tn tx ia ct md lb wn 2 ((((0 : Nat) : Int) - (pr un li (nu 2) : Nat) : Int) - (1 : Nat)) (by omega) (by omega) (by omega) hn hu hu2 hl0 hl2) (zg_V q646 q648 q831 q7 q649) (by decide +kernel) rfl rfl ⟨by decide, by decide⟩ 0 rfl rfl rfl hl.1 rfl (Nat.le_of_ble_eq_true rfl) d_Mo_reckon_260 ⟨Nat.zero_le _, Nat.zero_le _⟩) hP hD hS [0, 1, 2, 3, 4, 5, 6, 7, 8] [] rfl rfl (by decide) (by decide) (fun w1 H locs hw hP hD hS => ?_)
    obtain rfl := hw
    have hP : va_P D vCl (wM ad ca cd po (wr un li nu 2 (rz li ((((0 : Nat) : Int) - (pr un li (nu 2) : Nat) : Int) - (1 : Nat)))) pt st (rc li ((((0 : Nat) : Int) - (pr un li (nu 2) : Nat) : Int) - (1 : Nat))) pl bk me kc ro en un li tn tx ia ct md lb wn) H := hP
    have hD : va_D A (wM ad ca cd po (wr un li nu 2 (rz li ((((0 : Nat) : Int) - (pr un li (nu 2) : Nat) : Int) - (1 : Nat)))) pt st (rc li ((((0 : Nat) : Int) - (pr un li (nu 2) : Nat) : Int) - (1 : Nat))) pl bk me kc ro en un li tn tx ia ct md lb wn) := hD
    refine lv_goto (tgt := 389) hx hb d_Mo_reckon_263 (by decide) ?_
    exact zret_v C0 hr hAe hP hD hS rfl d_Mo_reckon_389
  · skip
    refine lv_aload_n hx hb d_Mo_reckon_0 rfl (lv_at hl 0 rfl) ?_
    refine lv_iconst (v := nI 0) hx hb d_Mo_reckon_1 (by decide) ?_
    refine zgo_l (wr := []) C0 (zrunV (na := 1) (As := [.int (nI 0)]) (rest := []) C0 hP hD hS [0, 1, 2, 3, 4, 5, 6, 7, 8] rfl rfl (m_Mo_part l D ca k s.heap.size ad cd po nu pt st 0 pl bk me kc ro en un li tn tx ia ct md lb wn 0 (by omega) hn hu hu2 hl0 hl2) (zg_V q634 q636 q828 q7 q637) (by decide +kernel) rfl rfl ⟨by decide, by decide⟩ 0 rfl rfl rfl hl.1 rfl (Nat.le_of_ble_eq_true rfl) d_Mo_reckon_2 ⟨Nat.zero_le _, Nat.zero_le _⟩) hP hD hS [0, 1, 2, 3, 4, 5, 6, 7, 8] [] rfl rfl (by decide) (by decide) (fun r49 w1 H locs hw hP hD hS => ?_)
    obtain ⟨rfl, rfl⟩ := hw
    have hP : va_P D vCl (wM ad ca cd po nu pt st 0 pl bk me kc ro en un li tn tx ia ct md lb wn) H := hP
    have hD : va_D A (wM ad ca cd po nu pt st 0 pl bk me kc ro en un li tn tx ia ct md lb wn) := hD
    refine lv_lstore_n hx hb d_Mo_reckon_5 rfl hl (by decide) rfl (fun ls hl => ?_)
    have hl : lv_has ls 8 [(2, .long (lN (pr un li (nu 0)))), (0, .ref (ad 12)), (1, .int (nI 24))] := hl
    refine lv_aload_n hx hb d_Mo_reckon_6 rfl (lv_at hl 1 rfl) ?_
    refine lv_iconst (v := nI 1) hx hb d_Mo_reckon_7 (by decide) ?_
    refine zgo_l (wr := []) C0 (zrunV (na := 1) (As := [.int (nI 1)]) (rest := []) C0 hP hD hS [0, 1, 2, 3, 4, 5, 6, 7, 8] rfl rfl (m_Mo_part l D ca k H.size ad cd po nu pt st 0 pl bk me kc ro en un li tn tx ia ct md lb wn 1 (by omega) hn hu hu2 hl0 hl2) (zg_V q634 q636 q828 q7 q637) (by decide +kernel) rfl rfl ⟨by decide, by decide⟩ 0 rfl rfl rfl hl.1 rfl (Nat.le_of_ble_eq_true rfl) d_Mo_reckon_8 ⟨Nat.zero_le _, Nat.zero_le _⟩) hP hD hS [0, 1, 2, 3, 4, 5, 6, 7, 8] [] rfl rfl (by decide) (by decide) (fun r50 w1 H locs hw hP hD hS => ?_)
    obtain ⟨rfl, rfl⟩ := hw
    have hP : va_P D vCl (wM ad ca cd po nu pt st 0 pl bk me kc ro en un li tn tx ia ct md lb wn) H := hP
    have hD : va_D A (wM ad ca cd po nu pt st 0 pl bk me kc ro en un li tn tx ia ct md lb wn) := hD
    refine lv_lstore hx hb d_Mo_reckon_11 hl (by decide) rfl (fun ls hl => ?_)
    have hl : lv_has ls 8 [(4, .long (lN (pr un li (nu 1)))), (2, .long (lN (pr un li (nu 0)))), (0, .ref (ad 12)), (1, .int (nI 24))] := hl
    refine lv_aload_n hx hb d_Mo_reckon_13 rfl (lv_at hl 2 rfl) ?_
    refine lv_iconst (v := nI 2) hx hb d_Mo_reckon_14 (by decide) ?_
    refine zgo_l (wr := []) C0 (zrunV (na := 1) (As := [.int (nI 2)]) (rest := []) C0 hP hD hS [0, 1, 2, 3, 4, 5, 6, 7, 8] rfl rfl (m_Mo_part l D ca k H.size ad cd po nu pt st 0 pl bk me kc ro en un li tn tx ia ct md lb wn 2 (by omega) hn hu hu2 hl0 hl2) (zg_V q634 q636 q828 q7 q637) (by decide +kernel) rfl rfl ⟨by decide, by decide⟩ 0 rfl rfl rfl hl.1 rfl (Nat.le_of_ble_eq_true rfl) d_Mo_reckon_15 ⟨Nat.zero_le _, Nat.zero_le _⟩) hP hD hS [0, 1, 2, 3, 4, 5, 6, 7, 8] [] rfl rfl (by decide) (by decide) (fun r51 w1 H locs hw hP hD hS => ?_)
    obtain ⟨rfl, rfl⟩ := hw
    have hP : va_P D vCl (wM ad ca cd po nu pt st 0 pl bk me kc ro en un li tn tx ia ct md lb wn) H := hP
    have hD : va_D A (wM ad ca cd po nu pt st 0 pl bk me kc ro en un li tn tx ia ct md lb wn) := hD
    refine lv_lstore hx hb d_Mo_reckon_18 hl (by decide) rfl (fun ls hl => ?_)
    have hl : lv_has ls 8 [(6, .long (lN (pr un li (nu 2)))), (4, .long (lN (pr un li (nu 1)))), (2, .long (lN (pr un li (nu 0)))), (0, .ref (ad 12)), (1, .int (nI 24))] := hl
    refine lv_iload_n hx hb d_Mo_reckon_20 rfl (lv_at hl 4 rfl) ?_
    refine lv_tableIn (off := 245) (tgt := 266) hx hb d_Mo_reckon_21 (by decide) (by decide) (by decide) (by decide) ?_
    refine lv_aload_n hx hb d_Mo_reckon_266 rfl (lv_at hl 3 rfl) ?_
    refine lv_lload_n hx hb d_Mo_reckon_267 rfl (lv_at hl 2 rfl) ?_
    refine lv_lload hx hb d_Mo_reckon_268 (lv_at hl 1 rfl) ?_
    refine W.lcmp hx hb d_Mo_reckon_270 ?_
    refine lv_if_ge (tgt := 278) hx hb d_Mo_reckon_271 (by decide) (fun h52 => ?_) (fun h52 => ?_)
    · skip
      have h52 : (lN (pr un li (nu 1)) ≤ lN (pr un li (nu 0))) := (lg_cmp_ge _ _).mp h52
      have h52 : ((pr un li (nu 1)) ≤ (pr un li (nu 0))) := (pk_lLE (by omega) (by omega)).mp h52
      refine lv_iconst (v := nI 0) hx hb d_Mo_reckon_278 (by decide) ?_
      refine va_put (D := D) (ci := 5) (v := .int (nI 0)) (ty := .boolean) (C := RMo) (T := TMo) (N := 21) hx hb ht inMo tyMo tyMo_ok nmMo hown hK hP hD hS 0 rfl rfl 5 (by decide) (ht _ q551) (fun _ h9 => h9) rfl (by decide +kernel) (zbn (by omega)) (zbf (by omega)) (Nat.le_of_ble_eq_true rfl) d_Mo_reckon_279 (fun H locs hP hD hS => ?_)
      have hP : va_P D vCl (wM ad ca cd po nu pt st 0 pl bk me kc ro en un li tn tx ia ct md lb wn) H := hP
      have hD : va_D A (wM ad ca cd po nu pt st 0 pl bk me kc ro en un li tn tx ia ct md lb wn) := hD
      refine lv_goto (tgt := 389) hx hb d_Mo_reckon_282 (by decide) ?_
      exact zret_v C0 hr hAe hP hD hS (by rw [show fwC 24 un li nu = 0 from if_pos h52]; rfl) d_Mo_reckon_389
    · skip
      have h52 : ¬ (lN (pr un li (nu 1)) ≤ lN (pr un li (nu 0))) := fun z => h52 ((lg_cmp_ge _ _).mpr z)
      have h52 : ¬ ((pr un li (nu 1)) ≤ (pr un li (nu 0))) := fun z => h52 ((pk_lLE (by omega) (by omega)).mpr z)
      refine lv_iconst (v := nI 1) hx hb d_Mo_reckon_274 (by decide) ?_
      refine lv_goto (tgt := 279) hx hb d_Mo_reckon_275 (by decide) ?_
      refine va_put (D := D) (ci := 5) (v := .int (nI 1)) (ty := .boolean) (C := RMo) (T := TMo) (N := 21) hx hb ht inMo tyMo tyMo_ok nmMo hown hK hP hD hS 0 rfl rfl 5 (by decide) (ht _ q551) (fun _ h9 => h9) rfl (by decide +kernel) (zbn (by omega)) (zbf (by omega)) (Nat.le_of_ble_eq_true rfl) d_Mo_reckon_279 (fun H locs hP hD hS => ?_)
      have hP : va_P D vCl (wM ad ca cd po nu pt st 1 pl bk me kc ro en un li tn tx ia ct md lb wn) H := hP
      have hD : va_D A (wM ad ca cd po nu pt st 1 pl bk me kc ro en un li tn tx ia ct md lb wn) := hD
      refine lv_goto (tgt := 389) hx hb d_Mo_reckon_282 (by decide) ?_
      exact zret_v C0 hr hAe hP hD hS (by rw [show fwC 24 un li nu = 1 from if_neg h52]; rfl) d_Mo_reckon_389
  · skip
    refine lv_aload_n hx hb d_Mo_reckon_0 rfl (lv_at hl 0 rfl) ?_
    refine lv_iconst (v := nI 0) hx hb d_Mo_reckon_1 (by decide) ?_
    refine zgo_l (wr := []) C0 (zrunV (na := 1) (As := [.int (nI 0)]) (rest := []) C0 hP hD hS [0, 1, 2, 3, 4, 5, 6, 7, 8] rfl rfl (m_Mo_part l D ca k s.heap.size ad cd po nu pt st 0 pl bk me kc ro en un li tn tx ia ct md lb wn 0 (by omega) hn hu hu2 hl0 hl2) (zg_V q634 q636 q828 q7 q637) (by decide +kernel) rfl rfl ⟨by decide, by decide⟩ 0 rfl rfl rfl hl.1 rfl (Nat.le_of_ble_eq_true rfl) d_Mo_reckon_2 ⟨Nat.zero_le _, Nat.zero_le _⟩) hP hD hS [0, 1, 2, 3, 4, 5, 6, 7, 8] [] rfl rfl (by decide) (by decide) (fun r53 w1 H locs hw hP hD hS => ?_)
    obtain ⟨rfl, rfl⟩ := hw
    have hP : va_P D vCl (wM ad ca cd po nu pt st 0 pl bk me kc ro en un li tn tx ia ct md lb wn) H := hP
    have hD : va_D A (wM ad ca cd po nu pt st 0 pl bk me kc ro en un li tn tx ia ct md lb wn) := hD
    refine lv_lstore_n hx hb d_Mo_reckon_5 rfl hl (by decide) rfl (fun ls hl => ?_)
    have hl : lv_has ls 8 [(2, .long (lN (pr un li (nu 0)))), (0, .ref (ad 12)), (1, .int (nI 25))] := hl
    refine lv_aload_n hx hb d_Mo_reckon_6 rfl (lv_at hl 1 rfl) ?_
    refine lv_iconst (v := nI 1) hx hb d_Mo_reckon_7 (by decide) ?_
    refine zgo_l (wr := []) C0 (zrunV (na := 1) (As := [.int (nI 1)]) (rest := []) C0 hP hD hS [0, 1, 2, 3, 4, 5, 6, 7, 8] rfl rfl (m_Mo_part l D ca k H.size ad cd po nu pt st 0 pl bk me kc ro en un li tn tx ia ct md lb wn 1 (by omega) hn hu hu2 hl0 hl2) (zg_V q634 q636 q828 q7 q637) (by decide +kernel) rfl rfl ⟨by decide, by decide⟩ 0 rfl rfl rfl hl.1 rfl (Nat.le_of_ble_eq_true rfl) d_Mo_reckon_8 ⟨Nat.zero_le _, Nat.zero_le _⟩) hP hD hS [0, 1, 2, 3, 4, 5, 6, 7, 8] [] rfl rfl (by decide) (by decide) (fun r54 w1 H locs hw hP hD hS => ?_)
    obtain ⟨rfl, rfl⟩ := hw
    have hP : va_P D vCl (wM ad ca cd po nu pt st 0 pl bk me kc ro en un li tn tx ia ct md lb wn) H := hP
    have hD : va_D A (wM ad ca cd po nu pt st 0 pl bk me kc ro en un li tn tx ia ct md lb wn) := hD
    refine lv_lstore hx hb d_Mo_reckon_11 hl (by decide) rfl (fun ls hl => ?_)
    have hl : lv_has ls 8 [(4, .long (lN (pr un li (nu 1)))), (2, .long (lN (pr un li (nu 0)))), (0, .ref (ad 12)), (1, .int (nI 25))] := hl
    refine lv_aload_n hx hb d_Mo_reckon_13 rfl (lv_at hl 2 rfl) ?_
    refine lv_iconst (v := nI 2) hx hb d_Mo_reckon_14 (by decide) ?_
    refine zgo_l (wr := []) C0 (zrunV (na := 1) (As := [.int (nI 2)]) (rest := []) C0 hP hD hS [0, 1, 2, 3, 4, 5, 6, 7, 8] rfl rfl (m_Mo_part l D ca k H.size ad cd po nu pt st 0 pl bk me kc ro en un li tn tx ia ct md lb wn 2 (by omega) hn hu hu2 hl0 hl2) (zg_V q634 q636 q828 q7 q637) (by decide +kernel) rfl rfl ⟨by decide, by decide⟩ 0 rfl rfl rfl hl.1 rfl (Nat.le_of_ble_eq_true rfl) d_Mo_reckon_15 ⟨Nat.zero_le _, Nat.zero_le _⟩) hP hD hS [0, 1, 2, 3, 4, 5, 6, 7, 8] [] rfl rfl (by decide) (by decide) (fun r55 w1 H locs hw hP hD hS => ?_)
    obtain ⟨rfl, rfl⟩ := hw
    have hP : va_P D vCl (wM ad ca cd po nu pt st 0 pl bk me kc ro en un li tn tx ia ct md lb wn) H := hP
    have hD : va_D A (wM ad ca cd po nu pt st 0 pl bk me kc ro en un li tn tx ia ct md lb wn) := hD
    refine lv_lstore hx hb d_Mo_reckon_18 hl (by decide) rfl (fun ls hl => ?_)
    have hl : lv_has ls 8 [(6, .long (lN (pr un li (nu 2)))), (4, .long (lN (pr un li (nu 1)))), (2, .long (lN (pr un li (nu 0)))), (0, .ref (ad 12)), (1, .int (nI 25))] := hl
    refine lv_iload_n hx hb d_Mo_reckon_20 rfl (lv_at hl 4 rfl) ?_
    refine lv_tableIn (off := 264) (tgt := 285) hx hb d_Mo_reckon_21 (by decide) (by decide) (by decide) (by decide) ?_
    refine lv_aload_n hx hb d_Mo_reckon_285 rfl (lv_at hl 3 rfl) ?_
    refine lv_lload_n hx hb d_Mo_reckon_286 rfl (lv_at hl 2 rfl) ?_
    refine lv_lload hx hb d_Mo_reckon_287 (lv_at hl 0 rfl) ?_
    refine W.lcmp hx hb d_Mo_reckon_289 ?_
    refine lv_if_ge (tgt := 297) hx hb d_Mo_reckon_290 (by decide) (fun h56 => ?_) (fun h56 => ?_)
    · skip
      have h56 : (lN (pr un li (nu 2)) ≤ lN (pr un li (nu 0))) := (lg_cmp_ge _ _).mp h56
      have h56 : ((pr un li (nu 2)) ≤ (pr un li (nu 0))) := (pk_lLE (by omega) (by omega)).mp h56
      refine lv_iconst (v := nI 0) hx hb d_Mo_reckon_297 (by decide) ?_
      refine va_put (D := D) (ci := 5) (v := .int (nI 0)) (ty := .boolean) (C := RMo) (T := TMo) (N := 21) hx hb ht inMo tyMo tyMo_ok nmMo hown hK hP hD hS 0 rfl rfl 5 (by decide) (ht _ q551) (fun _ h9 => h9) rfl (by decide +kernel) (zbn (by omega)) (zbf (by omega)) (Nat.le_of_ble_eq_true rfl) d_Mo_reckon_298 (fun H locs hP hD hS => ?_)
      have hP : va_P D vCl (wM ad ca cd po nu pt st 0 pl bk me kc ro en un li tn tx ia ct md lb wn) H := hP
      have hD : va_D A (wM ad ca cd po nu pt st 0 pl bk me kc ro en un li tn tx ia ct md lb wn) := hD
      refine lv_goto (tgt := 389) hx hb d_Mo_reckon_301 (by decide) ?_
      exact zret_v C0 hr hAe hP hD hS (by rw [show fwC 25 un li nu = 0 from if_pos h56]; rfl) d_Mo_reckon_389
    · skip
      have h56 : ¬ (lN (pr un li (nu 2)) ≤ lN (pr un li (nu 0))) := fun z => h56 ((lg_cmp_ge _ _).mpr z)
      have h56 : ¬ ((pr un li (nu 2)) ≤ (pr un li (nu 0))) := fun z => h56 ((pk_lLE (by omega) (by omega)).mpr z)
      refine lv_iconst (v := nI 1) hx hb d_Mo_reckon_293 (by decide) ?_
      refine lv_goto (tgt := 298) hx hb d_Mo_reckon_294 (by decide) ?_
      refine va_put (D := D) (ci := 5) (v := .int (nI 1)) (ty := .boolean) (C := RMo) (T := TMo) (N := 21) hx hb ht inMo tyMo tyMo_ok nmMo hown hK hP hD hS 0 rfl rfl 5 (by decide) (ht _ q551) (fun _ h9 => h9) rfl (by decide +kernel) (zbn (by omega)) (zbf (by omega)) (Nat.le_of_ble_eq_true rfl) d_Mo_reckon_298 (fun H locs hP hD hS => ?_)
      have hP : va_P D vCl (wM ad ca cd po nu pt st 1 pl bk me kc ro en un li tn tx ia ct md lb wn) H := hP
      have hD : va_D A (wM ad ca cd po nu pt st 1 pl bk me kc ro en un li tn tx ia ct md lb wn) := hD
      refine lv_goto (tgt := 389) hx hb d_Mo_reckon_301 (by decide) ?_
      exact zret_v C0 hr hAe hP hD hS (by rw [show fwC 25 un li nu = 1 from if_neg h56]; rfl) d_Mo_reckon_389
  · skip
    refine lv_aload_n hx hb d_Mo_reckon_0 rfl (lv_at hl 0 rfl) ?_
    refine lv_iconst (v := nI 0) hx hb d_Mo_reckon_1 (by decide) ?_
    refine zgo_l (wr := []) C0 (zrunV (na := 1) (As := [.int (nI 0)]) (rest := []) C0 hP hD hS [0, 1, 2, 3, 4, 5, 6, 7, 8] rfl rfl (m_Mo_part l D ca k s.heap.size ad cd po nu pt st 0 pl bk me kc ro en un li tn tx ia ct md lb wn 0 (by omega) hn hu hu2 hl0 hl2) (zg_V q634 q636 q828 q7 q637) (by decide +kernel) rfl rfl ⟨by decide, by decide⟩ 0 rfl rfl rfl hl.1 rfl (Nat.le_of_ble_eq_true rfl) d_Mo_reckon_2 ⟨Nat.zero_le _, Nat.zero_le _⟩) hP hD hS [0, 1, 2, 3, 4, 5, 6, 7, 8] [] rfl rfl (by decide) (by decide) (fun r57 w1 H locs hw hP hD hS => ?_)
    obtain ⟨rfl, rfl⟩ := hw
    have hP : va_P D vCl (wM ad ca cd po nu pt st 0 pl bk me kc ro en un li tn tx ia ct md lb wn) H := hP
    have hD : va_D A (wM ad ca cd po nu pt st 0 pl bk me kc ro en un li tn tx ia ct md lb wn) := hD
    refine lv_lstore_n hx hb d_Mo_reckon_5 rfl hl (by decide) rfl (fun ls hl => ?_)
    have hl : lv_has ls 8 [(2, .long (lN (pr un li (nu 0)))), (0, .ref (ad 12)), (1, .int (nI 26))] := hl
    refine lv_aload_n hx hb d_Mo_reckon_6 rfl (lv_at hl 1 rfl) ?_
    refine lv_iconst (v := nI 1) hx hb d_Mo_reckon_7 (by decide) ?_
    refine zgo_l (wr := []) C0 (zrunV (na := 1) (As := [.int (nI 1)]) (rest := []) C0 hP hD hS [0, 1, 2, 3, 4, 5, 6, 7, 8] rfl rfl (m_Mo_part l D ca k H.size ad cd po nu pt st 0 pl bk me kc ro en un li tn tx ia ct md lb wn 1 (by omega) hn hu hu2 hl0 hl2) (zg_V q634 q636 q828 q7 q637) (by decide +kernel) rfl rfl ⟨by decide, by decide⟩ 0 rfl rfl rfl hl.1 rfl (Nat.le_of_ble_eq_true rfl) d_Mo_reckon_8 ⟨Nat.zero_le _, Nat.zero_le _⟩) hP hD hS [0, 1, 2, 3, 4, 5, 6, 7, 8] [] rfl rfl (by decide) (by decide) (fun r58 w1 H locs hw hP hD hS => ?_)
    obtain ⟨rfl, rfl⟩ := hw
    have hP : va_P D vCl (wM ad ca cd po nu pt st 0 pl bk me kc ro en un li tn tx ia ct md lb wn) H := hP
    have hD : va_D A (wM ad ca cd po nu pt st 0 pl bk me kc ro en un li tn tx ia ct md lb wn) := hD
    refine lv_lstore hx hb d_Mo_reckon_11 hl (by decide) rfl (fun ls hl => ?_)
    have hl : lv_has ls 8 [(4, .long (lN (pr un li (nu 1)))), (2, .long (lN (pr un li (nu 0)))), (0, .ref (ad 12)), (1, .int (nI 26))] := hl
    refine lv_aload_n hx hb d_Mo_reckon_13 rfl (lv_at hl 2 rfl) ?_
    refine lv_iconst (v := nI 2) hx hb d_Mo_reckon_14 (by decide) ?_
    refine zgo_l (wr := []) C0 (zrunV (na := 1) (As := [.int (nI 2)]) (rest := []) C0 hP hD hS [0, 1, 2, 3, 4, 5, 6, 7, 8] rfl rfl (m_Mo_part l D ca k H.size ad cd po nu pt st 0 pl bk me kc ro en un li tn tx ia ct md lb wn 2 (by omega) hn hu hu2 hl0 hl2) (zg_V q634 q636 q828 q7 q637) (by decide +kernel) rfl rfl ⟨by decide, by decide⟩ 0 rfl rfl rfl hl.1 rfl (Nat.le_of_ble_eq_true rfl) d_Mo_reckon_15 ⟨Nat.zero_le _, Nat.zero_le _⟩) hP hD hS [0, 1, 2, 3, 4, 5, 6, 7, 8] [] rfl rfl (by decide) (by decide) (fun r59 w1 H locs hw hP hD hS => ?_)
    obtain ⟨rfl, rfl⟩ := hw
    have hP : va_P D vCl (wM ad ca cd po nu pt st 0 pl bk me kc ro en un li tn tx ia ct md lb wn) H := hP
    have hD : va_D A (wM ad ca cd po nu pt st 0 pl bk me kc ro en un li tn tx ia ct md lb wn) := hD
    refine lv_lstore hx hb d_Mo_reckon_18 hl (by decide) rfl (fun ls hl => ?_)
    have hl : lv_has ls 8 [(6, .long (lN (pr un li (nu 2)))), (4, .long (lN (pr un li (nu 1)))), (2, .long (lN (pr un li (nu 0)))), (0, .ref (ad 12)), (1, .int (nI 26))] := hl
    refine lv_iload_n hx hb d_Mo_reckon_20 rfl (lv_at hl 4 rfl) ?_
    refine lv_tableIn (off := 283) (tgt := 304) hx hb d_Mo_reckon_21 (by decide) (by decide) (by decide) (by decide) ?_
    refine lv_aload_n hx hb d_Mo_reckon_304 rfl (lv_at hl 3 rfl) ?_
    refine lv_lload hx hb d_Mo_reckon_305 (lv_at hl 1 rfl) ?_
    refine lv_lconst (v := lN 0) hx hb d_Mo_reckon_307 rfl ?_
    refine W.lcmp hx hb d_Mo_reckon_308 ?_
    refine lv_if_eq (tgt := 316) hx hb d_Mo_reckon_309 (by decide) (fun h60 => ?_) (fun h60 => ?_)
    · skip
      have h60 : (lN (pr un li (nu 1)) = lN 0) := (lg_cmp_eq _ _).mp h60
      have h60 : ((pr un li (nu 1)) = 0) := (pk_lEQ (by omega) (by omega)).mp h60
      refine lv_iconst (v := nI 0) hx hb d_Mo_reckon_316 (by decide) ?_
      refine va_put (D := D) (ci := 5) (v := .int (nI 0)) (ty := .boolean) (C := RMo) (T := TMo) (N := 21) hx hb ht inMo tyMo tyMo_ok nmMo hown hK hP hD hS 0 rfl rfl 5 (by decide) (ht _ q551) (fun _ h9 => h9) rfl (by decide +kernel) (zbn (by omega)) (zbf (by omega)) (Nat.le_of_ble_eq_true rfl) d_Mo_reckon_317 (fun H locs hP hD hS => ?_)
      have hP : va_P D vCl (wM ad ca cd po nu pt st 0 pl bk me kc ro en un li tn tx ia ct md lb wn) H := hP
      have hD : va_D A (wM ad ca cd po nu pt st 0 pl bk me kc ro en un li tn tx ia ct md lb wn) := hD
      refine lv_goto (tgt := 389) hx hb d_Mo_reckon_320 (by decide) ?_
      exact zret_v C0 hr hAe hP hD hS (by rw [show fwC 26 un li nu = 0 from if_pos h60]; rfl) d_Mo_reckon_389
    · skip
      have h60 : ¬ (lN (pr un li (nu 1)) = lN 0) := fun z => h60 ((lg_cmp_eq _ _).mpr z)
      have h60 : ¬ ((pr un li (nu 1)) = 0) := fun z => h60 ((pk_lEQ (by omega) (by omega)).mpr z)
      refine lv_iconst (v := nI 1) hx hb d_Mo_reckon_312 (by decide) ?_
      refine lv_goto (tgt := 317) hx hb d_Mo_reckon_313 (by decide) ?_
      refine va_put (D := D) (ci := 5) (v := .int (nI 1)) (ty := .boolean) (C := RMo) (T := TMo) (N := 21) hx hb ht inMo tyMo tyMo_ok nmMo hown hK hP hD hS 0 rfl rfl 5 (by decide) (ht _ q551) (fun _ h9 => h9) rfl (by decide +kernel) (zbn (by omega)) (zbf (by omega)) (Nat.le_of_ble_eq_true rfl) d_Mo_reckon_317 (fun H locs hP hD hS => ?_)
      have hP : va_P D vCl (wM ad ca cd po nu pt st 1 pl bk me kc ro en un li tn tx ia ct md lb wn) H := hP
      have hD : va_D A (wM ad ca cd po nu pt st 1 pl bk me kc ro en un li tn tx ia ct md lb wn) := hD
      refine lv_goto (tgt := 389) hx hb d_Mo_reckon_320 (by decide) ?_
      exact zret_v C0 hr hAe hP hD hS (by rw [show fwC 26 un li nu = 1 from if_neg h60]; rfl) d_Mo_reckon_389
  · skip
    refine lv_aload_n hx hb d_Mo_reckon_0 rfl (lv_at hl 0 rfl) ?_
    refine lv_iconst (v := nI 0) hx hb d_Mo_reckon_1 (by decide) ?_
    refine zgo_l (wr := []) C0 (zrunV (na := 1) (As := [.int (nI 0)]) (rest := []) C0 hP hD hS [0, 1, 2, 3, 4, 5, 6, 7, 8] rfl rfl (m_Mo_part l D ca k s.heap.size ad cd po nu pt st 0 pl bk me kc ro en un li tn tx ia ct md lb wn 0 (by omega) hn hu hu2 hl0 hl2) (zg_V q634 q636 q828 q7 q637) (by decide +kernel) rfl rfl ⟨by decide, by decide⟩ 0 rfl rfl rfl hl.1 rfl (Nat.le_of_ble_eq_true rfl) d_Mo_reckon_2 ⟨Nat.zero_le _, Nat.zero_le _⟩) hP hD hS [0, 1, 2, 3, 4, 5, 6, 7, 8] [] rfl rfl (by decide) (by decide) (fun r61 w1 H locs hw hP hD hS => ?_)
    obtain ⟨rfl, rfl⟩ := hw
    have hP : va_P D vCl (wM ad ca cd po nu pt st 0 pl bk me kc ro en un li tn tx ia ct md lb wn) H := hP
    have hD : va_D A (wM ad ca cd po nu pt st 0 pl bk me kc ro en un li tn tx ia ct md lb wn) := hD
    refine lv_lstore_n hx hb d_Mo_reckon_5 rfl hl (by decide) rfl (fun ls hl => ?_)
    have hl : lv_has ls 8 [(2, .long (lN (pr un li (nu 0)))), (0, .ref (ad 12)), (1, .int (nI 27))] := hl
    refine lv_aload_n hx hb d_Mo_reckon_6 rfl (lv_at hl 1 rfl) ?_
    refine lv_iconst (v := nI 1) hx hb d_Mo_reckon_7 (by decide) ?_
    refine zgo_l (wr := []) C0 (zrunV (na := 1) (As := [.int (nI 1)]) (rest := []) C0 hP hD hS [0, 1, 2, 3, 4, 5, 6, 7, 8] rfl rfl (m_Mo_part l D ca k H.size ad cd po nu pt st 0 pl bk me kc ro en un li tn tx ia ct md lb wn 1 (by omega) hn hu hu2 hl0 hl2) (zg_V q634 q636 q828 q7 q637) (by decide +kernel) rfl rfl ⟨by decide, by decide⟩ 0 rfl rfl rfl hl.1 rfl (Nat.le_of_ble_eq_true rfl) d_Mo_reckon_8 ⟨Nat.zero_le _, Nat.zero_le _⟩) hP hD hS [0, 1, 2, 3, 4, 5, 6, 7, 8] [] rfl rfl (by decide) (by decide) (fun r62 w1 H locs hw hP hD hS => ?_)
    obtain ⟨rfl, rfl⟩ := hw
    have hP : va_P D vCl (wM ad ca cd po nu pt st 0 pl bk me kc ro en un li tn tx ia ct md lb wn) H := hP
    have hD : va_D A (wM ad ca cd po nu pt st 0 pl bk me kc ro en un li tn tx ia ct md lb wn) := hD
    refine lv_lstore hx hb d_Mo_reckon_11 hl (by decide) rfl (fun ls hl => ?_)
    have hl : lv_has ls 8 [(4, .long (lN (pr un li (nu 1)))), (2, .long (lN (pr un li (nu 0)))), (0, .ref (ad 12)), (1, .int (nI 27))] := hl
    refine lv_aload_n hx hb d_Mo_reckon_13 rfl (lv_at hl 2 rfl) ?_
    refine lv_iconst (v := nI 2) hx hb d_Mo_reckon_14 (by decide) ?_
    refine zgo_l (wr := []) C0 (zrunV (na := 1) (As := [.int (nI 2)]) (rest := []) C0 hP hD hS [0, 1, 2, 3, 4, 5, 6, 7, 8] rfl rfl (m_Mo_part l D ca k H.size ad cd po nu pt st 0 pl bk me kc ro en un li tn tx ia ct md lb wn 2 (by omega) hn hu hu2 hl0 hl2) (zg_V q634 q636 q828 q7 q637) (by decide +kernel) rfl rfl ⟨by decide, by decide⟩ 0 rfl rfl rfl hl.1 rfl (Nat.le_of_ble_eq_true rfl) d_Mo_reckon_15 ⟨Nat.zero_le _, Nat.zero_le _⟩) hP hD hS [0, 1, 2, 3, 4, 5, 6, 7, 8] [] rfl rfl (by decide) (by decide) (fun r63 w1 H locs hw hP hD hS => ?_)
    obtain ⟨rfl, rfl⟩ := hw
    have hP : va_P D vCl (wM ad ca cd po nu pt st 0 pl bk me kc ro en un li tn tx ia ct md lb wn) H := hP
    have hD : va_D A (wM ad ca cd po nu pt st 0 pl bk me kc ro en un li tn tx ia ct md lb wn) := hD
    refine lv_lstore hx hb d_Mo_reckon_18 hl (by decide) rfl (fun ls hl => ?_)
    have hl : lv_has ls 8 [(6, .long (lN (pr un li (nu 2)))), (4, .long (lN (pr un li (nu 1)))), (2, .long (lN (pr un li (nu 0)))), (0, .ref (ad 12)), (1, .int (nI 27))] := hl
    refine lv_iload_n hx hb d_Mo_reckon_20 rfl (lv_at hl 4 rfl) ?_
    refine lv_tableIn (off := 302) (tgt := 323) hx hb d_Mo_reckon_21 (by decide) (by decide) (by decide) (by decide) ?_
    refine lv_aload_n hx hb d_Mo_reckon_323 rfl (lv_at hl 3 rfl) ?_
    refine lv_lload hx hb d_Mo_reckon_324 (lv_at hl 0 rfl) ?_
    refine lv_lconst (v := lN 0) hx hb d_Mo_reckon_326 rfl ?_
    refine W.lcmp hx hb d_Mo_reckon_327 ?_
    refine lv_if_eq (tgt := 335) hx hb d_Mo_reckon_328 (by decide) (fun h64 => ?_) (fun h64 => ?_)
    · skip
      have h64 : (lN (pr un li (nu 2)) = lN 0) := (lg_cmp_eq _ _).mp h64
      have h64 : ((pr un li (nu 2)) = 0) := (pk_lEQ (by omega) (by omega)).mp h64
      refine lv_iconst (v := nI 0) hx hb d_Mo_reckon_335 (by decide) ?_
      refine va_put (D := D) (ci := 5) (v := .int (nI 0)) (ty := .boolean) (C := RMo) (T := TMo) (N := 21) hx hb ht inMo tyMo tyMo_ok nmMo hown hK hP hD hS 0 rfl rfl 5 (by decide) (ht _ q551) (fun _ h9 => h9) rfl (by decide +kernel) (zbn (by omega)) (zbf (by omega)) (Nat.le_of_ble_eq_true rfl) d_Mo_reckon_336 (fun H locs hP hD hS => ?_)
      have hP : va_P D vCl (wM ad ca cd po nu pt st 0 pl bk me kc ro en un li tn tx ia ct md lb wn) H := hP
      have hD : va_D A (wM ad ca cd po nu pt st 0 pl bk me kc ro en un li tn tx ia ct md lb wn) := hD
      refine lv_goto (tgt := 389) hx hb d_Mo_reckon_339 (by decide) ?_
      exact zret_v C0 hr hAe hP hD hS (by rw [show fwC 27 un li nu = 0 from if_pos h64]; rfl) d_Mo_reckon_389
    · skip
      have h64 : ¬ (lN (pr un li (nu 2)) = lN 0) := fun z => h64 ((lg_cmp_eq _ _).mpr z)
      have h64 : ¬ ((pr un li (nu 2)) = 0) := fun z => h64 ((pk_lEQ (by omega) (by omega)).mpr z)
      refine lv_iconst (v := nI 1) hx hb d_Mo_reckon_331 (by decide) ?_
      refine lv_goto (tgt := 336) hx hb d_Mo_reckon_332 (by decide) ?_
      refine va_put (D := D) (ci := 5) (v := .int (nI 1)) (ty := .boolean) (C := RMo) (T := TMo) (N := 21) hx hb ht inMo tyMo tyMo_ok nmMo hown hK hP hD hS 0 rfl rfl 5 (by decide) (ht _ q551) (fun _ h9 => h9) rfl (by decide +kernel) (zbn (by omega)) (zbf (by omega)) (Nat.le_of_ble_eq_true rfl) d_Mo_reckon_336 (fun H locs hP hD hS => ?_)
      have hP : va_P D vCl (wM ad ca cd po nu pt st 1 pl bk me kc ro en un li tn tx ia ct md lb wn) H := hP
      have hD : va_D A (wM ad ca cd po nu pt st 1 pl bk me kc ro en un li tn tx ia ct md lb wn) := hD
      refine lv_goto (tgt := 389) hx hb d_Mo_reckon_339 (by decide) ?_
      exact zret_v C0 hr hAe hP hD hS (by rw [show fwC 27 un li nu = 1 from if_neg h64]; rfl) d_Mo_reckon_389
  · skip
    refine lv_aload_n hx hb d_Mo_reckon_0 rfl (lv_at hl 0 rfl) ?_
    refine lv_iconst (v := nI 0) hx hb d_Mo_reckon_1 (by decide) ?_
    refine zgo_l (wr := []) C0 (zrunV (na := 1) (As := [.int (nI 0)]) (rest := []) C0 hP hD hS [0, 1, 2, 3, 4, 5, 6, 7, 8] rfl rfl (m_Mo_part l D ca k s.heap.size ad cd po nu pt st 0 pl bk me kc ro en un li tn tx ia ct md lb wn 0 (by omega) hn hu hu2 hl0 hl2) (zg_V q634 q636 q828 q7 q637) (by decide +kernel) rfl rfl ⟨by decide, by decide⟩ 0 rfl rfl rfl hl.1 rfl (Nat.le_of_ble_eq_true rfl) d_Mo_reckon_2 ⟨Nat.zero_le _, Nat.zero_le _⟩) hP hD hS [0, 1, 2, 3, 4, 5, 6, 7, 8] [] rfl rfl (by decide) (by decide) (fun r65 w1 H locs hw hP hD hS => ?_)
    obtain ⟨rfl, rfl⟩ := hw
    have hP : va_P D vCl (wM ad ca cd po nu pt st 0 pl bk me kc ro en un li tn tx ia ct md lb wn) H := hP
    have hD : va_D A (wM ad ca cd po nu pt st 0 pl bk me kc ro en un li tn tx ia ct md lb wn) := hD
    refine lv_lstore_n hx hb d_Mo_reckon_5 rfl hl (by decide) rfl (fun ls hl => ?_)
    have hl : lv_has ls 8 [(2, .long (lN (pr un li (nu 0)))), (0, .ref (ad 12)), (1, .int (nI 28))] := hl
    refine lv_aload_n hx hb d_Mo_reckon_6 rfl (lv_at hl 1 rfl) ?_
    refine lv_iconst (v := nI 1) hx hb d_Mo_reckon_7 (by decide) ?_
    refine zgo_l (wr := []) C0 (zrunV (na := 1) (As := [.int (nI 1)]) (rest := []) C0 hP hD hS [0, 1, 2, 3, 4, 5, 6, 7, 8] rfl rfl (m_Mo_part l D ca k H.size ad cd po nu pt st 0 pl bk me kc ro en un li tn tx ia ct md lb wn 1 (by omega) hn hu hu2 hl0 hl2) (zg_V q634 q636 q828 q7 q637) (by decide +kernel) rfl rfl ⟨by decide, by decide⟩ 0 rfl rfl rfl hl.1 rfl (Nat.le_of_ble_eq_true rfl) d_Mo_reckon_8 ⟨Nat.zero_le _, Nat.zero_le _⟩) hP hD hS [0, 1, 2, 3, 4, 5, 6, 7, 8] [] rfl rfl (by decide) (by decide) (fun r66 w1 H locs hw hP hD hS => ?_)
    obtain ⟨rfl, rfl⟩ := hw
    have hP : va_P D vCl (wM ad ca cd po nu pt st 0 pl bk me kc ro en un li tn tx ia ct md lb wn) H := hP
    have hD : va_D A (wM ad ca cd po nu pt st 0 pl bk me kc ro en un li tn tx ia ct md lb wn) := hD
    refine lv_lstore hx hb d_Mo_reckon_11 hl (by decide) rfl (fun ls hl => ?_)
    have hl : lv_has ls 8 [(4, .long (lN (pr un li (nu 1)))), (2, .long (lN (pr un li (nu 0)))), (0, .ref (ad 12)), (1, .int (nI 28))] := hl
    refine lv_aload_n hx hb d_Mo_reckon_13 rfl (lv_at hl 2 rfl) ?_
    refine lv_iconst (v := nI 2) hx hb d_Mo_reckon_14 (by decide) ?_
    refine zgo_l (wr := []) C0 (zrunV (na := 1) (As := [.int (nI 2)]) (rest := []) C0 hP hD hS [0, 1, 2, 3, 4, 5, 6, 7, 8] rfl rfl (m_Mo_part l D ca k H.size ad cd po nu pt st 0 pl bk me kc ro en un li tn tx ia ct md lb wn 2 (by omega) hn hu hu2 hl0 hl2) (zg_V q634 q636 q828 q7 q637) (by decide +kernel) rfl rfl ⟨by decide, by decide⟩ 0 rfl rfl rfl hl.1 rfl (Nat.le_of_ble_eq_true rfl) d_Mo_reckon_15 ⟨Nat.zero_le _, Nat.zero_le _⟩) hP hD hS [0, 1, 2, 3, 4, 5, 6, 7, 8] [] rfl rfl (by decide) (by decide) (fun r67 w1 H locs hw hP hD hS => ?_)
    obtain ⟨rfl, rfl⟩ := hw
    have hP : va_P D vCl (wM ad ca cd po nu pt st 0 pl bk me kc ro en un li tn tx ia ct md lb wn) H := hP
    have hD : va_D A (wM ad ca cd po nu pt st 0 pl bk me kc ro en un li tn tx ia ct md lb wn) := hD
    refine lv_lstore hx hb d_Mo_reckon_18 hl (by decide) rfl (fun ls hl => ?_)
    have hl : lv_has ls 8 [(6, .long (lN (pr un li (nu 2)))), (4, .long (lN (pr un li (nu 1)))), (2, .long (lN (pr un li (nu 0)))), (0, .ref (ad 12)), (1, .int (nI 28))] := hl
    refine lv_iload_n hx hb d_Mo_reckon_20 rfl (lv_at hl 4 rfl) ?_
    refine lv_tableIn (off := 321) (tgt := 342) hx hb d_Mo_reckon_21 (by decide) (by decide) (by decide) (by decide) ?_
    refine lv_aload_n hx hb d_Mo_reckon_342 rfl (lv_at hl 3 rfl) ?_
    refine lv_lload_n hx hb d_Mo_reckon_343 rfl (lv_at hl 2 rfl) ?_
    refine lv_lconst (v := lN 0) hx hb d_Mo_reckon_344 rfl ?_
    refine W.lcmp hx hb d_Mo_reckon_345 ?_
    refine lv_if_ne (tgt := 353) hx hb d_Mo_reckon_346 (by decide) (fun h68 => ?_) (fun h68 => ?_)
    · skip
      have h68 : ¬ (lN (pr un li (nu 0)) = lN 0) := fun z => h68 ((lg_cmp_eq _ _).mpr z)
      have h68 : ¬ ((pr un li (nu 0)) = 0) := fun z => h68 ((pk_lEQ (by omega) (by omega)).mpr z)
      refine lv_iconst (v := nI 0) hx hb d_Mo_reckon_353 (by decide) ?_
      refine va_put (D := D) (ci := 5) (v := .int (nI 0)) (ty := .boolean) (C := RMo) (T := TMo) (N := 21) hx hb ht inMo tyMo tyMo_ok nmMo hown hK hP hD hS 0 rfl rfl 5 (by decide) (ht _ q551) (fun _ h9 => h9) rfl (by decide +kernel) (zbn (by omega)) (zbf (by omega)) (Nat.le_of_ble_eq_true rfl) d_Mo_reckon_354 (fun H locs hP hD hS => ?_)
      have hP : va_P D vCl (wM ad ca cd po nu pt st 0 pl bk me kc ro en un li tn tx ia ct md lb wn) H := hP
      have hD : va_D A (wM ad ca cd po nu pt st 0 pl bk me kc ro en un li tn tx ia ct md lb wn) := hD
      refine lv_goto (tgt := 389) hx hb d_Mo_reckon_357 (by decide) ?_
      exact zret_v C0 hr hAe hP hD hS (by rw [show fwC 28 un li nu = 0 from if_neg h68]; rfl) d_Mo_reckon_389
    · skip
      have h68 : (lN (pr un li (nu 0)) = lN 0) := (lg_cmp_eq _ _).mp h68
      have h68 : ((pr un li (nu 0)) = 0) := (pk_lEQ (by omega) (by omega)).mp h68
      refine lv_iconst (v := nI 1) hx hb d_Mo_reckon_349 (by decide) ?_
      refine lv_goto (tgt := 354) hx hb d_Mo_reckon_350 (by decide) ?_
      refine va_put (D := D) (ci := 5) (v := .int (nI 1)) (ty := .boolean) (C := RMo) (T := TMo) (N := 21) hx hb ht inMo tyMo tyMo_ok nmMo hown hK hP hD hS 0 rfl rfl 5 (by decide) (ht _ q551) (fun _ h9 => h9) rfl (by decide +kernel) (zbn (by omega)) (zbf (by omega)) (Nat.le_of_ble_eq_true rfl) d_Mo_reckon_354 (fun H locs hP hD hS => ?_)
      have hP : va_P D vCl (wM ad ca cd po nu pt st 1 pl bk me kc ro en un li tn tx ia ct md lb wn) H := hP
      have hD : va_D A (wM ad ca cd po nu pt st 1 pl bk me kc ro en un li tn tx ia ct md lb wn) := hD
      refine lv_goto (tgt := 389) hx hb d_Mo_reckon_357 (by decide) ?_
      exact zret_v C0 hr hAe hP hD hS (by rw [show fwC 28 un li nu = 1 from if_pos h68]; rfl) d_Mo_reckon_389
  · skip
    refine lv_aload_n hx hb d_Mo_reckon_0 rfl (lv_at hl 0 rfl) ?_
    refine lv_iconst (v := nI 0) hx hb d_Mo_reckon_1 (by decide) ?_
    refine zgo_l (wr := []) C0 (zrunV (na := 1) (As := [.int (nI 0)]) (rest := []) C0 hP hD hS [0, 1, 2, 3, 4, 5, 6, 7, 8] rfl rfl (m_Mo_part l D ca k s.heap.size ad cd po nu pt st 0 pl bk me kc ro en un li tn tx ia ct md lb wn 0 (by omega) hn hu hu2 hl0 hl2) (zg_V q634 q636 q828 q7 q637) (by decide +kernel) rfl rfl ⟨by decide, by decide⟩ 0 rfl rfl rfl hl.1 rfl (Nat.le_of_ble_eq_true rfl) d_Mo_reckon_2 ⟨Nat.zero_le _, Nat.zero_le _⟩) hP hD hS [0, 1, 2, 3, 4, 5, 6, 7, 8] [] rfl rfl (by decide) (by decide) (fun r69 w1 H locs hw hP hD hS => ?_)
    obtain ⟨rfl, rfl⟩ := hw
    have hP : va_P D vCl (wM ad ca cd po nu pt st 0 pl bk me kc ro en un li tn tx ia ct md lb wn) H := hP
    have hD : va_D A (wM ad ca cd po nu pt st 0 pl bk me kc ro en un li tn tx ia ct md lb wn) := hD
    refine lv_lstore_n hx hb d_Mo_reckon_5 rfl hl (by decide) rfl (fun ls hl => ?_)
    have hl : lv_has ls 8 [(2, .long (lN (pr un li (nu 0)))), (0, .ref (ad 12)), (1, .int (nI 29))] := hl
    refine lv_aload_n hx hb d_Mo_reckon_6 rfl (lv_at hl 1 rfl) ?_
    refine lv_iconst (v := nI 1) hx hb d_Mo_reckon_7 (by decide) ?_
    refine zgo_l (wr := []) C0 (zrunV (na := 1) (As := [.int (nI 1)]) (rest := []) C0 hP hD hS [0, 1, 2, 3, 4, 5, 6, 7, 8] rfl rfl (m_Mo_part l D ca k H.size ad cd po nu pt st 0 pl bk me kc ro en un li tn tx ia ct md lb wn 1 (by omega) hn hu hu2 hl0 hl2) (zg_V q634 q636 q828 q7 q637) (by decide +kernel) rfl rfl ⟨by decide, by decide⟩ 0 rfl rfl rfl hl.1 rfl (Nat.le_of_ble_eq_true rfl) d_Mo_reckon_8 ⟨Nat.zero_le _, Nat.zero_le _⟩) hP hD hS [0, 1, 2, 3, 4, 5, 6, 7, 8] [] rfl rfl (by decide) (by decide) (fun r70 w1 H locs hw hP hD hS => ?_)
    obtain ⟨rfl, rfl⟩ := hw
    have hP : va_P D vCl (wM ad ca cd po nu pt st 0 pl bk me kc ro en un li tn tx ia ct md lb wn) H := hP
    have hD : va_D A (wM ad ca cd po nu pt st 0 pl bk me kc ro en un li tn tx ia ct md lb wn) := hD
    refine lv_lstore hx hb d_Mo_reckon_11 hl (by decide) rfl (fun ls hl => ?_)
    have hl : lv_has ls 8 [(4, .long (lN (pr un li (nu 1)))), (2, .long (lN (pr un li (nu 0)))), (0, .ref (ad 12)), (1, .int (nI 29))] := hl
    refine lv_aload_n hx hb d_Mo_reckon_13 rfl (lv_at hl 2 rfl) ?_
    refine lv_iconst (v := nI 2) hx hb d_Mo_reckon_14 (by decide) ?_
    refine zgo_l (wr := []) C0 (zrunV (na := 1) (As := [.int (nI 2)]) (rest := []) C0 hP hD hS [0, 1, 2, 3, 4, 5, 6, 7, 8] rfl rfl (m_Mo_part l D ca k H.size ad cd po nu pt st 0 pl bk me kc ro en un li tn tx ia ct md lb wn 2 (by omega) hn hu hu2 hl0 hl2) (zg_V q634 q636 q828 q7 q637) (by decide +kernel) rfl rfl ⟨by decide, by decide⟩ 0 rfl rfl rfl hl.1 rfl (Nat.le_of_ble_eq_true rfl) d_Mo_reckon_15 ⟨Nat.zero_le _, Nat.zero_le _⟩) hP hD hS [0, 1, 2, 3, 4, 5, 6, 7, 8] [] rfl rfl (by decide) (by decide) (fun r71 w1 H locs hw hP hD hS => ?_)
    obtain ⟨rfl, rfl⟩ := hw
    have hP : va_P D vCl (wM ad ca cd po nu pt st 0 pl bk me kc ro en un li tn tx ia ct md lb wn) H := hP
    have hD : va_D A (wM ad ca cd po nu pt st 0 pl bk me kc ro en un li tn tx ia ct md lb wn) := hD
    refine lv_lstore hx hb d_Mo_reckon_18 hl (by decide) rfl (fun ls hl => ?_)
    have hl : lv_has ls 8 [(6, .long (lN (pr un li (nu 2)))), (4, .long (lN (pr un li (nu 1)))), (2, .long (lN (pr un li (nu 0)))), (0, .ref (ad 12)), (1, .int (nI 29))] := hl
    refine lv_iload_n hx hb d_Mo_reckon_20 rfl (lv_at hl 4 rfl) ?_
    refine lv_tableIn (off := 339) (tgt := 360) hx hb d_Mo_reckon_21 (by decide) (by decide) (by decide) (by decide) ?_
    refine lv_aload_n hx hb d_Mo_reckon_360 rfl (lv_at hl 3 rfl) ?_
    refine lv_lload hx hb d_Mo_reckon_361 (lv_at hl 0 rfl) ?_
    refine lv_lconst (v := lN 0) hx hb d_Mo_reckon_363 rfl ?_
    refine W.lcmp hx hb d_Mo_reckon_364 ?_
    refine lv_if_ne (tgt := 372) hx hb d_Mo_reckon_365 (by decide) (fun h72 => ?_) (fun h72 => ?_)
    · skip
      have h72 : ¬ (lN (pr un li (nu 2)) = lN 0) := fun z => h72 ((lg_cmp_eq _ _).mpr z)
      have h72 : ¬ ((pr un li (nu 2)) = 0) := fun z => h72 ((pk_lEQ (by omega) (by omega)).mpr z)
      refine lv_iconst (v := nI 0) hx hb d_Mo_reckon_372 (by decide) ?_
      refine va_put (D := D) (ci := 5) (v := .int (nI 0)) (ty := .boolean) (C := RMo) (T := TMo) (N := 21) hx hb ht inMo tyMo tyMo_ok nmMo hown hK hP hD hS 0 rfl rfl 5 (by decide) (ht _ q551) (fun _ h9 => h9) rfl (by decide +kernel) (zbn (by omega)) (zbf (by omega)) (Nat.le_of_ble_eq_true rfl) d_Mo_reckon_373 (fun H locs hP hD hS => ?_)
      have hP : va_P D vCl (wM ad ca cd po nu pt st 0 pl bk me kc ro en un li tn tx ia ct md lb wn) H := hP
      have hD : va_D A (wM ad ca cd po nu pt st 0 pl bk me kc ro en un li tn tx ia ct md lb wn) := hD
      refine lv_goto (tgt := 389) hx hb d_Mo_reckon_376 (by decide) ?_
      exact zret_v C0 hr hAe hP hD hS (by rw [show fwC 29 un li nu = 0 from if_neg h72]; rfl) d_Mo_reckon_389
    · skip
      have h72 : (lN (pr un li (nu 2)) = lN 0) := (lg_cmp_eq _ _).mp h72
      have h72 : ((pr un li (nu 2)) = 0) := (pk_lEQ (by omega) (by omega)).mp h72
      refine lv_iconst (v := nI 1) hx hb d_Mo_reckon_368 (by decide) ?_
      refine lv_goto (tgt := 373) hx hb d_Mo_reckon_369 (by decide) ?_
      refine va_put (D := D) (ci := 5) (v := .int (nI 1)) (ty := .boolean) (C := RMo) (T := TMo) (N := 21) hx hb ht inMo tyMo tyMo_ok nmMo hown hK hP hD hS 0 rfl rfl 5 (by decide) (ht _ q551) (fun _ h9 => h9) rfl (by decide +kernel) (zbn (by omega)) (zbf (by omega)) (Nat.le_of_ble_eq_true rfl) d_Mo_reckon_373 (fun H locs hP hD hS => ?_)
      have hP : va_P D vCl (wM ad ca cd po nu pt st 1 pl bk me kc ro en un li tn tx ia ct md lb wn) H := hP
      have hD : va_D A (wM ad ca cd po nu pt st 1 pl bk me kc ro en un li tn tx ia ct md lb wn) := hD
      refine lv_goto (tgt := 389) hx hb d_Mo_reckon_376 (by decide) ?_
      exact zret_v C0 hr hAe hP hD hS (by rw [show fwC 29 un li nu = 1 from if_pos h72]; rfl) d_Mo_reckon_389
  · skip
    refine lv_aload_n hx hb d_Mo_reckon_0 rfl (lv_at hl 0 rfl) ?_
    refine lv_iconst (v := nI 0) hx hb d_Mo_reckon_1 (by decide) ?_
    refine zgo_l (wr := []) C0 (zrunV (na := 1) (As := [.int (nI 0)]) (rest := []) C0 hP hD hS [0, 1, 2, 3, 4, 5, 6, 7, 8] rfl rfl (m_Mo_part l D ca k s.heap.size ad cd po nu pt st 0 pl bk me kc ro en un li tn tx ia ct md lb wn 0 (by omega) hn hu hu2 hl0 hl2) (zg_V q634 q636 q828 q7 q637) (by decide +kernel) rfl rfl ⟨by decide, by decide⟩ 0 rfl rfl rfl hl.1 rfl (Nat.le_of_ble_eq_true rfl) d_Mo_reckon_2 ⟨Nat.zero_le _, Nat.zero_le _⟩) hP hD hS [0, 1, 2, 3, 4, 5, 6, 7, 8] [] rfl rfl (by decide) (by decide) (fun r73 w1 H locs hw hP hD hS => ?_)
    obtain ⟨rfl, rfl⟩ := hw
    have hP : va_P D vCl (wM ad ca cd po nu pt st 0 pl bk me kc ro en un li tn tx ia ct md lb wn) H := hP
    have hD : va_D A (wM ad ca cd po nu pt st 0 pl bk me kc ro en un li tn tx ia ct md lb wn) := hD
    refine lv_lstore_n hx hb d_Mo_reckon_5 rfl hl (by decide) rfl (fun ls hl => ?_)
    have hl : lv_has ls 8 [(2, .long (lN (pr un li (nu 0)))), (0, .ref (ad 12)), (1, .int (nI 30))] := hl
    refine lv_aload_n hx hb d_Mo_reckon_6 rfl (lv_at hl 1 rfl) ?_
    refine lv_iconst (v := nI 1) hx hb d_Mo_reckon_7 (by decide) ?_
    refine zgo_l (wr := []) C0 (zrunV (na := 1) (As := [.int (nI 1)]) (rest := []) C0 hP hD hS [0, 1, 2, 3, 4, 5, 6, 7, 8] rfl rfl (m_Mo_part l D ca k H.size ad cd po nu pt st 0 pl bk me kc ro en un li tn tx ia ct md lb wn 1 (by omega) hn hu hu2 hl0 hl2) (zg_V q634 q636 q828 q7 q637) (by decide +kernel) rfl rfl ⟨by decide, by decide⟩ 0 rfl rfl rfl hl.1 rfl (Nat.le_of_ble_eq_true rfl) d_Mo_reckon_8 ⟨Nat.zero_le _, Nat.zero_le _⟩) hP hD hS [0, 1, 2, 3, 4, 5, 6, 7, 8] [] rfl rfl (by decide) (by decide) (fun r74 w1 H locs hw hP hD hS => ?_)
    obtain ⟨rfl, rfl⟩ := hw
    have hP : va_P D vCl (wM ad ca cd po nu pt st 0 pl bk me kc ro en un li tn tx ia ct md lb wn) H := hP
    have hD : va_D A (wM ad ca cd po nu pt st 0 pl bk me kc ro en un li tn tx ia ct md lb wn) := hD
    refine lv_lstore hx hb d_Mo_reckon_11 hl (by decide) rfl (fun ls hl => ?_)
    have hl : lv_has ls 8 [(4, .long (lN (pr un li (nu 1)))), (2, .long (lN (pr un li (nu 0)))), (0, .ref (ad 12)), (1, .int (nI 30))] := hl
    refine lv_aload_n hx hb d_Mo_reckon_13 rfl (lv_at hl 2 rfl) ?_
    refine lv_iconst (v := nI 2) hx hb d_Mo_reckon_14 (by decide) ?_
    refine zgo_l (wr := []) C0 (zrunV (na := 1) (As := [.int (nI 2)]) (rest := []) C0 hP hD hS [0, 1, 2, 3, 4, 5, 6, 7, 8] rfl rfl (m_Mo_part l D ca k H.size ad cd po nu pt st 0 pl bk me kc ro en un li tn tx ia ct md lb wn 2 (by omega) hn hu hu2 hl0 hl2) (zg_V q634 q636 q828 q7 q637) (by decide +kernel) rfl rfl ⟨by decide, by decide⟩ 0 rfl rfl rfl hl.1 rfl (Nat.le_of_ble_eq_true rfl) d_Mo_reckon_15 ⟨Nat.zero_le _, Nat.zero_le _⟩) hP hD hS [0, 1, 2, 3, 4, 5, 6, 7, 8] [] rfl rfl (by decide) (by decide) (fun r75 w1 H locs hw hP hD hS => ?_)
    obtain ⟨rfl, rfl⟩ := hw
    have hP : va_P D vCl (wM ad ca cd po nu pt st 0 pl bk me kc ro en un li tn tx ia ct md lb wn) H := hP
    have hD : va_D A (wM ad ca cd po nu pt st 0 pl bk me kc ro en un li tn tx ia ct md lb wn) := hD
    refine lv_lstore hx hb d_Mo_reckon_18 hl (by decide) rfl (fun ls hl => ?_)
    have hl : lv_has ls 8 [(6, .long (lN (pr un li (nu 2)))), (4, .long (lN (pr un li (nu 1)))), (2, .long (lN (pr un li (nu 0)))), (0, .ref (ad 12)), (1, .int (nI 30))] := hl
    refine lv_iload_n hx hb d_Mo_reckon_20 rfl (lv_at hl 4 rfl) ?_
    refine lv_tableOut (tgt := 379) hx hb d_Mo_reckon_21 (by decide) (by decide) ?_
    refine lv_aload_n hx hb d_Mo_reckon_379 rfl (lv_at hl 3 rfl) ?_
    refine lv_iconst (v := nI 2) hx hb d_Mo_reckon_380 (by decide) ?_
    refine lv_lload hx hb d_Mo_reckon_381 (lv_at hl 0 rfl) ?_
    refine lv_lload hx hb d_Mo_reckon_383 (lv_at hl 0 rfl) ?_
    refine lv_ladd hx hb d_Mo_reckon_385 ?_
    refine ztl (y := lN ((pr un li (nu 2)) + (pr un li (nu 2)))) (lN_add _ _) ?_
    refine ztl (y := Int64.ofInt ((((pr un li (nu 2)) + (pr un li (nu 2)) : Nat) : Int))) lN_int ?_
    refine zgo_v (wr := []) C0 (zrunV (na := 2) (As := [.int (nI 2), .long (Int64.ofInt (((pr un li (nu 2)) + (pr un li (nu 2)) : Nat) : Int))]) (rest := []) C0 hP hD hS [0, 1, 2, 3, 4, 5, 6, 7, 8] rfl rfl (m_Mo_become l D ca k H.size ad cd po nu pt st 0 pl bk me kc ro en un li tn tx ia ct md lb wn 2 (((pr un li (nu 2)) + (pr un li (nu 2)) : Nat) : Int) (by omega) (by omega) (by omega) hn hu hu2 hl0 hl2) (zg_V q646 q648 q831 q7 q649) (by decide +kernel) rfl rfl ⟨by decide, by decide⟩ 0 rfl rfl rfl hl.1 rfl (Nat.le_of_ble_eq_true rfl) d_Mo_reckon_386 ⟨Nat.zero_le _, Nat.zero_le _⟩) hP hD hS [0, 1, 2, 3, 4, 5, 6, 7, 8] [] rfl rfl (by decide) (by decide) (fun w1 H locs hw hP hD hS => ?_)
    obtain rfl := hw
    have hP : va_P D vCl (wM ad ca cd po (wr un li nu 2 (rz li (((pr un li (nu 2)) + (pr un li (nu 2)) : Nat) : Int))) pt st (rc li (((pr un li (nu 2)) + (pr un li (nu 2)) : Nat) : Int)) pl bk me kc ro en un li tn tx ia ct md lb wn) H := hP
    have hD : va_D A (wM ad ca cd po (wr un li nu 2 (rz li (((pr un li (nu 2)) + (pr un li (nu 2)) : Nat) : Int))) pt st (rc li (((pr un li (nu 2)) + (pr un li (nu 2)) : Nat) : Int)) pl bk me kc ro en un li tn tx ia ct md lb wn) := hD
    exact zret_v C0 hr hAe hP hD hS rfl d_Mo_reckon_389
