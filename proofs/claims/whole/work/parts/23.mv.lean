set_option maxHeartbeats 4000000 in
set_option maxRecDepth 100000 in
theorem m_Mo_move (l : Launch) (D : va_G) (ca : Nat → ClassId) (k : Nat → Nat) (sz : Nat) (ad : Nat → Nat) (cd : Nat) (po nu : Nat → Nat) (pt : Nat) (st : Int32) (pl bk : Nat) (me : Nat → Nat) (kc : Nat) (ro : Nat → Nat) (en un li tn : Nat) (tx : Nat → Nat) (ia : Int32) (ct : Nat) (md : Nat → Nat) (lb wn : Nat → Int32) (op : Nat) (hop : op < 8 ∨ (19 < op ∧ op < 24) ∨ op = 31) (hn : ∀ j, nu j < 10 ^ 14) (hu : 0 < un) (hu2 : un ≤ 10 ^ 14) (hl0 : 0 < li) (hl2 : li ≤ 10 ^ 14) (hg : un * li ∣ 10 ^ 14) : Met l y_Mo_move (zw y_Mo_move c_Mo_move 2 none) { frames := 3, cells := 0, slots := 0, locals := 68 } (va_Pc [.ref (ad 12), .int (nI op)] (zPre D (zty ca) k (wM ad ca cd po nu pt st 0 pl bk me kc ro en un li tn tx ia ct md lb wn) sz)) (va_Qv (fun w => w = wM ad ca cd po (fwN op un li nu) pt st (fwC op un li nu) pl bk me kc ro en un li tn tx ia ct md lb wn) (zB D (zty ca) (wM ad ca cd po nu pt st 0 pl bk me kc ro en un li tn tx ia ct md lb wn) sz) (va_A (wM ad ca cd po nu pt st 0 pl bk me kc ro en un li tn tx ia ct md lb wn) sz)) 0 0 (va_A (wM ad ca cd po nu pt st 0 pl bk me kc ro en un li tn tx ia ct md lb wn) sz) := by
  refine zOf (own := "DigitChipModel") (by decide +kernel) rfl (Nat.le_of_ble_eq_true rfl) ?_
  intro p e s m below meth c A ls C0 hr hnm hAe hsz hl hP hD hS
  have hl : lv_has ls 2 [(0, .ref (ad 12)), (1, .int (nI op))] := hl
  obtain ⟨hx, hb, hml, hown, ht, hK, hX, hA, hlk⟩ := id C0
  have ha : pr un li (nu 0) < li := Nat.mod_lt _ hl0
  have hb_ : pr un li (nu 1) < li := Nat.mod_lt _ hl0
  have hc_ : pr un li (nu 2) < li := Nat.mod_lt _ hl0
  rcases (show op = 0 ∨ op = 1 ∨ op = 2 ∨ op = 3 ∨ op = 4 ∨ op = 5 ∨ op = 6 ∨ op = 7 ∨ op = 20 ∨ op = 21 ∨ op = 22 ∨ op = 23 ∨ op = 31 from by omega) with rfl | rfl | rfl | rfl | rfl | rfl | rfl | rfl | rfl | rfl | rfl | rfl | rfl
  · skip
    refine lv_iload_n hx hb d_Mo_move_0 rfl (lv_at hl 1 rfl) ?_
    refine lv_tableIn (off := 111) (tgt := 112) hx hb d_Mo_move_1 (by decide) (by decide) (by decide) (by decide) ?_
    refine lv_aload_n hx hb d_Mo_move_112 rfl (lv_at hl 0 rfl) ?_
    refine lv_iload_n hx hb d_Mo_move_113 rfl (lv_at hl 1 rfl) ?_
    refine lv_lconst (v := lN 0) hx hb d_Mo_move_114 rfl ?_
    refine zgo_v (wr := []) C0 (zrunV (na := 2) (As := [.int (nI 0), .long (lN 0)]) (rest := []) C0 hP hD hS [0, 1, 2, 3, 4, 5, 6, 7, 8] rfl rfl (m_Mo_write l D ca k s.heap.size ad cd po nu pt st 0 pl bk me kc ro en un li tn tx ia ct md lb wn 0 0 (by omega) hn hu hu2 hl0 hl2) (zg_V q630 q632 q827 q7 q633) (by decide +kernel) rfl rfl ⟨by decide, by decide⟩ 0 rfl rfl rfl hl.1 rfl (Nat.le_of_ble_eq_true rfl) d_Mo_move_115 ⟨Nat.zero_le _, Nat.zero_le _⟩) hP hD hS [0, 1, 2, 3, 4, 5, 6, 7, 8] [] rfl rfl (by decide) (by decide) (fun w1 H locs hw hP hD hS => ?_)
    obtain rfl := hw
    have hP : va_P D vCl (wM ad ca cd po (wr un li nu 0 0) pt st 0 pl bk me kc ro en un li tn tx ia ct md lb wn) H := hP
    have hD : va_D A (wM ad ca cd po (wr un li nu 0 0) pt st 0 pl bk me kc ro en un li tn tx ia ct md lb wn) := hD
    refine lv_goto (tgt := 229) hx hb d_Mo_move_118 (by decide) ?_
    exact zret_v C0 hr hAe hP hD hS rfl d_Mo_move_229
  · skip
    refine lv_iload_n hx hb d_Mo_move_0 rfl (lv_at hl 1 rfl) ?_
    refine lv_tableIn (off := 111) (tgt := 112) hx hb d_Mo_move_1 (by decide) (by decide) (by decide) (by decide) ?_
    refine lv_aload_n hx hb d_Mo_move_112 rfl (lv_at hl 0 rfl) ?_
    refine lv_iload_n hx hb d_Mo_move_113 rfl (lv_at hl 1 rfl) ?_
    refine lv_lconst (v := lN 0) hx hb d_Mo_move_114 rfl ?_
    refine zgo_v (wr := []) C0 (zrunV (na := 2) (As := [.int (nI 1), .long (lN 0)]) (rest := []) C0 hP hD hS [0, 1, 2, 3, 4, 5, 6, 7, 8] rfl rfl (m_Mo_write l D ca k s.heap.size ad cd po nu pt st 0 pl bk me kc ro en un li tn tx ia ct md lb wn 1 0 (by omega) hn hu hu2 hl0 hl2) (zg_V q630 q632 q827 q7 q633) (by decide +kernel) rfl rfl ⟨by decide, by decide⟩ 0 rfl rfl rfl hl.1 rfl (Nat.le_of_ble_eq_true rfl) d_Mo_move_115 ⟨Nat.zero_le _, Nat.zero_le _⟩) hP hD hS [0, 1, 2, 3, 4, 5, 6, 7, 8] [] rfl rfl (by decide) (by decide) (fun w1 H locs hw hP hD hS => ?_)
    obtain rfl := hw
    have hP : va_P D vCl (wM ad ca cd po (wr un li nu 1 0) pt st 0 pl bk me kc ro en un li tn tx ia ct md lb wn) H := hP
    have hD : va_D A (wM ad ca cd po (wr un li nu 1 0) pt st 0 pl bk me kc ro en un li tn tx ia ct md lb wn) := hD
    refine lv_goto (tgt := 229) hx hb d_Mo_move_118 (by decide) ?_
    exact zret_v C0 hr hAe hP hD hS rfl d_Mo_move_229
  · skip
    refine lv_iload_n hx hb d_Mo_move_0 rfl (lv_at hl 1 rfl) ?_
    refine lv_tableIn (off := 111) (tgt := 112) hx hb d_Mo_move_1 (by decide) (by decide) (by decide) (by decide) ?_
    refine lv_aload_n hx hb d_Mo_move_112 rfl (lv_at hl 0 rfl) ?_
    refine lv_iload_n hx hb d_Mo_move_113 rfl (lv_at hl 1 rfl) ?_
    refine lv_lconst (v := lN 0) hx hb d_Mo_move_114 rfl ?_
    refine zgo_v (wr := []) C0 (zrunV (na := 2) (As := [.int (nI 2), .long (lN 0)]) (rest := []) C0 hP hD hS [0, 1, 2, 3, 4, 5, 6, 7, 8] rfl rfl (m_Mo_write l D ca k s.heap.size ad cd po nu pt st 0 pl bk me kc ro en un li tn tx ia ct md lb wn 2 0 (by omega) hn hu hu2 hl0 hl2) (zg_V q630 q632 q827 q7 q633) (by decide +kernel) rfl rfl ⟨by decide, by decide⟩ 0 rfl rfl rfl hl.1 rfl (Nat.le_of_ble_eq_true rfl) d_Mo_move_115 ⟨Nat.zero_le _, Nat.zero_le _⟩) hP hD hS [0, 1, 2, 3, 4, 5, 6, 7, 8] [] rfl rfl (by decide) (by decide) (fun w1 H locs hw hP hD hS => ?_)
    obtain rfl := hw
    have hP : va_P D vCl (wM ad ca cd po (wr un li nu 2 0) pt st 0 pl bk me kc ro en un li tn tx ia ct md lb wn) H := hP
    have hD : va_D A (wM ad ca cd po (wr un li nu 2 0) pt st 0 pl bk me kc ro en un li tn tx ia ct md lb wn) := hD
    refine lv_goto (tgt := 229) hx hb d_Mo_move_118 (by decide) ?_
    exact zret_v C0 hr hAe hP hD hS rfl d_Mo_move_229
  · skip
    refine lv_iload_n hx hb d_Mo_move_0 rfl (lv_at hl 1 rfl) ?_
    refine lv_tableIn (off := 120) (tgt := 121) hx hb d_Mo_move_1 (by decide) (by decide) (by decide) (by decide) ?_
    refine lv_aload_n hx hb d_Mo_move_121 rfl (lv_at hl 0 rfl) ?_
    refine lv_iconst (v := nI 0) hx hb d_Mo_move_122 (by decide) ?_
    refine lv_iconst (v := nI 1) hx hb d_Mo_move_123 (by decide) ?_
    refine zgo_v (wr := []) C0 (zrunV (na := 2) (As := [.int (nI 0), .int (nI 1)]) (rest := []) C0 hP hD hS [0, 1, 2, 3, 4, 5, 6, 7, 8] rfl rfl (m_Mo_change l D ca k s.heap.size ad cd po nu pt st 0 pl bk me kc ro en un li tn tx ia ct md lb wn 0 1 (by omega) (by omega) hn hu hu2 hl0 hl2 hg) (zg_V q638 q640 q829 q7 q641) (by decide +kernel) rfl rfl ⟨by decide, by decide⟩ 0 rfl rfl rfl hl.1 rfl (Nat.le_of_ble_eq_true rfl) d_Mo_move_124 ⟨Nat.zero_le _, Nat.zero_le _⟩) hP hD hS [0, 1, 2, 3, 4, 5, 6, 7, 8] [] rfl rfl (by decide) (by decide) (fun w1 H locs hw hP hD hS => ?_)
    obtain rfl := hw
    have hP : va_P D vCl (wM ad ca cd po (wr un li (wr un li nu 0 (pr un li (nu 1))) 1 (pr un li (nu 0))) pt st 0 pl bk me kc ro en un li tn tx ia ct md lb wn) H := hP
    have hD : va_D A (wM ad ca cd po (wr un li (wr un li nu 0 (pr un li (nu 1))) 1 (pr un li (nu 0))) pt st 0 pl bk me kc ro en un li tn tx ia ct md lb wn) := hD
    refine lv_goto (tgt := 229) hx hb d_Mo_move_127 (by decide) ?_
    exact zret_v C0 hr hAe hP hD hS rfl d_Mo_move_229
  · skip
    refine lv_iload_n hx hb d_Mo_move_0 rfl (lv_at hl 1 rfl) ?_
    refine lv_tableIn (off := 129) (tgt := 130) hx hb d_Mo_move_1 (by decide) (by decide) (by decide) (by decide) ?_
    refine lv_aload_n hx hb d_Mo_move_130 rfl (lv_at hl 0 rfl) ?_
    refine lv_iconst (v := nI 1) hx hb d_Mo_move_131 (by decide) ?_
    refine lv_aload_n hx hb d_Mo_move_132 rfl (lv_at hl 0 rfl) ?_
    refine lv_iconst (v := nI 0) hx hb d_Mo_move_133 (by decide) ?_
    refine zgo_l (wr := []) C0 (zrunV (na := 1) (As := [.int (nI 0)]) (rest := [.int (nI 1), .ref (ad 12)]) C0 hP hD hS [0, 1, 2, 3, 4, 5, 6, 7, 8] rfl rfl (m_Mo_part l D ca k s.heap.size ad cd po nu pt st 0 pl bk me kc ro en un li tn tx ia ct md lb wn 0 (by omega) hn hu hu2 hl0 hl2) (zg_V q634 q636 q828 q7 q637) (by decide +kernel) rfl rfl ⟨by decide, by decide⟩ 0 rfl rfl rfl hl.1 rfl (Nat.le_of_ble_eq_true rfl) d_Mo_move_134 ⟨Nat.zero_le _, Nat.zero_le _⟩) hP hD hS [0, 1, 2, 3, 4, 5, 6, 7, 8] [] rfl rfl (by decide) (by decide) (fun r5 w1 H locs hw hP hD hS => ?_)
    obtain ⟨rfl, rfl⟩ := hw
    have hP : va_P D vCl (wM ad ca cd po nu pt st 0 pl bk me kc ro en un li tn tx ia ct md lb wn) H := hP
    have hD : va_D A (wM ad ca cd po nu pt st 0 pl bk me kc ro en un li tn tx ia ct md lb wn) := hD
    refine zgo_v (wr := []) C0 (zrunV (na := 2) (As := [.int (nI 1), .long (lN (pr un li (nu 0)))]) (rest := []) C0 hP hD hS [0, 1, 2, 3, 4, 5, 6, 7, 8] rfl rfl (m_Mo_write l D ca k H.size ad cd po nu pt st 0 pl bk me kc ro en un li tn tx ia ct md lb wn 1 (pr un li (nu 0)) (by omega) hn hu hu2 hl0 hl2) (zg_V q630 q632 q827 q7 q633) (by decide +kernel) rfl rfl ⟨by decide, by decide⟩ 0 rfl rfl rfl hl.1 rfl (Nat.le_of_ble_eq_true rfl) d_Mo_move_137 ⟨Nat.zero_le _, Nat.zero_le _⟩) hP hD hS [0, 1, 2, 3, 4, 5, 6, 7, 8] [] rfl rfl (by decide) (by decide) (fun w1 H locs hw hP hD hS => ?_)
    obtain rfl := hw
    have hP : va_P D vCl (wM ad ca cd po (wr un li nu 1 (pr un li (nu 0))) pt st 0 pl bk me kc ro en un li tn tx ia ct md lb wn) H := hP
    have hD : va_D A (wM ad ca cd po (wr un li nu 1 (pr un li (nu 0))) pt st 0 pl bk me kc ro en un li tn tx ia ct md lb wn) := hD
    refine lv_goto (tgt := 229) hx hb d_Mo_move_140 (by decide) ?_
    exact zret_v C0 hr hAe hP hD hS rfl d_Mo_move_229
  · skip
    refine lv_iload_n hx hb d_Mo_move_0 rfl (lv_at hl 1 rfl) ?_
    refine lv_tableIn (off := 142) (tgt := 143) hx hb d_Mo_move_1 (by decide) (by decide) (by decide) (by decide) ?_
    refine lv_aload_n hx hb d_Mo_move_143 rfl (lv_at hl 0 rfl) ?_
    refine lv_iconst (v := nI 0) hx hb d_Mo_move_144 (by decide) ?_
    refine lv_iconst (v := nI 2) hx hb d_Mo_move_145 (by decide) ?_
    refine zgo_v (wr := []) C0 (zrunV (na := 2) (As := [.int (nI 0), .int (nI 2)]) (rest := []) C0 hP hD hS [0, 1, 2, 3, 4, 5, 6, 7, 8] rfl rfl (m_Mo_change l D ca k s.heap.size ad cd po nu pt st 0 pl bk me kc ro en un li tn tx ia ct md lb wn 0 2 (by omega) (by omega) hn hu hu2 hl0 hl2 hg) (zg_V q638 q640 q829 q7 q641) (by decide +kernel) rfl rfl ⟨by decide, by decide⟩ 0 rfl rfl rfl hl.1 rfl (Nat.le_of_ble_eq_true rfl) d_Mo_move_146 ⟨Nat.zero_le _, Nat.zero_le _⟩) hP hD hS [0, 1, 2, 3, 4, 5, 6, 7, 8] [] rfl rfl (by decide) (by decide) (fun w1 H locs hw hP hD hS => ?_)
    obtain rfl := hw
    have hP : va_P D vCl (wM ad ca cd po (wr un li (wr un li nu 0 (pr un li (nu 2))) 2 (pr un li (nu 0))) pt st 0 pl bk me kc ro en un li tn tx ia ct md lb wn) H := hP
    have hD : va_D A (wM ad ca cd po (wr un li (wr un li nu 0 (pr un li (nu 2))) 2 (pr un li (nu 0))) pt st 0 pl bk me kc ro en un li tn tx ia ct md lb wn) := hD
    refine lv_goto (tgt := 229) hx hb d_Mo_move_149 (by decide) ?_
    exact zret_v C0 hr hAe hP hD hS rfl d_Mo_move_229
  · skip
    refine lv_iload_n hx hb d_Mo_move_0 rfl (lv_at hl 1 rfl) ?_
    refine lv_tableIn (off := 151) (tgt := 152) hx hb d_Mo_move_1 (by decide) (by decide) (by decide) (by decide) ?_
    refine lv_aload_n hx hb d_Mo_move_152 rfl (lv_at hl 0 rfl) ?_
    refine lv_iconst (v := nI 2) hx hb d_Mo_move_153 (by decide) ?_
    refine lv_aload_n hx hb d_Mo_move_154 rfl (lv_at hl 0 rfl) ?_
    refine lv_iconst (v := nI 1) hx hb d_Mo_move_155 (by decide) ?_
    refine zgo_l (wr := []) C0 (zrunV (na := 1) (As := [.int (nI 1)]) (rest := [.int (nI 2), .ref (ad 12)]) C0 hP hD hS [0, 1, 2, 3, 4, 5, 6, 7, 8] rfl rfl (m_Mo_part l D ca k s.heap.size ad cd po nu pt st 0 pl bk me kc ro en un li tn tx ia ct md lb wn 1 (by omega) hn hu hu2 hl0 hl2) (zg_V q634 q636 q828 q7 q637) (by decide +kernel) rfl rfl ⟨by decide, by decide⟩ 0 rfl rfl rfl hl.1 rfl (Nat.le_of_ble_eq_true rfl) d_Mo_move_156 ⟨Nat.zero_le _, Nat.zero_le _⟩) hP hD hS [0, 1, 2, 3, 4, 5, 6, 7, 8] [] rfl rfl (by decide) (by decide) (fun r8 w1 H locs hw hP hD hS => ?_)
    obtain ⟨rfl, rfl⟩ := hw
    have hP : va_P D vCl (wM ad ca cd po nu pt st 0 pl bk me kc ro en un li tn tx ia ct md lb wn) H := hP
    have hD : va_D A (wM ad ca cd po nu pt st 0 pl bk me kc ro en un li tn tx ia ct md lb wn) := hD
    refine zgo_v (wr := []) C0 (zrunV (na := 2) (As := [.int (nI 2), .long (lN (pr un li (nu 1)))]) (rest := []) C0 hP hD hS [0, 1, 2, 3, 4, 5, 6, 7, 8] rfl rfl (m_Mo_write l D ca k H.size ad cd po nu pt st 0 pl bk me kc ro en un li tn tx ia ct md lb wn 2 (pr un li (nu 1)) (by omega) hn hu hu2 hl0 hl2) (zg_V q630 q632 q827 q7 q633) (by decide +kernel) rfl rfl ⟨by decide, by decide⟩ 0 rfl rfl rfl hl.1 rfl (Nat.le_of_ble_eq_true rfl) d_Mo_move_159 ⟨Nat.zero_le _, Nat.zero_le _⟩) hP hD hS [0, 1, 2, 3, 4, 5, 6, 7, 8] [] rfl rfl (by decide) (by decide) (fun w1 H locs hw hP hD hS => ?_)
    obtain rfl := hw
    have hP : va_P D vCl (wM ad ca cd po (wr un li nu 2 (pr un li (nu 1))) pt st 0 pl bk me kc ro en un li tn tx ia ct md lb wn) H := hP
    have hD : va_D A (wM ad ca cd po (wr un li nu 2 (pr un li (nu 1))) pt st 0 pl bk me kc ro en un li tn tx ia ct md lb wn) := hD
    refine lv_goto (tgt := 229) hx hb d_Mo_move_162 (by decide) ?_
    exact zret_v C0 hr hAe hP hD hS rfl d_Mo_move_229
  · skip
    refine lv_iload_n hx hb d_Mo_move_0 rfl (lv_at hl 1 rfl) ?_
    refine lv_tableIn (off := 164) (tgt := 165) hx hb d_Mo_move_1 (by decide) (by decide) (by decide) (by decide) ?_
    refine lv_aload_n hx hb d_Mo_move_165 rfl (lv_at hl 0 rfl) ?_
    refine lv_iconst (v := nI 1) hx hb d_Mo_move_166 (by decide) ?_
    refine lv_iconst (v := nI 2) hx hb d_Mo_move_167 (by decide) ?_
    refine zgo_v (wr := []) C0 (zrunV (na := 2) (As := [.int (nI 1), .int (nI 2)]) (rest := []) C0 hP hD hS [0, 1, 2, 3, 4, 5, 6, 7, 8] rfl rfl (m_Mo_change l D ca k s.heap.size ad cd po nu pt st 0 pl bk me kc ro en un li tn tx ia ct md lb wn 1 2 (by omega) (by omega) hn hu hu2 hl0 hl2 hg) (zg_V q638 q640 q829 q7 q641) (by decide +kernel) rfl rfl ⟨by decide, by decide⟩ 0 rfl rfl rfl hl.1 rfl (Nat.le_of_ble_eq_true rfl) d_Mo_move_168 ⟨Nat.zero_le _, Nat.zero_le _⟩) hP hD hS [0, 1, 2, 3, 4, 5, 6, 7, 8] [] rfl rfl (by decide) (by decide) (fun w1 H locs hw hP hD hS => ?_)
    obtain rfl := hw
    have hP : va_P D vCl (wM ad ca cd po (wr un li (wr un li nu 1 (pr un li (nu 2))) 2 (pr un li (nu 1))) pt st 0 pl bk me kc ro en un li tn tx ia ct md lb wn) H := hP
    have hD : va_D A (wM ad ca cd po (wr un li (wr un li nu 1 (pr un li (nu 2))) 2 (pr un li (nu 1))) pt st 0 pl bk me kc ro en un li tn tx ia ct md lb wn) := hD
    refine lv_goto (tgt := 229) hx hb d_Mo_move_171 (by decide) ?_
    exact zret_v C0 hr hAe hP hD hS rfl d_Mo_move_229
  · skip
    refine lv_iload_n hx hb d_Mo_move_0 rfl (lv_at hl 1 rfl) ?_
    refine lv_tableIn (off := 173) (tgt := 174) hx hb d_Mo_move_1 (by decide) (by decide) (by decide) (by decide) ?_
    refine lv_aload_n hx hb d_Mo_move_174 rfl (lv_at hl 0 rfl) ?_
    refine lv_iconst (v := nI 0) hx hb d_Mo_move_175 (by decide) ?_
    refine lv_aload_n hx hb d_Mo_move_176 rfl (lv_at hl 0 rfl) ?_
    refine lv_iconst (v := nI 0) hx hb d_Mo_move_177 (by decide) ?_
    refine zgo_l (wr := []) C0 (zrunV (na := 1) (As := [.int (nI 0)]) (rest := [.int (nI 0), .ref (ad 12)]) C0 hP hD hS [0, 1, 2, 3, 4, 5, 6, 7, 8] rfl rfl (m_Mo_part l D ca k s.heap.size ad cd po nu pt st 0 pl bk me kc ro en un li tn tx ia ct md lb wn 0 (by omega) hn hu hu2 hl0 hl2) (zg_V q634 q636 q828 q7 q637) (by decide +kernel) rfl rfl ⟨by decide, by decide⟩ 0 rfl rfl rfl hl.1 rfl (Nat.le_of_ble_eq_true rfl) d_Mo_move_178 ⟨Nat.zero_le _, Nat.zero_le _⟩) hP hD hS [0, 1, 2, 3, 4, 5, 6, 7, 8] [] rfl rfl (by decide) (by decide) (fun r11 w1 H locs hw hP hD hS => ?_)
    obtain ⟨rfl, rfl⟩ := hw
    have hP : va_P D vCl (wM ad ca cd po nu pt st 0 pl bk me kc ro en un li tn tx ia ct md lb wn) H := hP
    have hD : va_D A (wM ad ca cd po nu pt st 0 pl bk me kc ro en un li tn tx ia ct md lb wn) := hD
    refine lv_ldc2 hx hb hown (ht _ q545) d_Mo_move_181 ?_
    refine ztl (y := lN 10) (by decide) ?_
    refine lv_lmul hx hb d_Mo_move_184 ?_
    refine ztl (y := lN ((pr un li (nu 0)) * 10)) (lN_mul _ _) ?_
    refine lv_aload_n hx hb d_Mo_move_185 rfl (lv_at hl 0 rfl) ?_
    refine va_get (D := D) (ci := 5) (v := .long (lN li)) (C := RMo) (T := TMo) (N := 21) hx hb ht inMo hown hK hP 0 rfl rfl 13 (by decide) (ht _ q559) (fun _ h9 => h9) rfl d_Mo_move_186 ?_
    refine lv_lrem hx hb d_Mo_move_189 (zlne (by omega) (by omega)) ?_
    refine ztl (y := lN (((pr un li (nu 0)) * 10) % li)) (pk_lRem (by omega) (by omega) (by omega)) ?_
    refine zgo_v (wr := []) C0 (zrunV (na := 2) (As := [.int (nI 0), .long (lN (((pr un li (nu 0)) * 10) % li))]) (rest := []) C0 hP hD hS [0, 1, 2, 3, 4, 5, 6, 7, 8] rfl rfl (m_Mo_write l D ca k H.size ad cd po nu pt st 0 pl bk me kc ro en un li tn tx ia ct md lb wn 0 (((pr un li (nu 0)) * 10) % li) (by omega) hn hu hu2 hl0 hl2) (zg_V q630 q632 q827 q7 q633) (by decide +kernel) rfl rfl ⟨by decide, by decide⟩ 0 rfl rfl rfl hl.1 rfl (Nat.le_of_ble_eq_true rfl) d_Mo_move_190 ⟨Nat.zero_le _, Nat.zero_le _⟩) hP hD hS [0, 1, 2, 3, 4, 5, 6, 7, 8] [] rfl rfl (by decide) (by decide) (fun w1 H locs hw hP hD hS => ?_)
    obtain rfl := hw
    have hP : va_P D vCl (wM ad ca cd po (wr un li nu 0 (((pr un li (nu 0)) * 10) % li)) pt st 0 pl bk me kc ro en un li tn tx ia ct md lb wn) H := hP
    have hD : va_D A (wM ad ca cd po (wr un li nu 0 (((pr un li (nu 0)) * 10) % li)) pt st 0 pl bk me kc ro en un li tn tx ia ct md lb wn) := hD
    refine lv_goto (tgt := 229) hx hb d_Mo_move_193 (by decide) ?_
    exact zret_v C0 hr hAe hP hD hS rfl d_Mo_move_229
  · skip
    refine lv_iload_n hx hb d_Mo_move_0 rfl (lv_at hl 1 rfl) ?_
    refine lv_tableIn (off := 195) (tgt := 196) hx hb d_Mo_move_1 (by decide) (by decide) (by decide) (by decide) ?_
    refine lv_aload_n hx hb d_Mo_move_196 rfl (lv_at hl 0 rfl) ?_
    refine lv_iload_n hx hb d_Mo_move_197 rfl (lv_at hl 1 rfl) ?_
    refine lv_bipush (v := nI 21) hx hb d_Mo_move_198 (by decide) ?_
    refine lv_isub hx hb d_Mo_move_200 ?_
    refine zti (y := nI 0) (by decide) ?_
    refine lv_aload_n hx hb d_Mo_move_201 rfl (lv_at hl 0 rfl) ?_
    refine lv_iload_n hx hb d_Mo_move_202 rfl (lv_at hl 1 rfl) ?_
    refine lv_bipush (v := nI 21) hx hb d_Mo_move_203 (by decide) ?_
    refine lv_isub hx hb d_Mo_move_205 ?_
    refine zti (y := nI 0) (by decide) ?_
    refine zgo_l (wr := []) C0 (zrunV (na := 1) (As := [.int (nI 0)]) (rest := [.int (nI 0), .ref (ad 12)]) C0 hP hD hS [0, 1, 2, 3, 4, 5, 6, 7, 8] rfl rfl (m_Mo_part l D ca k s.heap.size ad cd po nu pt st 0 pl bk me kc ro en un li tn tx ia ct md lb wn 0 (by omega) hn hu hu2 hl0 hl2) (zg_V q634 q636 q828 q7 q637) (by decide +kernel) rfl rfl ⟨by decide, by decide⟩ 0 rfl rfl rfl hl.1 rfl (Nat.le_of_ble_eq_true rfl) d_Mo_move_206 ⟨Nat.zero_le _, Nat.zero_le _⟩) hP hD hS [0, 1, 2, 3, 4, 5, 6, 7, 8] [] rfl rfl (by decide) (by decide) (fun r13 w1 H locs hw hP hD hS => ?_)
    obtain ⟨rfl, rfl⟩ := hw
    have hP : va_P D vCl (wM ad ca cd po nu pt st 0 pl bk me kc ro en un li tn tx ia ct md lb wn) H := hP
    have hD : va_D A (wM ad ca cd po nu pt st 0 pl bk me kc ro en un li tn tx ia ct md lb wn) := hD
    refine lv_ldc2 hx hb hown (ht _ q545) d_Mo_move_209 ?_
    refine ztl (y := lN 10) (by decide) ?_
    refine lv_ldiv hx hb d_Mo_move_212 (zlne (by omega) (by omega)) ?_
    refine ztl (y := lN ((pr un li (nu 0)) / 10)) (pk_lDiv (by omega) (by omega) (by omega)) ?_
    refine zgo_v (wr := []) C0 (zrunV (na := 2) (As := [.int (nI 0), .long (lN ((pr un li (nu 0)) / 10))]) (rest := []) C0 hP hD hS [0, 1, 2, 3, 4, 5, 6, 7, 8] rfl rfl (m_Mo_write l D ca k H.size ad cd po nu pt st 0 pl bk me kc ro en un li tn tx ia ct md lb wn 0 ((pr un li (nu 0)) / 10) (by omega) hn hu hu2 hl0 hl2) (zg_V q630 q632 q827 q7 q633) (by decide +kernel) rfl rfl ⟨by decide, by decide⟩ 0 rfl rfl rfl hl.1 rfl (Nat.le_of_ble_eq_true rfl) d_Mo_move_213 ⟨Nat.zero_le _, Nat.zero_le _⟩) hP hD hS [0, 1, 2, 3, 4, 5, 6, 7, 8] [] rfl rfl (by decide) (by decide) (fun w1 H locs hw hP hD hS => ?_)
    obtain rfl := hw
    have hP : va_P D vCl (wM ad ca cd po (wr un li nu 0 ((pr un li (nu 0)) / 10)) pt st 0 pl bk me kc ro en un li tn tx ia ct md lb wn) H := hP
    have hD : va_D A (wM ad ca cd po (wr un li nu 0 ((pr un li (nu 0)) / 10)) pt st 0 pl bk me kc ro en un li tn tx ia ct md lb wn) := hD
    refine lv_goto (tgt := 229) hx hb d_Mo_move_216 (by decide) ?_
    exact zret_v C0 hr hAe hP hD hS rfl d_Mo_move_229
  · skip
    refine lv_iload_n hx hb d_Mo_move_0 rfl (lv_at hl 1 rfl) ?_
    refine lv_tableIn (off := 195) (tgt := 196) hx hb d_Mo_move_1 (by decide) (by decide) (by decide) (by decide) ?_
    refine lv_aload_n hx hb d_Mo_move_196 rfl (lv_at hl 0 rfl) ?_
    refine lv_iload_n hx hb d_Mo_move_197 rfl (lv_at hl 1 rfl) ?_
    refine lv_bipush (v := nI 21) hx hb d_Mo_move_198 (by decide) ?_
    refine lv_isub hx hb d_Mo_move_200 ?_
    refine zti (y := nI 1) (by decide) ?_
    refine lv_aload_n hx hb d_Mo_move_201 rfl (lv_at hl 0 rfl) ?_
    refine lv_iload_n hx hb d_Mo_move_202 rfl (lv_at hl 1 rfl) ?_
    refine lv_bipush (v := nI 21) hx hb d_Mo_move_203 (by decide) ?_
    refine lv_isub hx hb d_Mo_move_205 ?_
    refine zti (y := nI 1) (by decide) ?_
    refine zgo_l (wr := []) C0 (zrunV (na := 1) (As := [.int (nI 1)]) (rest := [.int (nI 1), .ref (ad 12)]) C0 hP hD hS [0, 1, 2, 3, 4, 5, 6, 7, 8] rfl rfl (m_Mo_part l D ca k s.heap.size ad cd po nu pt st 0 pl bk me kc ro en un li tn tx ia ct md lb wn 1 (by omega) hn hu hu2 hl0 hl2) (zg_V q634 q636 q828 q7 q637) (by decide +kernel) rfl rfl ⟨by decide, by decide⟩ 0 rfl rfl rfl hl.1 rfl (Nat.le_of_ble_eq_true rfl) d_Mo_move_206 ⟨Nat.zero_le _, Nat.zero_le _⟩) hP hD hS [0, 1, 2, 3, 4, 5, 6, 7, 8] [] rfl rfl (by decide) (by decide) (fun r15 w1 H locs hw hP hD hS => ?_)
    obtain ⟨rfl, rfl⟩ := hw
    have hP : va_P D vCl (wM ad ca cd po nu pt st 0 pl bk me kc ro en un li tn tx ia ct md lb wn) H := hP
    have hD : va_D A (wM ad ca cd po nu pt st 0 pl bk me kc ro en un li tn tx ia ct md lb wn) := hD
    refine lv_ldc2 hx hb hown (ht _ q545) d_Mo_move_209 ?_
    refine ztl (y := lN 10) (by decide) ?_
    refine lv_ldiv hx hb d_Mo_move_212 (zlne (by omega) (by omega)) ?_
    refine ztl (y := lN ((pr un li (nu 1)) / 10)) (pk_lDiv (by omega) (by omega) (by omega)) ?_
    refine zgo_v (wr := []) C0 (zrunV (na := 2) (As := [.int (nI 1), .long (lN ((pr un li (nu 1)) / 10))]) (rest := []) C0 hP hD hS [0, 1, 2, 3, 4, 5, 6, 7, 8] rfl rfl (m_Mo_write l D ca k H.size ad cd po nu pt st 0 pl bk me kc ro en un li tn tx ia ct md lb wn 1 ((pr un li (nu 1)) / 10) (by omega) hn hu hu2 hl0 hl2) (zg_V q630 q632 q827 q7 q633) (by decide +kernel) rfl rfl ⟨by decide, by decide⟩ 0 rfl rfl rfl hl.1 rfl (Nat.le_of_ble_eq_true rfl) d_Mo_move_213 ⟨Nat.zero_le _, Nat.zero_le _⟩) hP hD hS [0, 1, 2, 3, 4, 5, 6, 7, 8] [] rfl rfl (by decide) (by decide) (fun w1 H locs hw hP hD hS => ?_)
    obtain rfl := hw
    have hP : va_P D vCl (wM ad ca cd po (wr un li nu 1 ((pr un li (nu 1)) / 10)) pt st 0 pl bk me kc ro en un li tn tx ia ct md lb wn) H := hP
    have hD : va_D A (wM ad ca cd po (wr un li nu 1 ((pr un li (nu 1)) / 10)) pt st 0 pl bk me kc ro en un li tn tx ia ct md lb wn) := hD
    refine lv_goto (tgt := 229) hx hb d_Mo_move_216 (by decide) ?_
    exact zret_v C0 hr hAe hP hD hS rfl d_Mo_move_229
  · skip
    refine lv_iload_n hx hb d_Mo_move_0 rfl (lv_at hl 1 rfl) ?_
    refine lv_tableIn (off := 195) (tgt := 196) hx hb d_Mo_move_1 (by decide) (by decide) (by decide) (by decide) ?_
    refine lv_aload_n hx hb d_Mo_move_196 rfl (lv_at hl 0 rfl) ?_
    refine lv_iload_n hx hb d_Mo_move_197 rfl (lv_at hl 1 rfl) ?_
    refine lv_bipush (v := nI 21) hx hb d_Mo_move_198 (by decide) ?_
    refine lv_isub hx hb d_Mo_move_200 ?_
    refine zti (y := nI 2) (by decide) ?_
    refine lv_aload_n hx hb d_Mo_move_201 rfl (lv_at hl 0 rfl) ?_
    refine lv_iload_n hx hb d_Mo_move_202 rfl (lv_at hl 1 rfl) ?_
    refine lv_bipush (v := nI 21) hx hb d_Mo_move_203 (by decide) ?_
    refine lv_isub hx hb d_Mo_move_205 ?_
    refine zti (y := nI 2) (by decide) ?_
    refine zgo_l (wr := []) C0 (zrunV (na := 1) (As := [.int (nI 2)]) (rest := [.int (nI 2), .ref (ad 12)]) C0 hP hD hS [0, 1, 2, 3, 4, 5, 6, 7, 8] rfl rfl (m_Mo_part l D ca k s.heap.size ad cd po nu pt st 0 pl bk me kc ro en un li tn tx ia ct md lb wn 2 (by omega) hn hu hu2 hl0 hl2) (zg_V q634 q636 q828 q7 q637) (by decide +kernel) rfl rfl ⟨by decide, by decide⟩ 0 rfl rfl rfl hl.1 rfl (Nat.le_of_ble_eq_true rfl) d_Mo_move_206 ⟨Nat.zero_le _, Nat.zero_le _⟩) hP hD hS [0, 1, 2, 3, 4, 5, 6, 7, 8] [] rfl rfl (by decide) (by decide) (fun r17 w1 H locs hw hP hD hS => ?_)
    obtain ⟨rfl, rfl⟩ := hw
    have hP : va_P D vCl (wM ad ca cd po nu pt st 0 pl bk me kc ro en un li tn tx ia ct md lb wn) H := hP
    have hD : va_D A (wM ad ca cd po nu pt st 0 pl bk me kc ro en un li tn tx ia ct md lb wn) := hD
    refine lv_ldc2 hx hb hown (ht _ q545) d_Mo_move_209 ?_
    refine ztl (y := lN 10) (by decide) ?_
    refine lv_ldiv hx hb d_Mo_move_212 (zlne (by omega) (by omega)) ?_
    refine ztl (y := lN ((pr un li (nu 2)) / 10)) (pk_lDiv (by omega) (by omega) (by omega)) ?_
    refine zgo_v (wr := []) C0 (zrunV (na := 2) (As := [.int (nI 2), .long (lN ((pr un li (nu 2)) / 10))]) (rest := []) C0 hP hD hS [0, 1, 2, 3, 4, 5, 6, 7, 8] rfl rfl (m_Mo_write l D ca k H.size ad cd po nu pt st 0 pl bk me kc ro en un li tn tx ia ct md lb wn 2 ((pr un li (nu 2)) / 10) (by omega) hn hu hu2 hl0 hl2) (zg_V q630 q632 q827 q7 q633) (by decide +kernel) rfl rfl ⟨by decide, by decide⟩ 0 rfl rfl rfl hl.1 rfl (Nat.le_of_ble_eq_true rfl) d_Mo_move_213 ⟨Nat.zero_le _, Nat.zero_le _⟩) hP hD hS [0, 1, 2, 3, 4, 5, 6, 7, 8] [] rfl rfl (by decide) (by decide) (fun w1 H locs hw hP hD hS => ?_)
    obtain rfl := hw
    have hP : va_P D vCl (wM ad ca cd po (wr un li nu 2 ((pr un li (nu 2)) / 10)) pt st 0 pl bk me kc ro en un li tn tx ia ct md lb wn) H := hP
    have hD : va_D A (wM ad ca cd po (wr un li nu 2 ((pr un li (nu 2)) / 10)) pt st 0 pl bk me kc ro en un li tn tx ia ct md lb wn) := hD
    refine lv_goto (tgt := 229) hx hb d_Mo_move_216 (by decide) ?_
    exact zret_v C0 hr hAe hP hD hS rfl d_Mo_move_229
  · skip
    refine lv_iload_n hx hb d_Mo_move_0 rfl (lv_at hl 1 rfl) ?_
    refine lv_tableOut (tgt := 219) hx hb d_Mo_move_1 (by decide) (by decide) ?_
    refine lv_aload_n hx hb d_Mo_move_219 rfl (lv_at hl 0 rfl) ?_
    refine lv_iconst (v := nI 0) hx hb d_Mo_move_220 (by decide) ?_
    refine lv_aload_n hx hb d_Mo_move_221 rfl (lv_at hl 0 rfl) ?_
    refine lv_iconst (v := nI 2) hx hb d_Mo_move_222 (by decide) ?_
    refine zgo_l (wr := []) C0 (zrunV (na := 1) (As := [.int (nI 2)]) (rest := [.int (nI 0), .ref (ad 12)]) C0 hP hD hS [0, 1, 2, 3, 4, 5, 6, 7, 8] rfl rfl (m_Mo_part l D ca k s.heap.size ad cd po nu pt st 0 pl bk me kc ro en un li tn tx ia ct md lb wn 2 (by omega) hn hu hu2 hl0 hl2) (zg_V q634 q636 q828 q7 q637) (by decide +kernel) rfl rfl ⟨by decide, by decide⟩ 0 rfl rfl rfl hl.1 rfl (Nat.le_of_ble_eq_true rfl) d_Mo_move_223 ⟨Nat.zero_le _, Nat.zero_le _⟩) hP hD hS [0, 1, 2, 3, 4, 5, 6, 7, 8] [] rfl rfl (by decide) (by decide) (fun r19 w1 H locs hw hP hD hS => ?_)
    obtain ⟨rfl, rfl⟩ := hw
    have hP : va_P D vCl (wM ad ca cd po nu pt st 0 pl bk me kc ro en un li tn tx ia ct md lb wn) H := hP
    have hD : va_D A (wM ad ca cd po nu pt st 0 pl bk me kc ro en un li tn tx ia ct md lb wn) := hD
    refine zgo_v (wr := []) C0 (zrunV (na := 2) (As := [.int (nI 0), .long (lN (pr un li (nu 2)))]) (rest := []) C0 hP hD hS [0, 1, 2, 3, 4, 5, 6, 7, 8] rfl rfl (m_Mo_write l D ca k H.size ad cd po nu pt st 0 pl bk me kc ro en un li tn tx ia ct md lb wn 0 (pr un li (nu 2)) (by omega) hn hu hu2 hl0 hl2) (zg_V q630 q632 q827 q7 q633) (by decide +kernel) rfl rfl ⟨by decide, by decide⟩ 0 rfl rfl rfl hl.1 rfl (Nat.le_of_ble_eq_true rfl) d_Mo_move_226 ⟨Nat.zero_le _, Nat.zero_le _⟩) hP hD hS [0, 1, 2, 3, 4, 5, 6, 7, 8] [] rfl rfl (by decide) (by decide) (fun w1 H locs hw hP hD hS => ?_)
    obtain rfl := hw
    have hP : va_P D vCl (wM ad ca cd po (wr un li nu 0 (pr un li (nu 2))) pt st 0 pl bk me kc ro en un li tn tx ia ct md lb wn) H := hP
    have hD : va_D A (wM ad ca cd po (wr un li nu 0 (pr un li (nu 2))) pt st 0 pl bk me kc ro en un li tn tx ia ct md lb wn) := hD
    exact zret_v C0 hr hAe hP hD hS rfl d_Mo_move_229
