set_option maxHeartbeats 4000000 in
set_option maxRecDepth 100000 in
theorem m_Pr_doFieldWork (l : Launch) (D : va_G) (ca : Nat → ClassId) (k : Nat → Nat) (sz : Nat) (ad : Nat → Nat) (me nu ro : Nat → Nat) (un li pt : Nat) (st : Int32) (pl bk en kc : Nat) (op : Nat) (hop : op < 32) (hn : ∀ j, nu j < 10 ^ 14) (hu : 0 < un) (hu2 : un ≤ 10 ^ 14) (hl0 : 0 < li) (hl2 : li ≤ 10 ^ 14) (hg : un * li ∣ 10 ^ 14) : Met l y_Pr_doFieldWork (zw y_Pr_doFieldWork c_Pr_doFieldWork 8 none) { frames := 3, cells := 0, slots := 0, locals := 67 } (va_Pc [.ref (ad 6), .int (nI op), .long (lN (pr un li (nu 0))), .long (lN (pr un li (nu 1))), .long (lN (pr un li (nu 2)))] (zPre D (zty ca) k (wP ad ca me nu ro un li pt st 0 pl bk en kc) sz)) (va_Qv (fun w => w = wP ad ca me (fwN op un li nu) ro un li pt st (fwC op un li nu) pl bk en kc) (zB D (zty ca) (wP ad ca me nu ro un li pt st 0 pl bk en kc) sz) (va_A (wP ad ca me nu ro un li pt st 0 pl bk en kc) sz)) 0 0 (va_A (wP ad ca me nu ro un li pt st 0 pl bk en kc) sz) := by
  refine zOf (own := "DigitChip$Processor") (by decide +kernel) rfl (Nat.le_of_ble_eq_true rfl) ?_
  intro p e s m below meth c A ls C0 hr hnm hAe hsz hl hP hD hS
  have hl : lv_has ls 8 [(0, .ref (ad 6)), (1, .int (nI op)), (2, .long (lN (pr un li (nu 0)))), (4, .long (lN (pr un li (nu 1)))), (6, .long (lN (pr un li (nu 2))))] := hl
  obtain ⟨hx, hb, hml, hown, ht, hK, hX, hA, hlk⟩ := id C0
  have ha : pr un li (nu 0) < li := Nat.mod_lt _ hl0
  have hb_ : pr un li (nu 1) < li := Nat.mod_lt _ hl0
  have hc_ : pr un li (nu 2) < li := Nat.mod_lt _ hl0
  rcases (show op = 0 ∨ op = 1 ∨ op = 2 ∨ op = 3 ∨ op = 4 ∨ op = 5 ∨ op = 6 ∨ op = 7 ∨ op = 8 ∨ op = 9 ∨ op = 10 ∨ op = 11 ∨ op = 12 ∨ op = 13 ∨ op = 14 ∨ op = 15 ∨ op = 16 ∨ op = 17 ∨ op = 18 ∨ op = 19 ∨ op = 20 ∨ op = 21 ∨ op = 22 ∨ op = 23 ∨ op = 24 ∨ op = 25 ∨ op = 26 ∨ op = 27 ∨ op = 28 ∨ op = 29 ∨ op = 30 ∨ op = 31 from by omega) with rfl | rfl | rfl | rfl | rfl | rfl | rfl | rfl | rfl | rfl | rfl | rfl | rfl | rfl | rfl | rfl | rfl | rfl | rfl | rfl | rfl | rfl | rfl | rfl | rfl | rfl | rfl | rfl | rfl | rfl | rfl | rfl
  · skip
    refine lv_iload_n hx hb d_Pr_doFieldWork_0 rfl (lv_at hl 1 rfl) ?_
    refine lv_tableIn (off := 139) (tgt := 140) hx hb d_Pr_doFieldWork_1 (by decide) (by decide) (by decide) (by decide) ?_
    refine lv_aload_n hx hb d_Pr_doFieldWork_140 rfl (lv_at hl 0 rfl) ?_
    refine va_get (D := D) (ci := 1) (v := .ref (ad 8)) (C := RPr) (T := TPr) (N := 9) hx hb ht inPr hown hK hP 0 rfl rfl 1 (by decide) (ht _ q116) (fun _ h9 => h9) rfl d_Pr_doFieldWork_141 ?_
    refine lv_iconst (v := nI 0) hx hb d_Pr_doFieldWork_144 (by decide) ?_
    refine lv_lconst (v := lN 0) hx hb d_Pr_doFieldWork_145 rfl ?_
    refine zgo_v (wr := []) C0 (zrunV (na := 2) (As := [.int (nI 0), .long (lN 0)]) (rest := []) C0 hP hD hS [0, 1, 2, 3, 4, 5] rfl rfl (m_Re_putPart l D ca k s.heap.size ad me nu ro un li pt st 0 pl bk en kc 0 0 (by omega) hn hu hu2 hl0 hl2) (zg_V q490 q491 q492 q5 q493) (by decide +kernel) rfl rfl ⟨by decide, by decide⟩ 2 rfl rfl rfl hl.1 rfl (Nat.le_of_ble_eq_true rfl) d_Pr_doFieldWork_146 ⟨Nat.zero_le _, Nat.zero_le _⟩) hP hD hS [0, 1, 2, 3, 4, 5] [] rfl rfl (by decide) (by decide) (fun w1 H locs hw hP hD hS => ?_)
    obtain rfl := hw
    have hP : va_P D vCl (wP ad ca me (wr un li nu 0 0) ro un li pt st 0 pl bk en kc) H := hP
    have hD : va_D A (wP ad ca me (wr un li nu 0 0) ro un li pt st 0 pl bk en kc) := hD
    refine lv_goto (tgt := 622) hx hb d_Pr_doFieldWork_149 (by decide) ?_
    exact zret_v C0 hr hAe hP hD hS rfl d_Pr_doFieldWork_622
  · skip
    refine lv_iload_n hx hb d_Pr_doFieldWork_0 rfl (lv_at hl 1 rfl) ?_
    refine lv_tableIn (off := 151) (tgt := 152) hx hb d_Pr_doFieldWork_1 (by decide) (by decide) (by decide) (by decide) ?_
    refine lv_aload_n hx hb d_Pr_doFieldWork_152 rfl (lv_at hl 0 rfl) ?_
    refine va_get (D := D) (ci := 1) (v := .ref (ad 8)) (C := RPr) (T := TPr) (N := 9) hx hb ht inPr hown hK hP 0 rfl rfl 1 (by decide) (ht _ q116) (fun _ h9 => h9) rfl d_Pr_doFieldWork_153 ?_
    refine lv_iconst (v := nI 1) hx hb d_Pr_doFieldWork_156 (by decide) ?_
    refine lv_lconst (v := lN 0) hx hb d_Pr_doFieldWork_157 rfl ?_
    refine zgo_v (wr := []) C0 (zrunV (na := 2) (As := [.int (nI 1), .long (lN 0)]) (rest := []) C0 hP hD hS [0, 1, 2, 3, 4, 5] rfl rfl (m_Re_putPart l D ca k s.heap.size ad me nu ro un li pt st 0 pl bk en kc 1 0 (by omega) hn hu hu2 hl0 hl2) (zg_V q490 q491 q492 q5 q493) (by decide +kernel) rfl rfl ⟨by decide, by decide⟩ 2 rfl rfl rfl hl.1 rfl (Nat.le_of_ble_eq_true rfl) d_Pr_doFieldWork_158 ⟨Nat.zero_le _, Nat.zero_le _⟩) hP hD hS [0, 1, 2, 3, 4, 5] [] rfl rfl (by decide) (by decide) (fun w1 H locs hw hP hD hS => ?_)
    obtain rfl := hw
    have hP : va_P D vCl (wP ad ca me (wr un li nu 1 0) ro un li pt st 0 pl bk en kc) H := hP
    have hD : va_D A (wP ad ca me (wr un li nu 1 0) ro un li pt st 0 pl bk en kc) := hD
    refine lv_goto (tgt := 622) hx hb d_Pr_doFieldWork_161 (by decide) ?_
    exact zret_v C0 hr hAe hP hD hS rfl d_Pr_doFieldWork_622
  · skip
    refine lv_iload_n hx hb d_Pr_doFieldWork_0 rfl (lv_at hl 1 rfl) ?_
    refine lv_tableIn (off := 163) (tgt := 164) hx hb d_Pr_doFieldWork_1 (by decide) (by decide) (by decide) (by decide) ?_
    refine lv_aload_n hx hb d_Pr_doFieldWork_164 rfl (lv_at hl 0 rfl) ?_
    refine va_get (D := D) (ci := 1) (v := .ref (ad 8)) (C := RPr) (T := TPr) (N := 9) hx hb ht inPr hown hK hP 0 rfl rfl 1 (by decide) (ht _ q116) (fun _ h9 => h9) rfl d_Pr_doFieldWork_165 ?_
    refine lv_iconst (v := nI 2) hx hb d_Pr_doFieldWork_168 (by decide) ?_
    refine lv_lconst (v := lN 0) hx hb d_Pr_doFieldWork_169 rfl ?_
    refine zgo_v (wr := []) C0 (zrunV (na := 2) (As := [.int (nI 2), .long (lN 0)]) (rest := []) C0 hP hD hS [0, 1, 2, 3, 4, 5] rfl rfl (m_Re_putPart l D ca k s.heap.size ad me nu ro un li pt st 0 pl bk en kc 2 0 (by omega) hn hu hu2 hl0 hl2) (zg_V q490 q491 q492 q5 q493) (by decide +kernel) rfl rfl ⟨by decide, by decide⟩ 2 rfl rfl rfl hl.1 rfl (Nat.le_of_ble_eq_true rfl) d_Pr_doFieldWork_170 ⟨Nat.zero_le _, Nat.zero_le _⟩) hP hD hS [0, 1, 2, 3, 4, 5] [] rfl rfl (by decide) (by decide) (fun w1 H locs hw hP hD hS => ?_)
    obtain rfl := hw
    have hP : va_P D vCl (wP ad ca me (wr un li nu 2 0) ro un li pt st 0 pl bk en kc) H := hP
    have hD : va_D A (wP ad ca me (wr un li nu 2 0) ro un li pt st 0 pl bk en kc) := hD
    refine lv_goto (tgt := 622) hx hb d_Pr_doFieldWork_173 (by decide) ?_
    exact zret_v C0 hr hAe hP hD hS rfl d_Pr_doFieldWork_622
  · skip
    refine lv_iload_n hx hb d_Pr_doFieldWork_0 rfl (lv_at hl 1 rfl) ?_
    refine lv_tableIn (off := 175) (tgt := 176) hx hb d_Pr_doFieldWork_1 (by decide) (by decide) (by decide) (by decide) ?_
    refine lv_aload_n hx hb d_Pr_doFieldWork_176 rfl (lv_at hl 0 rfl) ?_
    refine va_get (D := D) (ci := 1) (v := .ref (ad 8)) (C := RPr) (T := TPr) (N := 9) hx hb ht inPr hown hK hP 0 rfl rfl 1 (by decide) (ht _ q116) (fun _ h9 => h9) rfl d_Pr_doFieldWork_177 ?_
    refine lv_iconst (v := nI 0) hx hb d_Pr_doFieldWork_180 (by decide) ?_
    refine lv_lload hx hb d_Pr_doFieldWork_181 (lv_at hl 3 rfl) ?_
    refine zgo_v (wr := []) C0 (zrunV (na := 2) (As := [.int (nI 0), .long (lN (pr un li (nu 1)))]) (rest := []) C0 hP hD hS [0, 1, 2, 3, 4, 5] rfl rfl (m_Re_putPart l D ca k s.heap.size ad me nu ro un li pt st 0 pl bk en kc 0 (pr un li (nu 1)) (by omega) hn hu hu2 hl0 hl2) (zg_V q490 q491 q492 q5 q493) (by decide +kernel) rfl rfl ⟨by decide, by decide⟩ 2 rfl rfl rfl hl.1 rfl (Nat.le_of_ble_eq_true rfl) d_Pr_doFieldWork_183 ⟨Nat.zero_le _, Nat.zero_le _⟩) hP hD hS [0, 1, 2, 3, 4, 5] [] rfl rfl (by decide) (by decide) (fun w1 H locs hw hP hD hS => ?_)
    obtain rfl := hw
    have hP : va_P D vCl (wP ad ca me (wr un li nu 0 (pr un li (nu 1))) ro un li pt st 0 pl bk en kc) H := hP
    have hD : va_D A (wP ad ca me (wr un li nu 0 (pr un li (nu 1))) ro un li pt st 0 pl bk en kc) := hD
    refine lv_aload_n hx hb d_Pr_doFieldWork_186 rfl (lv_at hl 0 rfl) ?_
    refine va_get (D := D) (ci := 1) (v := .ref (ad 8)) (C := RPr) (T := TPr) (N := 9) hx hb ht inPr hown hK hP 0 rfl rfl 1 (by decide) (ht _ q116) (fun _ h9 => h9) rfl d_Pr_doFieldWork_187 ?_
    refine lv_iconst (v := nI 1) hx hb d_Pr_doFieldWork_190 (by decide) ?_
    refine lv_lload_n hx hb d_Pr_doFieldWork_191 rfl (lv_at hl 2 rfl) ?_
    refine zgo_v (wr := []) C0 (zrunV (na := 2) (As := [.int (nI 1), .long (lN (pr un li (nu 0)))]) (rest := []) C0 hP hD hS [0, 1, 2, 3, 4, 5] rfl rfl (m_Re_putPart l D ca k H.size ad me (wr un li nu 0 (pr un li (nu 1))) ro un li pt st 0 pl bk en kc 1 (pr un li (nu 0)) (by omega) (wr_lt hn hu hg (Nat.mod_lt _ hl0)) hu hu2 hl0 hl2) (zg_V q490 q491 q492 q5 q493) (by decide +kernel) rfl rfl ⟨by decide, by decide⟩ 2 rfl rfl rfl hl.1 rfl (Nat.le_of_ble_eq_true rfl) d_Pr_doFieldWork_192 ⟨Nat.zero_le _, Nat.zero_le _⟩) hP hD hS [0, 1, 2, 3, 4, 5] [] rfl rfl (by decide) (by decide) (fun w1 H locs hw hP hD hS => ?_)
    obtain rfl := hw
    have hP : va_P D vCl (wP ad ca me (wr un li (wr un li nu 0 (pr un li (nu 1))) 1 (pr un li (nu 0))) ro un li pt st 0 pl bk en kc) H := hP
    have hD : va_D A (wP ad ca me (wr un li (wr un li nu 0 (pr un li (nu 1))) 1 (pr un li (nu 0))) ro un li pt st 0 pl bk en kc) := hD
    refine lv_goto (tgt := 622) hx hb d_Pr_doFieldWork_195 (by decide) ?_
    exact zret_v C0 hr hAe hP hD hS rfl d_Pr_doFieldWork_622
  · skip
    refine lv_iload_n hx hb d_Pr_doFieldWork_0 rfl (lv_at hl 1 rfl) ?_
    refine lv_tableIn (off := 197) (tgt := 198) hx hb d_Pr_doFieldWork_1 (by decide) (by decide) (by decide) (by decide) ?_
    refine lv_aload_n hx hb d_Pr_doFieldWork_198 rfl (lv_at hl 0 rfl) ?_
    refine va_get (D := D) (ci := 1) (v := .ref (ad 8)) (C := RPr) (T := TPr) (N := 9) hx hb ht inPr hown hK hP 0 rfl rfl 1 (by decide) (ht _ q116) (fun _ h9 => h9) rfl d_Pr_doFieldWork_199 ?_
    refine lv_iconst (v := nI 1) hx hb d_Pr_doFieldWork_202 (by decide) ?_
    refine lv_lload_n hx hb d_Pr_doFieldWork_203 rfl (lv_at hl 2 rfl) ?_
    refine zgo_v (wr := []) C0 (zrunV (na := 2) (As := [.int (nI 1), .long (lN (pr un li (nu 0)))]) (rest := []) C0 hP hD hS [0, 1, 2, 3, 4, 5] rfl rfl (m_Re_putPart l D ca k s.heap.size ad me nu ro un li pt st 0 pl bk en kc 1 (pr un li (nu 0)) (by omega) hn hu hu2 hl0 hl2) (zg_V q490 q491 q492 q5 q493) (by decide +kernel) rfl rfl ⟨by decide, by decide⟩ 2 rfl rfl rfl hl.1 rfl (Nat.le_of_ble_eq_true rfl) d_Pr_doFieldWork_204 ⟨Nat.zero_le _, Nat.zero_le _⟩) hP hD hS [0, 1, 2, 3, 4, 5] [] rfl rfl (by decide) (by decide) (fun w1 H locs hw hP hD hS => ?_)
    obtain rfl := hw
    have hP : va_P D vCl (wP ad ca me (wr un li nu 1 (pr un li (nu 0))) ro un li pt st 0 pl bk en kc) H := hP
    have hD : va_D A (wP ad ca me (wr un li nu 1 (pr un li (nu 0))) ro un li pt st 0 pl bk en kc) := hD
    refine lv_goto (tgt := 622) hx hb d_Pr_doFieldWork_207 (by decide) ?_
    exact zret_v C0 hr hAe hP hD hS rfl d_Pr_doFieldWork_622
  · skip
    refine lv_iload_n hx hb d_Pr_doFieldWork_0 rfl (lv_at hl 1 rfl) ?_
    refine lv_tableIn (off := 209) (tgt := 210) hx hb d_Pr_doFieldWork_1 (by decide) (by decide) (by decide) (by decide) ?_
    refine lv_aload_n hx hb d_Pr_doFieldWork_210 rfl (lv_at hl 0 rfl) ?_
    refine va_get (D := D) (ci := 1) (v := .ref (ad 8)) (C := RPr) (T := TPr) (N := 9) hx hb ht inPr hown hK hP 0 rfl rfl 1 (by decide) (ht _ q116) (fun _ h9 => h9) rfl d_Pr_doFieldWork_211 ?_
    refine lv_iconst (v := nI 0) hx hb d_Pr_doFieldWork_214 (by decide) ?_
    refine lv_lload hx hb d_Pr_doFieldWork_215 (lv_at hl 4 rfl) ?_
    refine zgo_v (wr := []) C0 (zrunV (na := 2) (As := [.int (nI 0), .long (lN (pr un li (nu 2)))]) (rest := []) C0 hP hD hS [0, 1, 2, 3, 4, 5] rfl rfl (m_Re_putPart l D ca k s.heap.size ad me nu ro un li pt st 0 pl bk en kc 0 (pr un li (nu 2)) (by omega) hn hu hu2 hl0 hl2) (zg_V q490 q491 q492 q5 q493) (by decide +kernel) rfl rfl ⟨by decide, by decide⟩ 2 rfl rfl rfl hl.1 rfl (Nat.le_of_ble_eq_true rfl) d_Pr_doFieldWork_217 ⟨Nat.zero_le _, Nat.zero_le _⟩) hP hD hS [0, 1, 2, 3, 4, 5] [] rfl rfl (by decide) (by decide) (fun w1 H locs hw hP hD hS => ?_)
    obtain rfl := hw
    have hP : va_P D vCl (wP ad ca me (wr un li nu 0 (pr un li (nu 2))) ro un li pt st 0 pl bk en kc) H := hP
    have hD : va_D A (wP ad ca me (wr un li nu 0 (pr un li (nu 2))) ro un li pt st 0 pl bk en kc) := hD
    refine lv_aload_n hx hb d_Pr_doFieldWork_220 rfl (lv_at hl 0 rfl) ?_
    refine va_get (D := D) (ci := 1) (v := .ref (ad 8)) (C := RPr) (T := TPr) (N := 9) hx hb ht inPr hown hK hP 0 rfl rfl 1 (by decide) (ht _ q116) (fun _ h9 => h9) rfl d_Pr_doFieldWork_221 ?_
    refine lv_iconst (v := nI 2) hx hb d_Pr_doFieldWork_224 (by decide) ?_
    refine lv_lload_n hx hb d_Pr_doFieldWork_225 rfl (lv_at hl 2 rfl) ?_
    refine zgo_v (wr := []) C0 (zrunV (na := 2) (As := [.int (nI 2), .long (lN (pr un li (nu 0)))]) (rest := []) C0 hP hD hS [0, 1, 2, 3, 4, 5] rfl rfl (m_Re_putPart l D ca k H.size ad me (wr un li nu 0 (pr un li (nu 2))) ro un li pt st 0 pl bk en kc 2 (pr un li (nu 0)) (by omega) (wr_lt hn hu hg (Nat.mod_lt _ hl0)) hu hu2 hl0 hl2) (zg_V q490 q491 q492 q5 q493) (by decide +kernel) rfl rfl ⟨by decide, by decide⟩ 2 rfl rfl rfl hl.1 rfl (Nat.le_of_ble_eq_true rfl) d_Pr_doFieldWork_226 ⟨Nat.zero_le _, Nat.zero_le _⟩) hP hD hS [0, 1, 2, 3, 4, 5] [] rfl rfl (by decide) (by decide) (fun w1 H locs hw hP hD hS => ?_)
    obtain rfl := hw
    have hP : va_P D vCl (wP ad ca me (wr un li (wr un li nu 0 (pr un li (nu 2))) 2 (pr un li (nu 0))) ro un li pt st 0 pl bk en kc) H := hP
    have hD : va_D A (wP ad ca me (wr un li (wr un li nu 0 (pr un li (nu 2))) 2 (pr un li (nu 0))) ro un li pt st 0 pl bk en kc) := hD
    refine lv_goto (tgt := 622) hx hb d_Pr_doFieldWork_229 (by decide) ?_
    exact zret_v C0 hr hAe hP hD hS rfl d_Pr_doFieldWork_622
  · skip
    refine lv_iload_n hx hb d_Pr_doFieldWork_0 rfl (lv_at hl 1 rfl) ?_
    refine lv_tableIn (off := 231) (tgt := 232) hx hb d_Pr_doFieldWork_1 (by decide) (by decide) (by decide) (by decide) ?_
    refine lv_aload_n hx hb d_Pr_doFieldWork_232 rfl (lv_at hl 0 rfl) ?_
    refine va_get (D := D) (ci := 1) (v := .ref (ad 8)) (C := RPr) (T := TPr) (N := 9) hx hb ht inPr hown hK hP 0 rfl rfl 1 (by decide) (ht _ q116) (fun _ h9 => h9) rfl d_Pr_doFieldWork_233 ?_
    refine lv_iconst (v := nI 2) hx hb d_Pr_doFieldWork_236 (by decide) ?_
    refine lv_lload hx hb d_Pr_doFieldWork_237 (lv_at hl 3 rfl) ?_
    refine zgo_v (wr := []) C0 (zrunV (na := 2) (As := [.int (nI 2), .long (lN (pr un li (nu 1)))]) (rest := []) C0 hP hD hS [0, 1, 2, 3, 4, 5] rfl rfl (m_Re_putPart l D ca k s.heap.size ad me nu ro un li pt st 0 pl bk en kc 2 (pr un li (nu 1)) (by omega) hn hu hu2 hl0 hl2) (zg_V q490 q491 q492 q5 q493) (by decide +kernel) rfl rfl ⟨by decide, by decide⟩ 2 rfl rfl rfl hl.1 rfl (Nat.le_of_ble_eq_true rfl) d_Pr_doFieldWork_239 ⟨Nat.zero_le _, Nat.zero_le _⟩) hP hD hS [0, 1, 2, 3, 4, 5] [] rfl rfl (by decide) (by decide) (fun w1 H locs hw hP hD hS => ?_)
    obtain rfl := hw
    have hP : va_P D vCl (wP ad ca me (wr un li nu 2 (pr un li (nu 1))) ro un li pt st 0 pl bk en kc) H := hP
    have hD : va_D A (wP ad ca me (wr un li nu 2 (pr un li (nu 1))) ro un li pt st 0 pl bk en kc) := hD
    refine lv_goto (tgt := 622) hx hb d_Pr_doFieldWork_242 (by decide) ?_
    exact zret_v C0 hr hAe hP hD hS rfl d_Pr_doFieldWork_622
  · skip
    refine lv_iload_n hx hb d_Pr_doFieldWork_0 rfl (lv_at hl 1 rfl) ?_
    refine lv_tableIn (off := 244) (tgt := 245) hx hb d_Pr_doFieldWork_1 (by decide) (by decide) (by decide) (by decide) ?_
    refine lv_aload_n hx hb d_Pr_doFieldWork_245 rfl (lv_at hl 0 rfl) ?_
    refine va_get (D := D) (ci := 1) (v := .ref (ad 8)) (C := RPr) (T := TPr) (N := 9) hx hb ht inPr hown hK hP 0 rfl rfl 1 (by decide) (ht _ q116) (fun _ h9 => h9) rfl d_Pr_doFieldWork_246 ?_
    refine lv_iconst (v := nI 1) hx hb d_Pr_doFieldWork_249 (by decide) ?_
    refine lv_lload hx hb d_Pr_doFieldWork_250 (lv_at hl 4 rfl) ?_
    refine zgo_v (wr := []) C0 (zrunV (na := 2) (As := [.int (nI 1), .long (lN (pr un li (nu 2)))]) (rest := []) C0 hP hD hS [0, 1, 2, 3, 4, 5] rfl rfl (m_Re_putPart l D ca k s.heap.size ad me nu ro un li pt st 0 pl bk en kc 1 (pr un li (nu 2)) (by omega) hn hu hu2 hl0 hl2) (zg_V q490 q491 q492 q5 q493) (by decide +kernel) rfl rfl ⟨by decide, by decide⟩ 2 rfl rfl rfl hl.1 rfl (Nat.le_of_ble_eq_true rfl) d_Pr_doFieldWork_252 ⟨Nat.zero_le _, Nat.zero_le _⟩) hP hD hS [0, 1, 2, 3, 4, 5] [] rfl rfl (by decide) (by decide) (fun w1 H locs hw hP hD hS => ?_)
    obtain rfl := hw
    have hP : va_P D vCl (wP ad ca me (wr un li nu 1 (pr un li (nu 2))) ro un li pt st 0 pl bk en kc) H := hP
    have hD : va_D A (wP ad ca me (wr un li nu 1 (pr un li (nu 2))) ro un li pt st 0 pl bk en kc) := hD
    refine lv_aload_n hx hb d_Pr_doFieldWork_255 rfl (lv_at hl 0 rfl) ?_
    refine va_get (D := D) (ci := 1) (v := .ref (ad 8)) (C := RPr) (T := TPr) (N := 9) hx hb ht inPr hown hK hP 0 rfl rfl 1 (by decide) (ht _ q116) (fun _ h9 => h9) rfl d_Pr_doFieldWork_256 ?_
    refine lv_iconst (v := nI 2) hx hb d_Pr_doFieldWork_259 (by decide) ?_
    refine lv_lload hx hb d_Pr_doFieldWork_260 (lv_at hl 3 rfl) ?_
    refine zgo_v (wr := []) C0 (zrunV (na := 2) (As := [.int (nI 2), .long (lN (pr un li (nu 1)))]) (rest := []) C0 hP hD hS [0, 1, 2, 3, 4, 5] rfl rfl (m_Re_putPart l D ca k H.size ad me (wr un li nu 1 (pr un li (nu 2))) ro un li pt st 0 pl bk en kc 2 (pr un li (nu 1)) (by omega) (wr_lt hn hu hg (Nat.mod_lt _ hl0)) hu hu2 hl0 hl2) (zg_V q490 q491 q492 q5 q493) (by decide +kernel) rfl rfl ⟨by decide, by decide⟩ 2 rfl rfl rfl hl.1 rfl (Nat.le_of_ble_eq_true rfl) d_Pr_doFieldWork_262 ⟨Nat.zero_le _, Nat.zero_le _⟩) hP hD hS [0, 1, 2, 3, 4, 5] [] rfl rfl (by decide) (by decide) (fun w1 H locs hw hP hD hS => ?_)
    obtain rfl := hw
    have hP : va_P D vCl (wP ad ca me (wr un li (wr un li nu 1 (pr un li (nu 2))) 2 (pr un li (nu 1))) ro un li pt st 0 pl bk en kc) H := hP
    have hD : va_D A (wP ad ca me (wr un li (wr un li nu 1 (pr un li (nu 2))) 2 (pr un li (nu 1))) ro un li pt st 0 pl bk en kc) := hD
    refine lv_goto (tgt := 622) hx hb d_Pr_doFieldWork_265 (by decide) ?_
    exact zret_v C0 hr hAe hP hD hS rfl d_Pr_doFieldWork_622
  · skip
    refine lv_iload_n hx hb d_Pr_doFieldWork_0 rfl (lv_at hl 1 rfl) ?_
    refine lv_tableIn (off := 267) (tgt := 268) hx hb d_Pr_doFieldWork_1 (by decide) (by decide) (by decide) (by decide) ?_
    refine lv_aload_n hx hb d_Pr_doFieldWork_268 rfl (lv_at hl 0 rfl) ?_
    refine lv_iconst (v := nI 0) hx hb d_Pr_doFieldWork_269 (by decide) ?_
    refine lv_lload_n hx hb d_Pr_doFieldWork_270 rfl (lv_at hl 2 rfl) ?_
    refine lv_lload hx hb d_Pr_doFieldWork_271 (lv_at hl 3 rfl) ?_
    refine lv_ladd hx hb d_Pr_doFieldWork_273 ?_
    refine ztl (y := lN ((pr un li (nu 0)) + (pr un li (nu 1)))) (lN_add _ _) ?_
    refine ztl (y := Int64.ofInt ((((pr un li (nu 0)) + (pr un li (nu 1)) : Nat) : Int))) lN_int ?_
    refine zgo_v (wr := []) C0 (zrunV (na := 2) (As := [.int (nI 0), .long (Int64.ofInt (((pr un li (nu 0)) + (pr un li (nu 1)) : Nat) : Int))]) (rest := []) C0 hP hD hS [0, 1, 2, 3, 4, 5] rfl rfl (m_Pr_putResult l D ca k s.heap.size ad me nu ro un li pt st 0 pl bk en kc 0 (((pr un li (nu 0)) + (pr un li (nu 1)) : Nat) : Int) (by omega) (by omega) (by omega) hn hu hu2 hl0 hl2) (zg_V q531 q533 q823 q4 q534) (by decide +kernel) rfl rfl ⟨by decide, by decide⟩ 0 rfl rfl rfl hl.1 rfl (Nat.le_of_ble_eq_true rfl) d_Pr_doFieldWork_274 ⟨Nat.zero_le _, Nat.zero_le _⟩) hP hD hS [0, 1, 2, 3, 4, 5] [] rfl rfl (by decide) (by decide) (fun w1 H locs hw hP hD hS => ?_)
    obtain rfl := hw
    have hP : va_P D vCl (wP ad ca me (wr un li nu 0 (rz li (((pr un li (nu 0)) + (pr un li (nu 1)) : Nat) : Int))) ro un li pt st (rc li (((pr un li (nu 0)) + (pr un li (nu 1)) : Nat) : Int)) pl bk en kc) H := hP
    have hD : va_D A (wP ad ca me (wr un li nu 0 (rz li (((pr un li (nu 0)) + (pr un li (nu 1)) : Nat) : Int))) ro un li pt st (rc li (((pr un li (nu 0)) + (pr un li (nu 1)) : Nat) : Int)) pl bk en kc) := hD
    refine lv_goto (tgt := 622) hx hb d_Pr_doFieldWork_277 (by decide) ?_
    exact zret_v C0 hr hAe hP hD hS rfl d_Pr_doFieldWork_622
  · skip
    refine lv_iload_n hx hb d_Pr_doFieldWork_0 rfl (lv_at hl 1 rfl) ?_
    refine lv_tableIn (off := 279) (tgt := 280) hx hb d_Pr_doFieldWork_1 (by decide) (by decide) (by decide) (by decide) ?_
    refine lv_aload_n hx hb d_Pr_doFieldWork_280 rfl (lv_at hl 0 rfl) ?_
    refine lv_iconst (v := nI 0) hx hb d_Pr_doFieldWork_281 (by decide) ?_
    refine lv_lload_n hx hb d_Pr_doFieldWork_282 rfl (lv_at hl 2 rfl) ?_
    refine lv_lload hx hb d_Pr_doFieldWork_283 (lv_at hl 4 rfl) ?_
    refine lv_ladd hx hb d_Pr_doFieldWork_285 ?_
    refine ztl (y := lN ((pr un li (nu 0)) + (pr un li (nu 2)))) (lN_add _ _) ?_
    refine ztl (y := Int64.ofInt ((((pr un li (nu 0)) + (pr un li (nu 2)) : Nat) : Int))) lN_int ?_
    refine zgo_v (wr := []) C0 (zrunV (na := 2) (As := [.int (nI 0), .long (Int64.ofInt (((pr un li (nu 0)) + (pr un li (nu 2)) : Nat) : Int))]) (rest := []) C0 hP hD hS [0, 1, 2, 3, 4, 5] rfl rfl (m_Pr_putResult l D ca k s.heap.size ad me nu ro un li pt st 0 pl bk en kc 0 (((pr un li (nu 0)) + (pr un li (nu 2)) : Nat) : Int) (by omega) (by omega) (by omega) hn hu hu2 hl0 hl2) (zg_V q531 q533 q823 q4 q534) (by decide +kernel) rfl rfl ⟨by decide, by decide⟩ 0 rfl rfl rfl hl.1 rfl (Nat.le_of_ble_eq_true rfl) d_Pr_doFieldWork_286 ⟨Nat.zero_le _, Nat.zero_le _⟩) hP hD hS [0, 1, 2, 3, 4, 5] [] rfl rfl (by decide) (by decide) (fun w1 H locs hw hP hD hS => ?_)
    obtain rfl := hw
    have hP : va_P D vCl (wP ad ca me (wr un li nu 0 (rz li (((pr un li (nu 0)) + (pr un li (nu 2)) : Nat) : Int))) ro un li pt st (rc li (((pr un li (nu 0)) + (pr un li (nu 2)) : Nat) : Int)) pl bk en kc) H := hP
    have hD : va_D A (wP ad ca me (wr un li nu 0 (rz li (((pr un li (nu 0)) + (pr un li (nu 2)) : Nat) : Int))) ro un li pt st (rc li (((pr un li (nu 0)) + (pr un li (nu 2)) : Nat) : Int)) pl bk en kc) := hD
    refine lv_goto (tgt := 622) hx hb d_Pr_doFieldWork_289 (by decide) ?_
    exact zret_v C0 hr hAe hP hD hS rfl d_Pr_doFieldWork_622
  · skip
    refine lv_iload_n hx hb d_Pr_doFieldWork_0 rfl (lv_at hl 1 rfl) ?_
    refine lv_tableIn (off := 291) (tgt := 292) hx hb d_Pr_doFieldWork_1 (by decide) (by decide) (by decide) (by decide) ?_
    refine lv_aload_n hx hb d_Pr_doFieldWork_292 rfl (lv_at hl 0 rfl) ?_
    refine lv_iconst (v := nI 2) hx hb d_Pr_doFieldWork_293 (by decide) ?_
    refine lv_lload_n hx hb d_Pr_doFieldWork_294 rfl (lv_at hl 2 rfl) ?_
    refine lv_lload hx hb d_Pr_doFieldWork_295 (lv_at hl 4 rfl) ?_
    refine lv_ladd hx hb d_Pr_doFieldWork_297 ?_
    refine ztl (y := lN ((pr un li (nu 0)) + (pr un li (nu 2)))) (lN_add _ _) ?_
    refine ztl (y := Int64.ofInt ((((pr un li (nu 0)) + (pr un li (nu 2)) : Nat) : Int))) lN_int ?_
    refine zgo_v (wr := []) C0 (zrunV (na := 2) (As := [.int (nI 2), .long (Int64.ofInt (((pr un li (nu 0)) + (pr un li (nu 2)) : Nat) : Int))]) (rest := []) C0 hP hD hS [0, 1, 2, 3, 4, 5] rfl rfl (m_Pr_putResult l D ca k s.heap.size ad me nu ro un li pt st 0 pl bk en kc 2 (((pr un li (nu 0)) + (pr un li (nu 2)) : Nat) : Int) (by omega) (by omega) (by omega) hn hu hu2 hl0 hl2) (zg_V q531 q533 q823 q4 q534) (by decide +kernel) rfl rfl ⟨by decide, by decide⟩ 0 rfl rfl rfl hl.1 rfl (Nat.le_of_ble_eq_true rfl) d_Pr_doFieldWork_298 ⟨Nat.zero_le _, Nat.zero_le _⟩) hP hD hS [0, 1, 2, 3, 4, 5] [] rfl rfl (by decide) (by decide) (fun w1 H locs hw hP hD hS => ?_)
    obtain rfl := hw
    have hP : va_P D vCl (wP ad ca me (wr un li nu 2 (rz li (((pr un li (nu 0)) + (pr un li (nu 2)) : Nat) : Int))) ro un li pt st (rc li (((pr un li (nu 0)) + (pr un li (nu 2)) : Nat) : Int)) pl bk en kc) H := hP
    have hD : va_D A (wP ad ca me (wr un li nu 2 (rz li (((pr un li (nu 0)) + (pr un li (nu 2)) : Nat) : Int))) ro un li pt st (rc li (((pr un li (nu 0)) + (pr un li (nu 2)) : Nat) : Int)) pl bk en kc) := hD
    refine lv_goto (tgt := 622) hx hb d_Pr_doFieldWork_301 (by decide) ?_
    exact zret_v C0 hr hAe hP hD hS rfl d_Pr_doFieldWork_622
  · skip
    refine lv_iload_n hx hb d_Pr_doFieldWork_0 rfl (lv_at hl 1 rfl) ?_
    refine lv_tableIn (off := 303) (tgt := 304) hx hb d_Pr_doFieldWork_1 (by decide) (by decide) (by decide) (by decide) ?_
    refine lv_aload_n hx hb d_Pr_doFieldWork_304 rfl (lv_at hl 0 rfl) ?_
    refine lv_iconst (v := nI 0) hx hb d_Pr_doFieldWork_305 (by decide) ?_
    refine lv_lload_n hx hb d_Pr_doFieldWork_306 rfl (lv_at hl 2 rfl) ?_
    refine lv_lconst (v := lN 1) hx hb d_Pr_doFieldWork_307 rfl ?_
    refine lv_ladd hx hb d_Pr_doFieldWork_308 ?_
    refine ztl (y := lN ((pr un li (nu 0)) + 1)) (lN_add _ _) ?_
    refine ztl (y := Int64.ofInt ((((pr un li (nu 0)) + 1 : Nat) : Int))) lN_int ?_
    refine zgo_v (wr := []) C0 (zrunV (na := 2) (As := [.int (nI 0), .long (Int64.ofInt (((pr un li (nu 0)) + 1 : Nat) : Int))]) (rest := []) C0 hP hD hS [0, 1, 2, 3, 4, 5] rfl rfl (m_Pr_putResult l D ca k s.heap.size ad me nu ro un li pt st 0 pl bk en kc 0 (((pr un li (nu 0)) + 1 : Nat) : Int) (by omega) (by omega) (by omega) hn hu hu2 hl0 hl2) (zg_V q531 q533 q823 q4 q534) (by decide +kernel) rfl rfl ⟨by decide, by decide⟩ 0 rfl rfl rfl hl.1 rfl (Nat.le_of_ble_eq_true rfl) d_Pr_doFieldWork_309 ⟨Nat.zero_le _, Nat.zero_le _⟩) hP hD hS [0, 1, 2, 3, 4, 5] [] rfl rfl (by decide) (by decide) (fun w1 H locs hw hP hD hS => ?_)
    obtain rfl := hw
    have hP : va_P D vCl (wP ad ca me (wr un li nu 0 (rz li (((pr un li (nu 0)) + 1 : Nat) : Int))) ro un li pt st (rc li (((pr un li (nu 0)) + 1 : Nat) : Int)) pl bk en kc) H := hP
    have hD : va_D A (wP ad ca me (wr un li nu 0 (rz li (((pr un li (nu 0)) + 1 : Nat) : Int))) ro un li pt st (rc li (((pr un li (nu 0)) + 1 : Nat) : Int)) pl bk en kc) := hD
    refine lv_goto (tgt := 622) hx hb d_Pr_doFieldWork_312 (by decide) ?_
    exact zret_v C0 hr hAe hP hD hS rfl d_Pr_doFieldWork_622
  · skip
    refine lv_iload_n hx hb d_Pr_doFieldWork_0 rfl (lv_at hl 1 rfl) ?_
    refine lv_tableIn (off := 314) (tgt := 315) hx hb d_Pr_doFieldWork_1 (by decide) (by decide) (by decide) (by decide) ?_
    refine lv_aload_n hx hb d_Pr_doFieldWork_315 rfl (lv_at hl 0 rfl) ?_
    refine lv_iconst (v := nI 2) hx hb d_Pr_doFieldWork_316 (by decide) ?_
    refine lv_lload hx hb d_Pr_doFieldWork_317 (lv_at hl 4 rfl) ?_
    refine lv_lconst (v := lN 1) hx hb d_Pr_doFieldWork_319 rfl ?_
    refine lv_ladd hx hb d_Pr_doFieldWork_320 ?_
    refine ztl (y := lN ((pr un li (nu 2)) + 1)) (lN_add _ _) ?_
    refine ztl (y := Int64.ofInt ((((pr un li (nu 2)) + 1 : Nat) : Int))) lN_int ?_
    refine zgo_v (wr := []) C0 (zrunV (na := 2) (As := [.int (nI 2), .long (Int64.ofInt (((pr un li (nu 2)) + 1 : Nat) : Int))]) (rest := []) C0 hP hD hS [0, 1, 2, 3, 4, 5] rfl rfl (m_Pr_putResult l D ca k s.heap.size ad me nu ro un li pt st 0 pl bk en kc 2 (((pr un li (nu 2)) + 1 : Nat) : Int) (by omega) (by omega) (by omega) hn hu hu2 hl0 hl2) (zg_V q531 q533 q823 q4 q534) (by decide +kernel) rfl rfl ⟨by decide, by decide⟩ 0 rfl rfl rfl hl.1 rfl (Nat.le_of_ble_eq_true rfl) d_Pr_doFieldWork_321 ⟨Nat.zero_le _, Nat.zero_le _⟩) hP hD hS [0, 1, 2, 3, 4, 5] [] rfl rfl (by decide) (by decide) (fun w1 H locs hw hP hD hS => ?_)
    obtain rfl := hw
    have hP : va_P D vCl (wP ad ca me (wr un li nu 2 (rz li (((pr un li (nu 2)) + 1 : Nat) : Int))) ro un li pt st (rc li (((pr un li (nu 2)) + 1 : Nat) : Int)) pl bk en kc) H := hP
    have hD : va_D A (wP ad ca me (wr un li nu 2 (rz li (((pr un li (nu 2)) + 1 : Nat) : Int))) ro un li pt st (rc li (((pr un li (nu 2)) + 1 : Nat) : Int)) pl bk en kc) := hD
    refine lv_goto (tgt := 622) hx hb d_Pr_doFieldWork_324 (by decide) ?_
    exact zret_v C0 hr hAe hP hD hS rfl d_Pr_doFieldWork_622
  · skip
    refine lv_iload_n hx hb d_Pr_doFieldWork_0 rfl (lv_at hl 1 rfl) ?_
    refine lv_tableIn (off := 326) (tgt := 327) hx hb d_Pr_doFieldWork_1 (by decide) (by decide) (by decide) (by decide) ?_
    refine lv_aload_n hx hb d_Pr_doFieldWork_327 rfl (lv_at hl 0 rfl) ?_
    refine lv_iconst (v := nI 0) hx hb d_Pr_doFieldWork_328 (by decide) ?_
    refine lv_lload_n hx hb d_Pr_doFieldWork_329 rfl (lv_at hl 2 rfl) ?_
    refine lv_lload hx hb d_Pr_doFieldWork_330 (lv_at hl 3 rfl) ?_
    refine lv_lsub hx hb d_Pr_doFieldWork_332 ?_
    refine ztl (y := Int64.ofInt ((((pr un li (nu 0) : Nat) : Int) : Int) - (pr un li (nu 1) : Nat))) zL_sub ?_
    refine zgo_v (wr := []) C0 (zrunV (na := 2) (As := [.int (nI 0), .long (Int64.ofInt ((((pr un li (nu 0) : Nat) : Int) : Int) - (pr un li (nu 1) : Nat)))]) (rest := []) C0 hP hD hS [0, 1, 2, 3, 4, 5] rfl rfl (m_Pr_putResult l D ca k s.heap.size ad me nu ro un li pt st 0 pl bk en kc 0 ((((pr un li (nu 0) : Nat) : Int) : Int) - (pr un li (nu 1) : Nat)) (by omega) (by omega) (by omega) hn hu hu2 hl0 hl2) (zg_V q531 q533 q823 q4 q534) (by decide +kernel) rfl rfl ⟨by decide, by decide⟩ 0 rfl rfl rfl hl.1 rfl (Nat.le_of_ble_eq_true rfl) d_Pr_doFieldWork_333 ⟨Nat.zero_le _, Nat.zero_le _⟩) hP hD hS [0, 1, 2, 3, 4, 5] [] rfl rfl (by decide) (by decide) (fun w1 H locs hw hP hD hS => ?_)
    obtain rfl := hw
    have hP : va_P D vCl (wP ad ca me (wr un li nu 0 (rz li ((((pr un li (nu 0) : Nat) : Int) : Int) - (pr un li (nu 1) : Nat)))) ro un li pt st (rc li ((((pr un li (nu 0) : Nat) : Int) : Int) - (pr un li (nu 1) : Nat))) pl bk en kc) H := hP
    have hD : va_D A (wP ad ca me (wr un li nu 0 (rz li ((((pr un li (nu 0) : Nat) : Int) : Int) - (pr un li (nu 1) : Nat)))) ro un li pt st (rc li ((((pr un li (nu 0) : Nat) : Int) : Int) - (pr un li (nu 1) : Nat))) pl bk en kc) := hD
    refine lv_goto (tgt := 622) hx hb d_Pr_doFieldWork_336 (by decide) ?_
    exact zret_v C0 hr hAe hP hD hS rfl d_Pr_doFieldWork_622
  · skip
    refine lv_iload_n hx hb d_Pr_doFieldWork_0 rfl (lv_at hl 1 rfl) ?_
    refine lv_tableIn (off := 338) (tgt := 339) hx hb d_Pr_doFieldWork_1 (by decide) (by decide) (by decide) (by decide) ?_
    refine lv_aload_n hx hb d_Pr_doFieldWork_339 rfl (lv_at hl 0 rfl) ?_
    refine lv_iconst (v := nI 0) hx hb d_Pr_doFieldWork_340 (by decide) ?_
    refine lv_lload_n hx hb d_Pr_doFieldWork_341 rfl (lv_at hl 2 rfl) ?_
    refine lv_lload hx hb d_Pr_doFieldWork_342 (lv_at hl 4 rfl) ?_
    refine lv_lsub hx hb d_Pr_doFieldWork_344 ?_
    refine ztl (y := Int64.ofInt ((((pr un li (nu 0) : Nat) : Int) : Int) - (pr un li (nu 2) : Nat))) zL_sub ?_
    refine zgo_v (wr := []) C0 (zrunV (na := 2) (As := [.int (nI 0), .long (Int64.ofInt ((((pr un li (nu 0) : Nat) : Int) : Int) - (pr un li (nu 2) : Nat)))]) (rest := []) C0 hP hD hS [0, 1, 2, 3, 4, 5] rfl rfl (m_Pr_putResult l D ca k s.heap.size ad me nu ro un li pt st 0 pl bk en kc 0 ((((pr un li (nu 0) : Nat) : Int) : Int) - (pr un li (nu 2) : Nat)) (by omega) (by omega) (by omega) hn hu hu2 hl0 hl2) (zg_V q531 q533 q823 q4 q534) (by decide +kernel) rfl rfl ⟨by decide, by decide⟩ 0 rfl rfl rfl hl.1 rfl (Nat.le_of_ble_eq_true rfl) d_Pr_doFieldWork_345 ⟨Nat.zero_le _, Nat.zero_le _⟩) hP hD hS [0, 1, 2, 3, 4, 5] [] rfl rfl (by decide) (by decide) (fun w1 H locs hw hP hD hS => ?_)
    obtain rfl := hw
    have hP : va_P D vCl (wP ad ca me (wr un li nu 0 (rz li ((((pr un li (nu 0) : Nat) : Int) : Int) - (pr un li (nu 2) : Nat)))) ro un li pt st (rc li ((((pr un li (nu 0) : Nat) : Int) : Int) - (pr un li (nu 2) : Nat))) pl bk en kc) H := hP
    have hD : va_D A (wP ad ca me (wr un li nu 0 (rz li ((((pr un li (nu 0) : Nat) : Int) : Int) - (pr un li (nu 2) : Nat)))) ro un li pt st (rc li ((((pr un li (nu 0) : Nat) : Int) : Int) - (pr un li (nu 2) : Nat))) pl bk en kc) := hD
    refine lv_goto (tgt := 622) hx hb d_Pr_doFieldWork_348 (by decide) ?_
    exact zret_v C0 hr hAe hP hD hS rfl d_Pr_doFieldWork_622
  · skip
    refine lv_iload_n hx hb d_Pr_doFieldWork_0 rfl (lv_at hl 1 rfl) ?_
    refine lv_tableIn (off := 350) (tgt := 351) hx hb d_Pr_doFieldWork_1 (by decide) (by decide) (by decide) (by decide) ?_
    refine lv_aload_n hx hb d_Pr_doFieldWork_351 rfl (lv_at hl 0 rfl) ?_
    refine lv_iconst (v := nI 2) hx hb d_Pr_doFieldWork_352 (by decide) ?_
    refine lv_lload_n hx hb d_Pr_doFieldWork_353 rfl (lv_at hl 2 rfl) ?_
    refine lv_lload hx hb d_Pr_doFieldWork_354 (lv_at hl 4 rfl) ?_
    refine lv_lsub hx hb d_Pr_doFieldWork_356 ?_
    refine ztl (y := Int64.ofInt ((((pr un li (nu 0) : Nat) : Int) : Int) - (pr un li (nu 2) : Nat))) zL_sub ?_
    refine zgo_v (wr := []) C0 (zrunV (na := 2) (As := [.int (nI 2), .long (Int64.ofInt ((((pr un li (nu 0) : Nat) : Int) : Int) - (pr un li (nu 2) : Nat)))]) (rest := []) C0 hP hD hS [0, 1, 2, 3, 4, 5] rfl rfl (m_Pr_putResult l D ca k s.heap.size ad me nu ro un li pt st 0 pl bk en kc 2 ((((pr un li (nu 0) : Nat) : Int) : Int) - (pr un li (nu 2) : Nat)) (by omega) (by omega) (by omega) hn hu hu2 hl0 hl2) (zg_V q531 q533 q823 q4 q534) (by decide +kernel) rfl rfl ⟨by decide, by decide⟩ 0 rfl rfl rfl hl.1 rfl (Nat.le_of_ble_eq_true rfl) d_Pr_doFieldWork_357 ⟨Nat.zero_le _, Nat.zero_le _⟩) hP hD hS [0, 1, 2, 3, 4, 5] [] rfl rfl (by decide) (by decide) (fun w1 H locs hw hP hD hS => ?_)
    obtain rfl := hw
    have hP : va_P D vCl (wP ad ca me (wr un li nu 2 (rz li ((((pr un li (nu 0) : Nat) : Int) : Int) - (pr un li (nu 2) : Nat)))) ro un li pt st (rc li ((((pr un li (nu 0) : Nat) : Int) : Int) - (pr un li (nu 2) : Nat))) pl bk en kc) H := hP
    have hD : va_D A (wP ad ca me (wr un li nu 2 (rz li ((((pr un li (nu 0) : Nat) : Int) : Int) - (pr un li (nu 2) : Nat)))) ro un li pt st (rc li ((((pr un li (nu 0) : Nat) : Int) : Int) - (pr un li (nu 2) : Nat))) pl bk en kc) := hD
    refine lv_goto (tgt := 622) hx hb d_Pr_doFieldWork_360 (by decide) ?_
    exact zret_v C0 hr hAe hP hD hS rfl d_Pr_doFieldWork_622
  · skip
    refine lv_iload_n hx hb d_Pr_doFieldWork_0 rfl (lv_at hl 1 rfl) ?_
    refine lv_tableIn (off := 362) (tgt := 363) hx hb d_Pr_doFieldWork_1 (by decide) (by decide) (by decide) (by decide) ?_
    refine lv_aload_n hx hb d_Pr_doFieldWork_363 rfl (lv_at hl 0 rfl) ?_
    refine lv_iconst (v := nI 0) hx hb d_Pr_doFieldWork_364 (by decide) ?_
    refine lv_lload_n hx hb d_Pr_doFieldWork_365 rfl (lv_at hl 2 rfl) ?_
    refine lv_lconst (v := lN 1) hx hb d_Pr_doFieldWork_366 rfl ?_
    refine lv_lsub hx hb d_Pr_doFieldWork_367 ?_
    refine ztl (y := Int64.ofInt ((((pr un li (nu 0) : Nat) : Int) : Int) - (1 : Nat))) zL_sub ?_
    refine zgo_v (wr := []) C0 (zrunV (na := 2) (As := [.int (nI 0), .long (Int64.ofInt ((((pr un li (nu 0) : Nat) : Int) : Int) - (1 : Nat)))]) (rest := []) C0 hP hD hS [0, 1, 2, 3, 4, 5] rfl rfl (m_Pr_putResult l D ca k s.heap.size ad me nu ro un li pt st 0 pl bk en kc 0 ((((pr un li (nu 0) : Nat) : Int) : Int) - (1 : Nat)) (by omega) (by omega) (by omega) hn hu hu2 hl0 hl2) (zg_V q531 q533 q823 q4 q534) (by decide +kernel) rfl rfl ⟨by decide, by decide⟩ 0 rfl rfl rfl hl.1 rfl (Nat.le_of_ble_eq_true rfl) d_Pr_doFieldWork_368 ⟨Nat.zero_le _, Nat.zero_le _⟩) hP hD hS [0, 1, 2, 3, 4, 5] [] rfl rfl (by decide) (by decide) (fun w1 H locs hw hP hD hS => ?_)
    obtain rfl := hw
    have hP : va_P D vCl (wP ad ca me (wr un li nu 0 (rz li ((((pr un li (nu 0) : Nat) : Int) : Int) - (1 : Nat)))) ro un li pt st (rc li ((((pr un li (nu 0) : Nat) : Int) : Int) - (1 : Nat))) pl bk en kc) H := hP
    have hD : va_D A (wP ad ca me (wr un li nu 0 (rz li ((((pr un li (nu 0) : Nat) : Int) : Int) - (1 : Nat)))) ro un li pt st (rc li ((((pr un li (nu 0) : Nat) : Int) : Int) - (1 : Nat))) pl bk en kc) := hD
    refine lv_goto (tgt := 622) hx hb d_Pr_doFieldWork_371 (by decide) ?_
    exact zret_v C0 hr hAe hP hD hS rfl d_Pr_doFieldWork_622
  · skip
    refine lv_iload_n hx hb d_Pr_doFieldWork_0 rfl (lv_at hl 1 rfl) ?_
    refine lv_tableIn (off := 373) (tgt := 374) hx hb d_Pr_doFieldWork_1 (by decide) (by decide) (by decide) (by decide) ?_
    refine lv_aload_n hx hb d_Pr_doFieldWork_374 rfl (lv_at hl 0 rfl) ?_
    refine lv_iconst (v := nI 2) hx hb d_Pr_doFieldWork_375 (by decide) ?_
    refine lv_lload hx hb d_Pr_doFieldWork_376 (lv_at hl 4 rfl) ?_
    refine lv_lconst (v := lN 1) hx hb d_Pr_doFieldWork_378 rfl ?_
    refine lv_lsub hx hb d_Pr_doFieldWork_379 ?_
    refine ztl (y := Int64.ofInt ((((pr un li (nu 2) : Nat) : Int) : Int) - (1 : Nat))) zL_sub ?_
    refine zgo_v (wr := []) C0 (zrunV (na := 2) (As := [.int (nI 2), .long (Int64.ofInt ((((pr un li (nu 2) : Nat) : Int) : Int) - (1 : Nat)))]) (rest := []) C0 hP hD hS [0, 1, 2, 3, 4, 5] rfl rfl (m_Pr_putResult l D ca k s.heap.size ad me nu ro un li pt st 0 pl bk en kc 2 ((((pr un li (nu 2) : Nat) : Int) : Int) - (1 : Nat)) (by omega) (by omega) (by omega) hn hu hu2 hl0 hl2) (zg_V q531 q533 q823 q4 q534) (by decide +kernel) rfl rfl ⟨by decide, by decide⟩ 0 rfl rfl rfl hl.1 rfl (Nat.le_of_ble_eq_true rfl) d_Pr_doFieldWork_380 ⟨Nat.zero_le _, Nat.zero_le _⟩) hP hD hS [0, 1, 2, 3, 4, 5] [] rfl rfl (by decide) (by decide) (fun w1 H locs hw hP hD hS => ?_)
    obtain rfl := hw
    have hP : va_P D vCl (wP ad ca me (wr un li nu 2 (rz li ((((pr un li (nu 2) : Nat) : Int) : Int) - (1 : Nat)))) ro un li pt st (rc li ((((pr un li (nu 2) : Nat) : Int) : Int) - (1 : Nat))) pl bk en kc) H := hP
    have hD : va_D A (wP ad ca me (wr un li nu 2 (rz li ((((pr un li (nu 2) : Nat) : Int) : Int) - (1 : Nat)))) ro un li pt st (rc li ((((pr un li (nu 2) : Nat) : Int) : Int) - (1 : Nat))) pl bk en kc) := hD
    refine lv_goto (tgt := 622) hx hb d_Pr_doFieldWork_383 (by decide) ?_
    exact zret_v C0 hr hAe hP hD hS rfl d_Pr_doFieldWork_622
  · skip
    refine lv_iload_n hx hb d_Pr_doFieldWork_0 rfl (lv_at hl 1 rfl) ?_
    refine lv_tableIn (off := 385) (tgt := 386) hx hb d_Pr_doFieldWork_1 (by decide) (by decide) (by decide) (by decide) ?_
    refine lv_aload_n hx hb d_Pr_doFieldWork_386 rfl (lv_at hl 0 rfl) ?_
    refine lv_iconst (v := nI 2) hx hb d_Pr_doFieldWork_387 (by decide) ?_
    refine lv_lconst (v := lN 0) hx hb d_Pr_doFieldWork_388 rfl ?_
    refine lv_lload hx hb d_Pr_doFieldWork_389 (lv_at hl 4 rfl) ?_
    refine lv_lsub hx hb d_Pr_doFieldWork_391 ?_
    refine ztl (y := Int64.ofInt ((((0 : Nat) : Int) : Int) - (pr un li (nu 2) : Nat))) zL_sub ?_
    refine zgo_v (wr := []) C0 (zrunV (na := 2) (As := [.int (nI 2), .long (Int64.ofInt ((((0 : Nat) : Int) : Int) - (pr un li (nu 2) : Nat)))]) (rest := []) C0 hP hD hS [0, 1, 2, 3, 4, 5] rfl rfl (m_Pr_putResult l D ca k s.heap.size ad me nu ro un li pt st 0 pl bk en kc 2 ((((0 : Nat) : Int) : Int) - (pr un li (nu 2) : Nat)) (by omega) (by omega) (by omega) hn hu hu2 hl0 hl2) (zg_V q531 q533 q823 q4 q534) (by decide +kernel) rfl rfl ⟨by decide, by decide⟩ 0 rfl rfl rfl hl.1 rfl (Nat.le_of_ble_eq_true rfl) d_Pr_doFieldWork_392 ⟨Nat.zero_le _, Nat.zero_le _⟩) hP hD hS [0, 1, 2, 3, 4, 5] [] rfl rfl (by decide) (by decide) (fun w1 H locs hw hP hD hS => ?_)
    obtain rfl := hw
    have hP : va_P D vCl (wP ad ca me (wr un li nu 2 (rz li ((((0 : Nat) : Int) : Int) - (pr un li (nu 2) : Nat)))) ro un li pt st (rc li ((((0 : Nat) : Int) : Int) - (pr un li (nu 2) : Nat))) pl bk en kc) H := hP
    have hD : va_D A (wP ad ca me (wr un li nu 2 (rz li ((((0 : Nat) : Int) : Int) - (pr un li (nu 2) : Nat)))) ro un li pt st (rc li ((((0 : Nat) : Int) : Int) - (pr un li (nu 2) : Nat))) pl bk en kc) := hD
    refine lv_goto (tgt := 622) hx hb d_Pr_doFieldWork_395 (by decide) ?_
    exact zret_v C0 hr hAe hP hD hS rfl d_Pr_doFieldWork_622
  · skip
    refine lv_iload_n hx hb d_Pr_doFieldWork_0 rfl (lv_at hl 1 rfl) ?_
    refine lv_tableIn (off := 397) (tgt := 398) hx hb d_Pr_doFieldWork_1 (by decide) (by decide) (by decide) (by decide) ?_
    refine lv_aload_n hx hb d_Pr_doFieldWork_398 rfl (lv_at hl 0 rfl) ?_
    refine lv_iconst (v := nI 2) hx hb d_Pr_doFieldWork_399 (by decide) ?_
    refine lv_lconst (v := lN 0) hx hb d_Pr_doFieldWork_400 rfl ?_
    refine lv_lload hx hb d_Pr_doFieldWork_401 (lv_at hl 4 rfl) ?_
    refine lv_lsub hx hb d_Pr_doFieldWork_403 ?_
    refine ztl (y := Int64.ofInt ((((0 : Nat) : Int) : Int) - (pr un li (nu 2) : Nat))) zL_sub ?_
    refine lv_lconst (v := lN 1) hx hb d_Pr_doFieldWork_404 rfl ?_
    refine lv_lsub hx hb d_Pr_doFieldWork_405 ?_
    refine ztl (y := Int64.ofInt (((((0 : Nat) : Int) : Int) - (pr un li (nu 2) : Nat) : Int) - (1 : Nat))) zI_sub ?_
    refine zgo_v (wr := []) C0 (zrunV (na := 2) (As := [.int (nI 2), .long (Int64.ofInt (((((0 : Nat) : Int) : Int) - (pr un li (nu 2) : Nat) : Int) - (1 : Nat)))]) (rest := []) C0 hP hD hS [0, 1, 2, 3, 4, 5] rfl rfl (m_Pr_putResult l D ca k s.heap.size ad me nu ro un li pt st 0 pl bk en kc 2 (((((0 : Nat) : Int) : Int) - (pr un li (nu 2) : Nat) : Int) - (1 : Nat)) (by omega) (by omega) (by omega) hn hu hu2 hl0 hl2) (zg_V q531 q533 q823 q4 q534) (by decide +kernel) rfl rfl ⟨by decide, by decide⟩ 0 rfl rfl rfl hl.1 rfl (Nat.le_of_ble_eq_true rfl) d_Pr_doFieldWork_406 ⟨Nat.zero_le _, Nat.zero_le _⟩) hP hD hS [0, 1, 2, 3, 4, 5] [] rfl rfl (by decide) (by decide) (fun w1 H locs hw hP hD hS => ?_)
    obtain rfl := hw
    have hP : va_P D vCl (wP ad ca me (wr un li nu 2 (rz li (((((0 : Nat) : Int) : Int) - (pr un li (nu 2) : Nat) : Int) - (1 : Nat)))) ro un li pt st (rc li (((((0 : Nat) : Int) : Int) - (pr un li (nu 2) : Nat) : Int) - (1 : Nat))) pl bk en kc) H := hP
    have hD : va_D A (wP ad ca me (wr un li nu 2 (rz li (((((0 : Nat) : Int) : Int) - (pr un li (nu 2) : Nat) : Int) - (1 : Nat)))) ro un li pt st (rc li (((((0 : Nat) : Int) : Int) - (pr un li (nu 2) : Nat) : Int) - (1 : Nat))) pl bk en kc) := hD
    refine lv_goto (tgt := 622) hx hb d_Pr_doFieldWork_409 (by decide) ?_
    exact zret_v C0 hr hAe hP hD hS rfl d_Pr_doFieldWork_622
  · skip
    refine lv_iload_n hx hb d_Pr_doFieldWork_0 rfl (lv_at hl 1 rfl) ?_
    refine lv_tableIn (off := 411) (tgt := 412) hx hb d_Pr_doFieldWork_1 (by decide) (by decide) (by decide) (by decide) ?_
    refine lv_aload_n hx hb d_Pr_doFieldWork_412 rfl (lv_at hl 0 rfl) ?_
    refine va_get (D := D) (ci := 1) (v := .ref (ad 8)) (C := RPr) (T := TPr) (N := 9) hx hb ht inPr hown hK hP 0 rfl rfl 1 (by decide) (ht _ q116) (fun _ h9 => h9) rfl d_Pr_doFieldWork_413 ?_
    refine lv_iconst (v := nI 0) hx hb d_Pr_doFieldWork_416 (by decide) ?_
    refine lv_lload_n hx hb d_Pr_doFieldWork_417 rfl (lv_at hl 2 rfl) ?_
    refine lv_ldc2 hx hb hown (ht _ q538) d_Pr_doFieldWork_418 ?_
    refine ztl (y := lN 10) (by decide) ?_
    refine lv_lmul hx hb d_Pr_doFieldWork_421 ?_
    refine ztl (y := lN ((pr un li (nu 0)) * 10)) (lN_mul _ _) ?_
    refine lv_aload_n hx hb d_Pr_doFieldWork_422 rfl (lv_at hl 0 rfl) ?_
    refine va_get (D := D) (ci := 1) (v := .ref (ad 8)) (C := RPr) (T := TPr) (N := 9) hx hb ht inPr hown hK hP 0 rfl rfl 1 (by decide) (ht _ q116) (fun _ h9 => h9) rfl d_Pr_doFieldWork_423 ?_
    refine va_get (D := D) (ci := 2) (v := .long (lN li)) (C := RRe) (T := TRe) (N := 3) hx hb ht inRe hown hK hP 2 rfl rfl 2 (by decide) (ht _ q91) (fun _ h9 => h9) rfl d_Pr_doFieldWork_426 ?_
    refine lv_lrem hx hb d_Pr_doFieldWork_429 (zlne (by omega) (by omega)) ?_
    refine ztl (y := lN (((pr un li (nu 0)) * 10) % li)) (pk_lRem (by omega) (by omega) (by omega)) ?_
    refine zgo_v (wr := []) C0 (zrunV (na := 2) (As := [.int (nI 0), .long (lN (((pr un li (nu 0)) * 10) % li))]) (rest := []) C0 hP hD hS [0, 1, 2, 3, 4, 5] rfl rfl (m_Re_putPart l D ca k s.heap.size ad me nu ro un li pt st 0 pl bk en kc 0 (((pr un li (nu 0)) * 10) % li) (by omega) hn hu hu2 hl0 hl2) (zg_V q490 q491 q492 q5 q493) (by decide +kernel) rfl rfl ⟨by decide, by decide⟩ 2 rfl rfl rfl hl.1 rfl (Nat.le_of_ble_eq_true rfl) d_Pr_doFieldWork_430 ⟨Nat.zero_le _, Nat.zero_le _⟩) hP hD hS [0, 1, 2, 3, 4, 5] [] rfl rfl (by decide) (by decide) (fun w1 H locs hw hP hD hS => ?_)
    obtain rfl := hw
    have hP : va_P D vCl (wP ad ca me (wr un li nu 0 (((pr un li (nu 0)) * 10) % li)) ro un li pt st 0 pl bk en kc) H := hP
    have hD : va_D A (wP ad ca me (wr un li nu 0 (((pr un li (nu 0)) * 10) % li)) ro un li pt st 0 pl bk en kc) := hD
    refine lv_goto (tgt := 622) hx hb d_Pr_doFieldWork_433 (by decide) ?_
    exact zret_v C0 hr hAe hP hD hS rfl d_Pr_doFieldWork_622
  · skip
    refine lv_iload_n hx hb d_Pr_doFieldWork_0 rfl (lv_at hl 1 rfl) ?_
    refine lv_tableIn (off := 435) (tgt := 436) hx hb d_Pr_doFieldWork_1 (by decide) (by decide) (by decide) (by decide) ?_
    refine lv_aload_n hx hb d_Pr_doFieldWork_436 rfl (lv_at hl 0 rfl) ?_
    refine va_get (D := D) (ci := 1) (v := .ref (ad 8)) (C := RPr) (T := TPr) (N := 9) hx hb ht inPr hown hK hP 0 rfl rfl 1 (by decide) (ht _ q116) (fun _ h9 => h9) rfl d_Pr_doFieldWork_437 ?_
    refine lv_iconst (v := nI 0) hx hb d_Pr_doFieldWork_440 (by decide) ?_
    refine lv_lload_n hx hb d_Pr_doFieldWork_441 rfl (lv_at hl 2 rfl) ?_
    refine lv_ldc2 hx hb hown (ht _ q538) d_Pr_doFieldWork_442 ?_
    refine ztl (y := lN 10) (by decide) ?_
    refine lv_ldiv hx hb d_Pr_doFieldWork_445 (zlne (by omega) (by omega)) ?_
    refine ztl (y := lN ((pr un li (nu 0)) / 10)) (pk_lDiv (by omega) (by omega) (by omega)) ?_
    refine zgo_v (wr := []) C0 (zrunV (na := 2) (As := [.int (nI 0), .long (lN ((pr un li (nu 0)) / 10))]) (rest := []) C0 hP hD hS [0, 1, 2, 3, 4, 5] rfl rfl (m_Re_putPart l D ca k s.heap.size ad me nu ro un li pt st 0 pl bk en kc 0 ((pr un li (nu 0)) / 10) (by omega) hn hu hu2 hl0 hl2) (zg_V q490 q491 q492 q5 q493) (by decide +kernel) rfl rfl ⟨by decide, by decide⟩ 2 rfl rfl rfl hl.1 rfl (Nat.le_of_ble_eq_true rfl) d_Pr_doFieldWork_446 ⟨Nat.zero_le _, Nat.zero_le _⟩) hP hD hS [0, 1, 2, 3, 4, 5] [] rfl rfl (by decide) (by decide) (fun w1 H locs hw hP hD hS => ?_)
    obtain rfl := hw
    have hP : va_P D vCl (wP ad ca me (wr un li nu 0 ((pr un li (nu 0)) / 10)) ro un li pt st 0 pl bk en kc) H := hP
    have hD : va_D A (wP ad ca me (wr un li nu 0 ((pr un li (nu 0)) / 10)) ro un li pt st 0 pl bk en kc) := hD
    refine lv_goto (tgt := 622) hx hb d_Pr_doFieldWork_449 (by decide) ?_
    exact zret_v C0 hr hAe hP hD hS rfl d_Pr_doFieldWork_622
  · skip
    refine lv_iload_n hx hb d_Pr_doFieldWork_0 rfl (lv_at hl 1 rfl) ?_
    refine lv_tableIn (off := 451) (tgt := 452) hx hb d_Pr_doFieldWork_1 (by decide) (by decide) (by decide) (by decide) ?_
    refine lv_aload_n hx hb d_Pr_doFieldWork_452 rfl (lv_at hl 0 rfl) ?_
    refine va_get (D := D) (ci := 1) (v := .ref (ad 8)) (C := RPr) (T := TPr) (N := 9) hx hb ht inPr hown hK hP 0 rfl rfl 1 (by decide) (ht _ q116) (fun _ h9 => h9) rfl d_Pr_doFieldWork_453 ?_
    refine lv_iconst (v := nI 1) hx hb d_Pr_doFieldWork_456 (by decide) ?_
    refine lv_lload hx hb d_Pr_doFieldWork_457 (lv_at hl 3 rfl) ?_
    refine lv_ldc2 hx hb hown (ht _ q538) d_Pr_doFieldWork_459 ?_
    refine ztl (y := lN 10) (by decide) ?_
    refine lv_ldiv hx hb d_Pr_doFieldWork_462 (zlne (by omega) (by omega)) ?_
    refine ztl (y := lN ((pr un li (nu 1)) / 10)) (pk_lDiv (by omega) (by omega) (by omega)) ?_
    refine zgo_v (wr := []) C0 (zrunV (na := 2) (As := [.int (nI 1), .long (lN ((pr un li (nu 1)) / 10))]) (rest := []) C0 hP hD hS [0, 1, 2, 3, 4, 5] rfl rfl (m_Re_putPart l D ca k s.heap.size ad me nu ro un li pt st 0 pl bk en kc 1 ((pr un li (nu 1)) / 10) (by omega) hn hu hu2 hl0 hl2) (zg_V q490 q491 q492 q5 q493) (by decide +kernel) rfl rfl ⟨by decide, by decide⟩ 2 rfl rfl rfl hl.1 rfl (Nat.le_of_ble_eq_true rfl) d_Pr_doFieldWork_463 ⟨Nat.zero_le _, Nat.zero_le _⟩) hP hD hS [0, 1, 2, 3, 4, 5] [] rfl rfl (by decide) (by decide) (fun w1 H locs hw hP hD hS => ?_)
    obtain rfl := hw
    have hP : va_P D vCl (wP ad ca me (wr un li nu 1 ((pr un li (nu 1)) / 10)) ro un li pt st 0 pl bk en kc) H := hP
    have hD : va_D A (wP ad ca me (wr un li nu 1 ((pr un li (nu 1)) / 10)) ro un li pt st 0 pl bk en kc) := hD
    refine lv_goto (tgt := 622) hx hb d_Pr_doFieldWork_466 (by decide) ?_
    exact zret_v C0 hr hAe hP hD hS rfl d_Pr_doFieldWork_622
  · skip
    refine lv_iload_n hx hb d_Pr_doFieldWork_0 rfl (lv_at hl 1 rfl) ?_
    refine lv_tableIn (off := 468) (tgt := 469) hx hb d_Pr_doFieldWork_1 (by decide) (by decide) (by decide) (by decide) ?_
    refine lv_aload_n hx hb d_Pr_doFieldWork_469 rfl (lv_at hl 0 rfl) ?_
    refine va_get (D := D) (ci := 1) (v := .ref (ad 8)) (C := RPr) (T := TPr) (N := 9) hx hb ht inPr hown hK hP 0 rfl rfl 1 (by decide) (ht _ q116) (fun _ h9 => h9) rfl d_Pr_doFieldWork_470 ?_
    refine lv_iconst (v := nI 2) hx hb d_Pr_doFieldWork_473 (by decide) ?_
    refine lv_lload hx hb d_Pr_doFieldWork_474 (lv_at hl 4 rfl) ?_
    refine lv_ldc2 hx hb hown (ht _ q538) d_Pr_doFieldWork_476 ?_
    refine ztl (y := lN 10) (by decide) ?_
    refine lv_ldiv hx hb d_Pr_doFieldWork_479 (zlne (by omega) (by omega)) ?_
    refine ztl (y := lN ((pr un li (nu 2)) / 10)) (pk_lDiv (by omega) (by omega) (by omega)) ?_
    refine zgo_v (wr := []) C0 (zrunV (na := 2) (As := [.int (nI 2), .long (lN ((pr un li (nu 2)) / 10))]) (rest := []) C0 hP hD hS [0, 1, 2, 3, 4, 5] rfl rfl (m_Re_putPart l D ca k s.heap.size ad me nu ro un li pt st 0 pl bk en kc 2 ((pr un li (nu 2)) / 10) (by omega) hn hu hu2 hl0 hl2) (zg_V q490 q491 q492 q5 q493) (by decide +kernel) rfl rfl ⟨by decide, by decide⟩ 2 rfl rfl rfl hl.1 rfl (Nat.le_of_ble_eq_true rfl) d_Pr_doFieldWork_480 ⟨Nat.zero_le _, Nat.zero_le _⟩) hP hD hS [0, 1, 2, 3, 4, 5] [] rfl rfl (by decide) (by decide) (fun w1 H locs hw hP hD hS => ?_)
    obtain rfl := hw
    have hP : va_P D vCl (wP ad ca me (wr un li nu 2 ((pr un li (nu 2)) / 10)) ro un li pt st 0 pl bk en kc) H := hP
    have hD : va_D A (wP ad ca me (wr un li nu 2 ((pr un li (nu 2)) / 10)) ro un li pt st 0 pl bk en kc) := hD
    refine lv_goto (tgt := 622) hx hb d_Pr_doFieldWork_483 (by decide) ?_
    exact zret_v C0 hr hAe hP hD hS rfl d_Pr_doFieldWork_622
  · skip
    refine lv_iload_n hx hb d_Pr_doFieldWork_0 rfl (lv_at hl 1 rfl) ?_
    refine lv_tableIn (off := 485) (tgt := 486) hx hb d_Pr_doFieldWork_1 (by decide) (by decide) (by decide) (by decide) ?_
    refine lv_aload_n hx hb d_Pr_doFieldWork_486 rfl (lv_at hl 0 rfl) ?_
    refine lv_lload_n hx hb d_Pr_doFieldWork_487 rfl (lv_at hl 2 rfl) ?_
    refine lv_lload hx hb d_Pr_doFieldWork_488 (lv_at hl 3 rfl) ?_
    refine W.lcmp hx hb d_Pr_doFieldWork_490 ?_
    refine lv_if_ge (tgt := 498) hx hb d_Pr_doFieldWork_491 (by decide) (fun h28 => ?_) (fun h28 => ?_)
    · skip
      have h28 : (lN (pr un li (nu 1)) ≤ lN (pr un li (nu 0))) := (lg_cmp_ge _ _).mp h28
      have h28 : ((pr un li (nu 1)) ≤ (pr un li (nu 0))) := (pk_lLE (by omega) (by omega)).mp h28
      refine lv_iconst (v := nI 0) hx hb d_Pr_doFieldWork_498 (by decide) ?_
      refine va_put (D := D) (ci := 1) (v := .int (nI 0)) (ty := .boolean) (C := RPr) (T := TPr) (N := 9) hx hb ht inPr tyPr tyPr_ok nmPr hown hK hP hD hS 0 rfl rfl 5 (by decide) (ht _ q124) (fun _ h9 => h9) rfl (by decide +kernel) (zbn (by omega)) (zbf (by omega)) (Nat.le_of_ble_eq_true rfl) d_Pr_doFieldWork_499 (fun H locs hP hD hS => ?_)
      have hP : va_P D vCl (wP ad ca me nu ro un li pt st 0 pl bk en kc) H := hP
      have hD : va_D A (wP ad ca me nu ro un li pt st 0 pl bk en kc) := hD
      refine lv_goto (tgt := 622) hx hb d_Pr_doFieldWork_502 (by decide) ?_
      exact zret_v C0 hr hAe hP hD hS (by rw [show fwC 24 un li nu = 0 from if_pos h28]; rfl) d_Pr_doFieldWork_622
    · skip
      have h28 : ¬ (lN (pr un li (nu 1)) ≤ lN (pr un li (nu 0))) := fun z => h28 ((lg_cmp_ge _ _).mpr z)
      have h28 : ¬ ((pr un li (nu 1)) ≤ (pr un li (nu 0))) := fun z => h28 ((pk_lLE (by omega) (by omega)).mpr z)
      refine lv_iconst (v := nI 1) hx hb d_Pr_doFieldWork_494 (by decide) ?_
      refine lv_goto (tgt := 499) hx hb d_Pr_doFieldWork_495 (by decide) ?_
      refine va_put (D := D) (ci := 1) (v := .int (nI 1)) (ty := .boolean) (C := RPr) (T := TPr) (N := 9) hx hb ht inPr tyPr tyPr_ok nmPr hown hK hP hD hS 0 rfl rfl 5 (by decide) (ht _ q124) (fun _ h9 => h9) rfl (by decide +kernel) (zbn (by omega)) (zbf (by omega)) (Nat.le_of_ble_eq_true rfl) d_Pr_doFieldWork_499 (fun H locs hP hD hS => ?_)
      have hP : va_P D vCl (wP ad ca me nu ro un li pt st 1 pl bk en kc) H := hP
      have hD : va_D A (wP ad ca me nu ro un li pt st 1 pl bk en kc) := hD
      refine lv_goto (tgt := 622) hx hb d_Pr_doFieldWork_502 (by decide) ?_
      exact zret_v C0 hr hAe hP hD hS (by rw [show fwC 24 un li nu = 1 from if_neg h28]; rfl) d_Pr_doFieldWork_622
  · skip
    refine lv_iload_n hx hb d_Pr_doFieldWork_0 rfl (lv_at hl 1 rfl) ?_
    refine lv_tableIn (off := 504) (tgt := 505) hx hb d_Pr_doFieldWork_1 (by decide) (by decide) (by decide) (by decide) ?_
    refine lv_aload_n hx hb d_Pr_doFieldWork_505 rfl (lv_at hl 0 rfl) ?_
    refine lv_lload_n hx hb d_Pr_doFieldWork_506 rfl (lv_at hl 2 rfl) ?_
    refine lv_lload hx hb d_Pr_doFieldWork_507 (lv_at hl 4 rfl) ?_
    refine W.lcmp hx hb d_Pr_doFieldWork_509 ?_
    refine lv_if_ge (tgt := 517) hx hb d_Pr_doFieldWork_510 (by decide) (fun h29 => ?_) (fun h29 => ?_)
    · skip
      have h29 : (lN (pr un li (nu 2)) ≤ lN (pr un li (nu 0))) := (lg_cmp_ge _ _).mp h29
      have h29 : ((pr un li (nu 2)) ≤ (pr un li (nu 0))) := (pk_lLE (by omega) (by omega)).mp h29
      refine lv_iconst (v := nI 0) hx hb d_Pr_doFieldWork_517 (by decide) ?_
      refine va_put (D := D) (ci := 1) (v := .int (nI 0)) (ty := .boolean) (C := RPr) (T := TPr) (N := 9) hx hb ht inPr tyPr tyPr_ok nmPr hown hK hP hD hS 0 rfl rfl 5 (by decide) (ht _ q124) (fun _ h9 => h9) rfl (by decide +kernel) (zbn (by omega)) (zbf (by omega)) (Nat.le_of_ble_eq_true rfl) d_Pr_doFieldWork_518 (fun H locs hP hD hS => ?_)
      have hP : va_P D vCl (wP ad ca me nu ro un li pt st 0 pl bk en kc) H := hP
      have hD : va_D A (wP ad ca me nu ro un li pt st 0 pl bk en kc) := hD
      refine lv_goto (tgt := 622) hx hb d_Pr_doFieldWork_521 (by decide) ?_
      exact zret_v C0 hr hAe hP hD hS (by rw [show fwC 25 un li nu = 0 from if_pos h29]; rfl) d_Pr_doFieldWork_622
    · skip
      have h29 : ¬ (lN (pr un li (nu 2)) ≤ lN (pr un li (nu 0))) := fun z => h29 ((lg_cmp_ge _ _).mpr z)
      have h29 : ¬ ((pr un li (nu 2)) ≤ (pr un li (nu 0))) := fun z => h29 ((pk_lLE (by omega) (by omega)).mpr z)
      refine lv_iconst (v := nI 1) hx hb d_Pr_doFieldWork_513 (by decide) ?_
      refine lv_goto (tgt := 518) hx hb d_Pr_doFieldWork_514 (by decide) ?_
      refine va_put (D := D) (ci := 1) (v := .int (nI 1)) (ty := .boolean) (C := RPr) (T := TPr) (N := 9) hx hb ht inPr tyPr tyPr_ok nmPr hown hK hP hD hS 0 rfl rfl 5 (by decide) (ht _ q124) (fun _ h9 => h9) rfl (by decide +kernel) (zbn (by omega)) (zbf (by omega)) (Nat.le_of_ble_eq_true rfl) d_Pr_doFieldWork_518 (fun H locs hP hD hS => ?_)
      have hP : va_P D vCl (wP ad ca me nu ro un li pt st 1 pl bk en kc) H := hP
      have hD : va_D A (wP ad ca me nu ro un li pt st 1 pl bk en kc) := hD
      refine lv_goto (tgt := 622) hx hb d_Pr_doFieldWork_521 (by decide) ?_
      exact zret_v C0 hr hAe hP hD hS (by rw [show fwC 25 un li nu = 1 from if_neg h29]; rfl) d_Pr_doFieldWork_622
  · skip
    refine lv_iload_n hx hb d_Pr_doFieldWork_0 rfl (lv_at hl 1 rfl) ?_
    refine lv_tableIn (off := 523) (tgt := 524) hx hb d_Pr_doFieldWork_1 (by decide) (by decide) (by decide) (by decide) ?_
    refine lv_aload_n hx hb d_Pr_doFieldWork_524 rfl (lv_at hl 0 rfl) ?_
    refine lv_lload hx hb d_Pr_doFieldWork_525 (lv_at hl 3 rfl) ?_
    refine lv_lconst (v := lN 0) hx hb d_Pr_doFieldWork_527 rfl ?_
    refine W.lcmp hx hb d_Pr_doFieldWork_528 ?_
    refine lv_if_eq (tgt := 536) hx hb d_Pr_doFieldWork_529 (by decide) (fun h30 => ?_) (fun h30 => ?_)
    · skip
      have h30 : (lN (pr un li (nu 1)) = lN 0) := (lg_cmp_eq _ _).mp h30
      have h30 : ((pr un li (nu 1)) = 0) := (pk_lEQ (by omega) (by omega)).mp h30
      refine lv_iconst (v := nI 0) hx hb d_Pr_doFieldWork_536 (by decide) ?_
      refine va_put (D := D) (ci := 1) (v := .int (nI 0)) (ty := .boolean) (C := RPr) (T := TPr) (N := 9) hx hb ht inPr tyPr tyPr_ok nmPr hown hK hP hD hS 0 rfl rfl 5 (by decide) (ht _ q124) (fun _ h9 => h9) rfl (by decide +kernel) (zbn (by omega)) (zbf (by omega)) (Nat.le_of_ble_eq_true rfl) d_Pr_doFieldWork_537 (fun H locs hP hD hS => ?_)
      have hP : va_P D vCl (wP ad ca me nu ro un li pt st 0 pl bk en kc) H := hP
      have hD : va_D A (wP ad ca me nu ro un li pt st 0 pl bk en kc) := hD
      refine lv_goto (tgt := 622) hx hb d_Pr_doFieldWork_540 (by decide) ?_
      exact zret_v C0 hr hAe hP hD hS (by rw [show fwC 26 un li nu = 0 from if_pos h30]; rfl) d_Pr_doFieldWork_622
    · skip
      have h30 : ¬ (lN (pr un li (nu 1)) = lN 0) := fun z => h30 ((lg_cmp_eq _ _).mpr z)
      have h30 : ¬ ((pr un li (nu 1)) = 0) := fun z => h30 ((pk_lEQ (by omega) (by omega)).mpr z)
      refine lv_iconst (v := nI 1) hx hb d_Pr_doFieldWork_532 (by decide) ?_
      refine lv_goto (tgt := 537) hx hb d_Pr_doFieldWork_533 (by decide) ?_
      refine va_put (D := D) (ci := 1) (v := .int (nI 1)) (ty := .boolean) (C := RPr) (T := TPr) (N := 9) hx hb ht inPr tyPr tyPr_ok nmPr hown hK hP hD hS 0 rfl rfl 5 (by decide) (ht _ q124) (fun _ h9 => h9) rfl (by decide +kernel) (zbn (by omega)) (zbf (by omega)) (Nat.le_of_ble_eq_true rfl) d_Pr_doFieldWork_537 (fun H locs hP hD hS => ?_)
      have hP : va_P D vCl (wP ad ca me nu ro un li pt st 1 pl bk en kc) H := hP
      have hD : va_D A (wP ad ca me nu ro un li pt st 1 pl bk en kc) := hD
      refine lv_goto (tgt := 622) hx hb d_Pr_doFieldWork_540 (by decide) ?_
      exact zret_v C0 hr hAe hP hD hS (by rw [show fwC 26 un li nu = 1 from if_neg h30]; rfl) d_Pr_doFieldWork_622
  · skip
    refine lv_iload_n hx hb d_Pr_doFieldWork_0 rfl (lv_at hl 1 rfl) ?_
    refine lv_tableIn (off := 542) (tgt := 543) hx hb d_Pr_doFieldWork_1 (by decide) (by decide) (by decide) (by decide) ?_
    refine lv_aload_n hx hb d_Pr_doFieldWork_543 rfl (lv_at hl 0 rfl) ?_
    refine lv_lload hx hb d_Pr_doFieldWork_544 (lv_at hl 4 rfl) ?_
    refine lv_lconst (v := lN 0) hx hb d_Pr_doFieldWork_546 rfl ?_
    refine W.lcmp hx hb d_Pr_doFieldWork_547 ?_
    refine lv_if_eq (tgt := 555) hx hb d_Pr_doFieldWork_548 (by decide) (fun h31 => ?_) (fun h31 => ?_)
    · skip
      have h31 : (lN (pr un li (nu 2)) = lN 0) := (lg_cmp_eq _ _).mp h31
      have h31 : ((pr un li (nu 2)) = 0) := (pk_lEQ (by omega) (by omega)).mp h31
      refine lv_iconst (v := nI 0) hx hb d_Pr_doFieldWork_555 (by decide) ?_
      refine va_put (D := D) (ci := 1) (v := .int (nI 0)) (ty := .boolean) (C := RPr) (T := TPr) (N := 9) hx hb ht inPr tyPr tyPr_ok nmPr hown hK hP hD hS 0 rfl rfl 5 (by decide) (ht _ q124) (fun _ h9 => h9) rfl (by decide +kernel) (zbn (by omega)) (zbf (by omega)) (Nat.le_of_ble_eq_true rfl) d_Pr_doFieldWork_556 (fun H locs hP hD hS => ?_)
      have hP : va_P D vCl (wP ad ca me nu ro un li pt st 0 pl bk en kc) H := hP
      have hD : va_D A (wP ad ca me nu ro un li pt st 0 pl bk en kc) := hD
      refine lv_goto (tgt := 622) hx hb d_Pr_doFieldWork_559 (by decide) ?_
      exact zret_v C0 hr hAe hP hD hS (by rw [show fwC 27 un li nu = 0 from if_pos h31]; rfl) d_Pr_doFieldWork_622
    · skip
      have h31 : ¬ (lN (pr un li (nu 2)) = lN 0) := fun z => h31 ((lg_cmp_eq _ _).mpr z)
      have h31 : ¬ ((pr un li (nu 2)) = 0) := fun z => h31 ((pk_lEQ (by omega) (by omega)).mpr z)
      refine lv_iconst (v := nI 1) hx hb d_Pr_doFieldWork_551 (by decide) ?_
      refine lv_goto (tgt := 556) hx hb d_Pr_doFieldWork_552 (by decide) ?_
      refine va_put (D := D) (ci := 1) (v := .int (nI 1)) (ty := .boolean) (C := RPr) (T := TPr) (N := 9) hx hb ht inPr tyPr tyPr_ok nmPr hown hK hP hD hS 0 rfl rfl 5 (by decide) (ht _ q124) (fun _ h9 => h9) rfl (by decide +kernel) (zbn (by omega)) (zbf (by omega)) (Nat.le_of_ble_eq_true rfl) d_Pr_doFieldWork_556 (fun H locs hP hD hS => ?_)
      have hP : va_P D vCl (wP ad ca me nu ro un li pt st 1 pl bk en kc) H := hP
      have hD : va_D A (wP ad ca me nu ro un li pt st 1 pl bk en kc) := hD
      refine lv_goto (tgt := 622) hx hb d_Pr_doFieldWork_559 (by decide) ?_
      exact zret_v C0 hr hAe hP hD hS (by rw [show fwC 27 un li nu = 1 from if_neg h31]; rfl) d_Pr_doFieldWork_622
  · skip
    refine lv_iload_n hx hb d_Pr_doFieldWork_0 rfl (lv_at hl 1 rfl) ?_
    refine lv_tableIn (off := 561) (tgt := 562) hx hb d_Pr_doFieldWork_1 (by decide) (by decide) (by decide) (by decide) ?_
    refine lv_aload_n hx hb d_Pr_doFieldWork_562 rfl (lv_at hl 0 rfl) ?_
    refine lv_lload_n hx hb d_Pr_doFieldWork_563 rfl (lv_at hl 2 rfl) ?_
    refine lv_lconst (v := lN 0) hx hb d_Pr_doFieldWork_564 rfl ?_
    refine W.lcmp hx hb d_Pr_doFieldWork_565 ?_
    refine lv_if_ne (tgt := 573) hx hb d_Pr_doFieldWork_566 (by decide) (fun h32 => ?_) (fun h32 => ?_)
    · skip
      have h32 : ¬ (lN (pr un li (nu 0)) = lN 0) := fun z => h32 ((lg_cmp_eq _ _).mpr z)
      have h32 : ¬ ((pr un li (nu 0)) = 0) := fun z => h32 ((pk_lEQ (by omega) (by omega)).mpr z)
      refine lv_iconst (v := nI 0) hx hb d_Pr_doFieldWork_573 (by decide) ?_
      refine va_put (D := D) (ci := 1) (v := .int (nI 0)) (ty := .boolean) (C := RPr) (T := TPr) (N := 9) hx hb ht inPr tyPr tyPr_ok nmPr hown hK hP hD hS 0 rfl rfl 5 (by decide) (ht _ q124) (fun _ h9 => h9) rfl (by decide +kernel) (zbn (by omega)) (zbf (by omega)) (Nat.le_of_ble_eq_true rfl) d_Pr_doFieldWork_574 (fun H locs hP hD hS => ?_)
      have hP : va_P D vCl (wP ad ca me nu ro un li pt st 0 pl bk en kc) H := hP
      have hD : va_D A (wP ad ca me nu ro un li pt st 0 pl bk en kc) := hD
      refine lv_goto (tgt := 622) hx hb d_Pr_doFieldWork_577 (by decide) ?_
      exact zret_v C0 hr hAe hP hD hS (by rw [show fwC 28 un li nu = 0 from if_neg h32]; rfl) d_Pr_doFieldWork_622
    · skip
      have h32 : (lN (pr un li (nu 0)) = lN 0) := (lg_cmp_eq _ _).mp h32
      have h32 : ((pr un li (nu 0)) = 0) := (pk_lEQ (by omega) (by omega)).mp h32
      refine lv_iconst (v := nI 1) hx hb d_Pr_doFieldWork_569 (by decide) ?_
      refine lv_goto (tgt := 574) hx hb d_Pr_doFieldWork_570 (by decide) ?_
      refine va_put (D := D) (ci := 1) (v := .int (nI 1)) (ty := .boolean) (C := RPr) (T := TPr) (N := 9) hx hb ht inPr tyPr tyPr_ok nmPr hown hK hP hD hS 0 rfl rfl 5 (by decide) (ht _ q124) (fun _ h9 => h9) rfl (by decide +kernel) (zbn (by omega)) (zbf (by omega)) (Nat.le_of_ble_eq_true rfl) d_Pr_doFieldWork_574 (fun H locs hP hD hS => ?_)
      have hP : va_P D vCl (wP ad ca me nu ro un li pt st 1 pl bk en kc) H := hP
      have hD : va_D A (wP ad ca me nu ro un li pt st 1 pl bk en kc) := hD
      refine lv_goto (tgt := 622) hx hb d_Pr_doFieldWork_577 (by decide) ?_
      exact zret_v C0 hr hAe hP hD hS (by rw [show fwC 28 un li nu = 1 from if_pos h32]; rfl) d_Pr_doFieldWork_622
  · skip
    refine lv_iload_n hx hb d_Pr_doFieldWork_0 rfl (lv_at hl 1 rfl) ?_
    refine lv_tableIn (off := 579) (tgt := 580) hx hb d_Pr_doFieldWork_1 (by decide) (by decide) (by decide) (by decide) ?_
    refine lv_aload_n hx hb d_Pr_doFieldWork_580 rfl (lv_at hl 0 rfl) ?_
    refine lv_lload hx hb d_Pr_doFieldWork_581 (lv_at hl 4 rfl) ?_
    refine lv_lconst (v := lN 0) hx hb d_Pr_doFieldWork_583 rfl ?_
    refine W.lcmp hx hb d_Pr_doFieldWork_584 ?_
    refine lv_if_ne (tgt := 592) hx hb d_Pr_doFieldWork_585 (by decide) (fun h33 => ?_) (fun h33 => ?_)
    · skip
      have h33 : ¬ (lN (pr un li (nu 2)) = lN 0) := fun z => h33 ((lg_cmp_eq _ _).mpr z)
      have h33 : ¬ ((pr un li (nu 2)) = 0) := fun z => h33 ((pk_lEQ (by omega) (by omega)).mpr z)
      refine lv_iconst (v := nI 0) hx hb d_Pr_doFieldWork_592 (by decide) ?_
      refine va_put (D := D) (ci := 1) (v := .int (nI 0)) (ty := .boolean) (C := RPr) (T := TPr) (N := 9) hx hb ht inPr tyPr tyPr_ok nmPr hown hK hP hD hS 0 rfl rfl 5 (by decide) (ht _ q124) (fun _ h9 => h9) rfl (by decide +kernel) (zbn (by omega)) (zbf (by omega)) (Nat.le_of_ble_eq_true rfl) d_Pr_doFieldWork_593 (fun H locs hP hD hS => ?_)
      have hP : va_P D vCl (wP ad ca me nu ro un li pt st 0 pl bk en kc) H := hP
      have hD : va_D A (wP ad ca me nu ro un li pt st 0 pl bk en kc) := hD
      refine lv_goto (tgt := 622) hx hb d_Pr_doFieldWork_596 (by decide) ?_
      exact zret_v C0 hr hAe hP hD hS (by rw [show fwC 29 un li nu = 0 from if_neg h33]; rfl) d_Pr_doFieldWork_622
    · skip
      have h33 : (lN (pr un li (nu 2)) = lN 0) := (lg_cmp_eq _ _).mp h33
      have h33 : ((pr un li (nu 2)) = 0) := (pk_lEQ (by omega) (by omega)).mp h33
      refine lv_iconst (v := nI 1) hx hb d_Pr_doFieldWork_588 (by decide) ?_
      refine lv_goto (tgt := 593) hx hb d_Pr_doFieldWork_589 (by decide) ?_
      refine va_put (D := D) (ci := 1) (v := .int (nI 1)) (ty := .boolean) (C := RPr) (T := TPr) (N := 9) hx hb ht inPr tyPr tyPr_ok nmPr hown hK hP hD hS 0 rfl rfl 5 (by decide) (ht _ q124) (fun _ h9 => h9) rfl (by decide +kernel) (zbn (by omega)) (zbf (by omega)) (Nat.le_of_ble_eq_true rfl) d_Pr_doFieldWork_593 (fun H locs hP hD hS => ?_)
      have hP : va_P D vCl (wP ad ca me nu ro un li pt st 1 pl bk en kc) H := hP
      have hD : va_D A (wP ad ca me nu ro un li pt st 1 pl bk en kc) := hD
      refine lv_goto (tgt := 622) hx hb d_Pr_doFieldWork_596 (by decide) ?_
      exact zret_v C0 hr hAe hP hD hS (by rw [show fwC 29 un li nu = 1 from if_pos h33]; rfl) d_Pr_doFieldWork_622
  · skip
    refine lv_iload_n hx hb d_Pr_doFieldWork_0 rfl (lv_at hl 1 rfl) ?_
    refine lv_tableIn (off := 598) (tgt := 599) hx hb d_Pr_doFieldWork_1 (by decide) (by decide) (by decide) (by decide) ?_
    refine lv_aload_n hx hb d_Pr_doFieldWork_599 rfl (lv_at hl 0 rfl) ?_
    refine lv_iconst (v := nI 2) hx hb d_Pr_doFieldWork_600 (by decide) ?_
    refine lv_lload hx hb d_Pr_doFieldWork_601 (lv_at hl 4 rfl) ?_
    refine lv_lload hx hb d_Pr_doFieldWork_603 (lv_at hl 4 rfl) ?_
    refine lv_ladd hx hb d_Pr_doFieldWork_605 ?_
    refine ztl (y := lN ((pr un li (nu 2)) + (pr un li (nu 2)))) (lN_add _ _) ?_
    refine ztl (y := Int64.ofInt ((((pr un li (nu 2)) + (pr un li (nu 2)) : Nat) : Int))) lN_int ?_
    refine zgo_v (wr := []) C0 (zrunV (na := 2) (As := [.int (nI 2), .long (Int64.ofInt (((pr un li (nu 2)) + (pr un li (nu 2)) : Nat) : Int))]) (rest := []) C0 hP hD hS [0, 1, 2, 3, 4, 5] rfl rfl (m_Pr_putResult l D ca k s.heap.size ad me nu ro un li pt st 0 pl bk en kc 2 (((pr un li (nu 2)) + (pr un li (nu 2)) : Nat) : Int) (by omega) (by omega) (by omega) hn hu hu2 hl0 hl2) (zg_V q531 q533 q823 q4 q534) (by decide +kernel) rfl rfl ⟨by decide, by decide⟩ 0 rfl rfl rfl hl.1 rfl (Nat.le_of_ble_eq_true rfl) d_Pr_doFieldWork_606 ⟨Nat.zero_le _, Nat.zero_le _⟩) hP hD hS [0, 1, 2, 3, 4, 5] [] rfl rfl (by decide) (by decide) (fun w1 H locs hw hP hD hS => ?_)
    obtain rfl := hw
    have hP : va_P D vCl (wP ad ca me (wr un li nu 2 (rz li (((pr un li (nu 2)) + (pr un li (nu 2)) : Nat) : Int))) ro un li pt st (rc li (((pr un li (nu 2)) + (pr un li (nu 2)) : Nat) : Int)) pl bk en kc) H := hP
    have hD : va_D A (wP ad ca me (wr un li nu 2 (rz li (((pr un li (nu 2)) + (pr un li (nu 2)) : Nat) : Int))) ro un li pt st (rc li (((pr un li (nu 2)) + (pr un li (nu 2)) : Nat) : Int)) pl bk en kc) := hD
    refine lv_goto (tgt := 622) hx hb d_Pr_doFieldWork_609 (by decide) ?_
    exact zret_v C0 hr hAe hP hD hS rfl d_Pr_doFieldWork_622
  · skip
    refine lv_iload_n hx hb d_Pr_doFieldWork_0 rfl (lv_at hl 1 rfl) ?_
    refine lv_tableOut (tgt := 612) hx hb d_Pr_doFieldWork_1 (by decide) (by decide) ?_
    refine lv_aload_n hx hb d_Pr_doFieldWork_612 rfl (lv_at hl 0 rfl) ?_
    refine va_get (D := D) (ci := 1) (v := .ref (ad 8)) (C := RPr) (T := TPr) (N := 9) hx hb ht inPr hown hK hP 0 rfl rfl 1 (by decide) (ht _ q116) (fun _ h9 => h9) rfl d_Pr_doFieldWork_613 ?_
    refine lv_iconst (v := nI 0) hx hb d_Pr_doFieldWork_616 (by decide) ?_
    refine lv_lload hx hb d_Pr_doFieldWork_617 (lv_at hl 4 rfl) ?_
    refine zgo_v (wr := []) C0 (zrunV (na := 2) (As := [.int (nI 0), .long (lN (pr un li (nu 2)))]) (rest := []) C0 hP hD hS [0, 1, 2, 3, 4, 5] rfl rfl (m_Re_putPart l D ca k s.heap.size ad me nu ro un li pt st 0 pl bk en kc 0 (pr un li (nu 2)) (by omega) hn hu hu2 hl0 hl2) (zg_V q490 q491 q492 q5 q493) (by decide +kernel) rfl rfl ⟨by decide, by decide⟩ 2 rfl rfl rfl hl.1 rfl (Nat.le_of_ble_eq_true rfl) d_Pr_doFieldWork_619 ⟨Nat.zero_le _, Nat.zero_le _⟩) hP hD hS [0, 1, 2, 3, 4, 5] [] rfl rfl (by decide) (by decide) (fun w1 H locs hw hP hD hS => ?_)
    obtain rfl := hw
    have hP : va_P D vCl (wP ad ca me (wr un li nu 0 (pr un li (nu 2))) ro un li pt st 0 pl bk en kc) H := hP
    have hD : va_D A (wP ad ca me (wr un li nu 0 (pr un li (nu 2))) ro un li pt st 0 pl bk en kc) := hD
    exact zret_v C0 hr hAe hP hD hS rfl d_Pr_doFieldWork_622
