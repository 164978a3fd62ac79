set_option maxHeartbeats 4000000 in
set_option maxRecDepth 100000 in
theorem m_Mo_take (l : Launch) (D : va_G) (ca : Nat → ClassId) (k : Nat → Nat) (sz : Nat) (ad : Nat → Nat) (cd : Nat) (po nu : Nat → Nat) (pt : Nat) (st : Int32) (cy pl bk : Nat) (me : Nat → Nat) (kc : Nat) (ro : Nat → Nat) (en un li tn : Nat) (tx : Nat → Nat) (ia : Int32) (ct : Nat) (md : Nat → Nat) (lb wn : Nat → Int32) (a0 e0 : Nat) (hae : a0 < e0) (he : e0 ≤ 240) (hct : ct ≤ 64) (htx : ∀ j, tx j < 127) : Met l y_Mo_take (zw y_Mo_take c_Mo_take 6 (some .boolean)) { frames := 2, cells := 0, slots := 0, locals := 52 } (va_Pc [.ref (ad 12), .int (nI a0), .int (nI e0)] (zPre D (zty ca) k (wM ad ca cd po nu pt st cy pl bk me kc ro en un li tn tx ia ct md lb wn) sz)) (va_Qi (fun r w => (∃ T, tM tx a0 e0 (lb, ct, md, wn) = some T ∧ r = nI 1 ∧ w = wM ad ca cd po nu pt st cy pl bk me kc ro en un li tn tx ia ((T).2.1) ((T).2.2.1) ((T).1) ((T).2.2.2)) ∨ (tM tx a0 e0 (lb, ct, md, wn) = none ∧ r = nI 0 ∧ w = wM ad ca cd po nu pt st cy pl bk me kc ro en un li tn tx ia ct md lb wn)) (zB D (zty ca) (wM ad ca cd po nu pt st cy pl bk me kc ro en un li tn tx ia ct md lb wn) sz) (va_A (wM ad ca cd po nu pt st cy pl bk me kc ro en un li tn tx ia ct md lb wn) sz)) 0 0 (va_A (wM ad ca cd po nu pt st cy pl bk me kc ro en un li tn tx ia ct md lb wn) sz) := by
  refine zOf (own := "DigitChipModel") (by decide +kernel) rfl (Nat.le_of_ble_eq_true rfl) ?_
  intro p e s m below meth c A ls C0 hr hnm hAe hsz hl hP hD hS
  have hl : lv_has ls 6 [(0, .ref (ad 12)), (1, .int (nI a0)), (2, .int (nI e0))] := hl
  obtain ⟨hx, hb, hml, hown, ht, hK, hX, hA, hlk⟩ := id C0
  have ht0 := htx a0
  have ht1 := htx (a0 + 1)
  refine lv_iload_n hx hb d_Mo_take_0 rfl (lv_at hl 2 rfl) ?_
  refine lv_iload_n hx hb d_Mo_take_1 rfl (lv_at hl 1 rfl) ?_
  refine lv_isub hx hb d_Mo_take_2 ?_
  refine zti (y := nI (e0 - a0)) (pk_sub (by omega)) ?_
  refine lv_iconst (v := nI 2) hx hb d_Mo_take_3 (by decide) ?_
  refine lv_icmp_ne (tgt := 47) hx hb d_Mo_take_4 (by decide) (fun h1 => ?_) (fun h1 => ?_)
  · skip
    have h1 : ¬ ((e0 - a0) = 2) := fun z => h1 ((nI_eq (by omega) (by omega)).mpr z)
    refine lv_iconst (v := (-1)) hx hb d_Mo_take_47 (by decide) ?_
    refine lv_istore_n hx hb d_Mo_take_48 rfl hl (by decide) rfl (fun ls hl => ?_)
    have hl : lv_has ls 6 [(3, .int (-1)), (0, .ref (ad 12)), (1, .int (nI a0)), (2, .int (nI e0))] := hl
    refine lv_iload_n hx hb d_Mo_take_49 rfl (lv_at hl 0 rfl) ?_
    refine lv_if_lt (tgt := 87) hx hb d_Mo_take_50 (by decide) (fun _ => ?_) (fun h2 => absurd (by decide) h2)
    refine lv_iload_n hx hb d_Mo_take_87 rfl (lv_at hl 0 rfl) ?_
    refine lv_if_lt (tgt := 117) hx hb d_Mo_take_88 (by decide) (fun _ => ?_) (fun h3 => absurd (by decide) h3)
    refine lv_iconst (v := nI 0) hx hb d_Mo_take_117 (by decide) ?_
    refine lv_istore hx hb d_Mo_take_118 hl (by decide) rfl (fun ls hl => ?_)
    have hl : lv_has ls 6 [(4, .int (nI 0)), (3, .int (-1)), (0, .ref (ad 12)), (1, .int (nI a0)), (2, .int (nI e0))] := hl
    refine lv_iload hx hb d_Mo_take_120 (lv_at hl 0 rfl) ?_
    refine lv_if_ne (tgt := 134) hx hb d_Mo_take_122 (by decide) (fun h4 => absurd (by decide) h4) (fun _ => ?_)
    refine lv_aload_n hx hb d_Mo_take_125 rfl (lv_at hl 2 rfl) ?_
    refine lv_iload_n hx hb d_Mo_take_126 rfl (lv_at hl 3 rfl) ?_
    refine lv_iload_n hx hb d_Mo_take_127 rfl (lv_at hl 4 rfl) ?_
    refine zgo_i (wr := []) C0 (zrunV (na := 2) (As := [.int (nI a0), .int (nI e0)]) (rest := []) C0 hP hD hS [0, 1, 2, 3, 4, 5, 6, 7, 8] rfl rfl (m_Mo_wordOf l D ca k s.heap.size ad cd po nu pt st cy pl bk me kc ro en un li tn tx ia ct md lb wn a0 e0 (by omega) (by omega) htx) (zg_V q678 q680 q837 q7 q681) (by decide +kernel) rfl rfl ⟨by decide, by decide⟩ 0 rfl rfl rfl hl.1 rfl (Nat.le_of_ble_eq_true rfl) d_Mo_take_128 ⟨Nat.zero_le _, Nat.zero_le _⟩) hP hD hS [0, 1, 2, 3, 4, 5, 6, 7, 8] [] rfl rfl (by decide) (by decide) (fun r5 w1 H locs hw hP hD hS => ?_)
    rcases hw with ⟨m5, hf5, hm5, rfl, rfl⟩ | ⟨hf5, rfl, rfl⟩
    · skip
      have hP : va_P D vCl (wM ad ca cd po nu pt st cy pl bk me kc ro en un li tn tx ia ct md lb wn) H := hP
      have hD : va_D A (wM ad ca cd po nu pt st cy pl bk me kc ro en un li tn tx ia ct md lb wn) := hD
      refine lv_goto (tgt := 150) hx hb d_Mo_take_131 (by decide) ?_
      refine lv_istore hx hb d_Mo_take_150 hl (by decide) rfl (fun ls hl => ?_)
      have hl : lv_has ls 6 [(5, .int (nI m5)), (4, .int (nI 0)), (3, .int (-1)), (0, .ref (ad 12)), (1, .int (nI a0)), (2, .int (nI e0))] := hl
      refine lv_iload hx hb d_Mo_take_152 (lv_at hl 0 rfl) ?_
      refine lv_if_lt (tgt := 166) hx hb d_Mo_take_154 (by decide) (fun h6 => (nI_pos (by omega) h6).elim) (fun _ => ?_)
      refine lv_aload_n hx hb d_Mo_take_157 rfl (lv_at hl 3 rfl) ?_
      refine va_get (D := D) (ci := 5) (v := .int (nI ct)) (C := RMo) (T := TMo) (N := 21) hx hb ht inMo hown hK hP 0 rfl rfl 17 (by decide) (ht _ q563) (fun _ h9 => h9) rfl d_Mo_take_158 ?_
      refine lv_bipush (v := nI 64) hx hb d_Mo_take_161 (by decide) ?_
      refine lv_icmp_ne (tgt := 168) hx hb d_Mo_take_163 (by decide) (fun h7 => ?_) (fun h7 => ?_)
      · skip
        have h7 : ¬ (ct = 64) := fun z => h7 ((nI_eq (by omega) (by omega)).mpr z)
        refine lv_aload_n hx hb d_Mo_take_168 rfl (lv_at hl 3 rfl) ?_
        refine va_get (D := D) (ci := 5) (v := .ref (ad 20)) (C := RMo) (T := TMo) (N := 21) hx hb ht inMo hown hK hP 0 rfl rfl 20 (by decide) (ht _ q566) (fun _ h9 => h9) rfl d_Mo_take_169 ?_
        refine lv_aload_n hx hb d_Mo_take_172 rfl (lv_at hl 3 rfl) ?_
        refine va_get (D := D) (ci := 5) (v := .int (nI ct)) (C := RMo) (T := TMo) (N := 21) hx hb ht inMo hown hK hP 0 rfl rfl 17 (by decide) (ht _ q563) (fun _ h9 => h9) rfl d_Mo_take_173 ?_
        refine lv_iload hx hb d_Mo_take_176 (lv_at hl 1 rfl) ?_
        refine lv_if_eq (tgt := 185) hx hb d_Mo_take_178 (by decide) (fun _ => ?_) (fun h8 => absurd (by decide) h8)
        refine lv_iconst (v := (-1)) hx hb d_Mo_take_185 (by decide) ?_
        refine va_iast hx hb hK hP hD hS 8 0 rfl rfl (vp_in_nI (n := ct) (by omega) (by decide)) d_Mo_take_186 (fun H locs hP hD hS => ?_)
        rw [rF_up (by omega)] at hP hD
        have hP : va_P D vCl (wM ad ca cd po nu pt st cy pl bk me kc ro en un li tn tx ia ct md lb (upd wn ct (-1))) H := hP
        have hD : va_D A (wM ad ca cd po nu pt st cy pl bk me kc ro en un li tn tx ia ct md lb (upd wn ct (-1))) := hD
        refine lv_aload_n hx hb d_Mo_take_187 rfl (lv_at hl 3 rfl) ?_
        refine va_get (D := D) (ci := 5) (v := .ref (ad 18)) (C := RMo) (T := TMo) (N := 21) hx hb ht inMo hown hK hP 0 rfl rfl 18 (by decide) (ht _ q564) (fun _ h9 => h9) rfl d_Mo_take_188 ?_
        refine lv_aload_n hx hb d_Mo_take_191 rfl (lv_at hl 3 rfl) ?_
        refine va_get (D := D) (ci := 5) (v := .int (nI ct)) (C := RMo) (T := TMo) (N := 21) hx hb ht inMo hown hK hP 0 rfl rfl 17 (by decide) (ht _ q563) (fun _ h9 => h9) rfl d_Mo_take_192 ?_
        refine lv_iload hx hb d_Mo_take_195 (lv_at hl 0 rfl) ?_
        refine va_iast hx hb hK hP hD hS 6 0 rfl rfl (vp_in_nI (n := ct) (by omega) (by decide)) d_Mo_take_197 (fun H locs hP hD hS => ?_)
        rw [nF_up (by omega)] at hP hD
        have hP : va_P D vCl (wM ad ca cd po nu pt st cy pl bk me kc ro en un li tn tx ia ct (uN md ct m5) lb (upd wn ct (-1))) H := hP
        have hD : va_D A (wM ad ca cd po nu pt st cy pl bk me kc ro en un li tn tx ia ct (uN md ct m5) lb (upd wn ct (-1))) := hD
        refine lv_aload_n hx hb d_Mo_take_198 rfl (lv_at hl 3 rfl) ?_
        refine lv_dup hx hb d_Mo_take_199 rfl ?_
        refine va_get (D := D) (ci := 5) (v := .int (nI ct)) (C := RMo) (T := TMo) (N := 21) hx hb ht inMo hown hK hP 0 rfl rfl 17 (by decide) (ht _ q563) (fun _ h9 => h9) rfl d_Mo_take_200 ?_
        refine lv_iconst (v := nI 1) hx hb d_Mo_take_203 (by decide) ?_
        refine lv_iadd hx hb d_Mo_take_204 ?_
        refine zti (y := nI (ct + 1)) (nI_add _ _) ?_
        refine va_put (D := D) (ci := 5) (v := .int (nI (ct + 1))) (ty := .int) (C := RMo) (T := TMo) (N := 21) hx hb ht inMo tyMo tyMo_ok nmMo hown hK hP hD hS 0 rfl rfl 17 (by decide) (ht _ q563) (fun _ h9 => h9) rfl (by decide +kernel) rfl rfl (Nat.le_of_ble_eq_true rfl) d_Mo_take_205 (fun H locs hP hD hS => ?_)
        have hP : va_P D vCl (wM ad ca cd po nu pt st cy pl bk me kc ro en un li tn tx ia (ct + 1) (uN md ct m5) lb (upd wn ct (-1))) H := hP
        have hD : va_D A (wM ad ca cd po nu pt st cy pl bk me kc ro en un li tn tx ia (ct + 1) (uN md ct m5) lb (upd wn ct (-1))) := hD
        refine lv_iconst (v := nI 1) hx hb d_Mo_take_208 (by decide) ?_
        exact zret_z C0 hr (zbn (by omega)) hAe hP hD hS (Or.inl ⟨_, by unfold tM; rw [lM_n (by omega)]; dsimp only; unfold wdM; rw [hf5]; dsimp only; unfold puM; rw [if_neg h7], rfl, rfl⟩) d_Mo_take_209
      · skip
        have h7 : (ct = 64) := (nI_eq (by omega) (by omega)).mp h7
        refine lv_iconst (v := nI 0) hx hb d_Mo_take_166 (by decide) ?_
        exact zret_z C0 hr (zbn (by omega)) hAe hP hD hS (Or.inr ⟨by unfold tM; rw [lM_n (by omega)]; dsimp only; unfold wdM; rw [hf5]; dsimp only; unfold puM; rw [if_pos h7], rfl, rfl⟩) d_Mo_take_167
    · skip
      have hP : va_P D vCl (wM ad ca cd po nu pt st cy pl bk me kc ro en un li tn tx ia ct md lb wn) H := hP
      have hD : va_D A (wM ad ca cd po nu pt st cy pl bk me kc ro en un li tn tx ia ct md lb wn) := hD
      refine lv_goto (tgt := 150) hx hb d_Mo_take_131 (by decide) ?_
      refine lv_istore hx hb d_Mo_take_150 hl (by decide) rfl (fun ls hl => ?_)
      have hl : lv_has ls 6 [(5, .int (-1)), (4, .int (nI 0)), (3, .int (-1)), (0, .ref (ad 12)), (1, .int (nI a0)), (2, .int (nI e0))] := hl
      refine lv_iload hx hb d_Mo_take_152 (lv_at hl 0 rfl) ?_
      refine lv_if_lt (tgt := 166) hx hb d_Mo_take_154 (by decide) (fun _ => ?_) (fun h9 => absurd (by decide) h9)
      refine lv_iconst (v := nI 0) hx hb d_Mo_take_166 (by decide) ?_
      exact zret_z C0 hr (zbn (by omega)) hAe hP hD hS (Or.inr ⟨by unfold tM; rw [lM_n (by omega)]; dsimp only; unfold wdM; rw [hf5], rfl, rfl⟩) d_Mo_take_167
  · skip
    have h1 : ((e0 - a0) = 2) := (nI_eq (by omega) (by omega)).mp h1
    refine lv_aload_n hx hb d_Mo_take_7 rfl (lv_at hl 0 rfl) ?_
    refine va_get (D := D) (ci := 5) (v := .ref (ad 17)) (C := RMo) (T := TMo) (N := 21) hx hb ht inMo hown hK hP 0 rfl rfl 15 (by decide) (ht _ q561) (fun _ h9 => h9) rfl d_Mo_take_8 ?_
    refine lv_iload_n hx hb d_Mo_take_11 rfl (lv_at hl 1 rfl) ?_
    refine lv_iconst (v := nI 1) hx hb d_Mo_take_12 (by decide) ?_
    refine lv_iadd hx hb d_Mo_take_13 ?_
    refine zti (y := nI (a0 + 1)) (nI_add _ _) ?_
    refine va_cald hx hb hK hP 5 2 rfl rfl (vp_in_nI (n := a0 + 1) (by omega) (by decide)) d_Mo_take_14 ?_
    refine zti (y := nI (tx (a0 + 1))) (nF_at (by omega)) ?_
    refine lv_bipush (v := nI 97) hx hb d_Mo_take_15 (by decide) ?_
    refine lv_icmp_lt (tgt := 47) hx hb d_Mo_take_17 (by decide) (fun h10 => ?_) (fun h10 => ?_)
    · skip
      have h10 : ((tx (a0 + 1)) < 97) := (nI_ltI (by omega) (by omega)).mp h10
      refine lv_iconst (v := (-1)) hx hb d_Mo_take_47 (by decide) ?_
      refine lv_istore_n hx hb d_Mo_take_48 rfl hl (by decide) rfl (fun ls hl => ?_)
      have hl : lv_has ls 6 [(3, .int (-1)), (0, .ref (ad 12)), (1, .int (nI a0)), (2, .int (nI e0))] := hl
      refine lv_iload_n hx hb d_Mo_take_49 rfl (lv_at hl 0 rfl) ?_
      refine lv_if_lt (tgt := 87) hx hb d_Mo_take_50 (by decide) (fun _ => ?_) (fun h11 => absurd (by decide) h11)
      refine lv_iload_n hx hb d_Mo_take_87 rfl (lv_at hl 0 rfl) ?_
      refine lv_if_lt (tgt := 117) hx hb d_Mo_take_88 (by decide) (fun _ => ?_) (fun h12 => absurd (by decide) h12)
      refine lv_iconst (v := nI 0) hx hb d_Mo_take_117 (by decide) ?_
      refine lv_istore hx hb d_Mo_take_118 hl (by decide) rfl (fun ls hl => ?_)
      have hl : lv_has ls 6 [(4, .int (nI 0)), (3, .int (-1)), (0, .ref (ad 12)), (1, .int (nI a0)), (2, .int (nI e0))] := hl
      refine lv_iload hx hb d_Mo_take_120 (lv_at hl 0 rfl) ?_
      refine lv_if_ne (tgt := 134) hx hb d_Mo_take_122 (by decide) (fun h13 => absurd (by decide) h13) (fun _ => ?_)
      refine lv_aload_n hx hb d_Mo_take_125 rfl (lv_at hl 2 rfl) ?_
      refine lv_iload_n hx hb d_Mo_take_126 rfl (lv_at hl 3 rfl) ?_
      refine lv_iload_n hx hb d_Mo_take_127 rfl (lv_at hl 4 rfl) ?_
      refine zgo_i (wr := []) C0 (zrunV (na := 2) (As := [.int (nI a0), .int (nI e0)]) (rest := []) C0 hP hD hS [0, 1, 2, 3, 4, 5, 6, 7, 8] rfl rfl (m_Mo_wordOf l D ca k s.heap.size ad cd po nu pt st cy pl bk me kc ro en un li tn tx ia ct md lb wn a0 e0 (by omega) (by omega) htx) (zg_V q678 q680 q837 q7 q681) (by decide +kernel) rfl rfl ⟨by decide, by decide⟩ 0 rfl rfl rfl hl.1 rfl (Nat.le_of_ble_eq_true rfl) d_Mo_take_128 ⟨Nat.zero_le _, Nat.zero_le _⟩) hP hD hS [0, 1, 2, 3, 4, 5, 6, 7, 8] [] rfl rfl (by decide) (by decide) (fun r14 w1 H locs hw hP hD hS => ?_)
      rcases hw with ⟨m14, hf14, hm14, rfl, rfl⟩ | ⟨hf14, rfl, rfl⟩
      · skip
        have hP : va_P D vCl (wM ad ca cd po nu pt st cy pl bk me kc ro en un li tn tx ia ct md lb wn) H := hP
        have hD : va_D A (wM ad ca cd po nu pt st cy pl bk me kc ro en un li tn tx ia ct md lb wn) := hD
        refine lv_goto (tgt := 150) hx hb d_Mo_take_131 (by decide) ?_
        refine lv_istore hx hb d_Mo_take_150 hl (by decide) rfl (fun ls hl => ?_)
        have hl : lv_has ls 6 [(5, .int (nI m14)), (4, .int (nI 0)), (3, .int (-1)), (0, .ref (ad 12)), (1, .int (nI a0)), (2, .int (nI e0))] := hl
        refine lv_iload hx hb d_Mo_take_152 (lv_at hl 0 rfl) ?_
        refine lv_if_lt (tgt := 166) hx hb d_Mo_take_154 (by decide) (fun h15 => (nI_pos (by omega) h15).elim) (fun _ => ?_)
        refine lv_aload_n hx hb d_Mo_take_157 rfl (lv_at hl 3 rfl) ?_
        refine va_get (D := D) (ci := 5) (v := .int (nI ct)) (C := RMo) (T := TMo) (N := 21) hx hb ht inMo hown hK hP 0 rfl rfl 17 (by decide) (ht _ q563) (fun _ h9 => h9) rfl d_Mo_take_158 ?_
        refine lv_bipush (v := nI 64) hx hb d_Mo_take_161 (by decide) ?_
        refine lv_icmp_ne (tgt := 168) hx hb d_Mo_take_163 (by decide) (fun h16 => ?_) (fun h16 => ?_)
        · skip
          have h16 : ¬ (ct = 64) := fun z => h16 ((nI_eq (by omega) (by omega)).mpr z)
          refine lv_aload_n hx hb d_Mo_take_168 rfl (lv_at hl 3 rfl) ?_
          refine va_get (D := D) (ci := 5) (v := .ref (ad 20)) (C := RMo) (T := TMo) (N := 21) hx hb ht inMo hown hK hP 0 rfl rfl 20 (by decide) (ht _ q566) (fun _ h9 => h9) rfl d_Mo_take_169 ?_
          refine lv_aload_n hx hb d_Mo_take_172 rfl (lv_at hl 3 rfl) ?_
          refine va_get (D := D) (ci := 5) (v := .int (nI ct)) (C := RMo) (T := TMo) (N := 21) hx hb ht inMo hown hK hP 0 rfl rfl 17 (by decide) (ht _ q563) (fun _ h9 => h9) rfl d_Mo_take_173 ?_
          refine lv_iload hx hb d_Mo_take_176 (lv_at hl 1 rfl) ?_
          refine lv_if_eq (tgt := 185) hx hb d_Mo_take_178 (by decide) (fun _ => ?_) (fun h17 => absurd (by decide) h17)
          refine lv_iconst (v := (-1)) hx hb d_Mo_take_185 (by decide) ?_
          refine va_iast hx hb hK hP hD hS 8 0 rfl rfl (vp_in_nI (n := ct) (by omega) (by decide)) d_Mo_take_186 (fun H locs hP hD hS => ?_)
          rw [rF_up (by omega)] at hP hD
          have hP : va_P D vCl (wM ad ca cd po nu pt st cy pl bk me kc ro en un li tn tx ia ct md lb (upd wn ct (-1))) H := hP
          have hD : va_D A (wM ad ca cd po nu pt st cy pl bk me kc ro en un li tn tx ia ct md lb (upd wn ct (-1))) := hD
          refine lv_aload_n hx hb d_Mo_take_187 rfl (lv_at hl 3 rfl) ?_
          refine va_get (D := D) (ci := 5) (v := .ref (ad 18)) (C := RMo) (T := TMo) (N := 21) hx hb ht inMo hown hK hP 0 rfl rfl 18 (by decide) (ht _ q564) (fun _ h9 => h9) rfl d_Mo_take_188 ?_
          refine lv_aload_n hx hb d_Mo_take_191 rfl (lv_at hl 3 rfl) ?_
          refine va_get (D := D) (ci := 5) (v := .int (nI ct)) (C := RMo) (T := TMo) (N := 21) hx hb ht inMo hown hK hP 0 rfl rfl 17 (by decide) (ht _ q563) (fun _ h9 => h9) rfl d_Mo_take_192 ?_
          refine lv_iload hx hb d_Mo_take_195 (lv_at hl 0 rfl) ?_
          refine va_iast hx hb hK hP hD hS 6 0 rfl rfl (vp_in_nI (n := ct) (by omega) (by decide)) d_Mo_take_197 (fun H locs hP hD hS => ?_)
          rw [nF_up (by omega)] at hP hD
          have hP : va_P D vCl (wM ad ca cd po nu pt st cy pl bk me kc ro en un li tn tx ia ct (uN md ct m14) lb (upd wn ct (-1))) H := hP
          have hD : va_D A (wM ad ca cd po nu pt st cy pl bk me kc ro en un li tn tx ia ct (uN md ct m14) lb (upd wn ct (-1))) := hD
          refine lv_aload_n hx hb d_Mo_take_198 rfl (lv_at hl 3 rfl) ?_
          refine lv_dup hx hb d_Mo_take_199 rfl ?_
          refine va_get (D := D) (ci := 5) (v := .int (nI ct)) (C := RMo) (T := TMo) (N := 21) hx hb ht inMo hown hK hP 0 rfl rfl 17 (by decide) (ht _ q563) (fun _ h9 => h9) rfl d_Mo_take_200 ?_
          refine lv_iconst (v := nI 1) hx hb d_Mo_take_203 (by decide) ?_
          refine lv_iadd hx hb d_Mo_take_204 ?_
          refine zti (y := nI (ct + 1)) (nI_add _ _) ?_
          refine va_put (D := D) (ci := 5) (v := .int (nI (ct + 1))) (ty := .int) (C := RMo) (T := TMo) (N := 21) hx hb ht inMo tyMo tyMo_ok nmMo hown hK hP hD hS 0 rfl rfl 17 (by decide) (ht _ q563) (fun _ h9 => h9) rfl (by decide +kernel) rfl rfl (Nat.le_of_ble_eq_true rfl) d_Mo_take_205 (fun H locs hP hD hS => ?_)
          have hP : va_P D vCl (wM ad ca cd po nu pt st cy pl bk me kc ro en un li tn tx ia (ct + 1) (uN md ct m14) lb (upd wn ct (-1))) H := hP
          have hD : va_D A (wM ad ca cd po nu pt st cy pl bk me kc ro en un li tn tx ia (ct + 1) (uN md ct m14) lb (upd wn ct (-1))) := hD
          refine lv_iconst (v := nI 1) hx hb d_Mo_take_208 (by decide) ?_
          exact zret_z C0 hr (zbn (by omega)) hAe hP hD hS (Or.inl ⟨_, by unfold tM; rw [lM_n (by omega)]; dsimp only; unfold wdM; rw [hf14]; dsimp only; unfold puM; rw [if_neg h16], rfl, rfl⟩) d_Mo_take_209
        · skip
          have h16 : (ct = 64) := (nI_eq (by omega) (by omega)).mp h16
          refine lv_iconst (v := nI 0) hx hb d_Mo_take_166 (by decide) ?_
          exact zret_z C0 hr (zbn (by omega)) hAe hP hD hS (Or.inr ⟨by unfold tM; rw [lM_n (by omega)]; dsimp only; unfold wdM; rw [hf14]; dsimp only; unfold puM; rw [if_pos h16], rfl, rfl⟩) d_Mo_take_167
      · skip
        have hP : va_P D vCl (wM ad ca cd po nu pt st cy pl bk me kc ro en un li tn tx ia ct md lb wn) H := hP
        have hD : va_D A (wM ad ca cd po nu pt st cy pl bk me kc ro en un li tn tx ia ct md lb wn) := hD
        refine lv_goto (tgt := 150) hx hb d_Mo_take_131 (by decide) ?_
        refine lv_istore hx hb d_Mo_take_150 hl (by decide) rfl (fun ls hl => ?_)
        have hl : lv_has ls 6 [(5, .int (-1)), (4, .int (nI 0)), (3, .int (-1)), (0, .ref (ad 12)), (1, .int (nI a0)), (2, .int (nI e0))] := hl
        refine lv_iload hx hb d_Mo_take_152 (lv_at hl 0 rfl) ?_
        refine lv_if_lt (tgt := 166) hx hb d_Mo_take_154 (by decide) (fun _ => ?_) (fun h18 => absurd (by decide) h18)
        refine lv_iconst (v := nI 0) hx hb d_Mo_take_166 (by decide) ?_
        exact zret_z C0 hr (zbn (by omega)) hAe hP hD hS (Or.inr ⟨by unfold tM; rw [lM_n (by omega)]; dsimp only; unfold wdM; rw [hf14], rfl, rfl⟩) d_Mo_take_167
    · skip
      have h10 : ¬ ((tx (a0 + 1)) < 97) := fun z => h10 ((nI_ltI (by omega) (by omega)).mpr z)
      refine lv_aload_n hx hb d_Mo_take_20 rfl (lv_at hl 0 rfl) ?_
      refine va_get (D := D) (ci := 5) (v := .ref (ad 17)) (C := RMo) (T := TMo) (N := 21) hx hb ht inMo hown hK hP 0 rfl rfl 15 (by decide) (ht _ q561) (fun _ h9 => h9) rfl d_Mo_take_21 ?_
      refine lv_iload_n hx hb d_Mo_take_24 rfl (lv_at hl 1 rfl) ?_
      refine lv_iconst (v := nI 1) hx hb d_Mo_take_25 (by decide) ?_
      refine lv_iadd hx hb d_Mo_take_26 ?_
      refine zti (y := nI (a0 + 1)) (nI_add _ _) ?_
      refine va_cald hx hb hK hP 5 2 rfl rfl (vp_in_nI (n := a0 + 1) (by omega) (by decide)) d_Mo_take_27 ?_
      refine zti (y := nI (tx (a0 + 1))) (nF_at (by omega)) ?_
      refine lv_bipush (v := nI 122) hx hb d_Mo_take_28 (by decide) ?_
      refine lv_icmp_gt (tgt := 47) hx hb d_Mo_take_30 (by decide) (fun h19 => ?_) (fun h19 => ?_)
      · skip
        have h19 : (122 < (tx (a0 + 1))) := (nI_ltI (by omega) (by omega)).mp h19
        refine lv_iconst (v := (-1)) hx hb d_Mo_take_47 (by decide) ?_
        refine lv_istore_n hx hb d_Mo_take_48 rfl hl (by decide) rfl (fun ls hl => ?_)
        have hl : lv_has ls 6 [(3, .int (-1)), (0, .ref (ad 12)), (1, .int (nI a0)), (2, .int (nI e0))] := hl
        refine lv_iload_n hx hb d_Mo_take_49 rfl (lv_at hl 0 rfl) ?_
        refine lv_if_lt (tgt := 87) hx hb d_Mo_take_50 (by decide) (fun _ => ?_) (fun h20 => absurd (by decide) h20)
        refine lv_iload_n hx hb d_Mo_take_87 rfl (lv_at hl 0 rfl) ?_
        refine lv_if_lt (tgt := 117) hx hb d_Mo_take_88 (by decide) (fun _ => ?_) (fun h21 => absurd (by decide) h21)
        refine lv_iconst (v := nI 0) hx hb d_Mo_take_117 (by decide) ?_
        refine lv_istore hx hb d_Mo_take_118 hl (by decide) rfl (fun ls hl => ?_)
        have hl : lv_has ls 6 [(4, .int (nI 0)), (3, .int (-1)), (0, .ref (ad 12)), (1, .int (nI a0)), (2, .int (nI e0))] := hl
        refine lv_iload hx hb d_Mo_take_120 (lv_at hl 0 rfl) ?_
        refine lv_if_ne (tgt := 134) hx hb d_Mo_take_122 (by decide) (fun h22 => absurd (by decide) h22) (fun _ => ?_)
        refine lv_aload_n hx hb d_Mo_take_125 rfl (lv_at hl 2 rfl) ?_
        refine lv_iload_n hx hb d_Mo_take_126 rfl (lv_at hl 3 rfl) ?_
        refine lv_iload_n hx hb d_Mo_take_127 rfl (lv_at hl 4 rfl) ?_
        refine zgo_i (wr := []) C0 (zrunV (na := 2) (As := [.int (nI a0), .int (nI e0)]) (rest := []) C0 hP hD hS [0, 1, 2, 3, 4, 5, 6, 7, 8] rfl rfl (m_Mo_wordOf l D ca k s.heap.size ad cd po nu pt st cy pl bk me kc ro en un li tn tx ia ct md lb wn a0 e0 (by omega) (by omega) htx) (zg_V q678 q680 q837 q7 q681) (by decide +kernel) rfl rfl ⟨by decide, by decide⟩ 0 rfl rfl rfl hl.1 rfl (Nat.le_of_ble_eq_true rfl) d_Mo_take_128 ⟨Nat.zero_le _, Nat.zero_le _⟩) hP hD hS [0, 1, 2, 3, 4, 5, 6, 7, 8] [] rfl rfl (by decide) (by decide) (fun r23 w1 H locs hw hP hD hS => ?_)
        rcases hw with ⟨m23, hf23, hm23, rfl, rfl⟩ | ⟨hf23, rfl, rfl⟩
        · skip
          have hP : va_P D vCl (wM ad ca cd po nu pt st cy pl bk me kc ro en un li tn tx ia ct md lb wn) H := hP
          have hD : va_D A (wM ad ca cd po nu pt st cy pl bk me kc ro en un li tn tx ia ct md lb wn) := hD
          refine lv_goto (tgt := 150) hx hb d_Mo_take_131 (by decide) ?_
          refine lv_istore hx hb d_Mo_take_150 hl (by decide) rfl (fun ls hl => ?_)
          have hl : lv_has ls 6 [(5, .int (nI m23)), (4, .int (nI 0)), (3, .int (-1)), (0, .ref (ad 12)), (1, .int (nI a0)), (2, .int (nI e0))] := hl
          refine lv_iload hx hb d_Mo_take_152 (lv_at hl 0 rfl) ?_
          refine lv_if_lt (tgt := 166) hx hb d_Mo_take_154 (by decide) (fun h24 => (nI_pos (by omega) h24).elim) (fun _ => ?_)
          refine lv_aload_n hx hb d_Mo_take_157 rfl (lv_at hl 3 rfl) ?_
          refine va_get (D := D) (ci := 5) (v := .int (nI ct)) (C := RMo) (T := TMo) (N := 21) hx hb ht inMo hown hK hP 0 rfl rfl 17 (by decide) (ht _ q563) (fun _ h9 => h9) rfl d_Mo_take_158 ?_
          refine lv_bipush (v := nI 64) hx hb d_Mo_take_161 (by decide) ?_
          refine lv_icmp_ne (tgt := 168) hx hb d_Mo_take_163 (by decide) (fun h25 => ?_) (fun h25 => ?_)
          · skip
            have h25 : ¬ (ct = 64) := fun z => h25 ((nI_eq (by omega) (by omega)).mpr z)
            refine lv_aload_n hx hb d_Mo_take_168 rfl (lv_at hl 3 rfl) ?_
            refine va_get (D := D) (ci := 5) (v := .ref (ad 20)) (C := RMo) (T := TMo) (N := 21) hx hb ht inMo hown hK hP 0 rfl rfl 20 (by decide) (ht _ q566) (fun _ h9 => h9) rfl d_Mo_take_169 ?_
            refine lv_aload_n hx hb d_Mo_take_172 rfl (lv_at hl 3 rfl) ?_
            refine va_get (D := D) (ci := 5) (v := .int (nI ct)) (C := RMo) (T := TMo) (N := 21) hx hb ht inMo hown hK hP 0 rfl rfl 17 (by decide) (ht _ q563) (fun _ h9 => h9) rfl d_Mo_take_173 ?_
            refine lv_iload hx hb d_Mo_take_176 (lv_at hl 1 rfl) ?_
            refine lv_if_eq (tgt := 185) hx hb d_Mo_take_178 (by decide) (fun _ => ?_) (fun h26 => absurd (by decide) h26)
            refine lv_iconst (v := (-1)) hx hb d_Mo_take_185 (by decide) ?_
            refine va_iast hx hb hK hP hD hS 8 0 rfl rfl (vp_in_nI (n := ct) (by omega) (by decide)) d_Mo_take_186 (fun H locs hP hD hS => ?_)
            rw [rF_up (by omega)] at hP hD
            have hP : va_P D vCl (wM ad ca cd po nu pt st cy pl bk me kc ro en un li tn tx ia ct md lb (upd wn ct (-1))) H := hP
            have hD : va_D A (wM ad ca cd po nu pt st cy pl bk me kc ro en un li tn tx ia ct md lb (upd wn ct (-1))) := hD
            refine lv_aload_n hx hb d_Mo_take_187 rfl (lv_at hl 3 rfl) ?_
            refine va_get (D := D) (ci := 5) (v := .ref (ad 18)) (C := RMo) (T := TMo) (N := 21) hx hb ht inMo hown hK hP 0 rfl rfl 18 (by decide) (ht _ q564) (fun _ h9 => h9) rfl d_Mo_take_188 ?_
            refine lv_aload_n hx hb d_Mo_take_191 rfl (lv_at hl 3 rfl) ?_
            refine va_get (D := D) (ci := 5) (v := .int (nI ct)) (C := RMo) (T := TMo) (N := 21) hx hb ht inMo hown hK hP 0 rfl rfl 17 (by decide) (ht _ q563) (fun _ h9 => h9) rfl d_Mo_take_192 ?_
            refine lv_iload hx hb d_Mo_take_195 (lv_at hl 0 rfl) ?_
            refine va_iast hx hb hK hP hD hS 6 0 rfl rfl (vp_in_nI (n := ct) (by omega) (by decide)) d_Mo_take_197 (fun H locs hP hD hS => ?_)
            rw [nF_up (by omega)] at hP hD
            have hP : va_P D vCl (wM ad ca cd po nu pt st cy pl bk me kc ro en un li tn tx ia ct (uN md ct m23) lb (upd wn ct (-1))) H := hP
            have hD : va_D A (wM ad ca cd po nu pt st cy pl bk me kc ro en un li tn tx ia ct (uN md ct m23) lb (upd wn ct (-1))) := hD
            refine lv_aload_n hx hb d_Mo_take_198 rfl (lv_at hl 3 rfl) ?_
            refine lv_dup hx hb d_Mo_take_199 rfl ?_
            refine va_get (D := D) (ci := 5) (v := .int (nI ct)) (C := RMo) (T := TMo) (N := 21) hx hb ht inMo hown hK hP 0 rfl rfl 17 (by decide) (ht _ q563) (fun _ h9 => h9) rfl d_Mo_take_200 ?_
            refine lv_iconst (v := nI 1) hx hb d_Mo_take_203 (by decide) ?_
            refine lv_iadd hx hb d_Mo_take_204 ?_
            refine zti (y := nI (ct + 1)) (nI_add _ _) ?_
            refine va_put (D := D) (ci := 5) (v := .int (nI (ct + 1))) (ty := .int) (C := RMo) (T := TMo) (N := 21) hx hb ht inMo tyMo tyMo_ok nmMo hown hK hP hD hS 0 rfl rfl 17 (by decide) (ht _ q563) (fun _ h9 => h9) rfl (by decide +kernel) rfl rfl (Nat.le_of_ble_eq_true rfl) d_Mo_take_205 (fun H locs hP hD hS => ?_)
            have hP : va_P D vCl (wM ad ca cd po nu pt st cy pl bk me kc ro en un li tn tx ia (ct + 1) (uN md ct m23) lb (upd wn ct (-1))) H := hP
            have hD : va_D A (wM ad ca cd po nu pt st cy pl bk me kc ro en un li tn tx ia (ct + 1) (uN md ct m23) lb (upd wn ct (-1))) := hD
            refine lv_iconst (v := nI 1) hx hb d_Mo_take_208 (by decide) ?_
            exact zret_z C0 hr (zbn (by omega)) hAe hP hD hS (Or.inl ⟨_, by unfold tM; rw [lM_n (by omega)]; dsimp only; unfold wdM; rw [hf23]; dsimp only; unfold puM; rw [if_neg h25], rfl, rfl⟩) d_Mo_take_209
          · skip
            have h25 : (ct = 64) := (nI_eq (by omega) (by omega)).mp h25
            refine lv_iconst (v := nI 0) hx hb d_Mo_take_166 (by decide) ?_
            exact zret_z C0 hr (zbn (by omega)) hAe hP hD hS (Or.inr ⟨by unfold tM; rw [lM_n (by omega)]; dsimp only; unfold wdM; rw [hf23]; dsimp only; unfold puM; rw [if_pos h25], rfl, rfl⟩) d_Mo_take_167
        · skip
          have hP : va_P D vCl (wM ad ca cd po nu pt st cy pl bk me kc ro en un li tn tx ia ct md lb wn) H := hP
          have hD : va_D A (wM ad ca cd po nu pt st cy pl bk me kc ro en un li tn tx ia ct md lb wn) := hD
          refine lv_goto (tgt := 150) hx hb d_Mo_take_131 (by decide) ?_
          refine lv_istore hx hb d_Mo_take_150 hl (by decide) rfl (fun ls hl => ?_)
          have hl : lv_has ls 6 [(5, .int (-1)), (4, .int (nI 0)), (3, .int (-1)), (0, .ref (ad 12)), (1, .int (nI a0)), (2, .int (nI e0))] := hl
          refine lv_iload hx hb d_Mo_take_152 (lv_at hl 0 rfl) ?_
          refine lv_if_lt (tgt := 166) hx hb d_Mo_take_154 (by decide) (fun _ => ?_) (fun h27 => absurd (by decide) h27)
          refine lv_iconst (v := nI 0) hx hb d_Mo_take_166 (by decide) ?_
          exact zret_z C0 hr (zbn (by omega)) hAe hP hD hS (Or.inr ⟨by unfold tM; rw [lM_n (by omega)]; dsimp only; unfold wdM; rw [hf23], rfl, rfl⟩) d_Mo_take_167
      · skip
        have h19 : ¬ (122 < (tx (a0 + 1))) := fun z => h19 ((nI_ltI (by omega) (by omega)).mpr z)
        refine lv_aload_n hx hb d_Mo_take_33 rfl (lv_at hl 0 rfl) ?_
        refine va_get (D := D) (ci := 5) (v := .ref (ad 17)) (C := RMo) (T := TMo) (N := 21) hx hb ht inMo hown hK hP 0 rfl rfl 15 (by decide) (ht _ q561) (fun _ h9 => h9) rfl d_Mo_take_34 ?_
        refine lv_iload_n hx hb d_Mo_take_37 rfl (lv_at hl 1 rfl) ?_
        refine lv_iconst (v := nI 1) hx hb d_Mo_take_38 (by decide) ?_
        refine lv_iadd hx hb d_Mo_take_39 ?_
        refine zti (y := nI (a0 + 1)) (nI_add _ _) ?_
        refine va_cald hx hb hK hP 5 2 rfl rfl (vp_in_nI (n := a0 + 1) (by omega) (by decide)) d_Mo_take_40 ?_
        refine zti (y := nI (tx (a0 + 1))) (nF_at (by omega)) ?_
        refine lv_bipush (v := nI 97) hx hb d_Mo_take_41 (by decide) ?_
        refine lv_isub hx hb d_Mo_take_43 ?_
        refine zti (y := nI ((tx (a0 + 1)) - 97)) (pk_sub (by omega)) ?_
        refine lv_goto (tgt := 48) hx hb d_Mo_take_44 (by decide) ?_
        refine lv_istore_n hx hb d_Mo_take_48 rfl hl (by decide) rfl (fun ls hl => ?_)
        have hl : lv_has ls 6 [(3, .int (nI ((tx (a0 + 1)) - 97))), (0, .ref (ad 12)), (1, .int (nI a0)), (2, .int (nI e0))] := hl
        refine lv_iload_n hx hb d_Mo_take_49 rfl (lv_at hl 0 rfl) ?_
        refine lv_if_lt (tgt := 87) hx hb d_Mo_take_50 (by decide) (fun h28 => (nI_pos (by omega) h28).elim) (fun _ => ?_)
        refine lv_aload_n hx hb d_Mo_take_53 rfl (lv_at hl 1 rfl) ?_
        refine va_get (D := D) (ci := 5) (v := .ref (ad 17)) (C := RMo) (T := TMo) (N := 21) hx hb ht inMo hown hK hP 0 rfl rfl 15 (by decide) (ht _ q561) (fun _ h9 => h9) rfl d_Mo_take_54 ?_
        refine lv_iload_n hx hb d_Mo_take_57 rfl (lv_at hl 2 rfl) ?_
        refine va_cald hx hb hK hP 5 2 rfl rfl (vp_in_nI (n := a0) (by omega) (by decide)) d_Mo_take_58 ?_
        refine zti (y := nI (tx a0)) (nF_at (by omega)) ?_
        refine lv_bipush (v := nI 58) hx hb d_Mo_take_59 (by decide) ?_
        refine lv_icmp_ne (tgt := 87) hx hb d_Mo_take_61 (by decide) (fun h29 => ?_) (fun h29 => ?_)
        · skip
          have h29 : ¬ ((tx a0) = 58) := fun z => h29 ((nI_eq (by omega) (by omega)).mpr z)
          refine lv_iload_n hx hb d_Mo_take_87 rfl (lv_at hl 0 rfl) ?_
          refine lv_if_lt (tgt := 117) hx hb d_Mo_take_88 (by decide) (fun h30 => (nI_pos (by omega) h30).elim) (fun _ => ?_)
          refine lv_aload_n hx hb d_Mo_take_91 rfl (lv_at hl 1 rfl) ?_
          refine va_get (D := D) (ci := 5) (v := .ref (ad 17)) (C := RMo) (T := TMo) (N := 21) hx hb ht inMo hown hK hP 0 rfl rfl 15 (by decide) (ht _ q561) (fun _ h9 => h9) rfl d_Mo_take_92 ?_
          refine lv_iload_n hx hb d_Mo_take_95 rfl (lv_at hl 2 rfl) ?_
          refine va_cald hx hb hK hP 5 2 rfl rfl (vp_in_nI (n := a0) (by omega) (by decide)) d_Mo_take_96 ?_
          refine zti (y := nI (tx a0)) (nF_at (by omega)) ?_
          refine lv_bipush (v := nI 62) hx hb d_Mo_take_97 (by decide) ?_
          refine lv_icmp_eq (tgt := 113) hx hb d_Mo_take_99 (by decide) (fun h31 => ?_) (fun h31 => ?_)
          · skip
            have h31 : ((tx a0) = 62) := (nI_eq (by omega) (by omega)).mp h31
            refine lv_iconst (v := nI 1) hx hb d_Mo_take_113 (by decide) ?_
            refine lv_goto (tgt := 118) hx hb d_Mo_take_114 (by decide) ?_
            refine lv_istore hx hb d_Mo_take_118 hl (by decide) rfl (fun ls hl => ?_)
            have hl : lv_has ls 6 [(4, .int (nI 1)), (3, .int (nI ((tx (a0 + 1)) - 97))), (0, .ref (ad 12)), (1, .int (nI a0)), (2, .int (nI e0))] := hl
            refine lv_iload hx hb d_Mo_take_120 (lv_at hl 0 rfl) ?_
            refine lv_if_ne (tgt := 134) hx hb d_Mo_take_122 (by decide) (fun _ => ?_) (fun h32 => absurd h32 (by decide))
            refine lv_aload_n hx hb d_Mo_take_134 rfl (lv_at hl 2 rfl) ?_
            refine va_get (D := D) (ci := 5) (v := .ref (ad 17)) (C := RMo) (T := TMo) (N := 21) hx hb ht inMo hown hK hP 0 rfl rfl 15 (by decide) (ht _ q561) (fun _ h9 => h9) rfl d_Mo_take_135 ?_
            refine lv_iload_n hx hb d_Mo_take_138 rfl (lv_at hl 3 rfl) ?_
            refine va_cald hx hb hK hP 5 2 rfl rfl (vp_in_nI (n := a0) (by omega) (by decide)) d_Mo_take_139 ?_
            refine zti (y := nI (tx a0)) (nF_at (by omega)) ?_
            refine lv_bipush (v := nI 62) hx hb d_Mo_take_140 (by decide) ?_
            refine lv_icmp_ne (tgt := 149) hx hb d_Mo_take_142 (by decide) (fun h33 => absurd ((nI_eq (by omega) (by omega)).mpr (by omega)) h33) (fun _ => ?_)
            refine lv_iconst (v := nI 3) hx hb d_Mo_take_145 (by decide) ?_
            refine lv_goto (tgt := 150) hx hb d_Mo_take_146 (by decide) ?_
            refine lv_istore hx hb d_Mo_take_150 hl (by decide) rfl (fun ls hl => ?_)
            have hl : lv_has ls 6 [(5, .int (nI 3)), (4, .int (nI 1)), (3, .int (nI ((tx (a0 + 1)) - 97))), (0, .ref (ad 12)), (1, .int (nI a0)), (2, .int (nI e0))] := hl
            refine lv_iload hx hb d_Mo_take_152 (lv_at hl 0 rfl) ?_
            refine lv_if_lt (tgt := 166) hx hb d_Mo_take_154 (by decide) (fun h34 => absurd h34 (by decide)) (fun _ => ?_)
            refine lv_aload_n hx hb d_Mo_take_157 rfl (lv_at hl 3 rfl) ?_
            refine va_get (D := D) (ci := 5) (v := .int (nI ct)) (C := RMo) (T := TMo) (N := 21) hx hb ht inMo hown hK hP 0 rfl rfl 17 (by decide) (ht _ q563) (fun _ h9 => h9) rfl d_Mo_take_158 ?_
            refine lv_bipush (v := nI 64) hx hb d_Mo_take_161 (by decide) ?_
            refine lv_icmp_ne (tgt := 168) hx hb d_Mo_take_163 (by decide) (fun h35 => ?_) (fun h35 => ?_)
            · skip
              have h35 : ¬ (ct = 64) := fun z => h35 ((nI_eq (by omega) (by omega)).mpr z)
              refine lv_aload_n hx hb d_Mo_take_168 rfl (lv_at hl 3 rfl) ?_
              refine va_get (D := D) (ci := 5) (v := .ref (ad 20)) (C := RMo) (T := TMo) (N := 21) hx hb ht inMo hown hK hP 0 rfl rfl 20 (by decide) (ht _ q566) (fun _ h9 => h9) rfl d_Mo_take_169 ?_
              refine lv_aload_n hx hb d_Mo_take_172 rfl (lv_at hl 3 rfl) ?_
              refine va_get (D := D) (ci := 5) (v := .int (nI ct)) (C := RMo) (T := TMo) (N := 21) hx hb ht inMo hown hK hP 0 rfl rfl 17 (by decide) (ht _ q563) (fun _ h9 => h9) rfl d_Mo_take_173 ?_
              refine lv_iload hx hb d_Mo_take_176 (lv_at hl 1 rfl) ?_
              refine lv_if_eq (tgt := 185) hx hb d_Mo_take_178 (by decide) (fun h36 => absurd h36 (by decide)) (fun _ => ?_)
              refine lv_iload_n hx hb d_Mo_take_181 rfl (lv_at hl 4 rfl) ?_
              refine lv_goto (tgt := 186) hx hb d_Mo_take_182 (by decide) ?_
              refine va_iast hx hb hK hP hD hS 8 0 rfl rfl (vp_in_nI (n := ct) (by omega) (by decide)) d_Mo_take_186 (fun H locs hP hD hS => ?_)
              rw [rF_up (by omega)] at hP hD
              have hP : va_P D vCl (wM ad ca cd po nu pt st cy pl bk me kc ro en un li tn tx ia ct md lb (upd wn ct (nI a0))) H := hP
              have hD : va_D A (wM ad ca cd po nu pt st cy pl bk me kc ro en un li tn tx ia ct md lb (upd wn ct (nI a0))) := hD
              refine lv_aload_n hx hb d_Mo_take_187 rfl (lv_at hl 3 rfl) ?_
              refine va_get (D := D) (ci := 5) (v := .ref (ad 18)) (C := RMo) (T := TMo) (N := 21) hx hb ht inMo hown hK hP 0 rfl rfl 18 (by decide) (ht _ q564) (fun _ h9 => h9) rfl d_Mo_take_188 ?_
              refine lv_aload_n hx hb d_Mo_take_191 rfl (lv_at hl 3 rfl) ?_
              refine va_get (D := D) (ci := 5) (v := .int (nI ct)) (C := RMo) (T := TMo) (N := 21) hx hb ht inMo hown hK hP 0 rfl rfl 17 (by decide) (ht _ q563) (fun _ h9 => h9) rfl d_Mo_take_192 ?_
              refine lv_iload hx hb d_Mo_take_195 (lv_at hl 0 rfl) ?_
              refine va_iast hx hb hK hP hD hS 6 0 rfl rfl (vp_in_nI (n := ct) (by omega) (by decide)) d_Mo_take_197 (fun H locs hP hD hS => ?_)
              rw [nF_up (by omega)] at hP hD
              have hP : va_P D vCl (wM ad ca cd po nu pt st cy pl bk me kc ro en un li tn tx ia ct (uN md ct 3) lb (upd wn ct (nI a0))) H := hP
              have hD : va_D A (wM ad ca cd po nu pt st cy pl bk me kc ro en un li tn tx ia ct (uN md ct 3) lb (upd wn ct (nI a0))) := hD
              refine lv_aload_n hx hb d_Mo_take_198 rfl (lv_at hl 3 rfl) ?_
              refine lv_dup hx hb d_Mo_take_199 rfl ?_
              refine va_get (D := D) (ci := 5) (v := .int (nI ct)) (C := RMo) (T := TMo) (N := 21) hx hb ht inMo hown hK hP 0 rfl rfl 17 (by decide) (ht _ q563) (fun _ h9 => h9) rfl d_Mo_take_200 ?_
              refine lv_iconst (v := nI 1) hx hb d_Mo_take_203 (by decide) ?_
              refine lv_iadd hx hb d_Mo_take_204 ?_
              refine zti (y := nI (ct + 1)) (nI_add _ _) ?_
              refine va_put (D := D) (ci := 5) (v := .int (nI (ct + 1))) (ty := .int) (C := RMo) (T := TMo) (N := 21) hx hb ht inMo tyMo tyMo_ok nmMo hown hK hP hD hS 0 rfl rfl 17 (by decide) (ht _ q563) (fun _ h9 => h9) rfl (by decide +kernel) rfl rfl (Nat.le_of_ble_eq_true rfl) d_Mo_take_205 (fun H locs hP hD hS => ?_)
              have hP : va_P D vCl (wM ad ca cd po nu pt st cy pl bk me kc ro en un li tn tx ia (ct + 1) (uN md ct 3) lb (upd wn ct (nI a0))) H := hP
              have hD : va_D A (wM ad ca cd po nu pt st cy pl bk me kc ro en un li tn tx ia (ct + 1) (uN md ct 3) lb (upd wn ct (nI a0))) := hD
              refine lv_iconst (v := nI 1) hx hb d_Mo_take_208 (by decide) ?_
              exact zret_z C0 hr (zbn (by omega)) hAe hP hD hS (Or.inl ⟨_, by unfold tM; rw [lM_y (by omega)]; dsimp only; rw [if_neg h29]; rw [if_pos h31]; unfold puM; rw [if_neg h35], rfl, rfl⟩) d_Mo_take_209
            · skip
              have h35 : (ct = 64) := (nI_eq (by omega) (by omega)).mp h35
              refine lv_iconst (v := nI 0) hx hb d_Mo_take_166 (by decide) ?_
              exact zret_z C0 hr (zbn (by omega)) hAe hP hD hS (Or.inr ⟨by unfold tM; rw [lM_y (by omega)]; dsimp only; rw [if_neg h29]; rw [if_pos h31]; unfold puM; rw [if_pos h35], rfl, rfl⟩) d_Mo_take_167
          · skip
            have h31 : ¬ ((tx a0) = 62) := fun z => h31 ((nI_eq (by omega) (by omega)).mpr z)
            refine lv_aload_n hx hb d_Mo_take_102 rfl (lv_at hl 1 rfl) ?_
            refine va_get (D := D) (ci := 5) (v := .ref (ad 17)) (C := RMo) (T := TMo) (N := 21) hx hb ht inMo hown hK hP 0 rfl rfl 15 (by decide) (ht _ q561) (fun _ h9 => h9) rfl d_Mo_take_103 ?_
            refine lv_iload_n hx hb d_Mo_take_106 rfl (lv_at hl 2 rfl) ?_
            refine va_cald hx hb hK hP 5 2 rfl rfl (vp_in_nI (n := a0) (by omega) (by decide)) d_Mo_take_107 ?_
            refine zti (y := nI (tx a0)) (nF_at (by omega)) ?_
            refine lv_bipush (v := nI 64) hx hb d_Mo_take_108 (by decide) ?_
            refine lv_icmp_ne (tgt := 117) hx hb d_Mo_take_110 (by decide) (fun h37 => ?_) (fun h37 => ?_)
            · skip
              have h37 : ¬ ((tx a0) = 64) := fun z => h37 ((nI_eq (by omega) (by omega)).mpr z)
              refine lv_iconst (v := nI 0) hx hb d_Mo_take_117 (by decide) ?_
              refine lv_istore hx hb d_Mo_take_118 hl (by decide) rfl (fun ls hl => ?_)
              have hl : lv_has ls 6 [(4, .int (nI 0)), (3, .int (nI ((tx (a0 + 1)) - 97))), (0, .ref (ad 12)), (1, .int (nI a0)), (2, .int (nI e0))] := hl
              refine lv_iload hx hb d_Mo_take_120 (lv_at hl 0 rfl) ?_
              refine lv_if_ne (tgt := 134) hx hb d_Mo_take_122 (by decide) (fun h38 => absurd (by decide) h38) (fun _ => ?_)
              refine lv_aload_n hx hb d_Mo_take_125 rfl (lv_at hl 2 rfl) ?_
              refine lv_iload_n hx hb d_Mo_take_126 rfl (lv_at hl 3 rfl) ?_
              refine lv_iload_n hx hb d_Mo_take_127 rfl (lv_at hl 4 rfl) ?_
              refine zgo_i (wr := []) C0 (zrunV (na := 2) (As := [.int (nI a0), .int (nI e0)]) (rest := []) C0 hP hD hS [0, 1, 2, 3, 4, 5, 6, 7, 8] rfl rfl (m_Mo_wordOf l D ca k s.heap.size ad cd po nu pt st cy pl bk me kc ro en un li tn tx ia ct md lb wn a0 e0 (by omega) (by omega) htx) (zg_V q678 q680 q837 q7 q681) (by decide +kernel) rfl rfl ⟨by decide, by decide⟩ 0 rfl rfl rfl hl.1 rfl (Nat.le_of_ble_eq_true rfl) d_Mo_take_128 ⟨Nat.zero_le _, Nat.zero_le _⟩) hP hD hS [0, 1, 2, 3, 4, 5, 6, 7, 8] [] rfl rfl (by decide) (by decide) (fun r39 w1 H locs hw hP hD hS => ?_)
              rcases hw with ⟨m39, hf39, hm39, rfl, rfl⟩ | ⟨hf39, rfl, rfl⟩
              · skip
                have hP : va_P D vCl (wM ad ca cd po nu pt st cy pl bk me kc ro en un li tn tx ia ct md lb wn) H := hP
                have hD : va_D A (wM ad ca cd po nu pt st cy pl bk me kc ro en un li tn tx ia ct md lb wn) := hD
                refine lv_goto (tgt := 150) hx hb d_Mo_take_131 (by decide) ?_
                refine lv_istore hx hb d_Mo_take_150 hl (by decide) rfl (fun ls hl => ?_)
                have hl : lv_has ls 6 [(5, .int (nI m39)), (4, .int (nI 0)), (3, .int (nI ((tx (a0 + 1)) - 97))), (0, .ref (ad 12)), (1, .int (nI a0)), (2, .int (nI e0))] := hl
                refine lv_iload hx hb d_Mo_take_152 (lv_at hl 0 rfl) ?_
                refine lv_if_lt (tgt := 166) hx hb d_Mo_take_154 (by decide) (fun h40 => (nI_pos (by omega) h40).elim) (fun _ => ?_)
                refine lv_aload_n hx hb d_Mo_take_157 rfl (lv_at hl 3 rfl) ?_
                refine va_get (D := D) (ci := 5) (v := .int (nI ct)) (C := RMo) (T := TMo) (N := 21) hx hb ht inMo hown hK hP 0 rfl rfl 17 (by decide) (ht _ q563) (fun _ h9 => h9) rfl d_Mo_take_158 ?_
                refine lv_bipush (v := nI 64) hx hb d_Mo_take_161 (by decide) ?_
                refine lv_icmp_ne (tgt := 168) hx hb d_Mo_take_163 (by decide) (fun h41 => ?_) (fun h41 => ?_)
                · skip
                  have h41 : ¬ (ct = 64) := fun z => h41 ((nI_eq (by omega) (by omega)).mpr z)
                  refine lv_aload_n hx hb d_Mo_take_168 rfl (lv_at hl 3 rfl) ?_
                  refine va_get (D := D) (ci := 5) (v := .ref (ad 20)) (C := RMo) (T := TMo) (N := 21) hx hb ht inMo hown hK hP 0 rfl rfl 20 (by decide) (ht _ q566) (fun _ h9 => h9) rfl d_Mo_take_169 ?_
                  refine lv_aload_n hx hb d_Mo_take_172 rfl (lv_at hl 3 rfl) ?_
                  refine va_get (D := D) (ci := 5) (v := .int (nI ct)) (C := RMo) (T := TMo) (N := 21) hx hb ht inMo hown hK hP 0 rfl rfl 17 (by decide) (ht _ q563) (fun _ h9 => h9) rfl d_Mo_take_173 ?_
                  refine lv_iload hx hb d_Mo_take_176 (lv_at hl 1 rfl) ?_
                  refine lv_if_eq (tgt := 185) hx hb d_Mo_take_178 (by decide) (fun _ => ?_) (fun h42 => absurd (by decide) h42)
                  refine lv_iconst (v := (-1)) hx hb d_Mo_take_185 (by decide) ?_
                  refine va_iast hx hb hK hP hD hS 8 0 rfl rfl (vp_in_nI (n := ct) (by omega) (by decide)) d_Mo_take_186 (fun H locs hP hD hS => ?_)
                  rw [rF_up (by omega)] at hP hD
                  have hP : va_P D vCl (wM ad ca cd po nu pt st cy pl bk me kc ro en un li tn tx ia ct md lb (upd wn ct (-1))) H := hP
                  have hD : va_D A (wM ad ca cd po nu pt st cy pl bk me kc ro en un li tn tx ia ct md lb (upd wn ct (-1))) := hD
                  refine lv_aload_n hx hb d_Mo_take_187 rfl (lv_at hl 3 rfl) ?_
                  refine va_get (D := D) (ci := 5) (v := .ref (ad 18)) (C := RMo) (T := TMo) (N := 21) hx hb ht inMo hown hK hP 0 rfl rfl 18 (by decide) (ht _ q564) (fun _ h9 => h9) rfl d_Mo_take_188 ?_
                  refine lv_aload_n hx hb d_Mo_take_191 rfl (lv_at hl 3 rfl) ?_
                  refine va_get (D := D) (ci := 5) (v := .int (nI ct)) (C := RMo) (T := TMo) (N := 21) hx hb ht inMo hown hK hP 0 rfl rfl 17 (by decide) (ht _ q563) (fun _ h9 => h9) rfl d_Mo_take_192 ?_
                  refine lv_iload hx hb d_Mo_take_195 (lv_at hl 0 rfl) ?_
                  refine va_iast hx hb hK hP hD hS 6 0 rfl rfl (vp_in_nI (n := ct) (by omega) (by decide)) d_Mo_take_197 (fun H locs hP hD hS => ?_)
                  rw [nF_up (by omega)] at hP hD
                  have hP : va_P D vCl (wM ad ca cd po nu pt st cy pl bk me kc ro en un li tn tx ia ct (uN md ct m39) lb (upd wn ct (-1))) H := hP
                  have hD : va_D A (wM ad ca cd po nu pt st cy pl bk me kc ro en un li tn tx ia ct (uN md ct m39) lb (upd wn ct (-1))) := hD
                  refine lv_aload_n hx hb d_Mo_take_198 rfl (lv_at hl 3 rfl) ?_
                  refine lv_dup hx hb d_Mo_take_199 rfl ?_
                  refine va_get (D := D) (ci := 5) (v := .int (nI ct)) (C := RMo) (T := TMo) (N := 21) hx hb ht inMo hown hK hP 0 rfl rfl 17 (by decide) (ht _ q563) (fun _ h9 => h9) rfl d_Mo_take_200 ?_
                  refine lv_iconst (v := nI 1) hx hb d_Mo_take_203 (by decide) ?_
                  refine lv_iadd hx hb d_Mo_take_204 ?_
                  refine zti (y := nI (ct + 1)) (nI_add _ _) ?_
                  refine va_put (D := D) (ci := 5) (v := .int (nI (ct + 1))) (ty := .int) (C := RMo) (T := TMo) (N := 21) hx hb ht inMo tyMo tyMo_ok nmMo hown hK hP hD hS 0 rfl rfl 17 (by decide) (ht _ q563) (fun _ h9 => h9) rfl (by decide +kernel) rfl rfl (Nat.le_of_ble_eq_true rfl) d_Mo_take_205 (fun H locs hP hD hS => ?_)
                  have hP : va_P D vCl (wM ad ca cd po nu pt st cy pl bk me kc ro en un li tn tx ia (ct + 1) (uN md ct m39) lb (upd wn ct (-1))) H := hP
                  have hD : va_D A (wM ad ca cd po nu pt st cy pl bk me kc ro en un li tn tx ia (ct + 1) (uN md ct m39) lb (upd wn ct (-1))) := hD
                  refine lv_iconst (v := nI 1) hx hb d_Mo_take_208 (by decide) ?_
                  exact zret_z C0 hr (zbn (by omega)) hAe hP hD hS (Or.inl ⟨_, by unfold tM; rw [lM_y (by omega)]; dsimp only; rw [if_neg h29]; rw [if_neg h31, if_neg h37]; unfold wdM; rw [hf39]; dsimp only; unfold puM; rw [if_neg h41], rfl, rfl⟩) d_Mo_take_209
                · skip
                  have h41 : (ct = 64) := (nI_eq (by omega) (by omega)).mp h41
                  refine lv_iconst (v := nI 0) hx hb d_Mo_take_166 (by decide) ?_
                  exact zret_z C0 hr (zbn (by omega)) hAe hP hD hS (Or.inr ⟨by unfold tM; rw [lM_y (by omega)]; dsimp only; rw [if_neg h29]; rw [if_neg h31, if_neg h37]; unfold wdM; rw [hf39]; dsimp only; unfold puM; rw [if_pos h41], rfl, rfl⟩) d_Mo_take_167
              · skip
                have hP : va_P D vCl (wM ad ca cd po nu pt st cy pl bk me kc ro en un li tn tx ia ct md lb wn) H := hP
                have hD : va_D A (wM ad ca cd po nu pt st cy pl bk me kc ro en un li tn tx ia ct md lb wn) := hD
                refine lv_goto (tgt := 150) hx hb d_Mo_take_131 (by decide) ?_
                refine lv_istore hx hb d_Mo_take_150 hl (by decide) rfl (fun ls hl => ?_)
                have hl : lv_has ls 6 [(5, .int (-1)), (4, .int (nI 0)), (3, .int (nI ((tx (a0 + 1)) - 97))), (0, .ref (ad 12)), (1, .int (nI a0)), (2, .int (nI e0))] := hl
                refine lv_iload hx hb d_Mo_take_152 (lv_at hl 0 rfl) ?_
                refine lv_if_lt (tgt := 166) hx hb d_Mo_take_154 (by decide) (fun _ => ?_) (fun h43 => absurd (by decide) h43)
                refine lv_iconst (v := nI 0) hx hb d_Mo_take_166 (by decide) ?_
                exact zret_z C0 hr (zbn (by omega)) hAe hP hD hS (Or.inr ⟨by unfold tM; rw [lM_y (by omega)]; dsimp only; rw [if_neg h29]; rw [if_neg h31, if_neg h37]; unfold wdM; rw [hf39], rfl, rfl⟩) d_Mo_take_167
            · skip
              have h37 : ((tx a0) = 64) := (nI_eq (by omega) (by omega)).mp h37
              refine lv_iconst (v := nI 1) hx hb d_Mo_take_113 (by decide) ?_
              refine lv_goto (tgt := 118) hx hb d_Mo_take_114 (by decide) ?_
              refine lv_istore hx hb d_Mo_take_118 hl (by decide) rfl (fun ls hl => ?_)
              have hl : lv_has ls 6 [(4, .int (nI 1)), (3, .int (nI ((tx (a0 + 1)) - 97))), (0, .ref (ad 12)), (1, .int (nI a0)), (2, .int (nI e0))] := hl
              refine lv_iload hx hb d_Mo_take_120 (lv_at hl 0 rfl) ?_
              refine lv_if_ne (tgt := 134) hx hb d_Mo_take_122 (by decide) (fun _ => ?_) (fun h44 => absurd h44 (by decide))
              refine lv_aload_n hx hb d_Mo_take_134 rfl (lv_at hl 2 rfl) ?_
              refine va_get (D := D) (ci := 5) (v := .ref (ad 17)) (C := RMo) (T := TMo) (N := 21) hx hb ht inMo hown hK hP 0 rfl rfl 15 (by decide) (ht _ q561) (fun _ h9 => h9) rfl d_Mo_take_135 ?_
              refine lv_iload_n hx hb d_Mo_take_138 rfl (lv_at hl 3 rfl) ?_
              refine va_cald hx hb hK hP 5 2 rfl rfl (vp_in_nI (n := a0) (by omega) (by decide)) d_Mo_take_139 ?_
              refine zti (y := nI (tx a0)) (nF_at (by omega)) ?_
              refine lv_bipush (v := nI 62) hx hb d_Mo_take_140 (by decide) ?_
              refine lv_icmp_ne (tgt := 149) hx hb d_Mo_take_142 (by decide) (fun _ => ?_) (fun h45 => absurd ((nI_eq (by omega) (by omega)).mp h45) (by omega))
              refine lv_iconst (v := nI 1) hx hb d_Mo_take_149 (by decide) ?_
              refine lv_istore hx hb d_Mo_take_150 hl (by decide) rfl (fun ls hl => ?_)
              have hl : lv_has ls 6 [(5, .int (nI 1)), (4, .int (nI 1)), (3, .int (nI ((tx (a0 + 1)) - 97))), (0, .ref (ad 12)), (1, .int (nI a0)), (2, .int (nI e0))] := hl
              refine lv_iload hx hb d_Mo_take_152 (lv_at hl 0 rfl) ?_
              refine lv_if_lt (tgt := 166) hx hb d_Mo_take_154 (by decide) (fun h46 => absurd h46 (by decide)) (fun _ => ?_)
              refine lv_aload_n hx hb d_Mo_take_157 rfl (lv_at hl 3 rfl) ?_
              refine va_get (D := D) (ci := 5) (v := .int (nI ct)) (C := RMo) (T := TMo) (N := 21) hx hb ht inMo hown hK hP 0 rfl rfl 17 (by decide) (ht _ q563) (fun _ h9 => h9) rfl d_Mo_take_158 ?_
              refine lv_bipush (v := nI 64) hx hb d_Mo_take_161 (by decide) ?_
              refine lv_icmp_ne (tgt := 168) hx hb d_Mo_take_163 (by decide) (fun h47 => ?_) (fun h47 => ?_)
              · skip
                have h47 : ¬ (ct = 64) := fun z => h47 ((nI_eq (by omega) (by omega)).mpr z)
                refine lv_aload_n hx hb d_Mo_take_168 rfl (lv_at hl 3 rfl) ?_
                refine va_get (D := D) (ci := 5) (v := .ref (ad 20)) (C := RMo) (T := TMo) (N := 21) hx hb ht inMo hown hK hP 0 rfl rfl 20 (by decide) (ht _ q566) (fun _ h9 => h9) rfl d_Mo_take_169 ?_
                refine lv_aload_n hx hb d_Mo_take_172 rfl (lv_at hl 3 rfl) ?_
                refine va_get (D := D) (ci := 5) (v := .int (nI ct)) (C := RMo) (T := TMo) (N := 21) hx hb ht inMo hown hK hP 0 rfl rfl 17 (by decide) (ht _ q563) (fun _ h9 => h9) rfl d_Mo_take_173 ?_
                refine lv_iload hx hb d_Mo_take_176 (lv_at hl 1 rfl) ?_
                refine lv_if_eq (tgt := 185) hx hb d_Mo_take_178 (by decide) (fun h48 => absurd h48 (by decide)) (fun _ => ?_)
                refine lv_iload_n hx hb d_Mo_take_181 rfl (lv_at hl 4 rfl) ?_
                refine lv_goto (tgt := 186) hx hb d_Mo_take_182 (by decide) ?_
                refine va_iast hx hb hK hP hD hS 8 0 rfl rfl (vp_in_nI (n := ct) (by omega) (by decide)) d_Mo_take_186 (fun H locs hP hD hS => ?_)
                rw [rF_up (by omega)] at hP hD
                have hP : va_P D vCl (wM ad ca cd po nu pt st cy pl bk me kc ro en un li tn tx ia ct md lb (upd wn ct (nI a0))) H := hP
                have hD : va_D A (wM ad ca cd po nu pt st cy pl bk me kc ro en un li tn tx ia ct md lb (upd wn ct (nI a0))) := hD
                refine lv_aload_n hx hb d_Mo_take_187 rfl (lv_at hl 3 rfl) ?_
                refine va_get (D := D) (ci := 5) (v := .ref (ad 18)) (C := RMo) (T := TMo) (N := 21) hx hb ht inMo hown hK hP 0 rfl rfl 18 (by decide) (ht _ q564) (fun _ h9 => h9) rfl d_Mo_take_188 ?_
                refine lv_aload_n hx hb d_Mo_take_191 rfl (lv_at hl 3 rfl) ?_
                refine va_get (D := D) (ci := 5) (v := .int (nI ct)) (C := RMo) (T := TMo) (N := 21) hx hb ht inMo hown hK hP 0 rfl rfl 17 (by decide) (ht _ q563) (fun _ h9 => h9) rfl d_Mo_take_192 ?_
                refine lv_iload hx hb d_Mo_take_195 (lv_at hl 0 rfl) ?_
                refine va_iast hx hb hK hP hD hS 6 0 rfl rfl (vp_in_nI (n := ct) (by omega) (by decide)) d_Mo_take_197 (fun H locs hP hD hS => ?_)
                rw [nF_up (by omega)] at hP hD
                have hP : va_P D vCl (wM ad ca cd po nu pt st cy pl bk me kc ro en un li tn tx ia ct (uN md ct 1) lb (upd wn ct (nI a0))) H := hP
                have hD : va_D A (wM ad ca cd po nu pt st cy pl bk me kc ro en un li tn tx ia ct (uN md ct 1) lb (upd wn ct (nI a0))) := hD
                refine lv_aload_n hx hb d_Mo_take_198 rfl (lv_at hl 3 rfl) ?_
                refine lv_dup hx hb d_Mo_take_199 rfl ?_
                refine va_get (D := D) (ci := 5) (v := .int (nI ct)) (C := RMo) (T := TMo) (N := 21) hx hb ht inMo hown hK hP 0 rfl rfl 17 (by decide) (ht _ q563) (fun _ h9 => h9) rfl d_Mo_take_200 ?_
                refine lv_iconst (v := nI 1) hx hb d_Mo_take_203 (by decide) ?_
                refine lv_iadd hx hb d_Mo_take_204 ?_
                refine zti (y := nI (ct + 1)) (nI_add _ _) ?_
                refine va_put (D := D) (ci := 5) (v := .int (nI (ct + 1))) (ty := .int) (C := RMo) (T := TMo) (N := 21) hx hb ht inMo tyMo tyMo_ok nmMo hown hK hP hD hS 0 rfl rfl 17 (by decide) (ht _ q563) (fun _ h9 => h9) rfl (by decide +kernel) rfl rfl (Nat.le_of_ble_eq_true rfl) d_Mo_take_205 (fun H locs hP hD hS => ?_)
                have hP : va_P D vCl (wM ad ca cd po nu pt st cy pl bk me kc ro en un li tn tx ia (ct + 1) (uN md ct 1) lb (upd wn ct (nI a0))) H := hP
                have hD : va_D A (wM ad ca cd po nu pt st cy pl bk me kc ro en un li tn tx ia (ct + 1) (uN md ct 1) lb (upd wn ct (nI a0))) := hD
                refine lv_iconst (v := nI 1) hx hb d_Mo_take_208 (by decide) ?_
                exact zret_z C0 hr (zbn (by omega)) hAe hP hD hS (Or.inl ⟨_, by unfold tM; rw [lM_y (by omega)]; dsimp only; rw [if_neg h29]; rw [if_neg h31, if_pos h37]; unfold puM; rw [if_neg h47], rfl, rfl⟩) d_Mo_take_209
              · skip
                have h47 : (ct = 64) := (nI_eq (by omega) (by omega)).mp h47
                refine lv_iconst (v := nI 0) hx hb d_Mo_take_166 (by decide) ?_
                exact zret_z C0 hr (zbn (by omega)) hAe hP hD hS (Or.inr ⟨by unfold tM; rw [lM_y (by omega)]; dsimp only; rw [if_neg h29]; rw [if_neg h31, if_pos h37]; unfold puM; rw [if_pos h47], rfl, rfl⟩) d_Mo_take_167
        · skip
          have h29 : ((tx a0) = 58) := (nI_eq (by omega) (by omega)).mp h29
          refine lv_aload_n hx hb d_Mo_take_64 rfl (lv_at hl 1 rfl) ?_
          refine va_get (D := D) (ci := 5) (v := .ref (ad 19)) (C := RMo) (T := TMo) (N := 21) hx hb ht inMo hown hK hP 0 rfl rfl 19 (by decide) (ht _ q565) (fun _ h9 => h9) rfl d_Mo_take_65 ?_
          refine lv_iload_n hx hb d_Mo_take_68 rfl (lv_at hl 0 rfl) ?_
          refine va_iald hx hb hK hP 7 0 rfl rfl (vp_in_nI (n := (tx (a0 + 1)) - 97) (by omega) (by decide)) d_Mo_take_69 ?_
          refine zti (y := lb ((tx (a0 + 1)) - 97)) (rF_at (by omega)) ?_
          refine lv_if_lt (tgt := 75) hx hb d_Mo_take_70 (by decide) (fun h49 => ?_) (fun h49 => ?_)
          · skip
            refine lv_aload_n hx hb d_Mo_take_75 rfl (lv_at hl 1 rfl) ?_
            refine va_get (D := D) (ci := 5) (v := .ref (ad 19)) (C := RMo) (T := TMo) (N := 21) hx hb ht inMo hown hK hP 0 rfl rfl 19 (by decide) (ht _ q565) (fun _ h9 => h9) rfl d_Mo_take_76 ?_
            refine lv_iload_n hx hb d_Mo_take_79 rfl (lv_at hl 0 rfl) ?_
            refine lv_aload_n hx hb d_Mo_take_80 rfl (lv_at hl 1 rfl) ?_
            refine va_get (D := D) (ci := 5) (v := .int (nI ct)) (C := RMo) (T := TMo) (N := 21) hx hb ht inMo hown hK hP 0 rfl rfl 17 (by decide) (ht _ q563) (fun _ h9 => h9) rfl d_Mo_take_81 ?_
            refine va_iast hx hb hK hP hD hS 7 0 rfl rfl (vp_in_nI (n := (tx (a0 + 1)) - 97) (by omega) (by decide)) d_Mo_take_84 (fun H locs hP hD hS => ?_)
            rw [rF_up (by omega)] at hP hD
            have hP : va_P D vCl (wM ad ca cd po nu pt st cy pl bk me kc ro en un li tn tx ia ct md (upd lb ((tx (a0 + 1)) - 97) (nI ct)) wn) H := hP
            have hD : va_D A (wM ad ca cd po nu pt st cy pl bk me kc ro en un li tn tx ia ct md (upd lb ((tx (a0 + 1)) - 97) (nI ct)) wn) := hD
            refine lv_iconst (v := nI 1) hx hb d_Mo_take_85 (by decide) ?_
            exact zret_z C0 hr (zbn (by omega)) hAe hP hD hS (Or.inl ⟨_, by unfold tM; rw [lM_y (by omega)]; dsimp only; rw [if_pos h29, if_pos h49], rfl, rfl⟩) d_Mo_take_86
          · skip
            refine lv_iconst (v := nI 0) hx hb d_Mo_take_73 (by decide) ?_
            exact zret_z C0 hr (zbn (by omega)) hAe hP hD hS (Or.inr ⟨by unfold tM; rw [lM_y (by omega)]; dsimp only; rw [if_pos h29, if_neg h49], rfl, rfl⟩) d_Mo_take_74
