set_option maxHeartbeats 4000000 in
set_option maxRecDepth 100000 in
theorem m_Mo_read (l : Launch) (D : va_G) (ca : Nat → ClassId) (k : Nat → Nat) (sz : Nat) (ad : Nat → Nat) (cd : Nat) (po nu : Nat → Nat) (pt : Nat) (st : Int32) (cy pl bk : Nat) (me : Nat → Nat) (kc : Nat) (ro : Nat → Nat) (en un li tn : Nat) (tx : Nat → Nat) (ia : Int32) (ct : Nat) (md : Nat → Nat) (lb wn : Nat → Int32) (hln : tn ≤ 240) (htx : ∀ j, tx j < 127) : Met l y_Mo_read (zw y_Mo_read c_Mo_read 4 (some .int)) { frames := 3, cells := 0, slots := 0, locals := 77 } (va_Pc [.ref (ad 12)] (zPre D (zty ca) k (wM ad ca cd po nu pt st cy pl bk me kc ro en un li tn tx ia ct md lb wn) sz)) (va_Qi (fun r w => (∃ T, asM tx tn lb md wn = ((-1), T) ∧ T.2.1 ≤ 64 ∧ r = (-1) ∧ w = wM ad ca cd po nu pt st cy pl bk me kc ro en un li tn tx ia ((T).2.1) ((T).2.2.1) ((T).1) ((T).2.2.2)) ∨ (∃ b T, asM tx tn lb md wn = (nI b, T) ∧ b < 240 ∧ T.2.1 ≤ 64 ∧ r = nI b ∧ w = wM ad ca cd po nu pt st cy pl bk me kc ro en un li tn tx ia ((T).2.1) ((T).2.2.1) ((T).1) ((T).2.2.2))) (zB D (zty ca) (wM ad ca cd po nu pt st cy pl bk me kc ro en un li tn tx ia ct md lb wn) sz) (va_A (wM ad ca cd po nu pt st cy pl bk me kc ro en un li tn tx ia ct md lb wn) sz)) 0 0 (va_A (wM ad ca cd po nu pt st cy pl bk me kc ro en un li tn tx ia ct md lb wn) sz) := by
  refine zOf (own := "DigitChipModel") (by decide +kernel) rfl (Nat.le_of_ble_eq_true rfl) ?_
  intro p e s m below meth c A ls C0 hr hnm hAe hsz hl hP hD hS
  have hl : lv_has ls 4 [(0, .ref (ad 12))] := hl
  obtain ⟨hx, hb, hml, hown, ht, hK, hX, hA, hlk⟩ := id C0
  refine lv_aload_n hx hb d_Mo_read_0 rfl (lv_at hl 0 rfl) ?_
  refine lv_iconst (v := nI 0) hx hb d_Mo_read_1 (by decide) ?_
  refine va_put (D := D) (ci := 5) (v := .int (nI 0)) (ty := .int) (C := RMo) (T := TMo) (N := 21) hx hb ht inMo tyMo tyMo_ok nmMo hown hK hP hD hS 0 rfl rfl 17 (by decide) (ht _ q563) (fun _ h9 => h9) rfl (by decide +kernel) rfl rfl (Nat.le_of_ble_eq_true rfl) d_Mo_read_2 (fun H locs hP hD hS => ?_)
  have hP : va_P D vCl (wM ad ca cd po nu pt st cy pl bk me kc ro en un li tn tx ia 0 md lb wn) H := hP
  have hD : va_D A (wM ad ca cd po nu pt st cy pl bk me kc ro en un li tn tx ia 0 md lb wn) := hD
  refine lv_iconst (v := nI 0) hx hb d_Mo_read_5 (by decide) ?_
  refine lv_istore_n hx hb d_Mo_read_6 rfl hl (by decide) rfl (fun ls hl => ?_)
  have hl : lv_has ls 4 [(1, .int (nI 0)), (0, .ref (ad 12))] := hl
  rw [← fil_0 lb (-1)] at hP hD
  have loop_lp : ∀ (n_lp : Nat) (i : Nat) (H : Heap) (locs : List Loc) (ls : Array Slot), 26 - i < n_lp → (i ≤ 26) → lv_has ls 4 [(1, .int (nI i)), (0, .ref (ad 12))] → va_P D vCl (wM ad ca cd po nu pt st cy pl bk me kc ro en un li tn tx ia 0 md (fil lb (-1) i) wn) H → va_D A (wM ad ca cd po nu pt st cy pl bk me kc ro en un li tn tx ia 0 md (fil lb (-1) i) wn) → va_S A s.heap H locs → W p l e { frames := 3, cells := 0, slots := 0, locals := 77 } s m ([.ref (ad 12)] : List Value).toArray below meth c H locs 0 0 (MQ below (va_Qi (fun r w => (∃ T, asM tx tn lb md wn = ((-1), T) ∧ T.2.1 ≤ 64 ∧ r = (-1) ∧ w = wM ad ca cd po nu pt st cy pl bk me kc ro en un li tn tx ia ((T).2.1) ((T).2.2.1) ((T).1) ((T).2.2.2)) ∨ (∃ b T, asM tx tn lb md wn = (nI b, T) ∧ b < 240 ∧ T.2.1 ≤ 64 ∧ r = nI b ∧ w = wM ad ca cd po nu pt st cy pl bk me kc ro en un li tn tx ia ((T).2.1) ((T).2.2.1) ((T).1) ((T).2.2.2))) (zB D (zty ca) (wM ad ca cd po nu pt st cy pl bk me kc ro en un li tn tx ia ct md lb wn) sz) (va_A (wM ad ca cd po nu pt st cy pl bk me kc ro en un li tn tx ia ct md lb wn) sz)) ([.ref (ad 12)] : List Value).toArray s 0 0 (va_A (wM ad ca cd po nu pt st cy pl bk me kc ro en un li tn tx ia ct md lb wn) sz)) (F0 m 7 ls []) := by
    intro n_lp
    induction n_lp with
    | zero => intro i H locs ls hm; exact absurd hm (Nat.not_lt_zero _)
    | succ n_lp ih_lp =>
      intro i H locs ls hm hi hl hP hD hS
      refine lv_iload_n hx hb d_Mo_read_7 rfl (lv_at hl 0 rfl) ?_
      refine lv_bipush (v := nI 26) hx hb d_Mo_read_8 (by decide) ?_
      refine lv_icmp_ge (tgt := 26) hx hb d_Mo_read_10 (by decide) (fun h1 => ?_) (fun h1 => ?_)
      · skip
        have h1 : (26 ≤ i) := (nI_leI (by omega) (by omega)).mp h1
        obtain rfl : i = 26 := by omega
        refine lv_iconst (v := nI 0) hx hb d_Mo_read_26 (by decide) ?_
        refine lv_istore_n hx hb d_Mo_read_27 rfl hl (by decide) rfl (fun ls hl => ?_)
        have hl : lv_has ls 4 [(1, .int (nI 0)), (0, .ref (ad 12))] := hl
        have loop_lo : ∀ (n_lo : Nat) (a0 : Nat) (r0 : Nat) (T0 : AMs) (H : Heap) (locs : List Loc) (ls : Array Slot), tn - a0 < n_lo → (a0 ≤ tn) → (tn - a0 ≤ r0) → (okM tx T0) → (reM tx tn tn 0 (fil lb (-1) 26, 0, md, wn) = reM tx tn r0 a0 T0) → lv_has ls 4 [(1, .int (nI a0)), (0, .ref (ad 12))] → va_P D vCl (wM ad ca cd po nu pt st cy pl bk me kc ro en un li tn tx ia T0.2.1 T0.2.2.1 T0.1 T0.2.2.2) H → va_D A (wM ad ca cd po nu pt st cy pl bk me kc ro en un li tn tx ia T0.2.1 T0.2.2.1 T0.1 T0.2.2.2) → va_S A s.heap H locs → W p l e { frames := 3, cells := 0, slots := 0, locals := 77 } s m ([.ref (ad 12)] : List Value).toArray below meth c H locs 0 0 (MQ below (va_Qi (fun r w => (∃ T, asM tx tn lb md wn = ((-1), T) ∧ T.2.1 ≤ 64 ∧ r = (-1) ∧ w = wM ad ca cd po nu pt st cy pl bk me kc ro en un li tn tx ia ((T).2.1) ((T).2.2.1) ((T).1) ((T).2.2.2)) ∨ (∃ b T, asM tx tn lb md wn = (nI b, T) ∧ b < 240 ∧ T.2.1 ≤ 64 ∧ r = nI b ∧ w = wM ad ca cd po nu pt st cy pl bk me kc ro en un li tn tx ia ((T).2.1) ((T).2.2.1) ((T).1) ((T).2.2.2))) (zB D (zty ca) (wM ad ca cd po nu pt st cy pl bk me kc ro en un li tn tx ia ct md lb wn) sz) (va_A (wM ad ca cd po nu pt st cy pl bk me kc ro en un li tn tx ia ct md lb wn) sz)) ([.ref (ad 12)] : List Value).toArray s 0 0 (va_A (wM ad ca cd po nu pt st cy pl bk me kc ro en un li tn tx ia ct md lb wn) sz)) (F0 m 28 ls []) := by
          intro n_lo
          induction n_lo with
          | zero => intro a0 r0 T0 H locs ls hm; exact absurd hm (Nat.not_lt_zero _)
          | succ n_lo ih_lo =>
            intro a0 r0 T0 H locs ls hm ha0 hr0 okM0 hL hl hP hD hS
            have hct0 := okM0.1
            refine lv_iload_n hx hb d_Mo_read_28 rfl (lv_at hl 0 rfl) ?_
            refine lv_aload_n hx hb d_Mo_read_29 rfl (lv_at hl 1 rfl) ?_
            refine va_get (D := D) (ci := 5) (v := .int (nI tn)) (C := RMo) (T := TMo) (N := 21) hx hb ht inMo hown hK hP 0 rfl rfl 14 (by decide) (ht _ q560) (fun _ h9 => h9) rfl d_Mo_read_30 ?_
            refine lv_icmp_ge (tgt := 95) hx hb d_Mo_read_33 (by decide) (fun h2 => ?_) (fun h2 => ?_)
            · skip
              have h2 : (tn ≤ a0) := (nI_leI (by omega) (by omega)).mp h2
              have hL0 := hL.trans (re_e (r := r0) (T := T0) (tn := tn) (a0 := a0) (tx := tx) (by omega))
              refine lv_iconst (v := nI 0) hx hb d_Mo_read_95 (by decide) ?_
              refine lv_istore_n hx hb d_Mo_read_96 rfl hl (by decide) rfl (fun ls hl => ?_)
              have hl : lv_has ls 4 [(2, .int (nI 0)), (1, .int (nI a0)), (0, .ref (ad 12))] := hl
              have loop_lf : ∀ (n_lf : Nat) (i : Nat) (md0 : Nat → Nat) (H : Heap) (locs : List Loc) (ls : Array Slot), T0.2.1 - i < n_lf → (i ≤ T0.2.1) → (rfM tx T0.1 T0.2.2.2 T0.2.1 0 T0.2.2.1 = rfM tx T0.1 T0.2.2.2 (T0.2.1 - i) i md0) → lv_has ls 4 [(2, .int (nI i)), (0, .ref (ad 12))] → va_P D vCl (wM ad ca cd po nu pt st cy pl bk me kc ro en un li tn tx ia T0.2.1 md0 T0.1 T0.2.2.2) H → va_D A (wM ad ca cd po nu pt st cy pl bk me kc ro en un li tn tx ia T0.2.1 md0 T0.1 T0.2.2.2) → va_S A s.heap H locs → W p l e { frames := 3, cells := 0, slots := 0, locals := 77 } s m ([.ref (ad 12)] : List Value).toArray below meth c H locs 0 0 (MQ below (va_Qi (fun r w => (∃ T, asM tx tn lb md wn = ((-1), T) ∧ T.2.1 ≤ 64 ∧ r = (-1) ∧ w = wM ad ca cd po nu pt st cy pl bk me kc ro en un li tn tx ia ((T).2.1) ((T).2.2.1) ((T).1) ((T).2.2.2)) ∨ (∃ b T, asM tx tn lb md wn = (nI b, T) ∧ b < 240 ∧ T.2.1 ≤ 64 ∧ r = nI b ∧ w = wM ad ca cd po nu pt st cy pl bk me kc ro en un li tn tx ia ((T).2.1) ((T).2.2.1) ((T).1) ((T).2.2.2))) (zB D (zty ca) (wM ad ca cd po nu pt st cy pl bk me kc ro en un li tn tx ia ct md lb wn) sz) (va_A (wM ad ca cd po nu pt st cy pl bk me kc ro en un li tn tx ia ct md lb wn) sz)) ([.ref (ad 12)] : List Value).toArray s 0 0 (va_A (wM ad ca cd po nu pt st cy pl bk me kc ro en un li tn tx ia ct md lb wn) sz)) (F0 m 97 ls []) := by
                intro n_lf
                induction n_lf with
                | zero => intro i md0 H locs ls hm; exact absurd hm (Nat.not_lt_zero _)
                | succ n_lf ih_lf =>
                  intro i md0 H locs ls hm hi hF hl hP hD hS
                  refine lv_iload_n hx hb d_Mo_read_97 rfl (lv_at hl 0 rfl) ?_
                  refine lv_aload_n hx hb d_Mo_read_98 rfl (lv_at hl 1 rfl) ?_
                  refine va_get (D := D) (ci := 5) (v := .int (nI T0.2.1)) (C := RMo) (T := TMo) (N := 21) hx hb ht inMo hown hK hP 0 rfl rfl 17 (by decide) (ht _ q563) (fun _ h9 => h9) rfl d_Mo_read_99 ?_
                  refine lv_icmp_ge (tgt := 175) hx hb d_Mo_read_102 (by decide) (fun h3 => ?_) (fun h3 => ?_)
                  · skip
                    have h3 : (T0.2.1 ≤ i) := (nI_leI (by omega) (by omega)).mp h3
                    refine lv_iconst (v := (-1)) hx hb d_Mo_read_175 (by decide) ?_
                    rw [show T0.2.1 - i = 0 by omega, rf_0] at hF
                    exact zret_i C0 hr hAe hP hD hS (Or.inl ⟨(T0.1, T0.2.1, md0, T0.2.2.2), by rw [asM_a hL0, hF], okM0.1, rfl, rfl⟩) d_Mo_read_176
                  · skip
                    have h3 : ¬ (T0.2.1 ≤ i) := fun z => h3 ((nI_leI (by omega) (by omega)).mpr z)
                    refine lv_aload_n hx hb d_Mo_read_105 rfl (lv_at hl 1 rfl) ?_
                    refine va_get (D := D) (ci := 5) (v := .ref (ad 20)) (C := RMo) (T := TMo) (N := 21) hx hb ht inMo hown hK hP 0 rfl rfl 20 (by decide) (ht _ q566) (fun _ h9 => h9) rfl d_Mo_read_106 ?_
                    refine lv_iload_n hx hb d_Mo_read_109 rfl (lv_at hl 0 rfl) ?_
                    refine va_iald hx hb hK hP 8 0 rfl rfl (vp_in_nI (n := i) (by omega) (by decide)) d_Mo_read_110 ?_
                    refine zti (y := T0.2.2.2 i) (rF_at (by omega)) ?_
                    rcases okM0.2.2 i (by omega) with hg | ⟨b0, hb0, hg, hc1, hc2⟩
                    · skip
                      refine zti (y := (-1)) hg ?_
                      refine lv_if_ge (tgt := 117) hx hb d_Mo_read_111 (by decide) (fun h4 => absurd h4 (by decide)) (fun _ => ?_)
                      refine lv_goto (tgt := 169) hx hb d_Mo_read_114 (by decide) ?_
                      refine lv_iinc (k := 0) (v := nI (i + 1)) hx hb d_Mo_read_169 hl rfl (zinc _) (by decide) rfl (fun ls hl => ?_)
                      have hl : lv_has ls 4 [(2, .int (nI (i + 1))), (0, .ref (ad 12))] := hl
                      refine lv_goto (tgt := 97) hx hb d_Mo_read_172 (by decide) ?_
                      rw [show T0.2.1 - i = (T0.2.1 - (i + 1)) + 1 by omega, rf_w (r := T0.2.1 - (i + 1)) (i := i)] at hF
                      rw [if_pos hg] at hF
                      exact ih_lf (i + 1) md0 H locs ls (by omega) (by omega) hF hl hP hD hS
                    · skip
                      refine zti (y := nI b0) hg ?_
                      refine lv_if_ge (tgt := 117) hx hb d_Mo_read_111 (by decide) (fun _ => ?_) (fun h5 => (h5 (nI_pos' (by omega))).elim)
                      refine lv_aload_n hx hb d_Mo_read_117 rfl (lv_at hl 1 rfl) ?_
                      refine va_get (D := D) (ci := 5) (v := .ref (ad 19)) (C := RMo) (T := TMo) (N := 21) hx hb ht inMo hown hK hP 0 rfl rfl 19 (by decide) (ht _ q565) (fun _ h9 => h9) rfl d_Mo_read_118 ?_
                      refine lv_aload_n hx hb d_Mo_read_121 rfl (lv_at hl 1 rfl) ?_
                      refine va_get (D := D) (ci := 5) (v := .ref (ad 17)) (C := RMo) (T := TMo) (N := 21) hx hb ht inMo hown hK hP 0 rfl rfl 15 (by decide) (ht _ q561) (fun _ h9 => h9) rfl d_Mo_read_122 ?_
                      refine lv_aload_n hx hb d_Mo_read_125 rfl (lv_at hl 1 rfl) ?_
                      refine va_get (D := D) (ci := 5) (v := .ref (ad 20)) (C := RMo) (T := TMo) (N := 21) hx hb ht inMo hown hK hP 0 rfl rfl 20 (by decide) (ht _ q566) (fun _ h9 => h9) rfl d_Mo_read_126 ?_
                      refine lv_iload_n hx hb d_Mo_read_129 rfl (lv_at hl 0 rfl) ?_
                      refine va_iald hx hb hK hP 8 0 rfl rfl (vp_in_nI (n := i) (by omega) (by decide)) d_Mo_read_130 ?_
                      refine zti (y := T0.2.2.2 i) (rF_at (by omega)) ?_
                      refine zti (y := nI b0) hg ?_
                      refine lv_iconst (v := nI 1) hx hb d_Mo_read_131 (by decide) ?_
                      refine lv_iadd hx hb d_Mo_read_132 ?_
                      refine zti (y := nI (b0 + 1)) (nI_add _ _) ?_
                      refine va_cald hx hb hK hP 5 2 rfl rfl (vp_in_nI (n := b0 + 1) (by omega) (by decide)) d_Mo_read_133 ?_
                      refine zti (y := nI (tx (b0 + 1))) (nF_at (by omega)) ?_
                      refine lv_bipush (v := nI 97) hx hb d_Mo_read_134 (by decide) ?_
                      refine lv_isub hx hb d_Mo_read_136 ?_
                      refine zti (y := nI ((tx (b0 + 1)) - 97)) (pk_sub (by omega)) ?_
                      refine va_iald hx hb hK hP 7 0 rfl rfl (vp_in_nI (n := (tx (b0 + 1)) - 97) (by omega) (by decide)) d_Mo_read_137 ?_
                      refine zti (y := T0.1 ((tx (b0 + 1)) - 97)) (rF_at (by omega)) ?_
                      rcases okM0.2.1 (tx (b0 + 1) - 97) (by omega) with hq | ⟨t0, ht0, hq⟩
                      · skip
                        refine zti (y := (-1)) hq ?_
                        refine lv_istore_n hx hb d_Mo_read_138 rfl hl (by decide) rfl (fun ls hl => ?_)
                        have hl : lv_has ls 4 [(3, .int (-1)), (2, .int (nI i)), (0, .ref (ad 12))] := hl
                        refine lv_iload_n hx hb d_Mo_read_139 rfl (lv_at hl 0 rfl) ?_
                        refine lv_if_ge (tgt := 150) hx hb d_Mo_read_140 (by decide) (fun h6 => absurd h6 (by decide)) (fun _ => ?_)
                        refine lv_aload_n hx hb d_Mo_read_143 rfl (lv_at hl 2 rfl) ?_
                        refine va_get (D := D) (ci := 5) (v := .ref (ad 20)) (C := RMo) (T := TMo) (N := 21) hx hb ht inMo hown hK hP 0 rfl rfl 20 (by decide) (ht _ q566) (fun _ h9 => h9) rfl d_Mo_read_144 ?_
                        refine lv_iload_n hx hb d_Mo_read_147 rfl (lv_at hl 1 rfl) ?_
                        refine va_iald hx hb hK hP 8 0 rfl rfl (vp_in_nI (n := i) (by omega) (by decide)) d_Mo_read_148 ?_
                        refine zti (y := T0.2.2.2 i) (rF_at (by omega)) ?_
                        refine zti (y := nI b0) hg ?_
                        rw [show T0.2.1 - i = (T0.2.1 - (i + 1)) + 1 by omega, rf_w (r := T0.2.1 - (i + 1)) (i := i)] at hF
                        rw [if_neg (fun z => zm1 (n := b0) (by omega) (hg.symm.trans z)), hg, nI_clamp (by omega)] at hF
                        rw [if_pos hq] at hF
                        exact zret_i C0 hr hAe hP hD hS (Or.inr ⟨b0, (T0.1, T0.2.1, md0, T0.2.2.2), by rw [asM_a hL0, hF], by omega, okM0.1, rfl, rfl⟩) d_Mo_read_149
                      · skip
                        refine zti (y := nI t0) hq ?_
                        refine lv_istore_n hx hb d_Mo_read_138 rfl hl (by decide) rfl (fun ls hl => ?_)
                        have hl : lv_has ls 4 [(3, .int (nI t0)), (2, .int (nI i)), (0, .ref (ad 12))] := hl
                        refine lv_iload_n hx hb d_Mo_read_139 rfl (lv_at hl 0 rfl) ?_
                        refine lv_if_ge (tgt := 150) hx hb d_Mo_read_140 (by decide) (fun _ => ?_) (fun h7 => (h7 (nI_pos' (by omega))).elim)
                        refine lv_aload_n hx hb d_Mo_read_150 rfl (lv_at hl 2 rfl) ?_
                        refine va_get (D := D) (ci := 5) (v := .ref (ad 18)) (C := RMo) (T := TMo) (N := 21) hx hb ht inMo hown hK hP 0 rfl rfl 18 (by decide) (ht _ q564) (fun _ h9 => h9) rfl d_Mo_read_151 ?_
                        refine lv_iload_n hx hb d_Mo_read_154 rfl (lv_at hl 1 rfl) ?_
                        refine lv_aload_n hx hb d_Mo_read_155 rfl (lv_at hl 2 rfl) ?_
                        refine va_get (D := D) (ci := 5) (v := .ref (ad 18)) (C := RMo) (T := TMo) (N := 21) hx hb ht inMo hown hK hP 0 rfl rfl 18 (by decide) (ht _ q564) (fun _ h9 => h9) rfl d_Mo_read_156 ?_
                        refine lv_iload_n hx hb d_Mo_read_159 rfl (lv_at hl 1 rfl) ?_
                        refine va_iald hx hb hK hP 6 0 rfl rfl (vp_in_nI (n := i) (by omega) (by decide)) d_Mo_read_160 ?_
                        refine zti (y := nI (md0 i)) (nF_at (by omega)) ?_
                        refine lv_iconst (v := nI 4) hx hb d_Mo_read_161 (by decide) ?_
                        refine lv_iload_n hx hb d_Mo_read_162 rfl (lv_at hl 0 rfl) ?_
                        refine lv_bipush (v := nI 64) hx hb d_Mo_read_163 (by decide) ?_
                        refine lv_irem hx hb d_Mo_read_165 (nI_ne0 (by omega) (by omega)) ?_
                        refine zti (y := nI (t0 % 64)) (pk_rem (by omega) (by omega) (by omega)) ?_
                        refine lv_imul hx hb d_Mo_read_166 ?_
                        refine zti (y := nI (4 * (t0 % 64))) (pk_mul _ _) ?_
                        refine lv_iadd hx hb d_Mo_read_167 ?_
                        refine zti (y := nI ((md0 i) + (4 * (t0 % 64)))) (nI_add _ _) ?_
                        refine va_iast hx hb hK hP hD hS 6 0 rfl rfl (vp_in_nI (n := i) (by omega) (by decide)) d_Mo_read_168 (fun H locs hP hD hS => ?_)
                        rw [nF_up (by omega)] at hP hD
                        have hP : va_P D vCl (wM ad ca cd po nu pt st cy pl bk me kc ro en un li tn tx ia T0.2.1 (uN md0 i ((md0 i) + (4 * (t0 % 64)))) T0.1 T0.2.2.2) H := hP
                        have hD : va_D A (wM ad ca cd po nu pt st cy pl bk me kc ro en un li tn tx ia T0.2.1 (uN md0 i ((md0 i) + (4 * (t0 % 64)))) T0.1 T0.2.2.2) := hD
                        refine lv_iinc (k := 1) (v := nI (i + 1)) hx hb d_Mo_read_169 hl rfl (zinc _) (by decide) rfl (fun ls hl => ?_)
                        have hl : lv_has ls 4 [(2, .int (nI (i + 1))), (3, .int (nI t0)), (0, .ref (ad 12))] := hl
                        refine lv_goto (tgt := 97) hx hb d_Mo_read_172 (by decide) ?_
                        rw [show T0.2.1 - i = (T0.2.1 - (i + 1)) + 1 by omega, rf_w (r := T0.2.1 - (i + 1)) (i := i)] at hF
                        rw [if_neg (fun z => zm1 (n := b0) (by omega) (hg.symm.trans z)), hg, nI_clamp (by omega)] at hF
                        rw [if_neg (fun z => zm1 (n := t0) (by omega) (hq.symm.trans z)), hq, nI_clamp (by omega)] at hF
                        exact ih_lf (i + 1) (uN md0 i (md0 i + 4 * (t0 % 64))) H locs ls (by omega) (by omega) hF (lv_sub hl [0, 2] rfl) hP hD hS
              exact loop_lf (T0.2.1 + 1) 0 T0.2.2.1 _ _ _ (by omega) (by omega) rfl (lv_sub hl [0, 2] rfl) hP hD hS
            · skip
              have h2 : ¬ (tn ≤ a0) := fun z => h2 ((nI_leI (by omega) (by omega)).mpr z)
              refine lv_iload_n hx hb d_Mo_read_36 rfl (lv_at hl 0 rfl) ?_
              refine lv_istore_n hx hb d_Mo_read_37 rfl hl (by decide) rfl (fun ls hl => ?_)
              have hl : lv_has ls 4 [(2, .int (nI a0)), (1, .int (nI a0)), (0, .ref (ad 12))] := hl
              have loop_lj : ∀ (n_lj : Nat) (j : Nat) (H : Heap) (locs : List Loc) (ls : Array Slot), tn - j < n_lj → (a0 ≤ j ∧ j ≤ tn) → (eN tx tn (tn - a0) a0 = eN tx tn (tn - j) j) → lv_has ls 4 [(2, .int (nI j)), (0, .ref (ad 12)), (1, .int (nI a0))] → va_P D vCl (wM ad ca cd po nu pt st cy pl bk me kc ro en un li tn tx ia T0.2.1 T0.2.2.1 T0.1 T0.2.2.2) H → va_D A (wM ad ca cd po nu pt st cy pl bk me kc ro en un li tn tx ia T0.2.1 T0.2.2.1 T0.1 T0.2.2.2) → va_S A s.heap H locs → W p l e { frames := 3, cells := 0, slots := 0, locals := 77 } s m ([.ref (ad 12)] : List Value).toArray below meth c H locs 0 0 (MQ below (va_Qi (fun r w => (∃ T, asM tx tn lb md wn = ((-1), T) ∧ T.2.1 ≤ 64 ∧ r = (-1) ∧ w = wM ad ca cd po nu pt st cy pl bk me kc ro en un li tn tx ia ((T).2.1) ((T).2.2.1) ((T).1) ((T).2.2.2)) ∨ (∃ b T, asM tx tn lb md wn = (nI b, T) ∧ b < 240 ∧ T.2.1 ≤ 64 ∧ r = nI b ∧ w = wM ad ca cd po nu pt st cy pl bk me kc ro en un li tn tx ia ((T).2.1) ((T).2.2.1) ((T).1) ((T).2.2.2))) (zB D (zty ca) (wM ad ca cd po nu pt st cy pl bk me kc ro en un li tn tx ia ct md lb wn) sz) (va_A (wM ad ca cd po nu pt st cy pl bk me kc ro en un li tn tx ia ct md lb wn) sz)) ([.ref (ad 12)] : List Value).toArray s 0 0 (va_A (wM ad ca cd po nu pt st cy pl bk me kc ro en un li tn tx ia ct md lb wn) sz)) (F0 m 38 ls []) := by
                intro n_lj
                induction n_lj with
                | zero => intro j H locs ls hm; exact absurd hm (Nat.not_lt_zero _)
                | succ n_lj ih_lj =>
                  intro j H locs ls hm hj hE hl hP hD hS
                  have htj := htx j
                  refine lv_iload_n hx hb d_Mo_read_38 rfl (lv_at hl 0 rfl) ?_
                  refine lv_aload_n hx hb d_Mo_read_39 rfl (lv_at hl 1 rfl) ?_
                  refine va_get (D := D) (ci := 5) (v := .int (nI tn)) (C := RMo) (T := TMo) (N := 21) hx hb ht inMo hown hK hP 0 rfl rfl 14 (by decide) (ht _ q560) (fun _ h9 => h9) rfl d_Mo_read_40 ?_
                  refine lv_icmp_ge (tgt := 63) hx hb d_Mo_read_43 (by decide) (fun h8 => ?_) (fun h8 => ?_)
                  · skip
                    have h8 : (tn ≤ j) := (nI_leI (by omega) (by omega)).mp h8
                    rw [show tn - j = 0 by omega, e_0] at hE
                    refine lv_iload_n hx hb d_Mo_read_63 rfl (lv_at hl 0 rfl) ?_
                    refine lv_iload_n hx hb d_Mo_read_64 rfl (lv_at hl 2 rfl) ?_
                    refine lv_icmp_le (tgt := 79) hx hb d_Mo_read_65 (by decide) (fun h9 => ?_) (fun h9 => ?_)
                    · skip
                      have h9 : (j ≤ a0) := (nI_leI (by omega) (by omega)).mp h9
                      refine lv_iload_n hx hb d_Mo_read_79 rfl (lv_at hl 0 rfl) ?_
                      refine lv_iload_n hx hb d_Mo_read_80 rfl (lv_at hl 2 rfl) ?_
                      refine lv_icmp_le (tgt := 88) hx hb d_Mo_read_81 (by decide) (fun _ => ?_) (fun h10 => absurd ((nI_leI (by omega) (by omega)).mpr (by omega)) h10)
                      refine lv_iload_n hx hb d_Mo_read_88 rfl (lv_at hl 2 rfl) ?_
                      refine lv_iconst (v := nI 1) hx hb d_Mo_read_89 (by decide) ?_
                      refine lv_iadd hx hb d_Mo_read_90 ?_
                      refine zti (y := nI (a0 + 1)) (nI_add _ _) ?_
                      refine lv_istore_n hx hb d_Mo_read_91 rfl hl (by decide) rfl (fun ls hl => ?_)
                      have hl : lv_has ls 4 [(1, .int (nI (a0 + 1))), (2, .int (nI j)), (0, .ref (ad 12))] := hl
                      refine lv_goto (tgt := 28) hx hb d_Mo_read_92 (by decide) ?_
                      rw [show r0 = (r0 - 1) + 1 by omega, re_w (r := r0 - 1) (a0 := a0), if_neg (by omega), hE, if_neg (by omega)] at hL
                      exact ih_lo (a0 + 1) (r0 - 1) T0 H locs ls (by omega) (by omega) (by omega) okM0 hL (lv_sub hl [0, 2] rfl) hP hD hS
                    · skip
                      have h9 : ¬ (j ≤ a0) := fun z => h9 ((nI_leI (by omega) (by omega)).mpr z)
                      refine lv_aload_n hx hb d_Mo_read_68 rfl (lv_at hl 1 rfl) ?_
                      refine lv_iload_n hx hb d_Mo_read_69 rfl (lv_at hl 2 rfl) ?_
                      refine lv_iload_n hx hb d_Mo_read_70 rfl (lv_at hl 0 rfl) ?_
                      refine zgo_i (wr := []) C0 (zrunV (na := 2) (As := [.int (nI a0), .int (nI j)]) (rest := []) C0 hP hD hS [0, 1, 2, 3, 4, 5, 6, 7, 8] rfl rfl (m_Mo_take l D ca k H.size ad cd po nu pt st cy pl bk me kc ro en un li tn tx ia T0.2.1 T0.2.2.1 T0.1 T0.2.2.2 a0 j (by omega) (by omega) (by omega) htx) (zg_V q674 q676 q836 q7 q677) (by decide +kernel) rfl rfl ⟨by decide, by decide⟩ 0 rfl rfl rfl hl.1 rfl (Nat.le_of_ble_eq_true rfl) d_Mo_read_71 ⟨Nat.zero_le _, Nat.zero_le _⟩) hP hD hS [0, 1, 2, 3, 4, 5, 6, 7, 8] [] rfl rfl (by decide) (by decide) (fun r11 w1 H locs hw hP hD hS => ?_)
                      rcases hw with ⟨T11, hT11, rfl, rfl⟩ | ⟨hT11, rfl, rfl⟩
                      · skip
                        have hP : va_P D vCl (wM ad ca cd po nu pt st cy pl bk me kc ro en un li tn tx ia T11.2.1 T11.2.2.1 T11.1 T11.2.2.2) H := hP
                        have hD : va_D A (wM ad ca cd po nu pt st cy pl bk me kc ro en un li tn tx ia T11.2.1 T11.2.2.1 T11.1 T11.2.2.2) := hD
                        refine lv_if_ne (tgt := 79) hx hb d_Mo_read_74 (by decide) (fun _ => ?_) (fun h12 => absurd h12 (by decide))
                        refine lv_iload_n hx hb d_Mo_read_79 rfl (lv_at hl 0 rfl) ?_
                        refine lv_iload_n hx hb d_Mo_read_80 rfl (lv_at hl 2 rfl) ?_
                        refine lv_icmp_le (tgt := 88) hx hb d_Mo_read_81 (by decide) (fun h13 => absurd ((nI_leI (by omega) (by omega)).mp h13) (by omega)) (fun _ => ?_)
                        refine lv_iload_n hx hb d_Mo_read_84 rfl (lv_at hl 0 rfl) ?_
                        refine lv_goto (tgt := 91) hx hb d_Mo_read_85 (by decide) ?_
                        refine lv_istore_n hx hb d_Mo_read_91 rfl hl (by decide) rfl (fun ls hl => ?_)
                        have hl : lv_has ls 4 [(1, .int (nI j)), (2, .int (nI j)), (0, .ref (ad 12))] := hl
                        refine lv_goto (tgt := 28) hx hb d_Mo_read_92 (by decide) ?_
                        rw [show r0 = (r0 - 1) + 1 by omega, re_w (r := r0 - 1) (a0 := a0), if_neg (by omega), hE, if_pos (by omega), hT11] at hL
                        dsimp only at hL
                        exact ih_lo j (r0 - 1) T11 H locs ls (by omega) (by omega) (by omega) (okM_t (by omega) okM0 hT11) hL (lv_sub hl [0, 2] rfl) hP hD hS
                      · skip
                        have hP : va_P D vCl (wM ad ca cd po nu pt st cy pl bk me kc ro en un li tn tx ia T0.2.1 T0.2.2.1 T0.1 T0.2.2.2) H := hP
                        have hD : va_D A (wM ad ca cd po nu pt st cy pl bk me kc ro en un li tn tx ia T0.2.1 T0.2.2.1 T0.1 T0.2.2.2) := hD
                        refine lv_if_ne (tgt := 79) hx hb d_Mo_read_74 (by decide) (fun h14 => absurd (by decide) h14) (fun _ => ?_)
                        refine lv_iload_n hx hb d_Mo_read_77 rfl (lv_at hl 2 rfl) ?_
                        rw [show r0 = (r0 - 1) + 1 by omega, re_w (r := r0 - 1) (a0 := a0), if_neg (by omega), hE, if_pos (by omega), hT11] at hL
                        dsimp only at hL
                        exact zret_i C0 hr hAe hP hD hS (Or.inr ⟨a0, T0, asM_b (by omega) hL, by omega, okM0.1, rfl, rfl⟩) d_Mo_read_78
                  · skip
                    have h8 : ¬ (tn ≤ j) := fun z => h8 ((nI_leI (by omega) (by omega)).mpr z)
                    refine lv_aload_n hx hb d_Mo_read_46 rfl (lv_at hl 1 rfl) ?_
                    refine va_get (D := D) (ci := 5) (v := .ref (ad 17)) (C := RMo) (T := TMo) (N := 21) hx hb ht inMo hown hK hP 0 rfl rfl 15 (by decide) (ht _ q561) (fun _ h9 => h9) rfl d_Mo_read_47 ?_
                    refine lv_iload_n hx hb d_Mo_read_50 rfl (lv_at hl 0 rfl) ?_
                    refine va_cald hx hb hK hP 5 2 rfl rfl (vp_in_nI (n := j) (by omega) (by decide)) d_Mo_read_51 ?_
                    refine zti (y := nI (tx j)) (nF_at (by omega)) ?_
                    refine lv_bipush (v := nI 32) hx hb d_Mo_read_52 (by decide) ?_
                    refine lv_icmp_eq (tgt := 63) hx hb d_Mo_read_54 (by decide) (fun h15 => ?_) (fun h15 => ?_)
                    · skip
                      have h15 : ((tx j) = 32) := (nI_eq (by omega) (by omega)).mp h15
                      rw [show tn - j = (tn - (j + 1)) + 1 by omega, e_s h15] at hE
                      refine lv_iload_n hx hb d_Mo_read_63 rfl (lv_at hl 0 rfl) ?_
                      refine lv_iload_n hx hb d_Mo_read_64 rfl (lv_at hl 2 rfl) ?_
                      refine lv_icmp_le (tgt := 79) hx hb d_Mo_read_65 (by decide) (fun h16 => ?_) (fun h16 => ?_)
                      · skip
                        have h16 : (j ≤ a0) := (nI_leI (by omega) (by omega)).mp h16
                        refine lv_iload_n hx hb d_Mo_read_79 rfl (lv_at hl 0 rfl) ?_
                        refine lv_iload_n hx hb d_Mo_read_80 rfl (lv_at hl 2 rfl) ?_
                        refine lv_icmp_le (tgt := 88) hx hb d_Mo_read_81 (by decide) (fun _ => ?_) (fun h17 => absurd ((nI_leI (by omega) (by omega)).mpr (by omega)) h17)
                        refine lv_iload_n hx hb d_Mo_read_88 rfl (lv_at hl 2 rfl) ?_
                        refine lv_iconst (v := nI 1) hx hb d_Mo_read_89 (by decide) ?_
                        refine lv_iadd hx hb d_Mo_read_90 ?_
                        refine zti (y := nI (a0 + 1)) (nI_add _ _) ?_
                        refine lv_istore_n hx hb d_Mo_read_91 rfl hl (by decide) rfl (fun ls hl => ?_)
                        have hl : lv_has ls 4 [(1, .int (nI (a0 + 1))), (2, .int (nI j)), (0, .ref (ad 12))] := hl
                        refine lv_goto (tgt := 28) hx hb d_Mo_read_92 (by decide) ?_
                        rw [show r0 = (r0 - 1) + 1 by omega, re_w (r := r0 - 1) (a0 := a0), if_neg (by omega), hE, if_neg (by omega)] at hL
                        exact ih_lo (a0 + 1) (r0 - 1) T0 H locs ls (by omega) (by omega) (by omega) okM0 hL (lv_sub hl [0, 2] rfl) hP hD hS
                      · skip
                        have h16 : ¬ (j ≤ a0) := fun z => h16 ((nI_leI (by omega) (by omega)).mpr z)
                        refine lv_aload_n hx hb d_Mo_read_68 rfl (lv_at hl 1 rfl) ?_
                        refine lv_iload_n hx hb d_Mo_read_69 rfl (lv_at hl 2 rfl) ?_
                        refine lv_iload_n hx hb d_Mo_read_70 rfl (lv_at hl 0 rfl) ?_
                        refine zgo_i (wr := []) C0 (zrunV (na := 2) (As := [.int (nI a0), .int (nI j)]) (rest := []) C0 hP hD hS [0, 1, 2, 3, 4, 5, 6, 7, 8] rfl rfl (m_Mo_take l D ca k H.size ad cd po nu pt st cy pl bk me kc ro en un li tn tx ia T0.2.1 T0.2.2.1 T0.1 T0.2.2.2 a0 j (by omega) (by omega) (by omega) htx) (zg_V q674 q676 q836 q7 q677) (by decide +kernel) rfl rfl ⟨by decide, by decide⟩ 0 rfl rfl rfl hl.1 rfl (Nat.le_of_ble_eq_true rfl) d_Mo_read_71 ⟨Nat.zero_le _, Nat.zero_le _⟩) hP hD hS [0, 1, 2, 3, 4, 5, 6, 7, 8] [] rfl rfl (by decide) (by decide) (fun r18 w1 H locs hw hP hD hS => ?_)
                        rcases hw with ⟨T18, hT18, rfl, rfl⟩ | ⟨hT18, rfl, rfl⟩
                        · skip
                          have hP : va_P D vCl (wM ad ca cd po nu pt st cy pl bk me kc ro en un li tn tx ia T18.2.1 T18.2.2.1 T18.1 T18.2.2.2) H := hP
                          have hD : va_D A (wM ad ca cd po nu pt st cy pl bk me kc ro en un li tn tx ia T18.2.1 T18.2.2.1 T18.1 T18.2.2.2) := hD
                          refine lv_if_ne (tgt := 79) hx hb d_Mo_read_74 (by decide) (fun _ => ?_) (fun h19 => absurd h19 (by decide))
                          refine lv_iload_n hx hb d_Mo_read_79 rfl (lv_at hl 0 rfl) ?_
                          refine lv_iload_n hx hb d_Mo_read_80 rfl (lv_at hl 2 rfl) ?_
                          refine lv_icmp_le (tgt := 88) hx hb d_Mo_read_81 (by decide) (fun h20 => absurd ((nI_leI (by omega) (by omega)).mp h20) (by omega)) (fun _ => ?_)
                          refine lv_iload_n hx hb d_Mo_read_84 rfl (lv_at hl 0 rfl) ?_
                          refine lv_goto (tgt := 91) hx hb d_Mo_read_85 (by decide) ?_
                          refine lv_istore_n hx hb d_Mo_read_91 rfl hl (by decide) rfl (fun ls hl => ?_)
                          have hl : lv_has ls 4 [(1, .int (nI j)), (2, .int (nI j)), (0, .ref (ad 12))] := hl
                          refine lv_goto (tgt := 28) hx hb d_Mo_read_92 (by decide) ?_
                          rw [show r0 = (r0 - 1) + 1 by omega, re_w (r := r0 - 1) (a0 := a0), if_neg (by omega), hE, if_pos (by omega), hT18] at hL
                          dsimp only at hL
                          exact ih_lo j (r0 - 1) T18 H locs ls (by omega) (by omega) (by omega) (okM_t (by omega) okM0 hT18) hL (lv_sub hl [0, 2] rfl) hP hD hS
                        · skip
                          have hP : va_P D vCl (wM ad ca cd po nu pt st cy pl bk me kc ro en un li tn tx ia T0.2.1 T0.2.2.1 T0.1 T0.2.2.2) H := hP
                          have hD : va_D A (wM ad ca cd po nu pt st cy pl bk me kc ro en un li tn tx ia T0.2.1 T0.2.2.1 T0.1 T0.2.2.2) := hD
                          refine lv_if_ne (tgt := 79) hx hb d_Mo_read_74 (by decide) (fun h21 => absurd (by decide) h21) (fun _ => ?_)
                          refine lv_iload_n hx hb d_Mo_read_77 rfl (lv_at hl 2 rfl) ?_
                          rw [show r0 = (r0 - 1) + 1 by omega, re_w (r := r0 - 1) (a0 := a0), if_neg (by omega), hE, if_pos (by omega), hT18] at hL
                          dsimp only at hL
                          exact zret_i C0 hr hAe hP hD hS (Or.inr ⟨a0, T0, asM_b (by omega) hL, by omega, okM0.1, rfl, rfl⟩) d_Mo_read_78
                    · skip
                      have h15 : ¬ ((tx j) = 32) := fun z => h15 ((nI_eq (by omega) (by omega)).mpr z)
                      refine lv_iinc (k := 0) (v := nI (j + 1)) hx hb d_Mo_read_57 hl rfl (zinc _) (by decide) rfl (fun ls hl => ?_)
                      have hl : lv_has ls 4 [(2, .int (nI (j + 1))), (0, .ref (ad 12)), (1, .int (nI a0))] := hl
                      refine lv_goto (tgt := 38) hx hb d_Mo_read_60 (by decide) ?_
                      rw [show tn - j = (tn - (j + 1)) + 1 by omega, e_n h15] at hE
                      exact ih_lj (j + 1) H locs ls (by omega) (by omega) hE hl hP hD hS
              exact loop_lj (tn - a0 + 1) a0 _ _ _ (by omega) (by omega) rfl (lv_sub hl [0, 2, 1] rfl) hP hD hS
        exact loop_lo (tn + 1) 0 tn (fil lb (-1) 26, 0, md, wn) _ _ _ (by omega) (by omega) (by omega) okM_0 rfl (lv_sub hl [0, 1] rfl) hP hD hS
      · skip
        have h1 : ¬ (26 ≤ i) := fun z => h1 ((nI_leI (by omega) (by omega)).mpr z)
        refine lv_aload_n hx hb d_Mo_read_13 rfl (lv_at hl 1 rfl) ?_
        refine va_get (D := D) (ci := 5) (v := .ref (ad 19)) (C := RMo) (T := TMo) (N := 21) hx hb ht inMo hown hK hP 0 rfl rfl 19 (by decide) (ht _ q565) (fun _ h9 => h9) rfl d_Mo_read_14 ?_
        refine lv_iload_n hx hb d_Mo_read_17 rfl (lv_at hl 0 rfl) ?_
        refine lv_iconst (v := (-1)) hx hb d_Mo_read_18 (by decide) ?_
        refine va_iast hx hb hK hP hD hS 7 0 rfl rfl (vp_in_nI (n := i) (by omega) (by decide)) d_Mo_read_19 (fun H locs hP hD hS => ?_)
        rw [rF_up (by omega)] at hP hD
        have hP : va_P D vCl (wM ad ca cd po nu pt st cy pl bk me kc ro en un li tn tx ia 0 md (upd (fil lb (-1) i) i (-1)) wn) H := hP
        have hD : va_D A (wM ad ca cd po nu pt st cy pl bk me kc ro en un li tn tx ia 0 md (upd (fil lb (-1) i) i (-1)) wn) := hD
        refine lv_iinc (k := 0) (v := nI (i + 1)) hx hb d_Mo_read_20 hl rfl (zinc _) (by decide) rfl (fun ls hl => ?_)
        have hl : lv_has ls 4 [(1, .int (nI (i + 1))), (0, .ref (ad 12))] := hl
        refine lv_goto (tgt := 7) hx hb d_Mo_read_23 (by decide) ?_
        rw [fil_s] at hP hD
        exact ih_lp (i + 1) H locs ls (by omega) (by omega) hl hP hD hS
  exact loop_lp (27) 0 _ _ _ (by omega) (by omega) (lv_sub hl [0, 1] rfl) hP hD hS
