set_option maxHeartbeats 4000000 in
set_option maxRecDepth 100000 in
theorem m_Mo_wordOf (l : Launch) (D : va_G) (ca : Nat → ClassId) (k : Nat → Nat) (sz : Nat) (ad : Nat → Nat) (cd : Nat) (po nu : Nat → Nat) (pt : Nat) (st : Int32) (cy pl bk : Nat) (me : Nat → Nat) (kc : Nat) (ro : Nat → Nat) (en un li tn : Nat) (tx : Nat → Nat) (ia : Int32) (ct : Nat) (md : Nat → Nat) (lb wn : Nat → Int32) (a0 e0 : Nat) (hae : a0 < e0) (he : e0 ≤ 240) (htx : ∀ j, tx j < 127) : Met l y_Mo_wordOf (zw y_Mo_wordOf c_Mo_wordOf 7 (some .int)) { frames := 1, cells := 0, slots := 0, locals := 26 } (va_Pc [.ref (ad 12), .int (nI a0), .int (nI e0)] (zPre D (zty ca) k (wM ad ca cd po nu pt st cy pl bk me kc ro en un li tn tx ia ct md lb wn) sz)) (va_Qi (fun r w => (∃ m0, wM_ tx a0 e0 = some m0 ∧ m0 < 2 ^ 20 ∧ r = nI m0 ∧ w = wM ad ca cd po nu pt st cy pl bk me kc ro en un li tn tx ia ct md lb wn) ∨ (wM_ tx a0 e0 = none ∧ r = (-1) ∧ w = wM ad ca cd po nu pt st cy pl bk me kc ro en un li tn tx ia ct md lb wn)) (zB D (zty ca) (wM ad ca cd po nu pt st cy pl bk me kc ro en un li tn tx ia ct md lb wn) sz) (va_A (wM ad ca cd po nu pt st cy pl bk me kc ro en un li tn tx ia ct md lb wn) sz)) 0 0 (va_A (wM ad ca cd po nu pt st cy pl bk me kc ro en un li tn tx ia ct md lb wn) sz) := by
  refine zOf (own := "DigitChipModel") (by decide +kernel) rfl (Nat.le_of_ble_eq_true rfl) ?_
  intro p e s m below meth c A ls C0 hr hnm hAe hsz hl hP hD hS
  have hl : lv_has ls 7 [(0, .ref (ad 12)), (1, .int (nI a0)), (2, .int (nI e0))] := hl
  obtain ⟨hx, hb, hml, hown, ht, hK, hX, hA, hlk⟩ := id C0
  refine lv_iconst (v := nI 0) hx hb d_Mo_wordOf_0 (by decide) ?_
  refine lv_istore_n hx hb d_Mo_wordOf_1 rfl hl (by decide) rfl (fun ls hl => ?_)
  have hl : lv_has ls 7 [(3, .int (nI 0)), (0, .ref (ad 12)), (1, .int (nI a0)), (2, .int (nI e0))] := hl
  have loop_lp : ∀ (n_lp : Nat) (op : Nat) (H : Heap) (locs : List Loc) (ls : Array Slot), 16 - op < n_lp → (op ≤ 16) → (moR tx a0 e0 16 0 = moR tx a0 e0 (16 - op) op) → lv_has ls 7 [(3, .int (nI op)), (0, .ref (ad 12)), (1, .int (nI a0)), (2, .int (nI e0))] → va_P D vCl (wM ad ca cd po nu pt st cy pl bk me kc ro en un li tn tx ia ct md lb wn) H → va_D A (wM ad ca cd po nu pt st cy pl bk me kc ro en un li tn tx ia ct md lb wn) → va_S A s.heap H locs → W p l e { frames := 1, cells := 0, slots := 0, locals := 26 } s m ([.ref (ad 12), .int (nI a0), .int (nI e0)] : List Value).toArray below meth c H locs 0 0 (MQ below (va_Qi (fun r w => (∃ m0, wM_ tx a0 e0 = some m0 ∧ m0 < 2 ^ 20 ∧ r = nI m0 ∧ w = wM ad ca cd po nu pt st cy pl bk me kc ro en un li tn tx ia ct md lb wn) ∨ (wM_ tx a0 e0 = none ∧ r = (-1) ∧ w = wM ad ca cd po nu pt st cy pl bk me kc ro en un li tn tx ia ct md lb wn)) (zB D (zty ca) (wM ad ca cd po nu pt st cy pl bk me kc ro en un li tn tx ia ct md lb wn) sz) (va_A (wM ad ca cd po nu pt st cy pl bk me kc ro en un li tn tx ia ct md lb wn) sz)) ([.ref (ad 12), .int (nI a0), .int (nI e0)] : List Value).toArray s 0 0 (va_A (wM ad ca cd po nu pt st cy pl bk me kc ro en un li tn tx ia ct md lb wn) sz)) (F0 m 2 ls []) := by
    intro n_lp
    induction n_lp with
    | zero => intro op H locs ls hm; exact absurd hm (Nat.not_lt_zero _)
    | succ n_lp ih_lp =>
      intro op H locs ls hm hop hL hl hP hD hS
      refine lv_iload_n hx hb d_Mo_wordOf_2 rfl (lv_at hl 0 rfl) ?_
      refine lv_bipush (v := nI 16) hx hb d_Mo_wordOf_3 (by decide) ?_
      refine lv_icmp_ge (tgt := 85) hx hb d_Mo_wordOf_5 (by decide) (fun h1 => ?_) (fun h1 => ?_)
      · skip
        have h1 : (16 ≤ op) := (nI_leI (by omega) (by omega)).mp h1
        have hL0 : moR tx a0 e0 16 0 = none := by rw [hL, show 16 - op = 0 by omega]; rfl
        refine lv_iload_n hx hb d_Mo_wordOf_85 rfl (lv_at hl 3 rfl) ?_
        refine lv_iload_n hx hb d_Mo_wordOf_86 rfl (lv_at hl 2 rfl) ?_
        refine lv_isub hx hb d_Mo_wordOf_87 ?_
        refine zti (y := nI (e0 - a0)) (pk_sub (by omega)) ?_
        refine lv_iconst (v := nI 3) hx hb d_Mo_wordOf_88 (by decide) ?_
        refine lv_icmp_lt (tgt := 105) hx hb d_Mo_wordOf_89 (by decide) (fun h2 => ?_) (fun h2 => ?_)
        · skip
          have h2 : ((e0 - a0) < 3) := (nI_ltI (by omega) (by omega)).mp h2
          refine lv_iconst (v := (-1)) hx hb d_Mo_wordOf_105 (by decide) ?_
          exact zret_i C0 hr hAe hP hD hS (Or.inr ⟨by unfold wM_; rw [hL0]; dsimp only; rw [if_pos (by omega)], rfl, rfl⟩) d_Mo_wordOf_106
        · skip
          have h2 : ¬ ((e0 - a0) < 3) := fun z => h2 ((nI_ltI (by omega) (by omega)).mpr z)
          refine lv_aload_n hx hb d_Mo_wordOf_92 rfl (lv_at hl 1 rfl) ?_
          refine va_get (D := D) (ci := 5) (v := .ref (ad 17)) (C := RMo) (T := TMo) (N := 21) hx hb ht inMo hown hK hP 0 rfl rfl 15 (by decide) (ht _ q561) (fun _ h9 => h9) rfl d_Mo_wordOf_93 ?_
          refine lv_iload_n hx hb d_Mo_wordOf_96 rfl (lv_at hl 3 rfl) ?_
          refine lv_iconst (v := nI 2) hx hb d_Mo_wordOf_97 (by decide) ?_
          refine lv_isub hx hb d_Mo_wordOf_98 ?_
          refine zti (y := nI (e0 - 2)) (pk_sub (by omega)) ?_
          refine va_cald hx hb hK hP 5 2 rfl rfl (vp_in_nI (n := e0 - 2) (by omega) (by decide)) d_Mo_wordOf_99 ?_
          refine zti (y := nI (tx (e0 - 2))) (nF_at (by omega)) ?_
          have htd := htx (e0 - 2)
          refine lv_bipush (v := nI 46) hx hb d_Mo_wordOf_100 (by decide) ?_
          refine lv_icmp_eq (tgt := 107) hx hb d_Mo_wordOf_102 (by decide) (fun h3 => ?_) (fun h3 => ?_)
          · skip
            have h3 : ((tx (e0 - 2)) = 46) := (nI_eq (by omega) (by omega)).mp h3
            refine lv_aload_n hx hb d_Mo_wordOf_107 rfl (lv_at hl 1 rfl) ?_
            refine va_get (D := D) (ci := 5) (v := .ref (ad 17)) (C := RMo) (T := TMo) (N := 21) hx hb ht inMo hown hK hP 0 rfl rfl 15 (by decide) (ht _ q561) (fun _ h9 => h9) rfl d_Mo_wordOf_108 ?_
            refine lv_iload_n hx hb d_Mo_wordOf_111 rfl (lv_at hl 3 rfl) ?_
            refine lv_iconst (v := nI 1) hx hb d_Mo_wordOf_112 (by decide) ?_
            refine lv_isub hx hb d_Mo_wordOf_113 ?_
            refine zti (y := nI (e0 - 1)) (pk_sub (by omega)) ?_
            refine va_cald hx hb hK hP 5 2 rfl rfl (vp_in_nI (n := e0 - 1) (by omega) (by decide)) d_Mo_wordOf_114 ?_
            refine zti (y := nI (tx (e0 - 1))) (nF_at (by omega)) ?_
            have hte := htx (e0 - 1)
            refine zgo_i (wr := wM ad ca cd po nu pt st cy pl bk me kc ro en un li tn tx ia ct md lb wn) C0 (zrunS (na := 1) (As := [.int (nI (tx (e0 - 1)))]) (rest := []) C0 hP hD hS [] rfl rfl (m_Mo_fieldOf l D ca k H.size ad (tx (e0 - 1)) (by omega)) (zg_S q711 q712 q7 q713) (by decide +kernel) rfl rfl ⟨by decide, by decide⟩ rfl hl.1 rfl (Nat.le_of_ble_eq_true rfl) d_Mo_wordOf_115 ⟨Nat.zero_le _, Nat.zero_le _⟩) hP hD hS [] [0, 1, 2, 3, 4, 5, 6, 7, 8] rfl rfl (by decide) (by decide) (fun r4 w1 H locs hw hP hD hS => ?_)
            rcases hw with ⟨f4, hd4, hdb4, rfl, rfl⟩ | ⟨hd4, rfl, rfl⟩
            · skip
              have hP : va_P D vCl (wM ad ca cd po nu pt st cy pl bk me kc ro en un li tn tx ia ct md lb wn) H := hP
              have hD : va_D A (wM ad ca cd po nu pt st cy pl bk me kc ro en un li tn tx ia ct md lb wn) := hD
              refine lv_istore_n hx hb d_Mo_wordOf_118 rfl hl (by decide) rfl (fun ls hl => ?_)
              have hl : lv_has ls 7 [(3, .int (nI f4)), (0, .ref (ad 12)), (1, .int (nI a0)), (2, .int (nI e0))] := hl
              refine lv_aload_n hx hb d_Mo_wordOf_119 rfl (lv_at hl 1 rfl) ?_
              refine lv_iload_n hx hb d_Mo_wordOf_120 rfl (lv_at hl 2 rfl) ?_
              refine lv_iload_n hx hb d_Mo_wordOf_121 rfl (lv_at hl 3 rfl) ?_
              refine lv_iconst (v := nI 2) hx hb d_Mo_wordOf_122 (by decide) ?_
              refine lv_isub hx hb d_Mo_wordOf_123 ?_
              refine zti (y := nI (e0 - 2)) (pk_sub (by omega)) ?_
              refine lv_iconst (v := (-1)) hx hb d_Mo_wordOf_124 (by decide) ?_
              refine zgo_l (wr := []) C0 (zrunV (na := 3) (As := [.int (nI a0), .int (nI (e0 - 2)), .int (-1)]) (rest := []) C0 hP hD hS [0, 1, 2, 3, 4, 5, 6, 7, 8] rfl rfl (m_Mo_name_n l D ca k H.size ad cd po nu pt st cy pl bk me kc ro en un li tn tx ia ct md lb wn a0 (e0 - 2) (by omega) (by omega) htx) (zg_V q685 q687 q838 q7 q688) (by decide +kernel) rfl rfl ⟨by decide, by decide⟩ 0 rfl rfl rfl hl.1 rfl (Nat.le_of_ble_eq_true rfl) d_Mo_wordOf_125 ⟨Nat.zero_le _, Nat.zero_le _⟩) hP hD hS [0, 1, 2, 3, 4, 5, 6, 7, 8] [] rfl rfl (by decide) (by decide) (fun r5 w1 H locs hw hP hD hS => ?_)
              obtain ⟨rfl, rfl⟩ := hw
              have hnb5 := nm_lt (a0 := a0) (e0 := e0 - 2) (az := none) htx
              have hP : va_P D vCl (wM ad ca cd po nu pt st cy pl bk me kc ro en un li tn tx ia ct md lb wn) H := hP
              have hD : va_D A (wM ad ca cd po nu pt st cy pl bk me kc ro en un li tn tx ia ct md lb wn) := hD
              refine lv_lstore hx hb d_Mo_wordOf_128 hl (by decide) rfl (fun ls hl => ?_)
              have hl : lv_has ls 7 [(4, .long (lN (nm tx a0 (e0 - 2) none))), (3, .int (nI f4)), (0, .ref (ad 12)), (1, .int (nI a0)), (2, .int (nI e0))] := hl
              refine lv_iconst (v := nI 0) hx hb d_Mo_wordOf_130 (by decide) ?_
              refine lv_istore hx hb d_Mo_wordOf_131 hl (by decide) rfl (fun ls hl => ?_)
              have hl : lv_has ls 7 [(6, .int (nI 0)), (4, .long (lN (nm tx a0 (e0 - 2) none))), (3, .int (nI f4)), (0, .ref (ad 12)), (1, .int (nI a0)), (2, .int (nI e0))] := hl
              have loop_lq : ∀ (n_lq : Nat) (o2 : Nat) (H : Heap) (locs : List Loc) (ls : Array Slot), 32 - o2 < n_lq → (o2 ≤ 32) → (mfR (nm tx a0 (e0 - 2) none) f4 32 0 = mfR (nm tx a0 (e0 - 2) none) f4 (32 - o2) o2) → lv_has ls 7 [(6, .int (nI o2)), (4, .long (lN (nm tx a0 (e0 - 2) none))), (3, .int (nI f4)), (0, .ref (ad 12)), (1, .int (nI a0)), (2, .int (nI e0))] → va_P D vCl (wM ad ca cd po nu pt st cy pl bk me kc ro en un li tn tx ia ct md lb wn) H → va_D A (wM ad ca cd po nu pt st cy pl bk me kc ro en un li tn tx ia ct md lb wn) → va_S A s.heap H locs → W p l e { frames := 1, cells := 0, slots := 0, locals := 26 } s m ([.ref (ad 12), .int (nI a0), .int (nI e0)] : List Value).toArray below meth c H locs 0 0 (MQ below (va_Qi (fun r w => (∃ m0, wM_ tx a0 e0 = some m0 ∧ m0 < 2 ^ 20 ∧ r = nI m0 ∧ w = wM ad ca cd po nu pt st cy pl bk me kc ro en un li tn tx ia ct md lb wn) ∨ (wM_ tx a0 e0 = none ∧ r = (-1) ∧ w = wM ad ca cd po nu pt st cy pl bk me kc ro en un li tn tx ia ct md lb wn)) (zB D (zty ca) (wM ad ca cd po nu pt st cy pl bk me kc ro en un li tn tx ia ct md lb wn) sz) (va_A (wM ad ca cd po nu pt st cy pl bk me kc ro en un li tn tx ia ct md lb wn) sz)) ([.ref (ad 12), .int (nI a0), .int (nI e0)] : List Value).toArray s 0 0 (va_A (wM ad ca cd po nu pt st cy pl bk me kc ro en un li tn tx ia ct md lb wn) sz)) (F0 m 133 ls []) := by
                intro n_lq
                induction n_lq with
                | zero => intro o2 H locs ls hm; exact absurd hm (Nat.not_lt_zero _)
                | succ n_lq ih_lq =>
                  intro o2 H locs ls hm ho2 hM hl hP hD hS
                  refine lv_iload hx hb d_Mo_wordOf_133 (lv_at hl 0 rfl) ?_
                  refine lv_bipush (v := nI 32) hx hb d_Mo_wordOf_135 (by decide) ?_
                  refine lv_icmp_ge (tgt := 173) hx hb d_Mo_wordOf_137 (by decide) (fun h6 => ?_) (fun h6 => ?_)
                  · skip
                    have h6 : (32 ≤ o2) := (nI_leI (by omega) (by omega)).mp h6
                    refine lv_iconst (v := (-1)) hx hb d_Mo_wordOf_173 (by decide) ?_
                    rw [show 32 - o2 = 0 by omega, mf_0] at hM
                    exact zret_i C0 hr hAe hP hD hS (Or.inr ⟨by unfold wM_; rw [hL0]; dsimp only; rw [if_neg (by omega), hd4]; exact hM, rfl, rfl⟩) d_Mo_wordOf_174
                  · skip
                    have h6 : ¬ (32 ≤ o2) := fun z => h6 ((nI_leI (by omega) (by omega)).mpr z)
                    refine lv_iload_n hx hb d_Mo_wordOf_140 rfl (lv_at hl 2 rfl) ?_
                    refine lv_if_lt (tgt := 173) hx hb d_Mo_wordOf_141 (by decide) (fun h7 => (nI_pos (by omega) h7).elim) (fun _ => ?_)
                    refine lv_lload hx hb d_Mo_wordOf_144 (lv_at hl 1 rfl) ?_
                    refine lv_iload hx hb d_Mo_wordOf_146 (lv_at hl 0 rfl) ?_
                    refine zgo_l (wr := wM ad ca cd po nu pt st cy pl bk me kc ro en un li tn tx ia ct md lb wn) C0 (zrunS (na := 1) (As := [.int (nI o2)]) (rest := [.long (lN (nm tx a0 (e0 - 2) none))]) C0 hP hD hS [] rfl rfl (m_Mo_sum l D ca k H.size ad o2 (by omega)) (zg_S q714 q715 q7 q716) (by decide +kernel) rfl rfl ⟨by decide, by decide⟩ rfl hl.1 rfl (Nat.le_of_ble_eq_true rfl) d_Mo_wordOf_148 ⟨Nat.zero_le _, Nat.zero_le _⟩) hP hD hS [] [0, 1, 2, 3, 4, 5, 6, 7, 8] rfl rfl (by decide) (by decide) (fun r8 w1 H locs hw hP hD hS => ?_)
                    obtain ⟨rfl, rfl⟩ := hw
                    have hcb8 := smN_lt o2
                    have hP : va_P D vCl (wM ad ca cd po nu pt st cy pl bk me kc ro en un li tn tx ia ct md lb wn) H := hP
                    have hD : va_D A (wM ad ca cd po nu pt st cy pl bk me kc ro en un li tn tx ia ct md lb wn) := hD
                    refine W.lcmp hx hb d_Mo_wordOf_151 ?_
                    refine lv_if_ne (tgt := 167) hx hb d_Mo_wordOf_152 (by decide) (fun h9 => ?_) (fun h9 => ?_)
                    · skip
                      have h9 : ¬ (lN (nm tx a0 (e0 - 2) none) = lN (smN o2)) := fun z => h9 ((lg_cmp_eq _ _).mpr z)
                      have h9 : ¬ ((nm tx a0 (e0 - 2) none) = (smN o2)) := fun z => h9 ((pk_lEQ (by omega) (by omega)).mpr z)
                      refine lv_iinc (k := 0) (v := nI (o2 + 1)) hx hb d_Mo_wordOf_167 hl rfl (zinc _) (by decide) rfl (fun ls hl => ?_)
                      have hl : lv_has ls 7 [(6, .int (nI (o2 + 1))), (4, .long (lN (nm tx a0 (e0 - 2) none))), (3, .int (nI f4)), (0, .ref (ad 12)), (1, .int (nI a0)), (2, .int (nI e0))] := hl
                      refine lv_goto (tgt := 133) hx hb d_Mo_wordOf_170 (by decide) ?_
                      rw [show 32 - o2 = (32 - (o2 + 1)) + 1 by omega, mf_w (op := o2) (r := 32 - (o2 + 1)), if_neg h9] at hM
                      exact ih_lq (o2 + 1) H locs ls (by omega) (by omega) hM hl hP hD hS
                    · skip
                      have h9 : (lN (nm tx a0 (e0 - 2) none) = lN (smN o2)) := (lg_cmp_eq _ _).mp h9
                      have h9 : ((nm tx a0 (e0 - 2) none) = (smN o2)) := (pk_lEQ (by omega) (by omega)).mp h9
                      refine lv_bipush (v := nI 32) hx hb d_Mo_wordOf_155 (by decide) ?_
                      refine lv_iload hx hb d_Mo_wordOf_157 (lv_at hl 0 rfl) ?_
                      refine lv_imul hx hb d_Mo_wordOf_159 ?_
                      refine zti (y := nI (32 * o2)) (pk_mul _ _) ?_
                      refine lv_iconst (v := nI 4) hx hb d_Mo_wordOf_160 (by decide) ?_
                      refine lv_iload_n hx hb d_Mo_wordOf_161 rfl (lv_at hl 2 rfl) ?_
                      refine lv_imul hx hb d_Mo_wordOf_162 ?_
                      refine zti (y := nI (4 * f4)) (pk_mul _ _) ?_
                      refine lv_iadd hx hb d_Mo_wordOf_163 ?_
                      refine zti (y := nI ((32 * o2) + (4 * f4))) (nI_add _ _) ?_
                      refine lv_iconst (v := nI 2) hx hb d_Mo_wordOf_164 (by decide) ?_
                      refine lv_iadd hx hb d_Mo_wordOf_165 ?_
                      refine zti (y := nI (((32 * o2) + (4 * f4)) + 2)) (nI_add _ _) ?_
                      rw [show 32 - o2 = (32 - (o2 + 1)) + 1 by omega, mf_w (op := o2) (r := 32 - (o2 + 1)), if_pos h9] at hM
                      exact zret_i C0 hr hAe hP hD hS (Or.inl ⟨_, by unfold wM_; rw [hL0]; dsimp only; rw [if_neg (by omega), hd4]; exact hM, by omega, rfl, rfl⟩) d_Mo_wordOf_166
              exact loop_lq (33) 0 _ _ _ (by omega) (by omega) rfl (lv_sub hl [0, 1, 2, 3, 4, 5] rfl) hP hD hS
            · skip
              have hP : va_P D vCl (wM ad ca cd po nu pt st cy pl bk me kc ro en un li tn tx ia ct md lb wn) H := hP
              have hD : va_D A (wM ad ca cd po nu pt st cy pl bk me kc ro en un li tn tx ia ct md lb wn) := hD
              refine lv_istore_n hx hb d_Mo_wordOf_118 rfl hl (by decide) rfl (fun ls hl => ?_)
              have hl : lv_has ls 7 [(3, .int (-1)), (0, .ref (ad 12)), (1, .int (nI a0)), (2, .int (nI e0))] := hl
              refine lv_aload_n hx hb d_Mo_wordOf_119 rfl (lv_at hl 1 rfl) ?_
              refine lv_iload_n hx hb d_Mo_wordOf_120 rfl (lv_at hl 2 rfl) ?_
              refine lv_iload_n hx hb d_Mo_wordOf_121 rfl (lv_at hl 3 rfl) ?_
              refine lv_iconst (v := nI 2) hx hb d_Mo_wordOf_122 (by decide) ?_
              refine lv_isub hx hb d_Mo_wordOf_123 ?_
              refine zti (y := nI (e0 - 2)) (pk_sub (by omega)) ?_
              refine lv_iconst (v := (-1)) hx hb d_Mo_wordOf_124 (by decide) ?_
              refine zgo_l (wr := []) C0 (zrunV (na := 3) (As := [.int (nI a0), .int (nI (e0 - 2)), .int (-1)]) (rest := []) C0 hP hD hS [0, 1, 2, 3, 4, 5, 6, 7, 8] rfl rfl (m_Mo_name_n l D ca k H.size ad cd po nu pt st cy pl bk me kc ro en un li tn tx ia ct md lb wn a0 (e0 - 2) (by omega) (by omega) htx) (zg_V q685 q687 q838 q7 q688) (by decide +kernel) rfl rfl ⟨by decide, by decide⟩ 0 rfl rfl rfl hl.1 rfl (Nat.le_of_ble_eq_true rfl) d_Mo_wordOf_125 ⟨Nat.zero_le _, Nat.zero_le _⟩) hP hD hS [0, 1, 2, 3, 4, 5, 6, 7, 8] [] rfl rfl (by decide) (by decide) (fun r10 w1 H locs hw hP hD hS => ?_)
              obtain ⟨rfl, rfl⟩ := hw
              have hnb10 := nm_lt (a0 := a0) (e0 := e0 - 2) (az := none) htx
              have hP : va_P D vCl (wM ad ca cd po nu pt st cy pl bk me kc ro en un li tn tx ia ct md lb wn) H := hP
              have hD : va_D A (wM ad ca cd po nu pt st cy pl bk me kc ro en un li tn tx ia ct md lb wn) := hD
              refine lv_lstore hx hb d_Mo_wordOf_128 hl (by decide) rfl (fun ls hl => ?_)
              have hl : lv_has ls 7 [(4, .long (lN (nm tx a0 (e0 - 2) none))), (3, .int (-1)), (0, .ref (ad 12)), (1, .int (nI a0)), (2, .int (nI e0))] := hl
              refine lv_iconst (v := nI 0) hx hb d_Mo_wordOf_130 (by decide) ?_
              refine lv_istore hx hb d_Mo_wordOf_131 hl (by decide) rfl (fun ls hl => ?_)
              have hl : lv_has ls 7 [(6, .int (nI 0)), (4, .long (lN (nm tx a0 (e0 - 2) none))), (3, .int (-1)), (0, .ref (ad 12)), (1, .int (nI a0)), (2, .int (nI e0))] := hl
              refine lv_iload hx hb d_Mo_wordOf_133 (lv_at hl 0 rfl) ?_
              refine lv_bipush (v := nI 32) hx hb d_Mo_wordOf_135 (by decide) ?_
              refine lv_icmp_ge (tgt := 173) hx hb d_Mo_wordOf_137 (by decide) (fun h11 => absurd h11 (by decide)) (fun _ => ?_)
              refine lv_iload_n hx hb d_Mo_wordOf_140 rfl (lv_at hl 2 rfl) ?_
              refine lv_if_lt (tgt := 173) hx hb d_Mo_wordOf_141 (by decide) (fun _ => ?_) (fun h12 => absurd (by decide) h12)
              refine lv_iconst (v := (-1)) hx hb d_Mo_wordOf_173 (by decide) ?_
              exact zret_i C0 hr hAe hP hD hS (Or.inr ⟨by unfold wM_; rw [hL0]; dsimp only; rw [if_neg (by omega), hd4], rfl, rfl⟩) d_Mo_wordOf_174
          · skip
            have h3 : ¬ ((tx (e0 - 2)) = 46) := fun z => h3 ((nI_eq (by omega) (by omega)).mpr z)
            refine lv_iconst (v := (-1)) hx hb d_Mo_wordOf_105 (by decide) ?_
            exact zret_i C0 hr hAe hP hD hS (Or.inr ⟨by unfold wM_; rw [hL0]; dsimp only; rw [if_pos (by omega)], rfl, rfl⟩) d_Mo_wordOf_106
      · skip
        have h1 : ¬ (16 ≤ op) := fun z => h1 ((nI_leI (by omega) (by omega)).mpr z)
        refine lv_iload_n hx hb d_Mo_wordOf_8 rfl (lv_at hl 0 rfl) ?_
        refine zgo_i (wr := wM ad ca cd po nu pt st cy pl bk me kc ro en un li tn tx ia ct md lb wn) C0 (zrunS (na := 1) (As := [.int (nI op)]) (rest := []) C0 hP hD hS [] rfl rfl (m_Mo_numberAt l D ca k H.size ad op (by omega)) (zg_S q682 q683 q7 q684) (by decide +kernel) rfl rfl ⟨by decide, by decide⟩ rfl hl.1 rfl (Nat.le_of_ble_eq_true rfl) d_Mo_wordOf_9 ⟨Nat.zero_le _, Nat.zero_le _⟩) hP hD hS [] [0, 1, 2, 3, 4, 5, 6, 7, 8] rfl rfl (by decide) (by decide) (fun r13 w1 H locs hw hP hD hS => ?_)
        rcases hw with ⟨hna13, rfl, rfl⟩ | ⟨a13, hna13, ha13, rfl, rfl⟩
        · skip
          have hP : va_P D vCl (wM ad ca cd po nu pt st cy pl bk me kc ro en un li tn tx ia ct md lb wn) H := hP
          have hD : va_D A (wM ad ca cd po nu pt st cy pl bk me kc ro en un li tn tx ia ct md lb wn) := hD
          refine lv_istore hx hb d_Mo_wordOf_12 hl (by decide) rfl (fun ls hl => ?_)
          have hl : lv_has ls 7 [(4, .int (-1)), (3, .int (nI op)), (0, .ref (ad 12)), (1, .int (nI a0)), (2, .int (nI e0))] := hl
          refine lv_iload hx hb d_Mo_wordOf_14 (lv_at hl 0 rfl) ?_
          refine lv_iload_n hx hb d_Mo_wordOf_16 rfl (lv_at hl 4 rfl) ?_
          refine lv_iload_n hx hb d_Mo_wordOf_17 rfl (lv_at hl 3 rfl) ?_
          refine lv_isub hx hb d_Mo_wordOf_18 ?_
          refine zti (y := nI (e0 - a0)) (pk_sub (by omega)) ?_
          refine lv_icmp_ge (tgt := 79) hx hb d_Mo_wordOf_19 (by decide) (fun h14 => (zm_le (by omega) h14).elim) (fun _ => ?_)
          refine lv_aload_n hx hb d_Mo_wordOf_22 rfl (lv_at hl 2 rfl) ?_
          refine lv_iload_n hx hb d_Mo_wordOf_23 rfl (lv_at hl 3 rfl) ?_
          refine lv_iload_n hx hb d_Mo_wordOf_24 rfl (lv_at hl 4 rfl) ?_
          refine lv_iload hx hb d_Mo_wordOf_25 (lv_at hl 0 rfl) ?_
          refine zgo_l (wr := []) C0 (zrunV (na := 3) (As := [.int (nI a0), .int (nI e0), .int (-1)]) (rest := []) C0 hP hD hS [0, 1, 2, 3, 4, 5, 6, 7, 8] rfl rfl (m_Mo_name_n l D ca k H.size ad cd po nu pt st cy pl bk me kc ro en un li tn tx ia ct md lb wn a0 e0 (by omega) (by omega) htx) (zg_V q685 q687 q838 q7 q688) (by decide +kernel) rfl rfl ⟨by decide, by decide⟩ 0 rfl rfl rfl hl.1 rfl (Nat.le_of_ble_eq_true rfl) d_Mo_wordOf_27 ⟨Nat.zero_le _, Nat.zero_le _⟩) hP hD hS [0, 1, 2, 3, 4, 5, 6, 7, 8] [] rfl rfl (by decide) (by decide) (fun r15 w1 H locs hw hP hD hS => ?_)
          obtain ⟨rfl, rfl⟩ := hw
          have hnb15 := nm_lt (a0 := a0) (e0 := e0) (az := none) htx
          have hP : va_P D vCl (wM ad ca cd po nu pt st cy pl bk me kc ro en un li tn tx ia ct md lb wn) H := hP
          have hD : va_D A (wM ad ca cd po nu pt st cy pl bk me kc ro en un li tn tx ia ct md lb wn) := hD
          refine lv_iload_n hx hb d_Mo_wordOf_30 rfl (lv_at hl 1 rfl) ?_
          refine zgo_l (wr := wM ad ca cd po nu pt st cy pl bk me kc ro en un li tn tx ia ct md lb wn) C0 (zrunS (na := 1) (As := [.int (nI op)]) (rest := [.long (lN (nm tx a0 e0 none))]) C0 hP hD hS [] rfl rfl (m_Mo_control l D ca k H.size ad op (by omega)) (zg_S q689 q690 q7 q691) (by decide +kernel) rfl rfl ⟨by decide, by decide⟩ rfl hl.1 rfl (Nat.le_of_ble_eq_true rfl) d_Mo_wordOf_31 ⟨Nat.zero_le _, Nat.zero_le _⟩) hP hD hS [] [0, 1, 2, 3, 4, 5, 6, 7, 8] rfl rfl (by decide) (by decide) (fun r16 w1 H locs hw hP hD hS => ?_)
          obtain ⟨rfl, rfl⟩ := hw
          have hcb16 := ctN_lt op
          have hP : va_P D vCl (wM ad ca cd po nu pt st cy pl bk me kc ro en un li tn tx ia ct md lb wn) H := hP
          have hD : va_D A (wM ad ca cd po nu pt st cy pl bk me kc ro en un li tn tx ia ct md lb wn) := hD
          refine W.lcmp hx hb d_Mo_wordOf_34 ?_
          refine lv_if_eq (tgt := 41) hx hb d_Mo_wordOf_35 (by decide) (fun h17 => ?_) (fun h17 => ?_)
          · skip
            have h17 : (lN (nm tx a0 e0 none) = lN (ctN op)) := (lg_cmp_eq _ _).mp h17
            have h17 : ((nm tx a0 e0 none) = (ctN op)) := (pk_lEQ (by omega) (by omega)).mp h17
            refine lv_iload hx hb d_Mo_wordOf_41 (lv_at hl 0 rfl) ?_
            refine lv_if_ge (tgt := 50) hx hb d_Mo_wordOf_43 (by decide) (fun h18 => absurd h18 (by decide)) (fun _ => ?_)
            refine lv_iconst (v := nI 0) hx hb d_Mo_wordOf_46 (by decide) ?_
            refine lv_goto (tgt := 62) hx hb d_Mo_wordOf_47 (by decide) ?_
            refine lv_istore hx hb d_Mo_wordOf_62 hl (by decide) rfl (fun ls hl => ?_)
            have hl : lv_has ls 7 [(5, .int (nI 0)), (4, .int (-1)), (3, .int (nI op)), (0, .ref (ad 12)), (1, .int (nI a0)), (2, .int (nI e0))] := hl
            refine lv_iload hx hb d_Mo_wordOf_64 (lv_at hl 0 rfl) ?_
            refine lv_if_lt (tgt := 79) hx hb d_Mo_wordOf_66 (by decide) (fun h19 => absurd h19 (by decide)) (fun _ => ?_)
            refine lv_bipush (v := nI 64) hx hb d_Mo_wordOf_69 (by decide) ?_
            refine lv_iload hx hb d_Mo_wordOf_71 (lv_at hl 0 rfl) ?_
            refine lv_imul hx hb d_Mo_wordOf_73 ?_
            refine zti (y := nI 0) (by decide) ?_
            refine lv_iconst (v := nI 4) hx hb d_Mo_wordOf_74 (by decide) ?_
            refine lv_iload_n hx hb d_Mo_wordOf_75 rfl (lv_at hl 2 rfl) ?_
            refine lv_imul hx hb d_Mo_wordOf_76 ?_
            refine zti (y := nI (4 * op)) (pk_mul _ _) ?_
            refine lv_iadd hx hb d_Mo_wordOf_77 ?_
            refine zti (y := nI (0 + (4 * op))) (nI_add _ _) ?_
            rw [show 16 - op = (16 - (op + 1)) + 1 by omega, mo_w (op := op) (r := 16 - (op + 1))] at hL
            rw [hna13] at hL
            dsimp only at hL
            rw [if_pos h17] at hL
            exact zret_i C0 hr hAe hP hD hS (Or.inl ⟨_, by unfold wM_; rw [hL], by omega, rfl, rfl⟩) d_Mo_wordOf_78
          · skip
            have h17 : ¬ (lN (nm tx a0 e0 none) = lN (ctN op)) := fun z => h17 ((lg_cmp_eq _ _).mpr z)
            have h17 : ¬ ((nm tx a0 e0 none) = (ctN op)) := fun z => h17 ((pk_lEQ (by omega) (by omega)).mpr z)
            refine lv_goto (tgt := 79) hx hb d_Mo_wordOf_38 (by decide) ?_
            refine lv_iinc (k := 1) (v := nI (op + 1)) hx hb d_Mo_wordOf_79 hl rfl (zinc _) (by decide) rfl (fun ls hl => ?_)
            have hl : lv_has ls 7 [(3, .int (nI (op + 1))), (4, .int (-1)), (0, .ref (ad 12)), (1, .int (nI a0)), (2, .int (nI e0))] := hl
            refine lv_goto (tgt := 2) hx hb d_Mo_wordOf_82 (by decide) ?_
            rw [show 16 - op = (16 - (op + 1)) + 1 by omega, mo_w (op := op) (r := 16 - (op + 1))] at hL
            rw [hna13] at hL
            dsimp only at hL
            rw [if_neg h17] at hL
            exact ih_lp (op + 1) H locs ls (by omega) (by omega) hL (lv_sub hl [0, 2, 3, 4] rfl) hP hD hS
        · skip
          have hP : va_P D vCl (wM ad ca cd po nu pt st cy pl bk me kc ro en un li tn tx ia ct md lb wn) H := hP
          have hD : va_D A (wM ad ca cd po nu pt st cy pl bk me kc ro en un li tn tx ia ct md lb wn) := hD
          refine lv_istore hx hb d_Mo_wordOf_12 hl (by decide) rfl (fun ls hl => ?_)
          have hl : lv_has ls 7 [(4, .int (nI a13)), (3, .int (nI op)), (0, .ref (ad 12)), (1, .int (nI a0)), (2, .int (nI e0))] := hl
          refine lv_iload hx hb d_Mo_wordOf_14 (lv_at hl 0 rfl) ?_
          refine lv_iload_n hx hb d_Mo_wordOf_16 rfl (lv_at hl 4 rfl) ?_
          refine lv_iload_n hx hb d_Mo_wordOf_17 rfl (lv_at hl 3 rfl) ?_
          refine lv_isub hx hb d_Mo_wordOf_18 ?_
          refine zti (y := nI (e0 - a0)) (pk_sub (by omega)) ?_
          refine lv_icmp_ge (tgt := 79) hx hb d_Mo_wordOf_19 (by decide) (fun h20 => ?_) (fun h20 => ?_)
          · skip
            have h20 : ((e0 - a0) ≤ a13) := (nI_leI (by omega) (by omega)).mp h20
            refine lv_iinc (k := 1) (v := nI (op + 1)) hx hb d_Mo_wordOf_79 hl rfl (zinc _) (by decide) rfl (fun ls hl => ?_)
            have hl : lv_has ls 7 [(3, .int (nI (op + 1))), (4, .int (nI a13)), (0, .ref (ad 12)), (1, .int (nI a0)), (2, .int (nI e0))] := hl
            refine lv_goto (tgt := 2) hx hb d_Mo_wordOf_82 (by decide) ?_
            rw [show 16 - op = (16 - (op + 1)) + 1 by omega, mo_w (op := op) (r := 16 - (op + 1))] at hL
            rw [hna13] at hL
            dsimp only at hL
            rw [if_pos (by omega)] at hL
            exact ih_lp (op + 1) H locs ls (by omega) (by omega) hL (lv_sub hl [0, 2, 3, 4] rfl) hP hD hS
          · skip
            have h20 : ¬ ((e0 - a0) ≤ a13) := fun z => h20 ((nI_leI (by omega) (by omega)).mpr z)
            refine lv_aload_n hx hb d_Mo_wordOf_22 rfl (lv_at hl 2 rfl) ?_
            refine lv_iload_n hx hb d_Mo_wordOf_23 rfl (lv_at hl 3 rfl) ?_
            refine lv_iload_n hx hb d_Mo_wordOf_24 rfl (lv_at hl 4 rfl) ?_
            refine lv_iload hx hb d_Mo_wordOf_25 (lv_at hl 0 rfl) ?_
            refine zgo_l (wr := []) C0 (zrunV (na := 3) (As := [.int (nI a0), .int (nI e0), .int (nI a13)]) (rest := []) C0 hP hD hS [0, 1, 2, 3, 4, 5, 6, 7, 8] rfl rfl (m_Mo_name_a l D ca k H.size ad cd po nu pt st cy pl bk me kc ro en un li tn tx ia ct md lb wn a0 e0 a13 (by omega) (by omega) (by omega) htx) (zg_V q685 q687 q838 q7 q688) (by decide +kernel) rfl rfl ⟨by decide, by decide⟩ 0 rfl rfl rfl hl.1 rfl (Nat.le_of_ble_eq_true rfl) d_Mo_wordOf_27 ⟨Nat.zero_le _, Nat.zero_le _⟩) hP hD hS [0, 1, 2, 3, 4, 5, 6, 7, 8] [] rfl rfl (by decide) (by decide) (fun r21 w1 H locs hw hP hD hS => ?_)
            obtain ⟨rfl, rfl⟩ := hw
            have hnb21 := nm_lt (a0 := a0) (e0 := e0) (az := (some a13)) htx
            have hP : va_P D vCl (wM ad ca cd po nu pt st cy pl bk me kc ro en un li tn tx ia ct md lb wn) H := hP
            have hD : va_D A (wM ad ca cd po nu pt st cy pl bk me kc ro en un li tn tx ia ct md lb wn) := hD
            refine lv_iload_n hx hb d_Mo_wordOf_30 rfl (lv_at hl 1 rfl) ?_
            refine zgo_l (wr := wM ad ca cd po nu pt st cy pl bk me kc ro en un li tn tx ia ct md lb wn) C0 (zrunS (na := 1) (As := [.int (nI op)]) (rest := [.long (lN (nm tx a0 e0 (some a13)))]) C0 hP hD hS [] rfl rfl (m_Mo_control l D ca k H.size ad op (by omega)) (zg_S q689 q690 q7 q691) (by decide +kernel) rfl rfl ⟨by decide, by decide⟩ rfl hl.1 rfl (Nat.le_of_ble_eq_true rfl) d_Mo_wordOf_31 ⟨Nat.zero_le _, Nat.zero_le _⟩) hP hD hS [] [0, 1, 2, 3, 4, 5, 6, 7, 8] rfl rfl (by decide) (by decide) (fun r22 w1 H locs hw hP hD hS => ?_)
            obtain ⟨rfl, rfl⟩ := hw
            have hcb22 := ctN_lt op
            have hP : va_P D vCl (wM ad ca cd po nu pt st cy pl bk me kc ro en un li tn tx ia ct md lb wn) H := hP
            have hD : va_D A (wM ad ca cd po nu pt st cy pl bk me kc ro en un li tn tx ia ct md lb wn) := hD
            refine W.lcmp hx hb d_Mo_wordOf_34 ?_
            refine lv_if_eq (tgt := 41) hx hb d_Mo_wordOf_35 (by decide) (fun h23 => ?_) (fun h23 => ?_)
            · skip
              have h23 : (lN (nm tx a0 e0 (some a13)) = lN (ctN op)) := (lg_cmp_eq _ _).mp h23
              have h23 : ((nm tx a0 e0 (some a13)) = (ctN op)) := (pk_lEQ (by omega) (by omega)).mp h23
              refine lv_iload hx hb d_Mo_wordOf_41 (lv_at hl 0 rfl) ?_
              refine lv_if_ge (tgt := 50) hx hb d_Mo_wordOf_43 (by decide) (fun _ => ?_) (fun h24 => (h24 (nI_pos' (by omega))).elim)
              refine lv_aload_n hx hb d_Mo_wordOf_50 rfl (lv_at hl 2 rfl) ?_
              refine va_get (D := D) (ci := 5) (v := .ref (ad 17)) (C := RMo) (T := TMo) (N := 21) hx hb ht inMo hown hK hP 0 rfl rfl 15 (by decide) (ht _ q561) (fun _ h9 => h9) rfl d_Mo_wordOf_51 ?_
              refine lv_iload_n hx hb d_Mo_wordOf_54 rfl (lv_at hl 3 rfl) ?_
              refine lv_iload hx hb d_Mo_wordOf_55 (lv_at hl 0 rfl) ?_
              refine lv_iadd hx hb d_Mo_wordOf_57 ?_
              refine zti (y := nI (a0 + a13)) (nI_add _ _) ?_
              refine va_cald hx hb hK hP 5 2 rfl rfl (vp_in_nI (n := a0 + a13) (by omega) (by decide)) d_Mo_wordOf_58 ?_
              refine zti (y := nI (tx (a0 + a13))) (nF_at (by omega)) ?_
              have htc := htx (a0 + a13)
              refine zgo_i (wr := wM ad ca cd po nu pt st cy pl bk me kc ro en un li tn tx ia ct md lb wn) C0 (zrunS (na := 1) (As := [.int (nI (tx (a0 + a13)))]) (rest := []) C0 hP hD hS [] rfl rfl (m_Mo_digit l D ca k H.size ad (tx (a0 + a13)) (by omega)) (zg_S q708 q709 q7 q710) (by decide +kernel) rfl rfl ⟨by decide, by decide⟩ rfl hl.1 rfl (Nat.le_of_ble_eq_true rfl) d_Mo_wordOf_59 ⟨Nat.zero_le _, Nat.zero_le _⟩) hP hD hS [] [0, 1, 2, 3, 4, 5, 6, 7, 8] rfl rfl (by decide) (by decide) (fun r25 w1 H locs hw hP hD hS => ?_)
              rcases hw with ⟨d25, hd25, hdb25, rfl, rfl⟩ | ⟨hd25, rfl, rfl⟩
              · skip
                have hP : va_P D vCl (wM ad ca cd po nu pt st cy pl bk me kc ro en un li tn tx ia ct md lb wn) H := hP
                have hD : va_D A (wM ad ca cd po nu pt st cy pl bk me kc ro en un li tn tx ia ct md lb wn) := hD
                refine lv_istore hx hb d_Mo_wordOf_62 hl (by decide) rfl (fun ls hl => ?_)
                have hl : lv_has ls 7 [(5, .int (nI d25)), (4, .int (nI a13)), (3, .int (nI op)), (0, .ref (ad 12)), (1, .int (nI a0)), (2, .int (nI e0))] := hl
                refine lv_iload hx hb d_Mo_wordOf_64 (lv_at hl 0 rfl) ?_
                refine lv_if_lt (tgt := 79) hx hb d_Mo_wordOf_66 (by decide) (fun h26 => (nI_pos (by omega) h26).elim) (fun _ => ?_)
                refine lv_bipush (v := nI 64) hx hb d_Mo_wordOf_69 (by decide) ?_
                refine lv_iload hx hb d_Mo_wordOf_71 (lv_at hl 0 rfl) ?_
                refine lv_imul hx hb d_Mo_wordOf_73 ?_
                refine zti (y := nI (64 * d25)) (pk_mul _ _) ?_
                refine lv_iconst (v := nI 4) hx hb d_Mo_wordOf_74 (by decide) ?_
                refine lv_iload_n hx hb d_Mo_wordOf_75 rfl (lv_at hl 2 rfl) ?_
                refine lv_imul hx hb d_Mo_wordOf_76 ?_
                refine zti (y := nI (4 * op)) (pk_mul _ _) ?_
                refine lv_iadd hx hb d_Mo_wordOf_77 ?_
                refine zti (y := nI ((64 * d25) + (4 * op))) (nI_add _ _) ?_
                rw [show 16 - op = (16 - (op + 1)) + 1 by omega, mo_w (op := op) (r := 16 - (op + 1))] at hL
                rw [hna13] at hL
                dsimp only at hL
                rw [if_neg (by omega), if_pos h23] at hL
                rw [hd25] at hL
                exact zret_i C0 hr hAe hP hD hS (Or.inl ⟨_, by unfold wM_; rw [hL], by omega, rfl, rfl⟩) d_Mo_wordOf_78
              · skip
                have hP : va_P D vCl (wM ad ca cd po nu pt st cy pl bk me kc ro en un li tn tx ia ct md lb wn) H := hP
                have hD : va_D A (wM ad ca cd po nu pt st cy pl bk me kc ro en un li tn tx ia ct md lb wn) := hD
                refine lv_istore hx hb d_Mo_wordOf_62 hl (by decide) rfl (fun ls hl => ?_)
                have hl : lv_has ls 7 [(5, .int (-1)), (4, .int (nI a13)), (3, .int (nI op)), (0, .ref (ad 12)), (1, .int (nI a0)), (2, .int (nI e0))] := hl
                refine lv_iload hx hb d_Mo_wordOf_64 (lv_at hl 0 rfl) ?_
                refine lv_if_lt (tgt := 79) hx hb d_Mo_wordOf_66 (by decide) (fun _ => ?_) (fun h27 => absurd (by decide) h27)
                refine lv_iinc (k := 2) (v := nI (op + 1)) hx hb d_Mo_wordOf_79 hl rfl (zinc _) (by decide) rfl (fun ls hl => ?_)
                have hl : lv_has ls 7 [(3, .int (nI (op + 1))), (5, .int (-1)), (4, .int (nI a13)), (0, .ref (ad 12)), (1, .int (nI a0)), (2, .int (nI e0))] := hl
                refine lv_goto (tgt := 2) hx hb d_Mo_wordOf_82 (by decide) ?_
                rw [show 16 - op = (16 - (op + 1)) + 1 by omega, mo_w (op := op) (r := 16 - (op + 1))] at hL
                rw [hna13] at hL
                dsimp only at hL
                rw [if_neg (by omega), if_pos h23] at hL
                rw [hd25] at hL
                exact ih_lp (op + 1) H locs ls (by omega) (by omega) hL (lv_sub hl [0, 3, 4, 5] rfl) hP hD hS
            · skip
              have h23 : ¬ (lN (nm tx a0 e0 (some a13)) = lN (ctN op)) := fun z => h23 ((lg_cmp_eq _ _).mpr z)
              have h23 : ¬ ((nm tx a0 e0 (some a13)) = (ctN op)) := fun z => h23 ((pk_lEQ (by omega) (by omega)).mpr z)
              refine lv_goto (tgt := 79) hx hb d_Mo_wordOf_38 (by decide) ?_
              refine lv_iinc (k := 1) (v := nI (op + 1)) hx hb d_Mo_wordOf_79 hl rfl (zinc _) (by decide) rfl (fun ls hl => ?_)
              have hl : lv_has ls 7 [(3, .int (nI (op + 1))), (4, .int (nI a13)), (0, .ref (ad 12)), (1, .int (nI a0)), (2, .int (nI e0))] := hl
              refine lv_goto (tgt := 2) hx hb d_Mo_wordOf_82 (by decide) ?_
              rw [show 16 - op = (16 - (op + 1)) + 1 by omega, mo_w (op := op) (r := 16 - (op + 1))] at hL
              rw [hna13] at hL
              dsimp only at hL
              rw [if_neg (by omega), if_neg h23] at hL
              exact ih_lp (op + 1) H locs ls (by omega) (by omega) hL (lv_sub hl [0, 2, 3, 4] rfl) hP hD hS
  exact loop_lp (17) 0 _ _ _ (by omega) (by omega) rfl (lv_sub hl [0, 1, 2, 3] rfl) hP hD hS
