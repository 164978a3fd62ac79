set_option maxHeartbeats 8000000 in
set_option maxRecDepth 100000 in
theorem law_loop (l : Launch) (D : va_G) (ca : Nat → ClassId) (k : Nat → Nat) (ad : Nat → Nat) (hlt : l.stackTraces = false) {p : Program} {e : Env} {s : State} {m : MethodId} {below : List Frame} {meth : Method} {c : Code} {A : Nat → Prop} {b L : Nat} {xs : Nat → Int32} (C0 : zCx p s m #[Value.ref b] meth c code 7 "DigitChipLaw" D (zty ca) k A) (hr : meth.sig.returnType = ret) (hX0 : va_X b L xs s s.heap) (hbl : b < s.heap.size) (hbA : ¬ A b) (hAs : ∀ q, A q → s.heap.size ≤ q) (hL : L ≤ 2048) :
    ∀ (n : Nat) (i ce sl : Nat) (o tx : Nat → Nat) (ln : Nat) (lb : Nat → Int32) (bg : Nat → Nat) (ch : Int32) (ct : Nat) (ia : Int32) (wo me nu ro : Nat → Nat) (un li pt : Nat) (st : Int32) (cy pl bk en kc cd : Nat) (po ro' : Nat → Nat) (en' un' li' ct' : Nat) (md : Nat → Nat) (lb' wn : Nat → Int32) (H : Heap) (locs : List Loc) (ls : Array Slot), 4000 - i < n → i ≤ 2052 → ce ≤ 30 + i → sl ≤ 3000 + 6 * i → lwI tx ln wo bg me nu ro ro' un li un' li' pt st cy pl bk kc po → lv_has ls 7 [(0, .ref b), (1, .ref (ad 0)), (2, .ref (ad 12)), (3, .ref (ad 21)), (4, .int (nI i))] → va_P D vCl (wO ad ca o ++ (wX ad ca  ++ (wA ad ca tx ln lb bg ch ct ia ++ (wW ad ca wo ++ (wP ad ca me nu ro un li pt st cy pl bk en kc ++ (wM ad ca cd po nu pt st cy pl bk me kc ro' en' un' li' ln tx ia ct' md lb' wn)))))) H → va_D A (wO ad ca o ++ (wX ad ca  ++ (wA ad ca tx ln lb bg ch ct ia ++ (wW ad ca wo ++ (wP ad ca me nu ro un li pt st cy pl bk en kc ++ (wM ad ca cd po nu pt st cy pl bk me kc ro' en' un' li' ln tx ia ct' md lb' wn)))))) → va_S A s.heap H locs → W p l e room_1 s m #[Value.ref b] below meth c H locs ce sl (lw_Z below #[Value.ref b] s) (F0 m 23 ls []) := by
  obtain ⟨hx, hb, hml, hown, ht, hK, hX, hA, hlk⟩ := id C0
  intro n
  induction n with
  | zero => intro i ce sl o tx ln lb bg ch ct ia wo me nu ro un li pt st cy pl bk en kc cd po ro' en' un' li' ct' md lb' wn H locs ls hm; exact absurd hm (Nat.not_lt_zero _)
  | succ n ih =>
    intro i ce sl o tx ln lb bg ch ct ia wo me nu ro un li pt st cy pl bk en kc cd po ro' en' un' li' ct' md lb' wn H locs ls hm hi hce0 hsl0 J hl hP hD hS
    have hce : ce ≤ room_1.cells := by show ce ≤ 601024; omega
    have hsl : sl ≤ room_1.slots := by show sl ≤ 7293034; omega
    have hce1 : ce + 1 ≤ room_1.cells := by show ce + 1 ≤ 601024; omega
    have hsl1 : sl + 6 ≤ room_1.slots := by show sl + 6 ≤ 7293034; omega
    refine lv_iload hx hb d_law_23 (lv_at hl 4 rfl) ?_
    refine lv_aload_n hx hb d_law_25 rfl (lv_at hl 0 rfl) ?_
    refine va_slen hx hb hX0 hbl hbA hS d_law_26 ?_
    refine lv_iconst (v := nI 4) hx hb d_law_27 (by decide) ?_
    refine lv_isub hx hb d_law_28 ?_
    refine lv_icmp_gt (tgt := 520) hx hb d_law_29 (by decide) (fun h1 => ?_) (fun h1 => ?_)
    · skip
      have h1 : L < i + 4 := (lw_gt hL (by omega)).mp h1
      refine lv_iconst (v := nI 1) hx hb d_law_520 (by decide) ?_
      refine va_forget (fun q hq => hAs _ (hS.2.2 q hq)) ?_
      refine W.widen (k := 601024) (n := 7293034) (by omega) (by omega) ?_
      exact lw_ret hx hb hr hlk d_law_521
    · skip
      have h1 : ¬ L < i + 4 := fun z => h1 ((lw_gt hL (by omega)).mpr z)
      refine lv_aload_n hx hb d_law_32 rfl (lv_at hl 0 rfl) ?_
      refine lv_iload hx hb d_law_33 (lv_at hl 4 rfl) ?_
      refine va_sld hx hb hX0 hbl hbA hS (vp_in_nI (n := i) (by omega) (by omega)) d_law_35 ?_
      refine zti (y := xs i) (congrArg xs (nI_clamp (by omega))) ?_
      refine lv_bipush (v := nI 15) hx hb d_law_36 (by decide) ?_
      refine lv_iand hx hb d_law_38 ?_
      obtain ⟨n0, hn0, hn1⟩ := lw_15 (xs i)
      refine zti (y := nI n0) hn1 ?_
      clear hn1
      rcases (show n0 = 0 ∨ n0 = 1 ∨ n0 = 2 ∨ n0 = 3 ∨ n0 = 4 ∨ n0 = 5 ∨ n0 = 6 ∨ n0 = 7 ∨ n0 = 8 ∨ n0 = 9 ∨ n0 = 10 ∨ n0 = 11 ∨ n0 = 12 ∨ n0 = 13 ∨ n0 = 14 ∨ n0 = 15 by omega) with rfl | rfl | rfl | rfl | rfl | rfl | rfl | rfl | rfl | rfl | rfl | rfl | rfl | rfl | rfl | rfl
      · skip
        refine lv_tableIn (off := 65) (tgt := 104) hx hb d_law_39 (by decide) (by decide) (by decide) (by decide) ?_
        refine lv_aload_n hx hb d_law_104 rfl (lv_at hl 1 rfl) ?_
        refine lv_aload_n hx hb d_law_105 rfl (lv_at hl 0 rfl) ?_
        refine lv_iload hx hb d_law_106 (lv_at hl 4 rfl) ?_
        refine lv_iconst (v := nI 1) hx hb d_law_108 (by decide) ?_
        refine lv_iadd hx hb d_law_109 ?_
        refine zti (y := nI (i + 1)) (nI_add _ _) ?_
        refine va_sld hx hb hX0 hbl hbA hS (vp_in_nI (n := i + 1) (by omega) (by omega)) d_law_110 ?_
        refine zti (y := xs (i + 1)) (congrArg xs (nI_clamp (by omega))) ?_
        obtain ⟨c0, hc0, hc⟩ := lw_c (xs (i + 1))
        refine lv_i2c (v := nI c0) hx hb d_law_111 hc ?_
        refine zgo_i (wr := wO ad ca o ++ wM ad ca cd po nu pt st cy pl bk me kc ro' en' un' li' ln tx ia ct' md lb' wn) C0 (zrunV (na := 1) (As := [.int (nI c0)]) (rest := []) C0 hP hD hS [1, 2, 3, 4, 5, 6, 7, 8, 9, 10, 11, 12] rfl rfl (m_Ch_type l D ca k H.size ad tx ln lb bg ch ct ia wo me nu ro un li pt st cy pl bk en kc c0 hc0 J.2.2.2.1) (zg_V q157 q158 q159 q1 q160) (by decide +kernel) rfl rfl ⟨by decide, by decide⟩ 1 rfl rfl rfl hl.1 rfl (Nat.le_of_ble_eq_true rfl) d_law_112 ⟨hce, hsl⟩) hP hD hS [1, 2, 3, 4, 5, 6, 7, 8, 9, 10, 11, 12] [0, 13, 14, 15, 16, 17, 18, 19, 20, 21] rfl rfl (by decide) (by decide) (fun r1 w1 H locs hw hP hD hS => ?_)
        rcases hw with ⟨hz1, rfl, rfl⟩ | ⟨hz1, rfl, rfl⟩
        · skip
          have hP : va_P D vCl (wO ad ca o ++ (wM ad ca cd po nu pt st cy pl bk me kc ro' en' un' li' ln tx ia ct' md lb' wn ++ (wX ad ca  ++ (wA ad ca (uN tx ln c0) (ln + 1) lb bg ch ct ia ++ (wW ad ca wo ++ (wP ad ca me nu ro un li pt st cy pl bk en kc)))))) H := hP
          have hD : va_D A (wO ad ca o ++ (wM ad ca cd po nu pt st cy pl bk me kc ro' en' un' li' ln tx ia ct' md lb' wn ++ (wX ad ca  ++ (wA ad ca (uN tx ln c0) (ln + 1) lb bg ch ct ia ++ (wW ad ca wo ++ (wP ad ca me nu ro un li pt st cy pl bk en kc)))))) := hD
          refine lv_aload_n hx hb d_law_115 rfl (lv_at hl 2 rfl) ?_
          refine lv_aload_n hx hb d_law_116 rfl (lv_at hl 0 rfl) ?_
          refine lv_iload hx hb d_law_117 (lv_at hl 4 rfl) ?_
          refine lv_iconst (v := nI 1) hx hb d_law_119 (by decide) ?_
          refine lv_iadd hx hb d_law_120 ?_
          refine zti (y := nI (i + 1)) (nI_add _ _) ?_
          refine va_sld hx hb hX0 hbl hbA hS (vp_in_nI (n := i + 1) (by omega) (by omega)) d_law_121 ?_
          refine zti (y := xs (i + 1)) (congrArg xs (nI_clamp (by omega))) ?_
          refine lv_i2c (v := nI c0) hx hb d_law_122 hc ?_
          refine zgo_i (wr := wO ad ca o ++ wX ad ca  ++ wA ad ca (uN tx ln c0) (ln + 1) lb bg ch ct ia ++ wW ad ca wo ++ wP ad ca me nu ro un li pt st cy pl bk en kc) C0 (zrunV (na := 1) (As := [.int (nI c0)]) (rest := [.int (nI 1)]) C0 hP hD hS [1, 2, 3, 4, 5, 6, 7, 8, 9] rfl rfl (m_Mo_type l D ca k H.size ad cd po nu pt st cy pl bk me kc ro' en' un' li' ln tx ia ct' md lb' wn c0 hc0 J.2.2.2.1) (zg_V q662 q663 q664 q7 q665) (by decide +kernel) rfl rfl ⟨by decide, by decide⟩ 1 rfl rfl rfl hl.1 rfl (Nat.le_of_ble_eq_true rfl) d_law_123 ⟨hce, hsl⟩) hP hD hS [1, 2, 3, 4, 5, 6, 7, 8, 9] [0, 10, 11, 12, 13, 14, 15, 16, 17, 18, 19, 20, 21] rfl rfl (by decide) (by decide) (fun r2 w1 H locs hw hP hD hS => ?_)
          rcases hw with ⟨hz2, rfl, rfl⟩ | ⟨hz2, rfl, rfl⟩
          · skip
            have hP : va_P D vCl (wO ad ca o ++ (wX ad ca  ++ (wA ad ca (uN tx ln c0) (ln + 1) lb bg ch ct ia ++ (wW ad ca wo ++ (wP ad ca me nu ro un li pt st cy pl bk en kc ++ (wM ad ca 0 po nu pt st cy pl bk me kc ro' en' un' li' (ln + 1) (uN tx ln c0) ia ct' md lb' wn)))))) H := hP
            have hD : va_D A (wO ad ca o ++ (wX ad ca  ++ (wA ad ca (uN tx ln c0) (ln + 1) lb bg ch ct ia ++ (wW ad ca wo ++ (wP ad ca me nu ro un li pt st cy pl bk en kc ++ (wM ad ca 0 po nu pt st cy pl bk me kc ro' en' un' li' (ln + 1) (uN tx ln c0) ia ct' md lb' wn)))))) := hD
            refine lv_icmp_eq (tgt := 514) hx hb d_law_126 (by decide) (fun _ => ?_) (fun h => absurd rfl h)
            refine lv_iinc (k := 4) (v := nI (i + 4)) hx hb d_law_514 hl rfl (zinc4 _) (by decide) rfl (fun ls hl => ?_)
            have hl : lv_has ls 7 [(4, .int (nI (i + 4))), (0, .ref b), (1, .ref (ad 0)), (2, .ref (ad 12)), (3, .ref (ad 21))] := hl
            refine lv_goto (tgt := 23) hx hb d_law_517 (by decide) ?_
            exact ih (i + 4) ce sl o (uN tx ln c0) (ln + 1) lb bg ch ct ia wo me nu ro un li pt st cy pl bk en kc 0 po ro' en' un' li' ct' md lb' wn H locs ls (by omega) (by omega) (by omega) (by omega) (lw_type J hz1) (lv_sub hl [1, 2, 3, 4, 0] rfl) hP hD hS
          · skip
            have hP : va_P D vCl (wO ad ca o ++ (wX ad ca  ++ (wA ad ca (uN tx ln c0) (ln + 1) lb bg ch ct ia ++ (wW ad ca wo ++ (wP ad ca me nu ro un li pt st cy pl bk en kc ++ (wM ad ca 0 po nu pt st cy pl bk me kc ro' en' un' li' ln tx ia ct' md lb' wn)))))) H := hP
            have hD : va_D A (wO ad ca o ++ (wX ad ca  ++ (wA ad ca (uN tx ln c0) (ln + 1) lb bg ch ct ia ++ (wW ad ca wo ++ (wP ad ca me nu ro un li pt st cy pl bk en kc ++ (wM ad ca 0 po nu pt st cy pl bk me kc ro' en' un' li' ln tx ia ct' md lb' wn)))))) := hD
            exact absurd hz1 hz2
        · skip
          have hP : va_P D vCl (wO ad ca o ++ (wM ad ca cd po nu pt st cy pl bk me kc ro' en' un' li' ln tx ia ct' md lb' wn ++ (wX ad ca  ++ (wA ad ca tx ln lb bg ch ct ia ++ (wW ad ca wo ++ (wP ad ca me nu ro un li pt st cy pl bk en kc)))))) H := hP
          have hD : va_D A (wO ad ca o ++ (wM ad ca cd po nu pt st cy pl bk me kc ro' en' un' li' ln tx ia ct' md lb' wn ++ (wX ad ca  ++ (wA ad ca tx ln lb bg ch ct ia ++ (wW ad ca wo ++ (wP ad ca me nu ro un li pt st cy pl bk en kc)))))) := hD
          refine lv_aload_n hx hb d_law_115 rfl (lv_at hl 2 rfl) ?_
          refine lv_aload_n hx hb d_law_116 rfl (lv_at hl 0 rfl) ?_
          refine lv_iload hx hb d_law_117 (lv_at hl 4 rfl) ?_
          refine lv_iconst (v := nI 1) hx hb d_law_119 (by decide) ?_
          refine lv_iadd hx hb d_law_120 ?_
          refine zti (y := nI (i + 1)) (nI_add _ _) ?_
          refine va_sld hx hb hX0 hbl hbA hS (vp_in_nI (n := i + 1) (by omega) (by omega)) d_law_121 ?_
          refine zti (y := xs (i + 1)) (congrArg xs (nI_clamp (by omega))) ?_
          refine lv_i2c (v := nI c0) hx hb d_law_122 hc ?_
          refine zgo_i (wr := wO ad ca o ++ wX ad ca  ++ wA ad ca tx ln lb bg ch ct ia ++ wW ad ca wo ++ wP ad ca me nu ro un li pt st cy pl bk en kc) C0 (zrunV (na := 1) (As := [.int (nI c0)]) (rest := [.int (nI 0)]) C0 hP hD hS [1, 2, 3, 4, 5, 6, 7, 8, 9] rfl rfl (m_Mo_type l D ca k H.size ad cd po nu pt st cy pl bk me kc ro' en' un' li' ln tx ia ct' md lb' wn c0 hc0 J.2.2.2.1) (zg_V q662 q663 q664 q7 q665) (by decide +kernel) rfl rfl ⟨by decide, by decide⟩ 1 rfl rfl rfl hl.1 rfl (Nat.le_of_ble_eq_true rfl) d_law_123 ⟨hce, hsl⟩) hP hD hS [1, 2, 3, 4, 5, 6, 7, 8, 9] [0, 10, 11, 12, 13, 14, 15, 16, 17, 18, 19, 20, 21] rfl rfl (by decide) (by decide) (fun r3 w1 H locs hw hP hD hS => ?_)
          rcases hw with ⟨hz3, rfl, rfl⟩ | ⟨hz3, rfl, rfl⟩
          · skip
            have hP : va_P D vCl (wO ad ca o ++ (wX ad ca  ++ (wA ad ca tx ln lb bg ch ct ia ++ (wW ad ca wo ++ (wP ad ca me nu ro un li pt st cy pl bk en kc ++ (wM ad ca 0 po nu pt st cy pl bk me kc ro' en' un' li' (ln + 1) (uN tx ln c0) ia ct' md lb' wn)))))) H := hP
            have hD : va_D A (wO ad ca o ++ (wX ad ca  ++ (wA ad ca tx ln lb bg ch ct ia ++ (wW ad ca wo ++ (wP ad ca me nu ro un li pt st cy pl bk en kc ++ (wM ad ca 0 po nu pt st cy pl bk me kc ro' en' un' li' (ln + 1) (uN tx ln c0) ia ct' md lb' wn)))))) := hD
            exact absurd hz3 hz1
          · skip
            have hP : va_P D vCl (wO ad ca o ++ (wX ad ca  ++ (wA ad ca tx ln lb bg ch ct ia ++ (wW ad ca wo ++ (wP ad ca me nu ro un li pt st cy pl bk en kc ++ (wM ad ca 0 po nu pt st cy pl bk me kc ro' en' un' li' ln tx ia ct' md lb' wn)))))) H := hP
            have hD : va_D A (wO ad ca o ++ (wX ad ca  ++ (wA ad ca tx ln lb bg ch ct ia ++ (wW ad ca wo ++ (wP ad ca me nu ro un li pt st cy pl bk en kc ++ (wM ad ca 0 po nu pt st cy pl bk me kc ro' en' un' li' ln tx ia ct' md lb' wn)))))) := hD
            refine lv_icmp_eq (tgt := 514) hx hb d_law_126 (by decide) (fun _ => ?_) (fun h => absurd rfl h)
            refine lv_iinc (k := 4) (v := nI (i + 4)) hx hb d_law_514 hl rfl (zinc4 _) (by decide) rfl (fun ls hl => ?_)
            have hl : lv_has ls 7 [(4, .int (nI (i + 4))), (0, .ref b), (1, .ref (ad 0)), (2, .ref (ad 12)), (3, .ref (ad 21))] := hl
            refine lv_goto (tgt := 23) hx hb d_law_517 (by decide) ?_
            exact ih (i + 4) ce sl o tx ln lb bg ch ct ia wo me nu ro un li pt st cy pl bk en kc 0 po ro' en' un' li' ct' md lb' wn H locs ls (by omega) (by omega) (by omega) (by omega) J (lv_sub hl [1, 2, 3, 4, 0] rfl) hP hD hS
      · skip
        refine lv_tableIn (off := 92) (tgt := 131) hx hb d_law_39 (by decide) (by decide) (by decide) (by decide) ?_
        refine lv_aload_n hx hb d_law_131 rfl (lv_at hl 1 rfl) ?_
        refine lv_aload_n hx hb d_law_132 rfl (lv_at hl 3 rfl) ?_
        refine zgo_iN (mc := 1) (ms := 6) (wr := wM ad ca cd po nu pt st cy pl bk me kc ro' en' un' li' ln tx ia ct' md lb' wn) C0 (zrunSW (na := 2) (As := [.ref (ad 0), .ref (ad 21)]) (rest := []) C0 hP hD hS [0, 1, 2, 3, 4, 5, 6, 7, 8, 9, 10, 11, 12] rfl rfl (m_La_assemble l D ca k H.size ad hlt o tx ln lb bg ch ct ia wo me nu ro un li pt st cy pl bk en kc J.2.2.2.1 J.2.2.2.2.2.2.1 J.2.2.2.2.2.2.2.1 J.2.2.2.2.1) (zg_SW q232 q233 q0 q234) (by decide +kernel) rfl rfl ⟨by decide, by decide⟩ rfl hl.1 rfl (Nat.le_of_ble_eq_true rfl) d_law_133 ⟨hce1, hsl1⟩) hP hD hS [0, 1, 2, 3, 4, 5, 6, 7, 8, 9, 10, 11, 12] [13, 14, 15, 16, 17, 18, 19, 20, 21] rfl rfl (by decide) (by decide) (fun r4 w1 H locs hw hP hD hS => ?_)
        rcases hw with ⟨hz, rfl, x1, rfl⟩ | ⟨hz, rfl, x1, rfl⟩
        · skip
          have hP : va_P D vCl (wM ad ca cd po nu pt st cy pl bk me kc ro' en' un' li' ln tx ia ct' md lb' wn ++ (wO ad ca (uN o 0 (asm tx ln lb wo bg).2.2.1) ++ (wX ad ca  ++ (wA ad ca tx 0 ((asm tx ln lb wo bg).2.1) ((asm tx ln lb wo bg).2.2.2.2) x1 ((asm tx ln lb wo bg).2.2.1) ((asm tx ln lb wo bg).1) ++ (wW ad ca ((asm tx ln lb wo bg).2.2.2.1) ++ (wP ad ca (ldM (asm tx ln lb wo bg).2.2.2.1 (asm tx ln lb wo bg).2.2.1 me 64) nu ro un li pt st cy 0 bk en kc)))))) H := hP
          have hD : va_D A (wM ad ca cd po nu pt st cy pl bk me kc ro' en' un' li' ln tx ia ct' md lb' wn ++ (wO ad ca (uN o 0 (asm tx ln lb wo bg).2.2.1) ++ (wX ad ca  ++ (wA ad ca tx 0 ((asm tx ln lb wo bg).2.1) ((asm tx ln lb wo bg).2.2.2.2) x1 ((asm tx ln lb wo bg).2.2.1) ((asm tx ln lb wo bg).1) ++ (wW ad ca ((asm tx ln lb wo bg).2.2.2.1) ++ (wP ad ca (ldM (asm tx ln lb wo bg).2.2.2.1 (asm tx ln lb wo bg).2.2.1 me 64) nu ro un li pt st cy 0 bk en kc)))))) := hD
          refine lv_istore hx hb d_law_136 hl (by decide) rfl (fun ls hl => ?_)
          have hl : lv_has ls 7 [(5, .int (nI 0)), (0, .ref b), (1, .ref (ad 0)), (2, .ref (ad 12)), (3, .ref (ad 21)), (4, .int (nI i))] := hl
          refine lv_aload_n hx hb d_law_138 rfl (lv_at hl 3 rfl) ?_
          refine zgo_i (wr := wO ad ca (uN o 0 (asm tx ln lb wo bg).2.2.1) ++ wX ad ca  ++ wA ad ca tx 0 ((asm tx ln lb wo bg).2.1) ((asm tx ln lb wo bg).2.2.2.2) x1 ((asm tx ln lb wo bg).2.2.1) ((asm tx ln lb wo bg).1) ++ wW ad ca ((asm tx ln lb wo bg).2.2.2.1) ++ wP ad ca (ldM (asm tx ln lb wo bg).2.2.2.1 (asm tx ln lb wo bg).2.2.1 me 64) nu ro un li pt st cy 0 bk en kc) C0 (zrunV (na := 0) (As := []) (rest := []) C0 hP hD hS [0, 1, 2, 3, 4, 5, 6, 7, 8] rfl rfl (m_Mo_assemble l D ca k H.size ad cd po nu pt st cy pl bk me kc ro' en' un' li' ln tx ia ct' md lb' wn J.2.2.2.1 J.2.2.2.2.1) (zg_V q666 q667 q668 q7 q669) (by decide +kernel) rfl rfl ⟨by decide, by decide⟩ 0 rfl rfl rfl hl.1 rfl (Nat.le_of_ble_eq_true rfl) d_law_139 ⟨hce1, hsl1⟩) hP hD hS [0, 1, 2, 3, 4, 5, 6, 7, 8] [9, 10, 11, 12, 13, 14, 15, 16, 17, 18, 19, 20, 21] rfl rfl (by decide) (by decide) (fun r5 w1 H locs hw hP hD hS => ?_)
          rcases hw with ⟨T1, hT, hct, rfl, rfl⟩ | ⟨b1, T1, hT, hb1, rfl, rfl⟩
          · skip
            have hP : va_P D vCl (wO ad ca (uN o 0 (asm tx ln lb wo bg).2.2.1) ++ (wX ad ca  ++ (wA ad ca tx 0 ((asm tx ln lb wo bg).2.1) ((asm tx ln lb wo bg).2.2.2.2) x1 ((asm tx ln lb wo bg).2.2.1) ((asm tx ln lb wo bg).1) ++ (wW ad ca ((asm tx ln lb wo bg).2.2.2.1) ++ (wP ad ca (ldM (asm tx ln lb wo bg).2.2.2.1 (asm tx ln lb wo bg).2.2.1 me 64) nu ro un li pt st cy 0 bk en kc ++ (wM ad ca 0 po nu pt st cy 0 bk (ldM T1.2.2.1 T1.2.1 me 64) kc ro' en' un' li' 0 tx (-1) T1.2.1 T1.2.2.1 T1.1 T1.2.2.2)))))) H := hP
            have hD : va_D A (wO ad ca (uN o 0 (asm tx ln lb wo bg).2.2.1) ++ (wX ad ca  ++ (wA ad ca tx 0 ((asm tx ln lb wo bg).2.1) ((asm tx ln lb wo bg).2.2.2.2) x1 ((asm tx ln lb wo bg).2.2.1) ((asm tx ln lb wo bg).1) ++ (wW ad ca ((asm tx ln lb wo bg).2.2.2.1) ++ (wP ad ca (ldM (asm tx ln lb wo bg).2.2.2.1 (asm tx ln lb wo bg).2.2.1 me 64) nu ro un li pt st cy 0 bk en kc ++ (wM ad ca 0 po nu pt st cy 0 bk (ldM T1.2.2.1 T1.2.1 me 64) kc ro' en' un' li' 0 tx (-1) T1.2.1 T1.2.2.1 T1.1 T1.2.2.2)))))) := hD
            have hsm := sm_asm (lb := lb) (lb' := lb') (md := md) (wn := wn) J.2.2.2.1 J.2.2.2.2.1 J.2.2.2.2.2.1 J.2.2.2.2.2.2.1 J.2.2.2.2.2.2.2.1
            rw [hT] at hsm
            dsimp only at hsm
            rcases hsm with ⟨-, -, hc1, hc2⟩ | ⟨b2, hb2, hz2, -⟩
            rotate_left
            · exact (zm1 (n := b2) (by omega) (hz2.symm.trans hz)).elim
            have hbd := asm_b2 (tx := tx) (lb := lb) J.2.2.2.1 J.2.2.2.2.2.2.1 J.2.2.2.2.2.2.2.1
            refine lv_istore hx hb d_law_142 hl (by decide) rfl (fun ls hl => ?_)
            have hl : lv_has ls 7 [(6, .int (nI T1.2.1)), (5, .int (nI 0)), (0, .ref b), (1, .ref (ad 0)), (2, .ref (ad 12)), (3, .ref (ad 21)), (4, .int (nI i))] := hl
            refine lv_aload_n hx hb d_law_144 rfl (lv_at hl 4 rfl) ?_
            refine zgo_i (wr := wO ad ca (uN o 0 (asm tx ln lb wo bg).2.2.1) ++ wX ad ca  ++ wA ad ca tx 0 ((asm tx ln lb wo bg).2.1) ((asm tx ln lb wo bg).2.2.2.2) x1 ((asm tx ln lb wo bg).2.2.1) ((asm tx ln lb wo bg).1) ++ wW ad ca ((asm tx ln lb wo bg).2.2.2.1) ++ wP ad ca (ldM (asm tx ln lb wo bg).2.2.2.1 (asm tx ln lb wo bg).2.2.1 me 64) nu ro un li pt st cy 0 bk en kc) C0 (zrunV (na := 0) (As := []) (rest := []) C0 hP hD hS [13, 14, 15, 16, 17, 18, 19, 20, 21] rfl rfl (m_Mo_thrown l D ca k H.size ad 0 po nu pt st cy 0 bk (ldM T1.2.2.1 T1.2.1 me 64) kc ro' en' un' li' 0 tx (-1) T1.2.1 T1.2.2.1 T1.1 T1.2.2.2 ) (zg_V q610 q611 q612 q7 q613) (by decide +kernel) rfl rfl ⟨by decide, by decide⟩ 13 rfl rfl rfl hl.1 rfl (Nat.le_of_ble_eq_true rfl) d_law_145 ⟨hce1, hsl1⟩) hP hD hS [13, 14, 15, 16, 17, 18, 19, 20, 21] [0, 1, 2, 3, 4, 5, 6, 7, 8, 9, 10, 11, 12] rfl rfl (by decide) (by decide) (fun r6 w1 H locs hw hP hD hS => ?_)
            obtain ⟨rfl, rfl⟩ := hw
            have hP : va_P D vCl (wO ad ca (uN o 0 (asm tx ln lb wo bg).2.2.1) ++ (wX ad ca  ++ (wA ad ca tx 0 ((asm tx ln lb wo bg).2.1) ((asm tx ln lb wo bg).2.2.2.2) x1 ((asm tx ln lb wo bg).2.2.1) ((asm tx ln lb wo bg).1) ++ (wW ad ca ((asm tx ln lb wo bg).2.2.2.1) ++ (wP ad ca (ldM (asm tx ln lb wo bg).2.2.2.1 (asm tx ln lb wo bg).2.2.1 me 64) nu ro un li pt st cy 0 bk en kc ++ (wM ad ca 0 po nu pt st cy 0 bk (ldM T1.2.2.1 T1.2.1 me 64) kc ro' en' un' li' 0 tx (-1) T1.2.1 T1.2.2.1 T1.1 T1.2.2.2)))))) H := hP
            have hD : va_D A (wO ad ca (uN o 0 (asm tx ln lb wo bg).2.2.1) ++ (wX ad ca  ++ (wA ad ca tx 0 ((asm tx ln lb wo bg).2.1) ((asm tx ln lb wo bg).2.2.2.2) x1 ((asm tx ln lb wo bg).2.2.1) ((asm tx ln lb wo bg).1) ++ (wW ad ca ((asm tx ln lb wo bg).2.2.2.1) ++ (wP ad ca (ldM (asm tx ln lb wo bg).2.2.2.1 (asm tx ln lb wo bg).2.2.1 me 64) nu ro un li pt st cy 0 bk en kc ++ (wM ad ca 0 po nu pt st cy 0 bk (ldM T1.2.2.1 T1.2.1 me 64) kc ro' en' un' li' 0 tx (-1) T1.2.1 T1.2.2.1 T1.1 T1.2.2.2)))))) := hD
            refine lv_iload hx hb d_law_148 (lv_at hl 1 rfl) ?_
            refine lv_icmp_eq (tgt := 155) hx hb d_law_150 (by decide) (fun _ => ?_) (fun h => absurd rfl h)
            refine lv_iload hx hb d_law_155 (lv_at hl 1 rfl) ?_
            refine lv_if_ne (tgt := 172) hx hb d_law_157 (by decide) (fun h7 => absurd (by decide) h7) (fun _ => ?_)
            refine lv_aload_n hx hb d_law_160 rfl (lv_at hl 5 rfl) ?_
            refine lv_iconst (v := nI 0) hx hb d_law_161 (by decide) ?_
            refine va_lald hx hb hK hP 0 1 rfl rfl (vp_in_nI (n := 0) (by omega) (by decide)) d_law_162 ?_
            refine ztl (y := lN ((uN o 0 (asm tx ln lb wo bg).2.2.1) 0)) (lF_at (by omega)) ?_
            refine lv_iload hx hb d_law_163 (lv_at hl 0 rfl) ?_
            refine lv_i2l (v := lN T1.2.1) hx hb d_law_165 (nI_l (by omega)) ?_
            refine W.lcmp hx hb d_law_166 ?_
            refine lv_if_eq (tgt := 172) hx hb d_law_167 (by decide) (fun _ => ?_) (fun h => absurd ((lg_cmp_eq _ _).mpr (congrArg lN hc1)) h)
            refine lv_goto (tgt := 514) hx hb d_law_172 (by decide) ?_
            refine lv_iinc (k := 6) (v := nI (i + 4)) hx hb d_law_514 hl rfl (zinc4 _) (by decide) rfl (fun ls hl => ?_)
            have hl : lv_has ls 7 [(4, .int (nI (i + 4))), (6, .int (nI T1.2.1)), (5, .int (nI 0)), (0, .ref b), (1, .ref (ad 0)), (2, .ref (ad 12)), (3, .ref (ad 21))] := hl
            refine lv_goto (tgt := 23) hx hb d_law_517 (by decide) ?_
            rw [← hc1] at hP hD
            rw [← ldM_eq (me := me) hc2] at hP hD
            rw [hz] at hP hD
            exact ih (i + 4) (ce + 1) (sl + 6) (uN o 0 (asm tx ln lb wo bg).2.2.1) tx 0 ((asm tx ln lb wo bg).2.1) ((asm tx ln lb wo bg).2.2.2.2) x1 ((asm tx ln lb wo bg).2.2.1) (-1) ((asm tx ln lb wo bg).2.2.2.1) (ldM (asm tx ln lb wo bg).2.2.2.1 (asm tx ln lb wo bg).2.2.1 me 64) nu ro un li pt st cy 0 bk en kc 0 po ro' en' un' li' ((asm tx ln lb wo bg).2.2.1) T1.2.2.1 T1.1 T1.2.2.2 H locs ls (by omega) (by omega) (by omega) (by omega) (lw_asm J hbd.1 hbd.2) (lv_sub hl [3, 4, 5, 6, 0] rfl) hP hD hS
          · skip
            have hP : va_P D vCl (wO ad ca (uN o 0 (asm tx ln lb wo bg).2.2.1) ++ (wX ad ca  ++ (wA ad ca tx 0 ((asm tx ln lb wo bg).2.1) ((asm tx ln lb wo bg).2.2.2.2) x1 ((asm tx ln lb wo bg).2.2.1) ((asm tx ln lb wo bg).1) ++ (wW ad ca ((asm tx ln lb wo bg).2.2.2.1) ++ (wP ad ca (ldM (asm tx ln lb wo bg).2.2.2.1 (asm tx ln lb wo bg).2.2.1 me 64) nu ro un li pt st cy 0 bk en kc ++ (wM ad ca 1 po nu pt st cy pl bk me kc ro' en' un' li' 0 tx (nI b1) T1.2.1 T1.2.2.1 T1.1 T1.2.2.2)))))) H := hP
            have hD : va_D A (wO ad ca (uN o 0 (asm tx ln lb wo bg).2.2.1) ++ (wX ad ca  ++ (wA ad ca tx 0 ((asm tx ln lb wo bg).2.1) ((asm tx ln lb wo bg).2.2.2.2) x1 ((asm tx ln lb wo bg).2.2.1) ((asm tx ln lb wo bg).1) ++ (wW ad ca ((asm tx ln lb wo bg).2.2.2.1) ++ (wP ad ca (ldM (asm tx ln lb wo bg).2.2.2.1 (asm tx ln lb wo bg).2.2.1 me 64) nu ro un li pt st cy 0 bk en kc ++ (wM ad ca 1 po nu pt st cy pl bk me kc ro' en' un' li' 0 tx (nI b1) T1.2.1 T1.2.2.1 T1.1 T1.2.2.2)))))) := hD
            have hsm := sm_asm (lb := lb) (lb' := lb') (md := md) (wn := wn) J.2.2.2.1 J.2.2.2.2.1 J.2.2.2.2.2.1 J.2.2.2.2.2.2.1 J.2.2.2.2.2.2.2.1
            rw [hT] at hsm
            dsimp only at hsm
            rcases hsm with ⟨g1, g2, -, -⟩ | ⟨b2, hb2, g1, g2⟩
            · exact (zm1 (n := b1) (by omega) g2).elim
            · exact (zm1 (n := b2) (by omega) (g1.symm.trans hz)).elim
        · skip
          have hP : va_P D vCl (wM ad ca cd po nu pt st cy pl bk me kc ro' en' un' li' ln tx ia ct' md lb' wn ++ (wO ad ca o ++ (wX ad ca  ++ (wA ad ca tx 0 ((asm tx ln lb wo bg).2.1) ((asm tx ln lb wo bg).2.2.2.2) x1 ((asm tx ln lb wo bg).2.2.1) ((asm tx ln lb wo bg).1) ++ (wW ad ca ((asm tx ln lb wo bg).2.2.2.1) ++ (wP ad ca me nu ro un li pt st cy pl bk en kc)))))) H := hP
          have hD : va_D A (wM ad ca cd po nu pt st cy pl bk me kc ro' en' un' li' ln tx ia ct' md lb' wn ++ (wO ad ca o ++ (wX ad ca  ++ (wA ad ca tx 0 ((asm tx ln lb wo bg).2.1) ((asm tx ln lb wo bg).2.2.2.2) x1 ((asm tx ln lb wo bg).2.2.1) ((asm tx ln lb wo bg).1) ++ (wW ad ca ((asm tx ln lb wo bg).2.2.2.1) ++ (wP ad ca me nu ro un li pt st cy pl bk en kc)))))) := hD
          refine lv_istore hx hb d_law_136 hl (by decide) rfl (fun ls hl => ?_)
          have hl : lv_has ls 7 [(5, .int (nI 1)), (0, .ref b), (1, .ref (ad 0)), (2, .ref (ad 12)), (3, .ref (ad 21)), (4, .int (nI i))] := hl
          refine lv_aload_n hx hb d_law_138 rfl (lv_at hl 3 rfl) ?_
          refine zgo_i (wr := wO ad ca o ++ wX ad ca  ++ wA ad ca tx 0 ((asm tx ln lb wo bg).2.1) ((asm tx ln lb wo bg).2.2.2.2) x1 ((asm tx ln lb wo bg).2.2.1) ((asm tx ln lb wo bg).1) ++ wW ad ca ((asm tx ln lb wo bg).2.2.2.1) ++ wP ad ca me nu ro un li pt st cy pl bk en kc) C0 (zrunV (na := 0) (As := []) (rest := []) C0 hP hD hS [0, 1, 2, 3, 4, 5, 6, 7, 8] rfl rfl (m_Mo_assemble l D ca k H.size ad cd po nu pt st cy pl bk me kc ro' en' un' li' ln tx ia ct' md lb' wn J.2.2.2.1 J.2.2.2.2.1) (zg_V q666 q667 q668 q7 q669) (by decide +kernel) rfl rfl ⟨by decide, by decide⟩ 0 rfl rfl rfl hl.1 rfl (Nat.le_of_ble_eq_true rfl) d_law_139 ⟨hce1, hsl1⟩) hP hD hS [0, 1, 2, 3, 4, 5, 6, 7, 8] [9, 10, 11, 12, 13, 14, 15, 16, 17, 18, 19, 20, 21] rfl rfl (by decide) (by decide) (fun r8 w1 H locs hw hP hD hS => ?_)
          rcases hw with ⟨T1, hT, hct, rfl, rfl⟩ | ⟨b1, T1, hT, hb1, rfl, rfl⟩
          · skip
            have hP : va_P D vCl (wO ad ca o ++ (wX ad ca  ++ (wA ad ca tx 0 ((asm tx ln lb wo bg).2.1) ((asm tx ln lb wo bg).2.2.2.2) x1 ((asm tx ln lb wo bg).2.2.1) ((asm tx ln lb wo bg).1) ++ (wW ad ca ((asm tx ln lb wo bg).2.2.2.1) ++ (wP ad ca me nu ro un li pt st cy pl bk en kc ++ (wM ad ca 0 po nu pt st cy 0 bk (ldM T1.2.2.1 T1.2.1 me 64) kc ro' en' un' li' 0 tx (-1) T1.2.1 T1.2.2.1 T1.1 T1.2.2.2)))))) H := hP
            have hD : va_D A (wO ad ca o ++ (wX ad ca  ++ (wA ad ca tx 0 ((asm tx ln lb wo bg).2.1) ((asm tx ln lb wo bg).2.2.2.2) x1 ((asm tx ln lb wo bg).2.2.1) ((asm tx ln lb wo bg).1) ++ (wW ad ca ((asm tx ln lb wo bg).2.2.2.1) ++ (wP ad ca me nu ro un li pt st cy pl bk en kc ++ (wM ad ca 0 po nu pt st cy 0 bk (ldM T1.2.2.1 T1.2.1 me 64) kc ro' en' un' li' 0 tx (-1) T1.2.1 T1.2.2.1 T1.1 T1.2.2.2)))))) := hD
            have hsm := sm_asm (lb := lb) (lb' := lb') (md := md) (wn := wn) J.2.2.2.1 J.2.2.2.2.1 J.2.2.2.2.2.1 J.2.2.2.2.2.2.1 J.2.2.2.2.2.2.2.1
            rw [hT] at hsm
            dsimp only at hsm
            rcases hsm with ⟨g1, g2, -, -⟩ | ⟨b2, hb2, g1, g2⟩
            · exact (hz g1).elim
            · exact (zm1 (n := b2) (by omega) g2.symm).elim
          · skip
            have hP : va_P D vCl (wO ad ca o ++ (wX ad ca  ++ (wA ad ca tx 0 ((asm tx ln lb wo bg).2.1) ((asm tx ln lb wo bg).2.2.2.2) x1 ((asm tx ln lb wo bg).2.2.1) ((asm tx ln lb wo bg).1) ++ (wW ad ca ((asm tx ln lb wo bg).2.2.2.1) ++ (wP ad ca me nu ro un li pt st cy pl bk en kc ++ (wM ad ca 1 po nu pt st cy pl bk me kc ro' en' un' li' 0 tx (nI b1) T1.2.1 T1.2.2.1 T1.1 T1.2.2.2)))))) H := hP
            have hD : va_D A (wO ad ca o ++ (wX ad ca  ++ (wA ad ca tx 0 ((asm tx ln lb wo bg).2.1) ((asm tx ln lb wo bg).2.2.2.2) x1 ((asm tx ln lb wo bg).2.2.1) ((asm tx ln lb wo bg).1) ++ (wW ad ca ((asm tx ln lb wo bg).2.2.2.1) ++ (wP ad ca me nu ro un li pt st cy pl bk en kc ++ (wM ad ca 1 po nu pt st cy pl bk me kc ro' en' un' li' 0 tx (nI b1) T1.2.1 T1.2.2.1 T1.1 T1.2.2.2)))))) := hD
            have hsm := sm_asm (lb := lb) (lb' := lb') (md := md) (wn := wn) J.2.2.2.1 J.2.2.2.2.1 J.2.2.2.2.2.1 J.2.2.2.2.2.2.1 J.2.2.2.2.2.2.2.1
            rw [hT] at hsm
            dsimp only at hsm
            rcases hsm with ⟨hz2, -, -, -⟩ | ⟨b2, hb2, hz2, hz3⟩
            · exact (hz hz2).elim
            have hbd := asm_b2 (tx := tx) (lb := lb) J.2.2.2.1 J.2.2.2.2.2.2.1 J.2.2.2.2.2.2.2.1
            refine lv_istore hx hb d_law_142 hl (by decide) rfl (fun ls hl => ?_)
            have hl : lv_has ls 7 [(6, .int (nI 0)), (5, .int (nI 1)), (0, .ref b), (1, .ref (ad 0)), (2, .ref (ad 12)), (3, .ref (ad 21)), (4, .int (nI i))] := hl
            refine lv_aload_n hx hb d_law_144 rfl (lv_at hl 4 rfl) ?_
            refine zgo_i (wr := wO ad ca o ++ wX ad ca  ++ wA ad ca tx 0 ((asm tx ln lb wo bg).2.1) ((asm tx ln lb wo bg).2.2.2.2) x1 ((asm tx ln lb wo bg).2.2.1) ((asm tx ln lb wo bg).1) ++ wW ad ca ((asm tx ln lb wo bg).2.2.2.1) ++ wP ad ca me nu ro un li pt st cy pl bk en kc) C0 (zrunV (na := 0) (As := []) (rest := []) C0 hP hD hS [13, 14, 15, 16, 17, 18, 19, 20, 21] rfl rfl (m_Mo_thrown l D ca k H.size ad 1 po nu pt st cy pl bk me kc ro' en' un' li' 0 tx (nI b1) T1.2.1 T1.2.2.1 T1.1 T1.2.2.2 ) (zg_V q610 q611 q612 q7 q613) (by decide +kernel) rfl rfl ⟨by decide, by decide⟩ 13 rfl rfl rfl hl.1 rfl (Nat.le_of_ble_eq_true rfl) d_law_145 ⟨hce1, hsl1⟩) hP hD hS [13, 14, 15, 16, 17, 18, 19, 20, 21] [0, 1, 2, 3, 4, 5, 6, 7, 8, 9, 10, 11, 12] rfl rfl (by decide) (by decide) (fun r9 w1 H locs hw hP hD hS => ?_)
            obtain ⟨rfl, rfl⟩ := hw
            have hP : va_P D vCl (wO ad ca o ++ (wX ad ca  ++ (wA ad ca tx 0 ((asm tx ln lb wo bg).2.1) ((asm tx ln lb wo bg).2.2.2.2) x1 ((asm tx ln lb wo bg).2.2.1) ((asm tx ln lb wo bg).1) ++ (wW ad ca ((asm tx ln lb wo bg).2.2.2.1) ++ (wP ad ca me nu ro un li pt st cy pl bk en kc ++ (wM ad ca 1 po nu pt st cy pl bk me kc ro' en' un' li' 0 tx (nI b1) T1.2.1 T1.2.2.1 T1.1 T1.2.2.2)))))) H := hP
            have hD : va_D A (wO ad ca o ++ (wX ad ca  ++ (wA ad ca tx 0 ((asm tx ln lb wo bg).2.1) ((asm tx ln lb wo bg).2.2.2.2) x1 ((asm tx ln lb wo bg).2.2.1) ((asm tx ln lb wo bg).1) ++ (wW ad ca ((asm tx ln lb wo bg).2.2.2.1) ++ (wP ad ca me nu ro un li pt st cy pl bk en kc ++ (wM ad ca 1 po nu pt st cy pl bk me kc ro' en' un' li' 0 tx (nI b1) T1.2.1 T1.2.2.1 T1.1 T1.2.2.2)))))) := hD
            refine lv_iload hx hb d_law_148 (lv_at hl 1 rfl) ?_
            refine lv_icmp_eq (tgt := 155) hx hb d_law_150 (by decide) (fun _ => ?_) (fun h => absurd rfl h)
            refine lv_iload hx hb d_law_155 (lv_at hl 1 rfl) ?_
            refine lv_if_ne (tgt := 172) hx hb d_law_157 (by decide) (fun _ => ?_) (fun h10 => absurd h10 (by decide))
            refine lv_goto (tgt := 514) hx hb d_law_172 (by decide) ?_
            refine lv_iinc (k := 6) (v := nI (i + 4)) hx hb d_law_514 hl rfl (zinc4 _) (by decide) rfl (fun ls hl => ?_)
            have hl : lv_has ls 7 [(4, .int (nI (i + 4))), (6, .int (nI 0)), (5, .int (nI 1)), (0, .ref b), (1, .ref (ad 0)), (2, .ref (ad 12)), (3, .ref (ad 21))] := hl
            refine lv_goto (tgt := 23) hx hb d_law_517 (by decide) ?_
            rw [← hz3] at hz2
            rw [← hz2] at hP hD
            exact ih (i + 4) (ce + 1) (sl + 6) o tx 0 ((asm tx ln lb wo bg).2.1) ((asm tx ln lb wo bg).2.2.2.2) x1 ((asm tx ln lb wo bg).2.2.1) ((asm tx ln lb wo bg).1) ((asm tx ln lb wo bg).2.2.2.1) me nu ro un li pt st cy pl bk en kc 1 po ro' en' un' li' T1.2.1 T1.2.2.1 T1.1 T1.2.2.2 H locs ls (by omega) (by omega) (by omega) (by omega) (lw_ill J hbd.1 hbd.2) (lv_sub hl [3, 4, 5, 6, 0] rfl) hP hD hS
      · skip
        refine lv_tableIn (off := 136) (tgt := 175) hx hb d_law_39 (by decide) (by decide) (by decide) (by decide) ?_
        refine lv_aload_n hx hb d_law_175 rfl (lv_at hl 1 rfl) ?_
        refine zgo_i (wr := wO ad ca o ++ wM ad ca cd po nu pt st cy pl bk me kc ro' en' un' li' ln tx ia ct' md lb' wn) C0 (zrunV (na := 0) (As := []) (rest := []) C0 hP hD hS [1, 2, 3, 4, 5, 6, 7, 8, 9, 10, 11, 12] rfl rfl (m_Ch_illAt l D ca k H.size ad tx ln lb bg ch ct ia wo me nu ro un li pt st cy pl bk en kc ) (zg_V q165 q166 q167 q1 q168) (by decide +kernel) rfl rfl ⟨by decide, by decide⟩ 1 rfl rfl rfl hl.1 rfl (Nat.le_of_ble_eq_true rfl) d_law_176 ⟨hce, hsl⟩) hP hD hS [1, 2, 3, 4, 5, 6, 7, 8, 9, 10, 11, 12] [0, 13, 14, 15, 16, 17, 18, 19, 20, 21] rfl rfl (by decide) (by decide) (fun r11 w1 H locs hw hP hD hS => ?_)
        obtain ⟨hri, rfl⟩ := hw
        refine zti (y := ia) hri ?_
        have hP : va_P D vCl (wO ad ca o ++ (wM ad ca cd po nu pt st cy pl bk me kc ro' en' un' li' ln tx ia ct' md lb' wn ++ (wX ad ca  ++ (wA ad ca tx ln lb bg ch ct ia ++ (wW ad ca wo ++ (wP ad ca me nu ro un li pt st cy pl bk en kc)))))) H := hP
        have hD : va_D A (wO ad ca o ++ (wM ad ca cd po nu pt st cy pl bk me kc ro' en' un' li' ln tx ia ct' md lb' wn ++ (wX ad ca  ++ (wA ad ca tx ln lb bg ch ct ia ++ (wW ad ca wo ++ (wP ad ca me nu ro un li pt st cy pl bk en kc)))))) := hD
        refine lv_aload_n hx hb d_law_179 rfl (lv_at hl 2 rfl) ?_
        refine zgo_i (wr := wO ad ca o ++ wX ad ca  ++ wA ad ca tx ln lb bg ch ct ia ++ wW ad ca wo ++ wP ad ca me nu ro un li pt st cy pl bk en kc) C0 (zrunV (na := 0) (As := []) (rest := [.int ia]) C0 hP hD hS [1, 2, 3, 4, 5, 6, 7, 8, 9] rfl rfl (m_Mo_illAt l D ca k H.size ad cd po nu pt st cy pl bk me kc ro' en' un' li' ln tx ia ct' md lb' wn ) (zg_V q749 q750 q751 q7 q752) (by decide +kernel) rfl rfl ⟨by decide, by decide⟩ 1 rfl rfl rfl hl.1 rfl (Nat.le_of_ble_eq_true rfl) d_law_180 ⟨hce, hsl⟩) hP hD hS [1, 2, 3, 4, 5, 6, 7, 8, 9] [0, 10, 11, 12, 13, 14, 15, 16, 17, 18, 19, 20, 21] rfl rfl (by decide) (by decide) (fun r12 w1 H locs hw hP hD hS => ?_)
        obtain ⟨hri, rfl⟩ := hw
        refine zti (y := ia) hri ?_
        have hP : va_P D vCl (wO ad ca o ++ (wX ad ca  ++ (wA ad ca tx ln lb bg ch ct ia ++ (wW ad ca wo ++ (wP ad ca me nu ro un li pt st cy pl bk en kc ++ (wM ad ca 0 po nu pt st cy pl bk me kc ro' en' un' li' ln tx ia ct' md lb' wn)))))) H := hP
        have hD : va_D A (wO ad ca o ++ (wX ad ca  ++ (wA ad ca tx ln lb bg ch ct ia ++ (wW ad ca wo ++ (wP ad ca me nu ro un li pt st cy pl bk en kc ++ (wM ad ca 0 po nu pt st cy pl bk me kc ro' en' un' li' ln tx ia ct' md lb' wn)))))) := hD
        refine lv_icmp_eq (tgt := 514) hx hb d_law_183 (by decide) (fun _ => ?_) (fun h => absurd rfl h)
        refine lv_iinc (k := 4) (v := nI (i + 4)) hx hb d_law_514 hl rfl (zinc4 _) (by decide) rfl (fun ls hl => ?_)
        have hl : lv_has ls 7 [(4, .int (nI (i + 4))), (0, .ref b), (1, .ref (ad 0)), (2, .ref (ad 12)), (3, .ref (ad 21))] := hl
        refine lv_goto (tgt := 23) hx hb d_law_517 (by decide) ?_
        exact ih (i + 4) ce sl o tx ln lb bg ch ct ia wo me nu ro un li pt st cy pl bk en kc 0 po ro' en' un' li' ct' md lb' wn H locs ls (by omega) (by omega) (by omega) (by omega) J (lv_sub hl [1, 2, 3, 4, 0] rfl) hP hD hS
      · skip
        refine lv_tableIn (off := 149) (tgt := 188) hx hb d_law_39 (by decide) (by decide) (by decide) (by decide) ?_
        refine lv_aload_n hx hb d_law_188 rfl (lv_at hl 1 rfl) ?_
        refine lv_aload_n hx hb d_law_189 rfl (lv_at hl 0 rfl) ?_
        refine lv_iload hx hb d_law_190 (lv_at hl 4 rfl) ?_
        refine lv_iconst (v := nI 1) hx hb d_law_192 (by decide) ?_
        refine lv_iadd hx hb d_law_193 ?_
        refine zti (y := nI (i + 1)) (nI_add _ _) ?_
        refine va_sld hx hb hX0 hbl hbA hS (vp_in_nI (n := i + 1) (by omega) (by omega)) d_law_194 ?_
        refine zti (y := xs (i + 1)) (congrArg xs (nI_clamp (by omega))) ?_
        refine zgo_i (wr := wO ad ca o ++ wM ad ca cd po nu pt st cy pl bk me kc ro' en' un' li' ln tx ia ct' md lb' wn) C0 (zrunV (na := 1) (As := [.int (xs (i + 1))]) (rest := []) C0 hP hD hS [1, 2, 3, 4, 5, 6, 7, 8, 9, 10, 11, 12] rfl rfl (m_Ch_word l D ca k H.size ad tx ln lb bg ch ct ia wo me nu ro un li pt st cy pl bk en kc (xs (i + 1))) (zg_V q169 q170 q171 q1 q172) (by decide +kernel) rfl rfl ⟨by decide, by decide⟩ 1 rfl rfl rfl hl.1 rfl (Nat.le_of_ble_eq_true rfl) d_law_195 ⟨hce, hsl⟩) hP hD hS [1, 2, 3, 4, 5, 6, 7, 8, 9, 10, 11, 12] [0, 13, 14, 15, 16, 17, 18, 19, 20, 21] rfl rfl (by decide) (by decide) (fun r13 w1 H locs hw hP hD hS => ?_)
        rcases hw with ⟨hz13, rfl, rfl⟩ | ⟨hz13, rfl, rfl⟩
        · skip
          have hP : va_P D vCl (wO ad ca o ++ (wM ad ca cd po nu pt st cy pl bk me kc ro' en' un' li' ln tx ia ct' md lb' wn ++ (wX ad ca  ++ (wA ad ca tx ln lb bg ch ct ia ++ (wW ad ca wo ++ (wP ad ca me nu ro un li pt st cy pl bk en kc)))))) H := hP
          have hD : va_D A (wO ad ca o ++ (wM ad ca cd po nu pt st cy pl bk me kc ro' en' un' li' ln tx ia ct' md lb' wn ++ (wX ad ca  ++ (wA ad ca tx ln lb bg ch ct ia ++ (wW ad ca wo ++ (wP ad ca me nu ro un li pt st cy pl bk en kc)))))) := hD
          refine lv_aload_n hx hb d_law_198 rfl (lv_at hl 2 rfl) ?_
          refine lv_aload_n hx hb d_law_199 rfl (lv_at hl 0 rfl) ?_
          refine lv_iload hx hb d_law_200 (lv_at hl 4 rfl) ?_
          refine lv_iconst (v := nI 1) hx hb d_law_202 (by decide) ?_
          refine lv_iadd hx hb d_law_203 ?_
          refine zti (y := nI (i + 1)) (nI_add _ _) ?_
          refine va_sld hx hb hX0 hbl hbA hS (vp_in_nI (n := i + 1) (by omega) (by omega)) d_law_204 ?_
          refine zti (y := xs (i + 1)) (congrArg xs (nI_clamp (by omega))) ?_
          refine zgo_i (wr := wO ad ca o ++ wX ad ca  ++ wA ad ca tx ln lb bg ch ct ia ++ wW ad ca wo ++ wP ad ca me nu ro un li pt st cy pl bk en kc) C0 (zrunV (na := 1) (As := [.int (xs (i + 1))]) (rest := [.int (nI (me (xs (i + 1)).toNatClampNeg))]) C0 hP hD hS [1, 2, 3, 4, 5, 6, 7, 8, 9] rfl rfl (m_Mo_word l D ca k H.size ad cd po nu pt st cy pl bk me kc ro' en' un' li' ln tx ia ct' md lb' wn (xs (i + 1))) (zg_V q753 q754 q755 q7 q756) (by decide +kernel) rfl rfl ⟨by decide, by decide⟩ 1 rfl rfl rfl hl.1 rfl (Nat.le_of_ble_eq_true rfl) d_law_205 ⟨hce, hsl⟩) hP hD hS [1, 2, 3, 4, 5, 6, 7, 8, 9] [0, 10, 11, 12, 13, 14, 15, 16, 17, 18, 19, 20, 21] rfl rfl (by decide) (by decide) (fun r14 w1 H locs hw hP hD hS => ?_)
          rcases hw with ⟨hz14, rfl, rfl⟩ | ⟨hz14, rfl, rfl⟩
          · skip
            have hP : va_P D vCl (wO ad ca o ++ (wX ad ca  ++ (wA ad ca tx ln lb bg ch ct ia ++ (wW ad ca wo ++ (wP ad ca me nu ro un li pt st cy pl bk en kc ++ (wM ad ca 0 po nu pt st cy pl bk me kc ro' en' un' li' ln tx ia ct' md lb' wn)))))) H := hP
            have hD : va_D A (wO ad ca o ++ (wX ad ca  ++ (wA ad ca tx ln lb bg ch ct ia ++ (wW ad ca wo ++ (wP ad ca me nu ro un li pt st cy pl bk en kc ++ (wM ad ca 0 po nu pt st cy pl bk me kc ro' en' un' li' ln tx ia ct' md lb' wn)))))) := hD
            refine lv_icmp_eq (tgt := 514) hx hb d_law_208 (by decide) (fun _ => ?_) (fun h => absurd rfl h)
            refine lv_iinc (k := 4) (v := nI (i + 4)) hx hb d_law_514 hl rfl (zinc4 _) (by decide) rfl (fun ls hl => ?_)
            have hl : lv_has ls 7 [(4, .int (nI (i + 4))), (0, .ref b), (1, .ref (ad 0)), (2, .ref (ad 12)), (3, .ref (ad 21))] := hl
            refine lv_goto (tgt := 23) hx hb d_law_517 (by decide) ?_
            exact ih (i + 4) ce sl o tx ln lb bg ch ct ia wo me nu ro un li pt st cy pl bk en kc 0 po ro' en' un' li' ct' md lb' wn H locs ls (by omega) (by omega) (by omega) (by omega) J (lv_sub hl [1, 2, 3, 4, 0] rfl) hP hD hS
          · skip
            have hP : va_P D vCl (wO ad ca o ++ (wX ad ca  ++ (wA ad ca tx ln lb bg ch ct ia ++ (wW ad ca wo ++ (wP ad ca me nu ro un li pt st cy pl bk en kc ++ (wM ad ca 0 po nu pt st cy pl bk me kc ro' en' un' li' ln tx ia ct' md lb' wn)))))) H := hP
            have hD : va_D A (wO ad ca o ++ (wX ad ca  ++ (wA ad ca tx ln lb bg ch ct ia ++ (wW ad ca wo ++ (wP ad ca me nu ro un li pt st cy pl bk en kc ++ (wM ad ca 0 po nu pt st cy pl bk me kc ro' en' un' li' ln tx ia ct' md lb' wn)))))) := hD
            exact absurd hz13 hz14
        · skip
          have hP : va_P D vCl (wO ad ca o ++ (wM ad ca cd po nu pt st cy pl bk me kc ro' en' un' li' ln tx ia ct' md lb' wn ++ (wX ad ca  ++ (wA ad ca tx ln lb bg ch ct ia ++ (wW ad ca wo ++ (wP ad ca me nu ro un li pt st cy pl bk en kc)))))) H := hP
          have hD : va_D A (wO ad ca o ++ (wM ad ca cd po nu pt st cy pl bk me kc ro' en' un' li' ln tx ia ct' md lb' wn ++ (wX ad ca  ++ (wA ad ca tx ln lb bg ch ct ia ++ (wW ad ca wo ++ (wP ad ca me nu ro un li pt st cy pl bk en kc)))))) := hD
          refine lv_aload_n hx hb d_law_198 rfl (lv_at hl 2 rfl) ?_
          refine lv_aload_n hx hb d_law_199 rfl (lv_at hl 0 rfl) ?_
          refine lv_iload hx hb d_law_200 (lv_at hl 4 rfl) ?_
          refine lv_iconst (v := nI 1) hx hb d_law_202 (by decide) ?_
          refine lv_iadd hx hb d_law_203 ?_
          refine zti (y := nI (i + 1)) (nI_add _ _) ?_
          refine va_sld hx hb hX0 hbl hbA hS (vp_in_nI (n := i + 1) (by omega) (by omega)) d_law_204 ?_
          refine zti (y := xs (i + 1)) (congrArg xs (nI_clamp (by omega))) ?_
          refine zgo_i (wr := wO ad ca o ++ wX ad ca  ++ wA ad ca tx ln lb bg ch ct ia ++ wW ad ca wo ++ wP ad ca me nu ro un li pt st cy pl bk en kc) C0 (zrunV (na := 1) (As := [.int (xs (i + 1))]) (rest := [.int (-1)]) C0 hP hD hS [1, 2, 3, 4, 5, 6, 7, 8, 9] rfl rfl (m_Mo_word l D ca k H.size ad cd po nu pt st cy pl bk me kc ro' en' un' li' ln tx ia ct' md lb' wn (xs (i + 1))) (zg_V q753 q754 q755 q7 q756) (by decide +kernel) rfl rfl ⟨by decide, by decide⟩ 1 rfl rfl rfl hl.1 rfl (Nat.le_of_ble_eq_true rfl) d_law_205 ⟨hce, hsl⟩) hP hD hS [1, 2, 3, 4, 5, 6, 7, 8, 9] [0, 10, 11, 12, 13, 14, 15, 16, 17, 18, 19, 20, 21] rfl rfl (by decide) (by decide) (fun r15 w1 H locs hw hP hD hS => ?_)
          rcases hw with ⟨hz15, rfl, rfl⟩ | ⟨hz15, rfl, rfl⟩
          · skip
            have hP : va_P D vCl (wO ad ca o ++ (wX ad ca  ++ (wA ad ca tx ln lb bg ch ct ia ++ (wW ad ca wo ++ (wP ad ca me nu ro un li pt st cy pl bk en kc ++ (wM ad ca 0 po nu pt st cy pl bk me kc ro' en' un' li' ln tx ia ct' md lb' wn)))))) H := hP
            have hD : va_D A (wO ad ca o ++ (wX ad ca  ++ (wA ad ca tx ln lb bg ch ct ia ++ (wW ad ca wo ++ (wP ad ca me nu ro un li pt st cy pl bk en kc ++ (wM ad ca 0 po nu pt st cy pl bk me kc ro' en' un' li' ln tx ia ct' md lb' wn)))))) := hD
            exact absurd hz15 hz13
          · skip
            have hP : va_P D vCl (wO ad ca o ++ (wX ad ca  ++ (wA ad ca tx ln lb bg ch ct ia ++ (wW ad ca wo ++ (wP ad ca me nu ro un li pt st cy pl bk en kc ++ (wM ad ca 0 po nu pt st cy pl bk me kc ro' en' un' li' ln tx ia ct' md lb' wn)))))) H := hP
            have hD : va_D A (wO ad ca o ++ (wX ad ca  ++ (wA ad ca tx ln lb bg ch ct ia ++ (wW ad ca wo ++ (wP ad ca me nu ro un li pt st cy pl bk en kc ++ (wM ad ca 0 po nu pt st cy pl bk me kc ro' en' un' li' ln tx ia ct' md lb' wn)))))) := hD
            refine lv_icmp_eq (tgt := 514) hx hb d_law_208 (by decide) (fun _ => ?_) (fun h => absurd rfl h)
            refine lv_iinc (k := 4) (v := nI (i + 4)) hx hb d_law_514 hl rfl (zinc4 _) (by decide) rfl (fun ls hl => ?_)
            have hl : lv_has ls 7 [(4, .int (nI (i + 4))), (0, .ref b), (1, .ref (ad 0)), (2, .ref (ad 12)), (3, .ref (ad 21))] := hl
            refine lv_goto (tgt := 23) hx hb d_law_517 (by decide) ?_
            exact ih (i + 4) ce sl o tx ln lb bg ch ct ia wo me nu ro un li pt st cy pl bk en kc 0 po ro' en' un' li' ct' md lb' wn H locs ls (by omega) (by omega) (by omega) (by omega) J (lv_sub hl [1, 2, 3, 4, 0] rfl) hP hD hS
      · skip
        refine lv_tableIn (off := 174) (tgt := 213) hx hb d_law_39 (by decide) (by decide) (by decide) (by decide) ?_
        refine lv_aload_n hx hb d_law_213 rfl (lv_at hl 1 rfl) ?_
        refine lv_aload_n hx hb d_law_214 rfl (lv_at hl 0 rfl) ?_
        refine lv_iload hx hb d_law_215 (lv_at hl 4 rfl) ?_
        refine lv_iconst (v := nI 1) hx hb d_law_217 (by decide) ?_
        refine lv_iadd hx hb d_law_218 ?_
        refine zti (y := nI (i + 1)) (nI_add _ _) ?_
        refine va_sld hx hb hX0 hbl hbA hS (vp_in_nI (n := i + 1) (by omega) (by omega)) d_law_219 ?_
        refine zti (y := xs (i + 1)) (congrArg xs (nI_clamp (by omega))) ?_
        refine lv_aload_n hx hb d_law_220 rfl (lv_at hl 0 rfl) ?_
        refine lv_iload hx hb d_law_221 (lv_at hl 4 rfl) ?_
        refine lv_iconst (v := nI 2) hx hb d_law_223 (by decide) ?_
        refine lv_iadd hx hb d_law_224 ?_
        refine zti (y := nI (i + 2)) (nI_add _ _) ?_
        refine va_sld hx hb hX0 hbl hbA hS (vp_in_nI (n := i + 2) (by omega) (by omega)) d_law_225 ?_
        refine zti (y := xs (i + 2)) (congrArg xs (nI_clamp (by omega))) ?_
        refine zgo_i (wr := wO ad ca o ++ wM ad ca cd po nu pt st cy pl bk me kc ro' en' un' li' ln tx ia ct' md lb' wn) C0 (zrunV (na := 2) (As := [.int (xs (i + 1)), .int (xs (i + 2))]) (rest := []) C0 hP hD hS [1, 2, 3, 4, 5, 6, 7, 8, 9, 10, 11, 12] rfl rfl (m_Ch_poke l D ca k H.size ad tx ln lb bg ch ct ia wo me nu ro un li pt st cy pl bk en kc (xs (i + 1)) (xs (i + 2))) (zg_V q176 q177 q178 q1 q179) (by decide +kernel) rfl rfl ⟨by decide, by decide⟩ 1 rfl rfl rfl hl.1 rfl (Nat.le_of_ble_eq_true rfl) d_law_226 ⟨hce, hsl⟩) hP hD hS [1, 2, 3, 4, 5, 6, 7, 8, 9, 10, 11, 12] [0, 13, 14, 15, 16, 17, 18, 19, 20, 21] rfl rfl (by decide) (by decide) (fun r16 w1 H locs hw hP hD hS => ?_)
        rcases hw with ⟨hz16, rfl, rfl⟩ | ⟨hz16, rfl, rfl⟩
        · skip
          have hP : va_P D vCl (wO ad ca o ++ (wM ad ca cd po nu pt st cy pl bk me kc ro' en' un' li' ln tx ia ct' md lb' wn ++ (wX ad ca  ++ (wA ad ca tx ln lb bg ch ct ia ++ (wW ad ca wo ++ (wP ad ca (uN me (xs (i + 1)).toNatClampNeg (xs (i + 2)).toNatClampNeg) nu ro un li pt st cy pl bk en kc)))))) H := hP
          have hD : va_D A (wO ad ca o ++ (wM ad ca cd po nu pt st cy pl bk me kc ro' en' un' li' ln tx ia ct' md lb' wn ++ (wX ad ca  ++ (wA ad ca tx ln lb bg ch ct ia ++ (wW ad ca wo ++ (wP ad ca (uN me (xs (i + 1)).toNatClampNeg (xs (i + 2)).toNatClampNeg) nu ro un li pt st cy pl bk en kc)))))) := hD
          refine lv_aload_n hx hb d_law_229 rfl (lv_at hl 2 rfl) ?_
          refine lv_aload_n hx hb d_law_230 rfl (lv_at hl 0 rfl) ?_
          refine lv_iload hx hb d_law_231 (lv_at hl 4 rfl) ?_
          refine lv_iconst (v := nI 1) hx hb d_law_233 (by decide) ?_
          refine lv_iadd hx hb d_law_234 ?_
          refine zti (y := nI (i + 1)) (nI_add _ _) ?_
          refine va_sld hx hb hX0 hbl hbA hS (vp_in_nI (n := i + 1) (by omega) (by omega)) d_law_235 ?_
          refine zti (y := xs (i + 1)) (congrArg xs (nI_clamp (by omega))) ?_
          refine lv_aload_n hx hb d_law_236 rfl (lv_at hl 0 rfl) ?_
          refine lv_iload hx hb d_law_237 (lv_at hl 4 rfl) ?_
          refine lv_iconst (v := nI 2) hx hb d_law_239 (by decide) ?_
          refine lv_iadd hx hb d_law_240 ?_
          refine zti (y := nI (i + 2)) (nI_add _ _) ?_
          refine va_sld hx hb hX0 hbl hbA hS (vp_in_nI (n := i + 2) (by omega) (by omega)) d_law_241 ?_
          refine zti (y := xs (i + 2)) (congrArg xs (nI_clamp (by omega))) ?_
          refine zgo_i (wr := wO ad ca o ++ wX ad ca  ++ wA ad ca tx ln lb bg ch ct ia ++ wW ad ca wo ++ wP ad ca (uN me (xs (i + 1)).toNatClampNeg (xs (i + 2)).toNatClampNeg) nu ro un li pt st cy pl bk en kc) C0 (zrunV (na := 2) (As := [.int (xs (i + 1)), .int (xs (i + 2))]) (rest := [.int (nI 1)]) C0 hP hD hS [1, 2, 3, 4, 5, 6, 7, 8, 9] rfl rfl (m_Mo_poke l D ca k H.size ad cd po nu pt st cy pl bk me kc ro' en' un' li' ln tx ia ct' md lb' wn (xs (i + 1)) (xs (i + 2))) (zg_V q757 q758 q759 q7 q760) (by decide +kernel) rfl rfl ⟨by decide, by decide⟩ 1 rfl rfl rfl hl.1 rfl (Nat.le_of_ble_eq_true rfl) d_law_242 ⟨hce, hsl⟩) hP hD hS [1, 2, 3, 4, 5, 6, 7, 8, 9] [0, 10, 11, 12, 13, 14, 15, 16, 17, 18, 19, 20, 21] rfl rfl (by decide) (by decide) (fun r17 w1 H locs hw hP hD hS => ?_)
          rcases hw with ⟨hz17, rfl, rfl⟩ | ⟨hz17, rfl, rfl⟩
          · skip
            have hP : va_P D vCl (wO ad ca o ++ (wX ad ca  ++ (wA ad ca tx ln lb bg ch ct ia ++ (wW ad ca wo ++ (wP ad ca (uN me (xs (i + 1)).toNatClampNeg (xs (i + 2)).toNatClampNeg) nu ro un li pt st cy pl bk en kc ++ (wM ad ca 0 po nu pt st cy pl bk (uN me (xs (i + 1)).toNatClampNeg (xs (i + 2)).toNatClampNeg) kc ro' en' un' li' ln tx ia ct' md lb' wn)))))) H := hP
            have hD : va_D A (wO ad ca o ++ (wX ad ca  ++ (wA ad ca tx ln lb bg ch ct ia ++ (wW ad ca wo ++ (wP ad ca (uN me (xs (i + 1)).toNatClampNeg (xs (i + 2)).toNatClampNeg) nu ro un li pt st cy pl bk en kc ++ (wM ad ca 0 po nu pt st cy pl bk (uN me (xs (i + 1)).toNatClampNeg (xs (i + 2)).toNatClampNeg) kc ro' en' un' li' ln tx ia ct' md lb' wn)))))) := hD
            refine lv_icmp_eq (tgt := 514) hx hb d_law_245 (by decide) (fun _ => ?_) (fun h => absurd rfl h)
            refine lv_iinc (k := 4) (v := nI (i + 4)) hx hb d_law_514 hl rfl (zinc4 _) (by decide) rfl (fun ls hl => ?_)
            have hl : lv_has ls 7 [(4, .int (nI (i + 4))), (0, .ref b), (1, .ref (ad 0)), (2, .ref (ad 12)), (3, .ref (ad 21))] := hl
            refine lv_goto (tgt := 23) hx hb d_law_517 (by decide) ?_
            exact ih (i + 4) ce sl o tx ln lb bg ch ct ia wo (uN me (xs (i + 1)).toNatClampNeg (xs (i + 2)).toNatClampNeg) nu ro un li pt st cy pl bk en kc 0 po ro' en' un' li' ct' md lb' wn H locs ls (by omega) (by omega) (by omega) (by omega) (lw_poke J hz16) (lv_sub hl [1, 2, 3, 4, 0] rfl) hP hD hS
          · skip
            have hP : va_P D vCl (wO ad ca o ++ (wX ad ca  ++ (wA ad ca tx ln lb bg ch ct ia ++ (wW ad ca wo ++ (wP ad ca (uN me (xs (i + 1)).toNatClampNeg (xs (i + 2)).toNatClampNeg) nu ro un li pt st cy pl bk en kc ++ (wM ad ca 0 po nu pt st cy pl bk me kc ro' en' un' li' ln tx ia ct' md lb' wn)))))) H := hP
            have hD : va_D A (wO ad ca o ++ (wX ad ca  ++ (wA ad ca tx ln lb bg ch ct ia ++ (wW ad ca wo ++ (wP ad ca (uN me (xs (i + 1)).toNatClampNeg (xs (i + 2)).toNatClampNeg) nu ro un li pt st cy pl bk en kc ++ (wM ad ca 0 po nu pt st cy pl bk me kc ro' en' un' li' ln tx ia ct' md lb' wn)))))) := hD
            exact absurd hz16 hz17
        · skip
          have hP : va_P D vCl (wO ad ca o ++ (wM ad ca cd po nu pt st cy pl bk me kc ro' en' un' li' ln tx ia ct' md lb' wn ++ (wX ad ca  ++ (wA ad ca tx ln lb bg ch ct ia ++ (wW ad ca wo ++ (wP ad ca me nu ro un li pt st cy pl bk en kc)))))) H := hP
          have hD : va_D A (wO ad ca o ++ (wM ad ca cd po nu pt st cy pl bk me kc ro' en' un' li' ln tx ia ct' md lb' wn ++ (wX ad ca  ++ (wA ad ca tx ln lb bg ch ct ia ++ (wW ad ca wo ++ (wP ad ca me nu ro un li pt st cy pl bk en kc)))))) := hD
          refine lv_aload_n hx hb d_law_229 rfl (lv_at hl 2 rfl) ?_
          refine lv_aload_n hx hb d_law_230 rfl (lv_at hl 0 rfl) ?_
          refine lv_iload hx hb d_law_231 (lv_at hl 4 rfl) ?_
          refine lv_iconst (v := nI 1) hx hb d_law_233 (by decide) ?_
          refine lv_iadd hx hb d_law_234 ?_
          refine zti (y := nI (i + 1)) (nI_add _ _) ?_
          refine va_sld hx hb hX0 hbl hbA hS (vp_in_nI (n := i + 1) (by omega) (by omega)) d_law_235 ?_
          refine zti (y := xs (i + 1)) (congrArg xs (nI_clamp (by omega))) ?_
          refine lv_aload_n hx hb d_law_236 rfl (lv_at hl 0 rfl) ?_
          refine lv_iload hx hb d_law_237 (lv_at hl 4 rfl) ?_
          refine lv_iconst (v := nI 2) hx hb d_law_239 (by decide) ?_
          refine lv_iadd hx hb d_law_240 ?_
          refine zti (y := nI (i + 2)) (nI_add _ _) ?_
          refine va_sld hx hb hX0 hbl hbA hS (vp_in_nI (n := i + 2) (by omega) (by omega)) d_law_241 ?_
          refine zti (y := xs (i + 2)) (congrArg xs (nI_clamp (by omega))) ?_
          refine zgo_i (wr := wO ad ca o ++ wX ad ca  ++ wA ad ca tx ln lb bg ch ct ia ++ wW ad ca wo ++ wP ad ca me nu ro un li pt st cy pl bk en kc) C0 (zrunV (na := 2) (As := [.int (xs (i + 1)), .int (xs (i + 2))]) (rest := [.int (nI 0)]) C0 hP hD hS [1, 2, 3, 4, 5, 6, 7, 8, 9] rfl rfl (m_Mo_poke l D ca k H.size ad cd po nu pt st cy pl bk me kc ro' en' un' li' ln tx ia ct' md lb' wn (xs (i + 1)) (xs (i + 2))) (zg_V q757 q758 q759 q7 q760) (by decide +kernel) rfl rfl ⟨by decide, by decide⟩ 1 rfl rfl rfl hl.1 rfl (Nat.le_of_ble_eq_true rfl) d_law_242 ⟨hce, hsl⟩) hP hD hS [1, 2, 3, 4, 5, 6, 7, 8, 9] [0, 10, 11, 12, 13, 14, 15, 16, 17, 18, 19, 20, 21] rfl rfl (by decide) (by decide) (fun r18 w1 H locs hw hP hD hS => ?_)
          rcases hw with ⟨hz18, rfl, rfl⟩ | ⟨hz18, rfl, rfl⟩
          · skip
            have hP : va_P D vCl (wO ad ca o ++ (wX ad ca  ++ (wA ad ca tx ln lb bg ch ct ia ++ (wW ad ca wo ++ (wP ad ca me nu ro un li pt st cy pl bk en kc ++ (wM ad ca 0 po nu pt st cy pl bk (uN me (xs (i + 1)).toNatClampNeg (xs (i + 2)).toNatClampNeg) kc ro' en' un' li' ln tx ia ct' md lb' wn)))))) H := hP
            have hD : va_D A (wO ad ca o ++ (wX ad ca  ++ (wA ad ca tx ln lb bg ch ct ia ++ (wW ad ca wo ++ (wP ad ca me nu ro un li pt st cy pl bk en kc ++ (wM ad ca 0 po nu pt st cy pl bk (uN me (xs (i + 1)).toNatClampNeg (xs (i + 2)).toNatClampNeg) kc ro' en' un' li' ln tx ia ct' md lb' wn)))))) := hD
            exact absurd hz18 hz16
          · skip
            have hP : va_P D vCl (wO ad ca o ++ (wX ad ca  ++ (wA ad ca tx ln lb bg ch ct ia ++ (wW ad ca wo ++ (wP ad ca me nu ro un li pt st cy pl bk en kc ++ (wM ad ca 0 po nu pt st cy pl bk me kc ro' en' un' li' ln tx ia ct' md lb' wn)))))) H := hP
            have hD : va_D A (wO ad ca o ++ (wX ad ca  ++ (wA ad ca tx ln lb bg ch ct ia ++ (wW ad ca wo ++ (wP ad ca me nu ro un li pt st cy pl bk en kc ++ (wM ad ca 0 po nu pt st cy pl bk me kc ro' en' un' li' ln tx ia ct' md lb' wn)))))) := hD
            refine lv_icmp_eq (tgt := 514) hx hb d_law_245 (by decide) (fun _ => ?_) (fun h => absurd rfl h)
            refine lv_iinc (k := 4) (v := nI (i + 4)) hx hb d_law_514 hl rfl (zinc4 _) (by decide) rfl (fun ls hl => ?_)
            have hl : lv_has ls 7 [(4, .int (nI (i + 4))), (0, .ref b), (1, .ref (ad 0)), (2, .ref (ad 12)), (3, .ref (ad 21))] := hl
            refine lv_goto (tgt := 23) hx hb d_law_517 (by decide) ?_
            exact ih (i + 4) ce sl o tx ln lb bg ch ct ia wo me nu ro un li pt st cy pl bk en kc 0 po ro' en' un' li' ct' md lb' wn H locs ls (by omega) (by omega) (by omega) (by omega) J (lv_sub hl [1, 2, 3, 4, 0] rfl) hP hD hS
      · skip
        refine lv_tableIn (off := 211) (tgt := 250) hx hb d_law_39 (by decide) (by decide) (by decide) (by decide) ?_
        refine lv_aload_n hx hb d_law_250 rfl (lv_at hl 1 rfl) ?_
        refine lv_aload_n hx hb d_law_251 rfl (lv_at hl 0 rfl) ?_
        refine lv_iload hx hb d_law_252 (lv_at hl 4 rfl) ?_
        refine lv_iconst (v := nI 1) hx hb d_law_254 (by decide) ?_
        refine lv_iadd hx hb d_law_255 ?_
        refine zti (y := nI (i + 1)) (nI_add _ _) ?_
        refine va_sld hx hb hX0 hbl hbA hS (vp_in_nI (n := i + 1) (by omega) (by omega)) d_law_256 ?_
        refine zti (y := xs (i + 1)) (congrArg xs (nI_clamp (by omega))) ?_
        refine zgo_i (wr := wO ad ca o ++ wM ad ca cd po nu pt st cy pl bk me kc ro' en' un' li' ln tx ia ct' md lb' wn) C0 (zrunV (na := 1) (As := [.int (xs (i + 1))]) (rest := []) C0 hP hD hS [1, 2, 3, 4, 5, 6, 7, 8, 9, 10, 11, 12] rfl rfl (m_Ch_key l D ca k H.size ad tx ln lb bg ch ct ia wo me nu ro un li pt st cy pl bk en kc (xs (i + 1)) J.1.2.2.2.2.2.2.2.2) (zg_V q180 q181 q182 q1 q183) (by decide +kernel) rfl rfl ⟨by decide, by decide⟩ 1 rfl rfl rfl hl.1 rfl (Nat.le_of_ble_eq_true rfl) d_law_257 ⟨hce, hsl⟩) hP hD hS [1, 2, 3, 4, 5, 6, 7, 8, 9, 10, 11, 12] [0, 13, 14, 15, 16, 17, 18, 19, 20, 21] rfl rfl (by decide) (by decide) (fun r19 w1 H locs hw hP hD hS => ?_)
        rcases hw with ⟨hz19, rfl, rfl⟩ | ⟨hz19, rfl, rfl⟩
        · skip
          have hP : va_P D vCl (wO ad ca o ++ (wM ad ca cd po nu pt st cy pl bk me kc ro' en' un' li' ln tx ia ct' md lb' wn ++ (wX ad ca  ++ (wA ad ca tx ln lb bg ch ct ia ++ (wW ad ca wo ++ (wP ad ca me nu (uN ro kc (xs (i + 1)).toNatClampNeg) un li pt st cy pl bk en (kc + 1))))))) H := hP
          have hD : va_D A (wO ad ca o ++ (wM ad ca cd po nu pt st cy pl bk me kc ro' en' un' li' ln tx ia ct' md lb' wn ++ (wX ad ca  ++ (wA ad ca tx ln lb bg ch ct ia ++ (wW ad ca wo ++ (wP ad ca me nu (uN ro kc (xs (i + 1)).toNatClampNeg) un li pt st cy pl bk en (kc + 1))))))) := hD
          refine lv_aload_n hx hb d_law_260 rfl (lv_at hl 2 rfl) ?_
          refine lv_aload_n hx hb d_law_261 rfl (lv_at hl 0 rfl) ?_
          refine lv_iload hx hb d_law_262 (lv_at hl 4 rfl) ?_
          refine lv_iconst (v := nI 1) hx hb d_law_264 (by decide) ?_
          refine lv_iadd hx hb d_law_265 ?_
          refine zti (y := nI (i + 1)) (nI_add _ _) ?_
          refine va_sld hx hb hX0 hbl hbA hS (vp_in_nI (n := i + 1) (by omega) (by omega)) d_law_266 ?_
          refine zti (y := xs (i + 1)) (congrArg xs (nI_clamp (by omega))) ?_
          refine zgo_i (wr := wO ad ca o ++ wX ad ca  ++ wA ad ca tx ln lb bg ch ct ia ++ wW ad ca wo ++ wP ad ca me nu (uN ro kc (xs (i + 1)).toNatClampNeg) un li pt st cy pl bk en (kc + 1)) C0 (zrunV (na := 1) (As := [.int (xs (i + 1))]) (rest := [.int (nI 1)]) C0 hP hD hS [1, 2, 3, 4, 5, 6, 7, 8, 9] rfl rfl (m_Mo_key l D ca k H.size ad cd po nu pt st cy pl bk me kc ro' en' un' li' ln tx ia ct' md lb' wn (xs (i + 1)) J.1.2.2.2.2.2.2.2.2) (zg_V q761 q762 q763 q7 q764) (by decide +kernel) rfl rfl ⟨by decide, by decide⟩ 1 rfl rfl rfl hl.1 rfl (Nat.le_of_ble_eq_true rfl) d_law_267 ⟨hce, hsl⟩) hP hD hS [1, 2, 3, 4, 5, 6, 7, 8, 9] [0, 10, 11, 12, 13, 14, 15, 16, 17, 18, 19, 20, 21] rfl rfl (by decide) (by decide) (fun r20 w1 H locs hw hP hD hS => ?_)
          rcases hw with ⟨hz20, rfl, rfl⟩ | ⟨hz20, rfl, rfl⟩
          · skip
            have hP : va_P D vCl (wO ad ca o ++ (wX ad ca  ++ (wA ad ca tx ln lb bg ch ct ia ++ (wW ad ca wo ++ (wP ad ca me nu (uN ro kc (xs (i + 1)).toNatClampNeg) un li pt st cy pl bk en (kc + 1) ++ (wM ad ca 0 po nu pt st cy pl bk me (kc + 1) (uN ro' kc (xs (i + 1)).toNatClampNeg) en' un' li' ln tx ia ct' md lb' wn)))))) H := hP
            have hD : va_D A (wO ad ca o ++ (wX ad ca  ++ (wA ad ca tx ln lb bg ch ct ia ++ (wW ad ca wo ++ (wP ad ca me nu (uN ro kc (xs (i + 1)).toNatClampNeg) un li pt st cy pl bk en (kc + 1) ++ (wM ad ca 0 po nu pt st cy pl bk me (kc + 1) (uN ro' kc (xs (i + 1)).toNatClampNeg) en' un' li' ln tx ia ct' md lb' wn)))))) := hD
            refine lv_icmp_eq (tgt := 514) hx hb d_law_270 (by decide) (fun _ => ?_) (fun h => absurd rfl h)
            refine lv_iinc (k := 4) (v := nI (i + 4)) hx hb d_law_514 hl rfl (zinc4 _) (by decide) rfl (fun ls hl => ?_)
            have hl : lv_has ls 7 [(4, .int (nI (i + 4))), (0, .ref b), (1, .ref (ad 0)), (2, .ref (ad 12)), (3, .ref (ad 21))] := hl
            refine lv_goto (tgt := 23) hx hb d_law_517 (by decide) ?_
            exact ih (i + 4) ce sl o tx ln lb bg ch ct ia wo me nu (uN ro kc (xs (i + 1)).toNatClampNeg) un li pt st cy pl bk en (kc + 1) 0 po (uN ro' kc (xs (i + 1)).toNatClampNeg) en' un' li' ct' md lb' wn H locs ls (by omega) (by omega) (by omega) (by omega) (lw_key J hz19) (lv_sub hl [1, 2, 3, 4, 0] rfl) hP hD hS
          · skip
            have hP : va_P D vCl (wO ad ca o ++ (wX ad ca  ++ (wA ad ca tx ln lb bg ch ct ia ++ (wW ad ca wo ++ (wP ad ca me nu (uN ro kc (xs (i + 1)).toNatClampNeg) un li pt st cy pl bk en (kc + 1) ++ (wM ad ca 0 po nu pt st cy pl bk me kc ro' en' un' li' ln tx ia ct' md lb' wn)))))) H := hP
            have hD : va_D A (wO ad ca o ++ (wX ad ca  ++ (wA ad ca tx ln lb bg ch ct ia ++ (wW ad ca wo ++ (wP ad ca me nu (uN ro kc (xs (i + 1)).toNatClampNeg) un li pt st cy pl bk en (kc + 1) ++ (wM ad ca 0 po nu pt st cy pl bk me kc ro' en' un' li' ln tx ia ct' md lb' wn)))))) := hD
            exact absurd hz19 hz20
        · skip
          have hP : va_P D vCl (wO ad ca o ++ (wM ad ca cd po nu pt st cy pl bk me kc ro' en' un' li' ln tx ia ct' md lb' wn ++ (wX ad ca  ++ (wA ad ca tx ln lb bg ch ct ia ++ (wW ad ca wo ++ (wP ad ca me nu ro un li pt st cy pl bk en kc)))))) H := hP
          have hD : va_D A (wO ad ca o ++ (wM ad ca cd po nu pt st cy pl bk me kc ro' en' un' li' ln tx ia ct' md lb' wn ++ (wX ad ca  ++ (wA ad ca tx ln lb bg ch ct ia ++ (wW ad ca wo ++ (wP ad ca me nu ro un li pt st cy pl bk en kc)))))) := hD
          refine lv_aload_n hx hb d_law_260 rfl (lv_at hl 2 rfl) ?_
          refine lv_aload_n hx hb d_law_261 rfl (lv_at hl 0 rfl) ?_
          refine lv_iload hx hb d_law_262 (lv_at hl 4 rfl) ?_
          refine lv_iconst (v := nI 1) hx hb d_law_264 (by decide) ?_
          refine lv_iadd hx hb d_law_265 ?_
          refine zti (y := nI (i + 1)) (nI_add _ _) ?_
          refine va_sld hx hb hX0 hbl hbA hS (vp_in_nI (n := i + 1) (by omega) (by omega)) d_law_266 ?_
          refine zti (y := xs (i + 1)) (congrArg xs (nI_clamp (by omega))) ?_
          refine zgo_i (wr := wO ad ca o ++ wX ad ca  ++ wA ad ca tx ln lb bg ch ct ia ++ wW ad ca wo ++ wP ad ca me nu ro un li pt st cy pl bk en kc) C0 (zrunV (na := 1) (As := [.int (xs (i + 1))]) (rest := [.int (nI 0)]) C0 hP hD hS [1, 2, 3, 4, 5, 6, 7, 8, 9] rfl rfl (m_Mo_key l D ca k H.size ad cd po nu pt st cy pl bk me kc ro' en' un' li' ln tx ia ct' md lb' wn (xs (i + 1)) J.1.2.2.2.2.2.2.2.2) (zg_V q761 q762 q763 q7 q764) (by decide +kernel) rfl rfl ⟨by decide, by decide⟩ 1 rfl rfl rfl hl.1 rfl (Nat.le_of_ble_eq_true rfl) d_law_267 ⟨hce, hsl⟩) hP hD hS [1, 2, 3, 4, 5, 6, 7, 8, 9] [0, 10, 11, 12, 13, 14, 15, 16, 17, 18, 19, 20, 21] rfl rfl (by decide) (by decide) (fun r21 w1 H locs hw hP hD hS => ?_)
          rcases hw with ⟨hz21, rfl, rfl⟩ | ⟨hz21, rfl, rfl⟩
          · skip
            have hP : va_P D vCl (wO ad ca o ++ (wX ad ca  ++ (wA ad ca tx ln lb bg ch ct ia ++ (wW ad ca wo ++ (wP ad ca me nu ro un li pt st cy pl bk en kc ++ (wM ad ca 0 po nu pt st cy pl bk me (kc + 1) (uN ro' kc (xs (i + 1)).toNatClampNeg) en' un' li' ln tx ia ct' md lb' wn)))))) H := hP
            have hD : va_D A (wO ad ca o ++ (wX ad ca  ++ (wA ad ca tx ln lb bg ch ct ia ++ (wW ad ca wo ++ (wP ad ca me nu ro un li pt st cy pl bk en kc ++ (wM ad ca 0 po nu pt st cy pl bk me (kc + 1) (uN ro' kc (xs (i + 1)).toNatClampNeg) en' un' li' ln tx ia ct' md lb' wn)))))) := hD
            exact absurd hz21 hz19
          · skip
            have hP : va_P D vCl (wO ad ca o ++ (wX ad ca  ++ (wA ad ca tx ln lb bg ch ct ia ++ (wW ad ca wo ++ (wP ad ca me nu ro un li pt st cy pl bk en kc ++ (wM ad ca 0 po nu pt st cy pl bk me kc ro' en' un' li' ln tx ia ct' md lb' wn)))))) H := hP
            have hD : va_D A (wO ad ca o ++ (wX ad ca  ++ (wA ad ca tx ln lb bg ch ct ia ++ (wW ad ca wo ++ (wP ad ca me nu ro un li pt st cy pl bk en kc ++ (wM ad ca 0 po nu pt st cy pl bk me kc ro' en' un' li' ln tx ia ct' md lb' wn)))))) := hD
            refine lv_icmp_eq (tgt := 514) hx hb d_law_270 (by decide) (fun _ => ?_) (fun h => absurd rfl h)
            refine lv_iinc (k := 4) (v := nI (i + 4)) hx hb d_law_514 hl rfl (zinc4 _) (by decide) rfl (fun ls hl => ?_)
            have hl : lv_has ls 7 [(4, .int (nI (i + 4))), (0, .ref b), (1, .ref (ad 0)), (2, .ref (ad 12)), (3, .ref (ad 21))] := hl
            refine lv_goto (tgt := 23) hx hb d_law_517 (by decide) ?_
            exact ih (i + 4) ce sl o tx ln lb bg ch ct ia wo me nu ro un li pt st cy pl bk en kc 0 po ro' en' un' li' ct' md lb' wn H locs ls (by omega) (by omega) (by omega) (by omega) J (lv_sub hl [1, 2, 3, 4, 0] rfl) hP hD hS
      · skip
        refine lv_tableIn (off := 236) (tgt := 275) hx hb d_law_39 (by decide) (by decide) (by decide) (by decide) ?_
        refine lv_aload_n hx hb d_law_275 rfl (lv_at hl 1 rfl) ?_
        refine zgo_i (wr := wO ad ca o ++ wM ad ca cd po nu pt st cy pl bk me kc ro' en' un' li' ln tx ia ct' md lb' wn) C0 (zrunV (na := 0) (As := []) (rest := []) C0 hP hD hS [1, 2, 3, 4, 5, 6, 7, 8, 9, 10, 11, 12] rfl rfl (m_Ch_keys l D ca k H.size ad tx ln lb bg ch ct ia wo me nu ro un li pt st cy pl bk en kc ) (zg_V q188 q189 q190 q1 q191) (by decide +kernel) rfl rfl ⟨by decide, by decide⟩ 1 rfl rfl rfl hl.1 rfl (Nat.le_of_ble_eq_true rfl) d_law_276 ⟨hce, hsl⟩) hP hD hS [1, 2, 3, 4, 5, 6, 7, 8, 9, 10, 11, 12] [0, 13, 14, 15, 16, 17, 18, 19, 20, 21] rfl rfl (by decide) (by decide) (fun r22 w1 H locs hw hP hD hS => ?_)
        obtain ⟨rfl, rfl⟩ := hw
        have hP : va_P D vCl (wO ad ca o ++ (wM ad ca cd po nu pt st cy pl bk me kc ro' en' un' li' ln tx ia ct' md lb' wn ++ (wX ad ca  ++ (wA ad ca tx ln lb bg ch ct ia ++ (wW ad ca wo ++ (wP ad ca me nu ro un li pt st cy pl bk en kc)))))) H := hP
        have hD : va_D A (wO ad ca o ++ (wM ad ca cd po nu pt st cy pl bk me kc ro' en' un' li' ln tx ia ct' md lb' wn ++ (wX ad ca  ++ (wA ad ca tx ln lb bg ch ct ia ++ (wW ad ca wo ++ (wP ad ca me nu ro un li pt st cy pl bk en kc)))))) := hD
        refine lv_aload_n hx hb d_law_279 rfl (lv_at hl 2 rfl) ?_
        refine zgo_i (wr := wO ad ca o ++ wX ad ca  ++ wA ad ca tx ln lb bg ch ct ia ++ wW ad ca wo ++ wP ad ca me nu ro un li pt st cy pl bk en kc) C0 (zrunV (na := 0) (As := []) (rest := [.int (nI kc)]) C0 hP hD hS [1, 2, 3, 4, 5, 6, 7, 8, 9] rfl rfl (m_Mo_keys l D ca k H.size ad cd po nu pt st cy pl bk me kc ro' en' un' li' ln tx ia ct' md lb' wn ) (zg_V q765 q766 q767 q7 q768) (by decide +kernel) rfl rfl ⟨by decide, by decide⟩ 1 rfl rfl rfl hl.1 rfl (Nat.le_of_ble_eq_true rfl) d_law_280 ⟨hce, hsl⟩) hP hD hS [1, 2, 3, 4, 5, 6, 7, 8, 9] [0, 10, 11, 12, 13, 14, 15, 16, 17, 18, 19, 20, 21] rfl rfl (by decide) (by decide) (fun r23 w1 H locs hw hP hD hS => ?_)
        obtain ⟨rfl, rfl⟩ := hw
        have hP : va_P D vCl (wO ad ca o ++ (wX ad ca  ++ (wA ad ca tx ln lb bg ch ct ia ++ (wW ad ca wo ++ (wP ad ca me nu ro un li pt st cy pl bk en kc ++ (wM ad ca 0 po nu pt st cy pl bk me kc ro' en' un' li' ln tx ia ct' md lb' wn)))))) H := hP
        have hD : va_D A (wO ad ca o ++ (wX ad ca  ++ (wA ad ca tx ln lb bg ch ct ia ++ (wW ad ca wo ++ (wP ad ca me nu ro un li pt st cy pl bk en kc ++ (wM ad ca 0 po nu pt st cy pl bk me kc ro' en' un' li' ln tx ia ct' md lb' wn)))))) := hD
        refine lv_icmp_eq (tgt := 514) hx hb d_law_283 (by decide) (fun _ => ?_) (fun h => absurd rfl h)
        refine lv_iinc (k := 4) (v := nI (i + 4)) hx hb d_law_514 hl rfl (zinc4 _) (by decide) rfl (fun ls hl => ?_)
        have hl : lv_has ls 7 [(4, .int (nI (i + 4))), (0, .ref b), (1, .ref (ad 0)), (2, .ref (ad 12)), (3, .ref (ad 21))] := hl
        refine lv_goto (tgt := 23) hx hb d_law_517 (by decide) ?_
        exact ih (i + 4) ce sl o tx ln lb bg ch ct ia wo me nu ro un li pt st cy pl bk en kc 0 po ro' en' un' li' ct' md lb' wn H locs ls (by omega) (by omega) (by omega) (by omega) J (lv_sub hl [1, 2, 3, 4, 0] rfl) hP hD hS
      · skip
        refine lv_tableIn (off := 249) (tgt := 288) hx hb d_law_39 (by decide) (by decide) (by decide) (by decide) ?_
        refine lv_aload_n hx hb d_law_288 rfl (lv_at hl 1 rfl) ?_
        refine lv_aload_n hx hb d_law_289 rfl (lv_at hl 0 rfl) ?_
        refine lv_iload hx hb d_law_290 (lv_at hl 4 rfl) ?_
        refine lv_iconst (v := nI 1) hx hb d_law_292 (by decide) ?_
        refine lv_iadd hx hb d_law_293 ?_
        refine zti (y := nI (i + 1)) (nI_add _ _) ?_
        refine va_sld hx hb hX0 hbl hbA hS (vp_in_nI (n := i + 1) (by omega) (by omega)) d_law_294 ?_
        refine zti (y := xs (i + 1)) (congrArg xs (nI_clamp (by omega))) ?_
        refine lv_aload_n hx hb d_law_295 rfl (lv_at hl 3 rfl) ?_
        refine zgo_iN (mc := 1) (ms := 6) (wr := wM ad ca cd po nu pt st cy pl bk me kc ro' en' un' li' ln tx ia ct' md lb' wn) C0 (zrunSW (na := 3) (As := [.ref (ad 0), .int (xs (i + 1)), .ref (ad 21)]) (rest := []) C0 hP hD hS [0, 1, 2, 3, 4, 5, 6, 7, 8, 9, 10, 11, 12] rfl rfl (m_La_run l D ca k H.size ad hlt o tx ln lb bg ch ct ia wo me nu ro un li pt st cy pl bk en kc (xs (i + 1)) J.1) (zg_SW q447 q448 q0 q449) (by decide +kernel) rfl rfl ⟨by decide, by decide⟩ rfl hl.1 rfl (Nat.le_of_ble_eq_true rfl) d_law_296 ⟨hce1, hsl1⟩) hP hD hS [0, 1, 2, 3, 4, 5, 6, 7, 8, 9, 10, 11, 12] [13, 14, 15, 16, 17, 18, 19, 20, 21] rfl rfl (by decide) (by decide) (fun r24 w1 H locs hw hP hD hS => ?_)
        rcases hw with ⟨hz, rfl, rfl⟩ | ⟨hz, rfl, rfl⟩
        · skip
          have hP : va_P D vCl (wM ad ca cd po nu pt st cy pl bk me kc ro' en' un' li' ln tx ia ct' md lb' wn ++ (wO ad ca (uN o 0 (rnS (xs (i + 1)).toNatClampNeg (me, nu, ro, un, li, pt, st, cy, pl, bk, 0, kc)).1) ++ (wX ad ca  ++ (wA ad ca tx ln lb bg ch ct ia ++ (wW ad ca wo ++ (wP ad ca (((rnS (xs (i + 1)).toNatClampNeg (me, nu, ro, un, li, pt, st, cy, pl, bk, 0, kc)).2).1) (((rnS (xs (i + 1)).toNatClampNeg (me, nu, ro, un, li, pt, st, cy, pl, bk, 0, kc)).2).2.1) (((rnS (xs (i + 1)).toNatClampNeg (me, nu, ro, un, li, pt, st, cy, pl, bk, 0, kc)).2).2.2.1) (((rnS (xs (i + 1)).toNatClampNeg (me, nu, ro, un, li, pt, st, cy, pl, bk, 0, kc)).2).2.2.2.1) (((rnS (xs (i + 1)).toNatClampNeg (me, nu, ro, un, li, pt, st, cy, pl, bk, 0, kc)).2).2.2.2.2.1) (((rnS (xs (i + 1)).toNatClampNeg (me, nu, ro, un, li, pt, st, cy, pl, bk, 0, kc)).2).2.2.2.2.2.1) (((rnS (xs (i + 1)).toNatClampNeg (me, nu, ro, un, li, pt, st, cy, pl, bk, 0, kc)).2).2.2.2.2.2.2.1) (((rnS (xs (i + 1)).toNatClampNeg (me, nu, ro, un, li, pt, st, cy, pl, bk, 0, kc)).2).2.2.2.2.2.2.2.1) (((rnS (xs (i + 1)).toNatClampNeg (me, nu, ro, un, li, pt, st, cy, pl, bk, 0, kc)).2).2.2.2.2.2.2.2.2.1) (((rnS (xs (i + 1)).toNatClampNeg (me, nu, ro, un, li, pt, st, cy, pl, bk, 0, kc)).2).2.2.2.2.2.2.2.2.2.1) (((rnS (xs (i + 1)).toNatClampNeg (me, nu, ro, un, li, pt, st, cy, pl, bk, 0, kc)).2).2.2.2.2.2.2.2.2.2.2.1) (((rnS (xs (i + 1)).toNatClampNeg (me, nu, ro, un, li, pt, st, cy, pl, bk, 0, kc)).2).2.2.2.2.2.2.2.2.2.2.2))))))) H := hP
          have hD : va_D A (wM ad ca cd po nu pt st cy pl bk me kc ro' en' un' li' ln tx ia ct' md lb' wn ++ (wO ad ca (uN o 0 (rnS (xs (i + 1)).toNatClampNeg (me, nu, ro, un, li, pt, st, cy, pl, bk, 0, kc)).1) ++ (wX ad ca  ++ (wA ad ca tx ln lb bg ch ct ia ++ (wW ad ca wo ++ (wP ad ca (((rnS (xs (i + 1)).toNatClampNeg (me, nu, ro, un, li, pt, st, cy, pl, bk, 0, kc)).2).1) (((rnS (xs (i + 1)).toNatClampNeg (me, nu, ro, un, li, pt, st, cy, pl, bk, 0, kc)).2).2.1) (((rnS (xs (i + 1)).toNatClampNeg (me, nu, ro, un, li, pt, st, cy, pl, bk, 0, kc)).2).2.2.1) (((rnS (xs (i + 1)).toNatClampNeg (me, nu, ro, un, li, pt, st, cy, pl, bk, 0, kc)).2).2.2.2.1) (((rnS (xs (i + 1)).toNatClampNeg (me, nu, ro, un, li, pt, st, cy, pl, bk, 0, kc)).2).2.2.2.2.1) (((rnS (xs (i + 1)).toNatClampNeg (me, nu, ro, un, li, pt, st, cy, pl, bk, 0, kc)).2).2.2.2.2.2.1) (((rnS (xs (i + 1)).toNatClampNeg (me, nu, ro, un, li, pt, st, cy, pl, bk, 0, kc)).2).2.2.2.2.2.2.1) (((rnS (xs (i + 1)).toNatClampNeg (me, nu, ro, un, li, pt, st, cy, pl, bk, 0, kc)).2).2.2.2.2.2.2.2.1) (((rnS (xs (i + 1)).toNatClampNeg (me, nu, ro, un, li, pt, st, cy, pl, bk, 0, kc)).2).2.2.2.2.2.2.2.2.1) (((rnS (xs (i + 1)).toNatClampNeg (me, nu, ro, un, li, pt, st, cy, pl, bk, 0, kc)).2).2.2.2.2.2.2.2.2.2.1) (((rnS (xs (i + 1)).toNatClampNeg (me, nu, ro, un, li, pt, st, cy, pl, bk, 0, kc)).2).2.2.2.2.2.2.2.2.2.2.1) (((rnS (xs (i + 1)).toNatClampNeg (me, nu, ro, un, li, pt, st, cy, pl, bk, 0, kc)).2).2.2.2.2.2.2.2.2.2.2.2))))))) := hD
          refine lv_istore hx hb d_law_299 hl (by decide) rfl (fun ls hl => ?_)
          have hl : lv_has ls 7 [(5, .int (nI 0)), (0, .ref b), (1, .ref (ad 0)), (2, .ref (ad 12)), (3, .ref (ad 21)), (4, .int (nI i))] := hl
          refine lv_aload_n hx hb d_law_301 rfl (lv_at hl 3 rfl) ?_
          refine lv_aload_n hx hb d_law_302 rfl (lv_at hl 1 rfl) ?_
          refine lv_iload hx hb d_law_303 (lv_at hl 5 rfl) ?_
          refine lv_iconst (v := nI 1) hx hb d_law_305 (by decide) ?_
          refine lv_iadd hx hb d_law_306 ?_
          refine zti (y := nI (i + 1)) (nI_add _ _) ?_
          refine va_sld hx hb hX0 hbl hbA hS (vp_in_nI (n := i + 1) (by omega) (by omega)) d_law_307 ?_
          refine zti (y := xs (i + 1)) (congrArg xs (nI_clamp (by omega))) ?_
          refine zgo_i (wr := wO ad ca (uN o 0 (rnS (xs (i + 1)).toNatClampNeg (me, nu, ro, un, li, pt, st, cy, pl, bk, 0, kc)).1) ++ wX ad ca  ++ wA ad ca tx ln lb bg ch ct ia ++ wW ad ca wo ++ wP ad ca (((rnS (xs (i + 1)).toNatClampNeg (me, nu, ro, un, li, pt, st, cy, pl, bk, 0, kc)).2).1) (((rnS (xs (i + 1)).toNatClampNeg (me, nu, ro, un, li, pt, st, cy, pl, bk, 0, kc)).2).2.1) (((rnS (xs (i + 1)).toNatClampNeg (me, nu, ro, un, li, pt, st, cy, pl, bk, 0, kc)).2).2.2.1) (((rnS (xs (i + 1)).toNatClampNeg (me, nu, ro, un, li, pt, st, cy, pl, bk, 0, kc)).2).2.2.2.1) (((rnS (xs (i + 1)).toNatClampNeg (me, nu, ro, un, li, pt, st, cy, pl, bk, 0, kc)).2).2.2.2.2.1) (((rnS (xs (i + 1)).toNatClampNeg (me, nu, ro, un, li, pt, st, cy, pl, bk, 0, kc)).2).2.2.2.2.2.1) (((rnS (xs (i + 1)).toNatClampNeg (me, nu, ro, un, li, pt, st, cy, pl, bk, 0, kc)).2).2.2.2.2.2.2.1) (((rnS (xs (i + 1)).toNatClampNeg (me, nu, ro, un, li, pt, st, cy, pl, bk, 0, kc)).2).2.2.2.2.2.2.2.1) (((rnS (xs (i + 1)).toNatClampNeg (me, nu, ro, un, li, pt, st, cy, pl, bk, 0, kc)).2).2.2.2.2.2.2.2.2.1) (((rnS (xs (i + 1)).toNatClampNeg (me, nu, ro, un, li, pt, st, cy, pl, bk, 0, kc)).2).2.2.2.2.2.2.2.2.2.1) (((rnS (xs (i + 1)).toNatClampNeg (me, nu, ro, un, li, pt, st, cy, pl, bk, 0, kc)).2).2.2.2.2.2.2.2.2.2.2.1) (((rnS (xs (i + 1)).toNatClampNeg (me, nu, ro, un, li, pt, st, cy, pl, bk, 0, kc)).2).2.2.2.2.2.2.2.2.2.2.2)) C0 (zrunV (na := 1) (As := [.int (xs (i + 1))]) (rest := []) C0 hP hD hS [0, 1, 2, 3, 4, 5, 6, 7, 8] rfl rfl (m_Mo_run l D ca k H.size ad cd po nu pt st cy pl bk me kc ro' en' un' li' ln tx ia ct' md lb' wn (xs (i + 1)) J.2.1 J.2.2.2.2.2.2.2.2) (zg_V q614 q615 q616 q7 q617) (by decide +kernel) rfl rfl ⟨by decide, by decide⟩ 0 rfl rfl rfl hl.1 rfl (Nat.le_of_ble_eq_true rfl) d_law_308 ⟨hce1, hsl1⟩) hP hD hS [0, 1, 2, 3, 4, 5, 6, 7, 8] [9, 10, 11, 12, 13, 14, 15, 16, 17, 18, 19, 20, 21] rfl rfl (by decide) (by decide) (fun r25 w1 H locs hw hP hD hS => ?_)
          rcases hw with ⟨hy, rfl, rfl⟩ | ⟨hy, rfl, rfl⟩
          · skip
            have hP : va_P D vCl (wO ad ca (uN o 0 (rnS (xs (i + 1)).toNatClampNeg (me, nu, ro, un, li, pt, st, cy, pl, bk, 0, kc)).1) ++ (wX ad ca  ++ (wA ad ca tx ln lb bg ch ct ia ++ (wW ad ca wo ++ (wP ad ca (((rnS (xs (i + 1)).toNatClampNeg (me, nu, ro, un, li, pt, st, cy, pl, bk, 0, kc)).2).1) (((rnS (xs (i + 1)).toNatClampNeg (me, nu, ro, un, li, pt, st, cy, pl, bk, 0, kc)).2).2.1) (((rnS (xs (i + 1)).toNatClampNeg (me, nu, ro, un, li, pt, st, cy, pl, bk, 0, kc)).2).2.2.1) (((rnS (xs (i + 1)).toNatClampNeg (me, nu, ro, un, li, pt, st, cy, pl, bk, 0, kc)).2).2.2.2.1) (((rnS (xs (i + 1)).toNatClampNeg (me, nu, ro, un, li, pt, st, cy, pl, bk, 0, kc)).2).2.2.2.2.1) (((rnS (xs (i + 1)).toNatClampNeg (me, nu, ro, un, li, pt, st, cy, pl, bk, 0, kc)).2).2.2.2.2.2.1) (((rnS (xs (i + 1)).toNatClampNeg (me, nu, ro, un, li, pt, st, cy, pl, bk, 0, kc)).2).2.2.2.2.2.2.1) (((rnS (xs (i + 1)).toNatClampNeg (me, nu, ro, un, li, pt, st, cy, pl, bk, 0, kc)).2).2.2.2.2.2.2.2.1) (((rnS (xs (i + 1)).toNatClampNeg (me, nu, ro, un, li, pt, st, cy, pl, bk, 0, kc)).2).2.2.2.2.2.2.2.2.1) (((rnS (xs (i + 1)).toNatClampNeg (me, nu, ro, un, li, pt, st, cy, pl, bk, 0, kc)).2).2.2.2.2.2.2.2.2.2.1) (((rnS (xs (i + 1)).toNatClampNeg (me, nu, ro, un, li, pt, st, cy, pl, bk, 0, kc)).2).2.2.2.2.2.2.2.2.2.2.1) (((rnS (xs (i + 1)).toNatClampNeg (me, nu, ro, un, li, pt, st, cy, pl, bk, 0, kc)).2).2.2.2.2.2.2.2.2.2.2.2) ++ (wM ad ca 1 po nu pt st cy pl bk me kc ro' en' un' li' ln tx ia ct' md lb' wn)))))) H := hP
            have hD : va_D A (wO ad ca (uN o 0 (rnS (xs (i + 1)).toNatClampNeg (me, nu, ro, un, li, pt, st, cy, pl, bk, 0, kc)).1) ++ (wX ad ca  ++ (wA ad ca tx ln lb bg ch ct ia ++ (wW ad ca wo ++ (wP ad ca (((rnS (xs (i + 1)).toNatClampNeg (me, nu, ro, un, li, pt, st, cy, pl, bk, 0, kc)).2).1) (((rnS (xs (i + 1)).toNatClampNeg (me, nu, ro, un, li, pt, st, cy, pl, bk, 0, kc)).2).2.1) (((rnS (xs (i + 1)).toNatClampNeg (me, nu, ro, un, li, pt, st, cy, pl, bk, 0, kc)).2).2.2.1) (((rnS (xs (i + 1)).toNatClampNeg (me, nu, ro, un, li, pt, st, cy, pl, bk, 0, kc)).2).2.2.2.1) (((rnS (xs (i + 1)).toNatClampNeg (me, nu, ro, un, li, pt, st, cy, pl, bk, 0, kc)).2).2.2.2.2.1) (((rnS (xs (i + 1)).toNatClampNeg (me, nu, ro, un, li, pt, st, cy, pl, bk, 0, kc)).2).2.2.2.2.2.1) (((rnS (xs (i + 1)).toNatClampNeg (me, nu, ro, un, li, pt, st, cy, pl, bk, 0, kc)).2).2.2.2.2.2.2.1) (((rnS (xs (i + 1)).toNatClampNeg (me, nu, ro, un, li, pt, st, cy, pl, bk, 0, kc)).2).2.2.2.2.2.2.2.1) (((rnS (xs (i + 1)).toNatClampNeg (me, nu, ro, un, li, pt, st, cy, pl, bk, 0, kc)).2).2.2.2.2.2.2.2.2.1) (((rnS (xs (i + 1)).toNatClampNeg (me, nu, ro, un, li, pt, st, cy, pl, bk, 0, kc)).2).2.2.2.2.2.2.2.2.2.1) (((rnS (xs (i + 1)).toNatClampNeg (me, nu, ro, un, li, pt, st, cy, pl, bk, 0, kc)).2).2.2.2.2.2.2.2.2.2.2.1) (((rnS (xs (i + 1)).toNatClampNeg (me, nu, ro, un, li, pt, st, cy, pl, bk, 0, kc)).2).2.2.2.2.2.2.2.2.2.2.2) ++ (wM ad ca 1 po nu pt st cy pl bk me kc ro' en' un' li' ln tx ia ct' md lb' wn)))))) := hD
            exact (hy hz).elim
          · skip
            have hP : va_P D vCl (wO ad ca (uN o 0 (rnS (xs (i + 1)).toNatClampNeg (me, nu, ro, un, li, pt, st, cy, pl, bk, 0, kc)).1) ++ (wX ad ca  ++ (wA ad ca tx ln lb bg ch ct ia ++ (wW ad ca wo ++ (wP ad ca (((rnS (xs (i + 1)).toNatClampNeg (me, nu, ro, un, li, pt, st, cy, pl, bk, 0, kc)).2).1) (((rnS (xs (i + 1)).toNatClampNeg (me, nu, ro, un, li, pt, st, cy, pl, bk, 0, kc)).2).2.1) (((rnS (xs (i + 1)).toNatClampNeg (me, nu, ro, un, li, pt, st, cy, pl, bk, 0, kc)).2).2.2.1) (((rnS (xs (i + 1)).toNatClampNeg (me, nu, ro, un, li, pt, st, cy, pl, bk, 0, kc)).2).2.2.2.1) (((rnS (xs (i + 1)).toNatClampNeg (me, nu, ro, un, li, pt, st, cy, pl, bk, 0, kc)).2).2.2.2.2.1) (((rnS (xs (i + 1)).toNatClampNeg (me, nu, ro, un, li, pt, st, cy, pl, bk, 0, kc)).2).2.2.2.2.2.1) (((rnS (xs (i + 1)).toNatClampNeg (me, nu, ro, un, li, pt, st, cy, pl, bk, 0, kc)).2).2.2.2.2.2.2.1) (((rnS (xs (i + 1)).toNatClampNeg (me, nu, ro, un, li, pt, st, cy, pl, bk, 0, kc)).2).2.2.2.2.2.2.2.1) (((rnS (xs (i + 1)).toNatClampNeg (me, nu, ro, un, li, pt, st, cy, pl, bk, 0, kc)).2).2.2.2.2.2.2.2.2.1) (((rnS (xs (i + 1)).toNatClampNeg (me, nu, ro, un, li, pt, st, cy, pl, bk, 0, kc)).2).2.2.2.2.2.2.2.2.2.1) (((rnS (xs (i + 1)).toNatClampNeg (me, nu, ro, un, li, pt, st, cy, pl, bk, 0, kc)).2).2.2.2.2.2.2.2.2.2.2.1) (((rnS (xs (i + 1)).toNatClampNeg (me, nu, ro, un, li, pt, st, cy, pl, bk, 0, kc)).2).2.2.2.2.2.2.2.2.2.2.2) ++ (wM ad ca 0 po (((rnM (xs (i + 1)).toNatClampNeg (me, nu, ro', un', li', pt, st, cy, pl, bk, 0, kc)).2).2.1) (((rnM (xs (i + 1)).toNatClampNeg (me, nu, ro', un', li', pt, st, cy, pl, bk, 0, kc)).2).2.2.2.2.2.1) (((rnM (xs (i + 1)).toNatClampNeg (me, nu, ro', un', li', pt, st, cy, pl, bk, 0, kc)).2).2.2.2.2.2.2.1) (((rnM (xs (i + 1)).toNatClampNeg (me, nu, ro', un', li', pt, st, cy, pl, bk, 0, kc)).2).2.2.2.2.2.2.2.1) (((rnM (xs (i + 1)).toNatClampNeg (me, nu, ro', un', li', pt, st, cy, pl, bk, 0, kc)).2).2.2.2.2.2.2.2.2.1) (((rnM (xs (i + 1)).toNatClampNeg (me, nu, ro', un', li', pt, st, cy, pl, bk, 0, kc)).2).2.2.2.2.2.2.2.2.2.1) (((rnM (xs (i + 1)).toNatClampNeg (me, nu, ro', un', li', pt, st, cy, pl, bk, 0, kc)).2).1) (((rnM (xs (i + 1)).toNatClampNeg (me, nu, ro', un', li', pt, st, cy, pl, bk, 0, kc)).2).2.2.2.2.2.2.2.2.2.2.2) (((rnM (xs (i + 1)).toNatClampNeg (me, nu, ro', un', li', pt, st, cy, pl, bk, 0, kc)).2).2.2.1) (((rnM (xs (i + 1)).toNatClampNeg (me, nu, ro', un', li', pt, st, cy, pl, bk, 0, kc)).2).2.2.2.2.2.2.2.2.2.2.1) (((rnM (xs (i + 1)).toNatClampNeg (me, nu, ro', un', li', pt, st, cy, pl, bk, 0, kc)).2).2.2.2.1) (((rnM (xs (i + 1)).toNatClampNeg (me, nu, ro', un', li', pt, st, cy, pl, bk, 0, kc)).2).2.2.2.2.1) ln tx ia ct' md lb' wn)))))) H := hP
            have hD : va_D A (wO ad ca (uN o 0 (rnS (xs (i + 1)).toNatClampNeg (me, nu, ro, un, li, pt, st, cy, pl, bk, 0, kc)).1) ++ (wX ad ca  ++ (wA ad ca tx ln lb bg ch ct ia ++ (wW ad ca wo ++ (wP ad ca (((rnS (xs (i + 1)).toNatClampNeg (me, nu, ro, un, li, pt, st, cy, pl, bk, 0, kc)).2).1) (((rnS (xs (i + 1)).toNatClampNeg (me, nu, ro, un, li, pt, st, cy, pl, bk, 0, kc)).2).2.1) (((rnS (xs (i + 1)).toNatClampNeg (me, nu, ro, un, li, pt, st, cy, pl, bk, 0, kc)).2).2.2.1) (((rnS (xs (i + 1)).toNatClampNeg (me, nu, ro, un, li, pt, st, cy, pl, bk, 0, kc)).2).2.2.2.1) (((rnS (xs (i + 1)).toNatClampNeg (me, nu, ro, un, li, pt, st, cy, pl, bk, 0, kc)).2).2.2.2.2.1) (((rnS (xs (i + 1)).toNatClampNeg (me, nu, ro, un, li, pt, st, cy, pl, bk, 0, kc)).2).2.2.2.2.2.1) (((rnS (xs (i + 1)).toNatClampNeg (me, nu, ro, un, li, pt, st, cy, pl, bk, 0, kc)).2).2.2.2.2.2.2.1) (((rnS (xs (i + 1)).toNatClampNeg (me, nu, ro, un, li, pt, st, cy, pl, bk, 0, kc)).2).2.2.2.2.2.2.2.1) (((rnS (xs (i + 1)).toNatClampNeg (me, nu, ro, un, li, pt, st, cy, pl, bk, 0, kc)).2).2.2.2.2.2.2.2.2.1) (((rnS (xs (i + 1)).toNatClampNeg (me, nu, ro, un, li, pt, st, cy, pl, bk, 0, kc)).2).2.2.2.2.2.2.2.2.2.1) (((rnS (xs (i + 1)).toNatClampNeg (me, nu, ro, un, li, pt, st, cy, pl, bk, 0, kc)).2).2.2.2.2.2.2.2.2.2.2.1) (((rnS (xs (i + 1)).toNatClampNeg (me, nu, ro, un, li, pt, st, cy, pl, bk, 0, kc)).2).2.2.2.2.2.2.2.2.2.2.2) ++ (wM ad ca 0 po (((rnM (xs (i + 1)).toNatClampNeg (me, nu, ro', un', li', pt, st, cy, pl, bk, 0, kc)).2).2.1) (((rnM (xs (i + 1)).toNatClampNeg (me, nu, ro', un', li', pt, st, cy, pl, bk, 0, kc)).2).2.2.2.2.2.1) (((rnM (xs (i + 1)).toNatClampNeg (me, nu, ro', un', li', pt, st, cy, pl, bk, 0, kc)).2).2.2.2.2.2.2.1) (((rnM (xs (i + 1)).toNatClampNeg (me, nu, ro', un', li', pt, st, cy, pl, bk, 0, kc)).2).2.2.2.2.2.2.2.1) (((rnM (xs (i + 1)).toNatClampNeg (me, nu, ro', un', li', pt, st, cy, pl, bk, 0, kc)).2).2.2.2.2.2.2.2.2.1) (((rnM (xs (i + 1)).toNatClampNeg (me, nu, ro', un', li', pt, st, cy, pl, bk, 0, kc)).2).2.2.2.2.2.2.2.2.2.1) (((rnM (xs (i + 1)).toNatClampNeg (me, nu, ro', un', li', pt, st, cy, pl, bk, 0, kc)).2).1) (((rnM (xs (i + 1)).toNatClampNeg (me, nu, ro', un', li', pt, st, cy, pl, bk, 0, kc)).2).2.2.2.2.2.2.2.2.2.2.2) (((rnM (xs (i + 1)).toNatClampNeg (me, nu, ro', un', li', pt, st, cy, pl, bk, 0, kc)).2).2.2.1) (((rnM (xs (i + 1)).toNatClampNeg (me, nu, ro', un', li', pt, st, cy, pl, bk, 0, kc)).2).2.2.2.2.2.2.2.2.2.2.1) (((rnM (xs (i + 1)).toNatClampNeg (me, nu, ro', un', li', pt, st, cy, pl, bk, 0, kc)).2).2.2.2.1) (((rnM (xs (i + 1)).toNatClampNeg (me, nu, ro', un', li', pt, st, cy, pl, bk, 0, kc)).2).2.2.2.2.1) ln tx ia ct' md lb' wn)))))) := hD
            have hsr := sm_rn (n := (xs (i + 1)).toNatClampNeg) J.1 (lw_sm (en := 0) (en' := 0) J)
            have hrb := rOk_le hz
            have hrl := rnS_le (xs (i + 1)).toNatClampNeg (me, nu, ro, un, li, pt, st, cy, pl, bk, 0, kc)
            refine lv_istore hx hb d_law_311 hl (by decide) rfl (fun ls hl => ?_)
            have hl : lv_has ls 7 [(6, .int (nI ((rnM (xs (i + 1)).toNatClampNeg (me, nu, ro', un', li', pt, st, cy, pl, bk, 0, kc)).1))), (5, .int (nI 0)), (0, .ref b), (1, .ref (ad 0)), (2, .ref (ad 12)), (3, .ref (ad 21)), (4, .int (nI i))] := hl
            refine lv_aload_n hx hb d_law_313 rfl (lv_at hl 4 rfl) ?_
            refine zgo_i (wr := wO ad ca (uN o 0 (rnS (xs (i + 1)).toNatClampNeg (me, nu, ro, un, li, pt, st, cy, pl, bk, 0, kc)).1) ++ wX ad ca  ++ wA ad ca tx ln lb bg ch ct ia ++ wW ad ca wo ++ wP ad ca (((rnS (xs (i + 1)).toNatClampNeg (me, nu, ro, un, li, pt, st, cy, pl, bk, 0, kc)).2).1) (((rnS (xs (i + 1)).toNatClampNeg (me, nu, ro, un, li, pt, st, cy, pl, bk, 0, kc)).2).2.1) (((rnS (xs (i + 1)).toNatClampNeg (me, nu, ro, un, li, pt, st, cy, pl, bk, 0, kc)).2).2.2.1) (((rnS (xs (i + 1)).toNatClampNeg (me, nu, ro, un, li, pt, st, cy, pl, bk, 0, kc)).2).2.2.2.1) (((rnS (xs (i + 1)).toNatClampNeg (me, nu, ro, un, li, pt, st, cy, pl, bk, 0, kc)).2).2.2.2.2.1) (((rnS (xs (i + 1)).toNatClampNeg (me, nu, ro, un, li, pt, st, cy, pl, bk, 0, kc)).2).2.2.2.2.2.1) (((rnS (xs (i + 1)).toNatClampNeg (me, nu, ro, un, li, pt, st, cy, pl, bk, 0, kc)).2).2.2.2.2.2.2.1) (((rnS (xs (i + 1)).toNatClampNeg (me, nu, ro, un, li, pt, st, cy, pl, bk, 0, kc)).2).2.2.2.2.2.2.2.1) (((rnS (xs (i + 1)).toNatClampNeg (me, nu, ro, un, li, pt, st, cy, pl, bk, 0, kc)).2).2.2.2.2.2.2.2.2.1) (((rnS (xs (i + 1)).toNatClampNeg (me, nu, ro, un, li, pt, st, cy, pl, bk, 0, kc)).2).2.2.2.2.2.2.2.2.2.1) (((rnS (xs (i + 1)).toNatClampNeg (me, nu, ro, un, li, pt, st, cy, pl, bk, 0, kc)).2).2.2.2.2.2.2.2.2.2.2.1) (((rnS (xs (i + 1)).toNatClampNeg (me, nu, ro, un, li, pt, st, cy, pl, bk, 0, kc)).2).2.2.2.2.2.2.2.2.2.2.2)) C0 (zrunV (na := 0) (As := []) (rest := []) C0 hP hD hS [13, 14, 15, 16, 17, 18, 19, 20, 21] rfl rfl (m_Mo_thrown l D ca k H.size ad 0 po (((rnM (xs (i + 1)).toNatClampNeg (me, nu, ro', un', li', pt, st, cy, pl, bk, 0, kc)).2).2.1) (((rnM (xs (i + 1)).toNatClampNeg (me, nu, ro', un', li', pt, st, cy, pl, bk, 0, kc)).2).2.2.2.2.2.1) (((rnM (xs (i + 1)).toNatClampNeg (me, nu, ro', un', li', pt, st, cy, pl, bk, 0, kc)).2).2.2.2.2.2.2.1) (((rnM (xs (i + 1)).toNatClampNeg (me, nu, ro', un', li', pt, st, cy, pl, bk, 0, kc)).2).2.2.2.2.2.2.2.1) (((rnM (xs (i + 1)).toNatClampNeg (me, nu, ro', un', li', pt, st, cy, pl, bk, 0, kc)).2).2.2.2.2.2.2.2.2.1) (((rnM (xs (i + 1)).toNatClampNeg (me, nu, ro', un', li', pt, st, cy, pl, bk, 0, kc)).2).2.2.2.2.2.2.2.2.2.1) (((rnM (xs (i + 1)).toNatClampNeg (me, nu, ro', un', li', pt, st, cy, pl, bk, 0, kc)).2).1) (((rnM (xs (i + 1)).toNatClampNeg (me, nu, ro', un', li', pt, st, cy, pl, bk, 0, kc)).2).2.2.2.2.2.2.2.2.2.2.2) (((rnM (xs (i + 1)).toNatClampNeg (me, nu, ro', un', li', pt, st, cy, pl, bk, 0, kc)).2).2.2.1) (((rnM (xs (i + 1)).toNatClampNeg (me, nu, ro', un', li', pt, st, cy, pl, bk, 0, kc)).2).2.2.2.2.2.2.2.2.2.2.1) (((rnM (xs (i + 1)).toNatClampNeg (me, nu, ro', un', li', pt, st, cy, pl, bk, 0, kc)).2).2.2.2.1) (((rnM (xs (i + 1)).toNatClampNeg (me, nu, ro', un', li', pt, st, cy, pl, bk, 0, kc)).2).2.2.2.2.1) ln tx ia ct' md lb' wn ) (zg_V q610 q611 q612 q7 q613) (by decide +kernel) rfl rfl ⟨by decide, by decide⟩ 13 rfl rfl rfl hl.1 rfl (Nat.le_of_ble_eq_true rfl) d_law_314 ⟨hce1, hsl1⟩) hP hD hS [13, 14, 15, 16, 17, 18, 19, 20, 21] [0, 1, 2, 3, 4, 5, 6, 7, 8, 9, 10, 11, 12] rfl rfl (by decide) (by decide) (fun r26 w1 H locs hw hP hD hS => ?_)
            obtain ⟨rfl, rfl⟩ := hw
            have hP : va_P D vCl (wO ad ca (uN o 0 (rnS (xs (i + 1)).toNatClampNeg (me, nu, ro, un, li, pt, st, cy, pl, bk, 0, kc)).1) ++ (wX ad ca  ++ (wA ad ca tx ln lb bg ch ct ia ++ (wW ad ca wo ++ (wP ad ca (((rnS (xs (i + 1)).toNatClampNeg (me, nu, ro, un, li, pt, st, cy, pl, bk, 0, kc)).2).1) (((rnS (xs (i + 1)).toNatClampNeg (me, nu, ro, un, li, pt, st, cy, pl, bk, 0, kc)).2).2.1) (((rnS (xs (i + 1)).toNatClampNeg (me, nu, ro, un, li, pt, st, cy, pl, bk, 0, kc)).2).2.2.1) (((rnS (xs (i + 1)).toNatClampNeg (me, nu, ro, un, li, pt, st, cy, pl, bk, 0, kc)).2).2.2.2.1) (((rnS (xs (i + 1)).toNatClampNeg (me, nu, ro, un, li, pt, st, cy, pl, bk, 0, kc)).2).2.2.2.2.1) (((rnS (xs (i + 1)).toNatClampNeg (me, nu, ro, un, li, pt, st, cy, pl, bk, 0, kc)).2).2.2.2.2.2.1) (((rnS (xs (i + 1)).toNatClampNeg (me, nu, ro, un, li, pt, st, cy, pl, bk, 0, kc)).2).2.2.2.2.2.2.1) (((rnS (xs (i + 1)).toNatClampNeg (me, nu, ro, un, li, pt, st, cy, pl, bk, 0, kc)).2).2.2.2.2.2.2.2.1) (((rnS (xs (i + 1)).toNatClampNeg (me, nu, ro, un, li, pt, st, cy, pl, bk, 0, kc)).2).2.2.2.2.2.2.2.2.1) (((rnS (xs (i + 1)).toNatClampNeg (me, nu, ro, un, li, pt, st, cy, pl, bk, 0, kc)).2).2.2.2.2.2.2.2.2.2.1) (((rnS (xs (i + 1)).toNatClampNeg (me, nu, ro, un, li, pt, st, cy, pl, bk, 0, kc)).2).2.2.2.2.2.2.2.2.2.2.1) (((rnS (xs (i + 1)).toNatClampNeg (me, nu, ro, un, li, pt, st, cy, pl, bk, 0, kc)).2).2.2.2.2.2.2.2.2.2.2.2) ++ (wM ad ca 0 po (((rnM (xs (i + 1)).toNatClampNeg (me, nu, ro', un', li', pt, st, cy, pl, bk, 0, kc)).2).2.1) (((rnM (xs (i + 1)).toNatClampNeg (me, nu, ro', un', li', pt, st, cy, pl, bk, 0, kc)).2).2.2.2.2.2.1) (((rnM (xs (i + 1)).toNatClampNeg (me, nu, ro', un', li', pt, st, cy, pl, bk, 0, kc)).2).2.2.2.2.2.2.1) (((rnM (xs (i + 1)).toNatClampNeg (me, nu, ro', un', li', pt, st, cy, pl, bk, 0, kc)).2).2.2.2.2.2.2.2.1) (((rnM (xs (i + 1)).toNatClampNeg (me, nu, ro', un', li', pt, st, cy, pl, bk, 0, kc)).2).2.2.2.2.2.2.2.2.1) (((rnM (xs (i + 1)).toNatClampNeg (me, nu, ro', un', li', pt, st, cy, pl, bk, 0, kc)).2).2.2.2.2.2.2.2.2.2.1) (((rnM (xs (i + 1)).toNatClampNeg (me, nu, ro', un', li', pt, st, cy, pl, bk, 0, kc)).2).1) (((rnM (xs (i + 1)).toNatClampNeg (me, nu, ro', un', li', pt, st, cy, pl, bk, 0, kc)).2).2.2.2.2.2.2.2.2.2.2.2) (((rnM (xs (i + 1)).toNatClampNeg (me, nu, ro', un', li', pt, st, cy, pl, bk, 0, kc)).2).2.2.1) (((rnM (xs (i + 1)).toNatClampNeg (me, nu, ro', un', li', pt, st, cy, pl, bk, 0, kc)).2).2.2.2.2.2.2.2.2.2.2.1) (((rnM (xs (i + 1)).toNatClampNeg (me, nu, ro', un', li', pt, st, cy, pl, bk, 0, kc)).2).2.2.2.1) (((rnM (xs (i + 1)).toNatClampNeg (me, nu, ro', un', li', pt, st, cy, pl, bk, 0, kc)).2).2.2.2.2.1) ln tx ia ct' md lb' wn)))))) H := hP
            have hD : va_D A (wO ad ca (uN o 0 (rnS (xs (i + 1)).toNatClampNeg (me, nu, ro, un, li, pt, st, cy, pl, bk, 0, kc)).1) ++ (wX ad ca  ++ (wA ad ca tx ln lb bg ch ct ia ++ (wW ad ca wo ++ (wP ad ca (((rnS (xs (i + 1)).toNatClampNeg (me, nu, ro, un, li, pt, st, cy, pl, bk, 0, kc)).2).1) (((rnS (xs (i + 1)).toNatClampNeg (me, nu, ro, un, li, pt, st, cy, pl, bk, 0, kc)).2).2.1) (((rnS (xs (i + 1)).toNatClampNeg (me, nu, ro, un, li, pt, st, cy, pl, bk, 0, kc)).2).2.2.1) (((rnS (xs (i + 1)).toNatClampNeg (me, nu, ro, un, li, pt, st, cy, pl, bk, 0, kc)).2).2.2.2.1) (((rnS (xs (i + 1)).toNatClampNeg (me, nu, ro, un, li, pt, st, cy, pl, bk, 0, kc)).2).2.2.2.2.1) (((rnS (xs (i + 1)).toNatClampNeg (me, nu, ro, un, li, pt, st, cy, pl, bk, 0, kc)).2).2.2.2.2.2.1) (((rnS (xs (i + 1)).toNatClampNeg (me, nu, ro, un, li, pt, st, cy, pl, bk, 0, kc)).2).2.2.2.2.2.2.1) (((rnS (xs (i + 1)).toNatClampNeg (me, nu, ro, un, li, pt, st, cy, pl, bk, 0, kc)).2).2.2.2.2.2.2.2.1) (((rnS (xs (i + 1)).toNatClampNeg (me, nu, ro, un, li, pt, st, cy, pl, bk, 0, kc)).2).2.2.2.2.2.2.2.2.1) (((rnS (xs (i + 1)).toNatClampNeg (me, nu, ro, un, li, pt, st, cy, pl, bk, 0, kc)).2).2.2.2.2.2.2.2.2.2.1) (((rnS (xs (i + 1)).toNatClampNeg (me, nu, ro, un, li, pt, st, cy, pl, bk, 0, kc)).2).2.2.2.2.2.2.2.2.2.2.1) (((rnS (xs (i + 1)).toNatClampNeg (me, nu, ro, un, li, pt, st, cy, pl, bk, 0, kc)).2).2.2.2.2.2.2.2.2.2.2.2) ++ (wM ad ca 0 po (((rnM (xs (i + 1)).toNatClampNeg (me, nu, ro', un', li', pt, st, cy, pl, bk, 0, kc)).2).2.1) (((rnM (xs (i + 1)).toNatClampNeg (me, nu, ro', un', li', pt, st, cy, pl, bk, 0, kc)).2).2.2.2.2.2.1) (((rnM (xs (i + 1)).toNatClampNeg (me, nu, ro', un', li', pt, st, cy, pl, bk, 0, kc)).2).2.2.2.2.2.2.1) (((rnM (xs (i + 1)).toNatClampNeg (me, nu, ro', un', li', pt, st, cy, pl, bk, 0, kc)).2).2.2.2.2.2.2.2.1) (((rnM (xs (i + 1)).toNatClampNeg (me, nu, ro', un', li', pt, st, cy, pl, bk, 0, kc)).2).2.2.2.2.2.2.2.2.1) (((rnM (xs (i + 1)).toNatClampNeg (me, nu, ro', un', li', pt, st, cy, pl, bk, 0, kc)).2).2.2.2.2.2.2.2.2.2.1) (((rnM (xs (i + 1)).toNatClampNeg (me, nu, ro', un', li', pt, st, cy, pl, bk, 0, kc)).2).1) (((rnM (xs (i + 1)).toNatClampNeg (me, nu, ro', un', li', pt, st, cy, pl, bk, 0, kc)).2).2.2.2.2.2.2.2.2.2.2.2) (((rnM (xs (i + 1)).toNatClampNeg (me, nu, ro', un', li', pt, st, cy, pl, bk, 0, kc)).2).2.2.1) (((rnM (xs (i + 1)).toNatClampNeg (me, nu, ro', un', li', pt, st, cy, pl, bk, 0, kc)).2).2.2.2.2.2.2.2.2.2.2.1) (((rnM (xs (i + 1)).toNatClampNeg (me, nu, ro', un', li', pt, st, cy, pl, bk, 0, kc)).2).2.2.2.1) (((rnM (xs (i + 1)).toNatClampNeg (me, nu, ro', un', li', pt, st, cy, pl, bk, 0, kc)).2).2.2.2.2.1) ln tx ia ct' md lb' wn)))))) := hD
            refine lv_iload hx hb d_law_317 (lv_at hl 1 rfl) ?_
            refine lv_icmp_eq (tgt := 324) hx hb d_law_319 (by decide) (fun _ => ?_) (fun h => absurd rfl h)
            refine lv_iload hx hb d_law_324 (lv_at hl 1 rfl) ?_
            refine lv_if_ne (tgt := 341) hx hb d_law_326 (by decide) (fun h27 => absurd (by decide) h27) (fun _ => ?_)
            refine lv_aload_n hx hb d_law_329 rfl (lv_at hl 5 rfl) ?_
            refine lv_iconst (v := nI 0) hx hb d_law_330 (by decide) ?_
            refine va_lald hx hb hK hP 0 1 rfl rfl (vp_in_nI (n := 0) (by omega) (by decide)) d_law_331 ?_
            refine ztl (y := lN ((uN o 0 (rnS (xs (i + 1)).toNatClampNeg (me, nu, ro, un, li, pt, st, cy, pl, bk, 0, kc)).1) 0)) (lF_at (by omega)) ?_
            refine lv_iload hx hb d_law_332 (lv_at hl 0 rfl) ?_
            refine lv_i2l (v := lN ((rnM (xs (i + 1)).toNatClampNeg (me, nu, ro', un', li', pt, st, cy, pl, bk, 0, kc)).1)) hx hb d_law_334 (nI_l (by omega)) ?_
            refine W.lcmp hx hb d_law_335 ?_
            refine lv_if_eq (tgt := 341) hx hb d_law_336 (by decide) (fun _ => ?_) (fun h => absurd ((lg_cmp_eq _ _).mpr (congrArg lN hsr.1)) h)
            refine lv_goto (tgt := 514) hx hb d_law_341 (by decide) ?_
            refine lv_iinc (k := 6) (v := nI (i + 4)) hx hb d_law_514 hl rfl (zinc4 _) (by decide) rfl (fun ls hl => ?_)
            have hl : lv_has ls 7 [(4, .int (nI (i + 4))), (6, .int (nI ((rnM (xs (i + 1)).toNatClampNeg (me, nu, ro', un', li', pt, st, cy, pl, bk, 0, kc)).1))), (5, .int (nI 0)), (0, .ref b), (1, .ref (ad 0)), (2, .ref (ad 12)), (3, .ref (ad 21))] := hl
            refine lv_goto (tgt := 23) hx hb d_law_517 (by decide) ?_
            obtain ⟨me2, nu2, ro2, ro2', un2, un2', li2, li2', pt2, st2, cy2, pl2, bk2, en2, kc2, hS2, hM2, hr2⟩ := hsr.2
            rw [hS2, hM2] at hP hD
            exact ih (i + 4) (ce + 1) (sl + 6) (uN o 0 (rnS (xs (i + 1)).toNatClampNeg (me, nu, ro, un, li, pt, st, cy, pl, bk, 0, kc)).1) tx ln lb bg ch ct ia wo me2 nu2 ro2 un2 li2 pt2 st2 cy2 pl2 bk2 en2 kc2 0 po ro2' en2 un2' li2' ct' md lb' wn H locs ls (by omega) (by omega) (by omega) (by omega) (lw_run J hS2 hM2 hr2) (lv_sub hl [3, 4, 5, 6, 0] rfl) hP hD hS
        · skip
          have hP : va_P D vCl (wM ad ca cd po nu pt st cy pl bk me kc ro' en' un' li' ln tx ia ct' md lb' wn ++ (wO ad ca o ++ (wX ad ca  ++ (wA ad ca tx ln lb bg ch ct ia ++ (wW ad ca wo ++ (wP ad ca me nu ro un li pt st cy pl bk en kc)))))) H := hP
          have hD : va_D A (wM ad ca cd po nu pt st cy pl bk me kc ro' en' un' li' ln tx ia ct' md lb' wn ++ (wO ad ca o ++ (wX ad ca  ++ (wA ad ca tx ln lb bg ch ct ia ++ (wW ad ca wo ++ (wP ad ca me nu ro un li pt st cy pl bk en kc)))))) := hD
          refine lv_istore hx hb d_law_299 hl (by decide) rfl (fun ls hl => ?_)
          have hl : lv_has ls 7 [(5, .int (nI 1)), (0, .ref b), (1, .ref (ad 0)), (2, .ref (ad 12)), (3, .ref (ad 21)), (4, .int (nI i))] := hl
          refine lv_aload_n hx hb d_law_301 rfl (lv_at hl 3 rfl) ?_
          refine lv_aload_n hx hb d_law_302 rfl (lv_at hl 1 rfl) ?_
          refine lv_iload hx hb d_law_303 (lv_at hl 5 rfl) ?_
          refine lv_iconst (v := nI 1) hx hb d_law_305 (by decide) ?_
          refine lv_iadd hx hb d_law_306 ?_
          refine zti (y := nI (i + 1)) (nI_add _ _) ?_
          refine va_sld hx hb hX0 hbl hbA hS (vp_in_nI (n := i + 1) (by omega) (by omega)) d_law_307 ?_
          refine zti (y := xs (i + 1)) (congrArg xs (nI_clamp (by omega))) ?_
          refine zgo_i (wr := wO ad ca o ++ wX ad ca  ++ wA ad ca tx ln lb bg ch ct ia ++ wW ad ca wo ++ wP ad ca me nu ro un li pt st cy pl bk en kc) C0 (zrunV (na := 1) (As := [.int (xs (i + 1))]) (rest := []) C0 hP hD hS [0, 1, 2, 3, 4, 5, 6, 7, 8] rfl rfl (m_Mo_run l D ca k H.size ad cd po nu pt st cy pl bk me kc ro' en' un' li' ln tx ia ct' md lb' wn (xs (i + 1)) J.2.1 J.2.2.2.2.2.2.2.2) (zg_V q614 q615 q616 q7 q617) (by decide +kernel) rfl rfl ⟨by decide, by decide⟩ 0 rfl rfl rfl hl.1 rfl (Nat.le_of_ble_eq_true rfl) d_law_308 ⟨hce1, hsl1⟩) hP hD hS [0, 1, 2, 3, 4, 5, 6, 7, 8] [9, 10, 11, 12, 13, 14, 15, 16, 17, 18, 19, 20, 21] rfl rfl (by decide) (by decide) (fun r28 w1 H locs hw hP hD hS => ?_)
          rcases hw with ⟨hy, rfl, rfl⟩ | ⟨hy, rfl, rfl⟩
          · skip
            have hP : va_P D vCl (wO ad ca o ++ (wX ad ca  ++ (wA ad ca tx ln lb bg ch ct ia ++ (wW ad ca wo ++ (wP ad ca me nu ro un li pt st cy pl bk en kc ++ (wM ad ca 1 po nu pt st cy pl bk me kc ro' en' un' li' ln tx ia ct' md lb' wn)))))) H := hP
            have hD : va_D A (wO ad ca o ++ (wX ad ca  ++ (wA ad ca tx ln lb bg ch ct ia ++ (wW ad ca wo ++ (wP ad ca me nu ro un li pt st cy pl bk en kc ++ (wM ad ca 1 po nu pt st cy pl bk me kc ro' en' un' li' ln tx ia ct' md lb' wn)))))) := hD
            refine lv_istore hx hb d_law_311 hl (by decide) rfl (fun ls hl => ?_)
            have hl : lv_has ls 7 [(6, .int (nI 0)), (5, .int (nI 1)), (0, .ref b), (1, .ref (ad 0)), (2, .ref (ad 12)), (3, .ref (ad 21)), (4, .int (nI i))] := hl
            refine lv_aload_n hx hb d_law_313 rfl (lv_at hl 4 rfl) ?_
            refine zgo_i (wr := wO ad ca o ++ wX ad ca  ++ wA ad ca tx ln lb bg ch ct ia ++ wW ad ca wo ++ wP ad ca me nu ro un li pt st cy pl bk en kc) C0 (zrunV (na := 0) (As := []) (rest := []) C0 hP hD hS [13, 14, 15, 16, 17, 18, 19, 20, 21] rfl rfl (m_Mo_thrown l D ca k H.size ad 1 po nu pt st cy pl bk me kc ro' en' un' li' ln tx ia ct' md lb' wn ) (zg_V q610 q611 q612 q7 q613) (by decide +kernel) rfl rfl ⟨by decide, by decide⟩ 13 rfl rfl rfl hl.1 rfl (Nat.le_of_ble_eq_true rfl) d_law_314 ⟨hce1, hsl1⟩) hP hD hS [13, 14, 15, 16, 17, 18, 19, 20, 21] [0, 1, 2, 3, 4, 5, 6, 7, 8, 9, 10, 11, 12] rfl rfl (by decide) (by decide) (fun r29 w1 H locs hw hP hD hS => ?_)
            obtain ⟨rfl, rfl⟩ := hw
            have hP : va_P D vCl (wO ad ca o ++ (wX ad ca  ++ (wA ad ca tx ln lb bg ch ct ia ++ (wW ad ca wo ++ (wP ad ca me nu ro un li pt st cy pl bk en kc ++ (wM ad ca 1 po nu pt st cy pl bk me kc ro' en' un' li' ln tx ia ct' md lb' wn)))))) H := hP
            have hD : va_D A (wO ad ca o ++ (wX ad ca  ++ (wA ad ca tx ln lb bg ch ct ia ++ (wW ad ca wo ++ (wP ad ca me nu ro un li pt st cy pl bk en kc ++ (wM ad ca 1 po nu pt st cy pl bk me kc ro' en' un' li' ln tx ia ct' md lb' wn)))))) := hD
            refine lv_iload hx hb d_law_317 (lv_at hl 1 rfl) ?_
            refine lv_icmp_eq (tgt := 324) hx hb d_law_319 (by decide) (fun _ => ?_) (fun h => absurd rfl h)
            refine lv_iload hx hb d_law_324 (lv_at hl 1 rfl) ?_
            refine lv_if_ne (tgt := 341) hx hb d_law_326 (by decide) (fun _ => ?_) (fun h30 => absurd h30 (by decide))
            refine lv_goto (tgt := 514) hx hb d_law_341 (by decide) ?_
            refine lv_iinc (k := 6) (v := nI (i + 4)) hx hb d_law_514 hl rfl (zinc4 _) (by decide) rfl (fun ls hl => ?_)
            have hl : lv_has ls 7 [(4, .int (nI (i + 4))), (6, .int (nI 0)), (5, .int (nI 1)), (0, .ref b), (1, .ref (ad 0)), (2, .ref (ad 12)), (3, .ref (ad 21))] := hl
            refine lv_goto (tgt := 23) hx hb d_law_517 (by decide) ?_
            exact ih (i + 4) (ce + 1) (sl + 6) o tx ln lb bg ch ct ia wo me nu ro un li pt st cy pl bk en kc 1 po ro' en' un' li' ct' md lb' wn H locs ls (by omega) (by omega) (by omega) (by omega) J (lv_sub hl [3, 4, 5, 6, 0] rfl) hP hD hS
          · skip
            have hP : va_P D vCl (wO ad ca o ++ (wX ad ca  ++ (wA ad ca tx ln lb bg ch ct ia ++ (wW ad ca wo ++ (wP ad ca me nu ro un li pt st cy pl bk en kc ++ (wM ad ca 0 po (((rnM (xs (i + 1)).toNatClampNeg (me, nu, ro', un', li', pt, st, cy, pl, bk, 0, kc)).2).2.1) (((rnM (xs (i + 1)).toNatClampNeg (me, nu, ro', un', li', pt, st, cy, pl, bk, 0, kc)).2).2.2.2.2.2.1) (((rnM (xs (i + 1)).toNatClampNeg (me, nu, ro', un', li', pt, st, cy, pl, bk, 0, kc)).2).2.2.2.2.2.2.1) (((rnM (xs (i + 1)).toNatClampNeg (me, nu, ro', un', li', pt, st, cy, pl, bk, 0, kc)).2).2.2.2.2.2.2.2.1) (((rnM (xs (i + 1)).toNatClampNeg (me, nu, ro', un', li', pt, st, cy, pl, bk, 0, kc)).2).2.2.2.2.2.2.2.2.1) (((rnM (xs (i + 1)).toNatClampNeg (me, nu, ro', un', li', pt, st, cy, pl, bk, 0, kc)).2).2.2.2.2.2.2.2.2.2.1) (((rnM (xs (i + 1)).toNatClampNeg (me, nu, ro', un', li', pt, st, cy, pl, bk, 0, kc)).2).1) (((rnM (xs (i + 1)).toNatClampNeg (me, nu, ro', un', li', pt, st, cy, pl, bk, 0, kc)).2).2.2.2.2.2.2.2.2.2.2.2) (((rnM (xs (i + 1)).toNatClampNeg (me, nu, ro', un', li', pt, st, cy, pl, bk, 0, kc)).2).2.2.1) (((rnM (xs (i + 1)).toNatClampNeg (me, nu, ro', un', li', pt, st, cy, pl, bk, 0, kc)).2).2.2.2.2.2.2.2.2.2.2.1) (((rnM (xs (i + 1)).toNatClampNeg (me, nu, ro', un', li', pt, st, cy, pl, bk, 0, kc)).2).2.2.2.1) (((rnM (xs (i + 1)).toNatClampNeg (me, nu, ro', un', li', pt, st, cy, pl, bk, 0, kc)).2).2.2.2.2.1) ln tx ia ct' md lb' wn)))))) H := hP
            have hD : va_D A (wO ad ca o ++ (wX ad ca  ++ (wA ad ca tx ln lb bg ch ct ia ++ (wW ad ca wo ++ (wP ad ca me nu ro un li pt st cy pl bk en kc ++ (wM ad ca 0 po (((rnM (xs (i + 1)).toNatClampNeg (me, nu, ro', un', li', pt, st, cy, pl, bk, 0, kc)).2).2.1) (((rnM (xs (i + 1)).toNatClampNeg (me, nu, ro', un', li', pt, st, cy, pl, bk, 0, kc)).2).2.2.2.2.2.1) (((rnM (xs (i + 1)).toNatClampNeg (me, nu, ro', un', li', pt, st, cy, pl, bk, 0, kc)).2).2.2.2.2.2.2.1) (((rnM (xs (i + 1)).toNatClampNeg (me, nu, ro', un', li', pt, st, cy, pl, bk, 0, kc)).2).2.2.2.2.2.2.2.1) (((rnM (xs (i + 1)).toNatClampNeg (me, nu, ro', un', li', pt, st, cy, pl, bk, 0, kc)).2).2.2.2.2.2.2.2.2.1) (((rnM (xs (i + 1)).toNatClampNeg (me, nu, ro', un', li', pt, st, cy, pl, bk, 0, kc)).2).2.2.2.2.2.2.2.2.2.1) (((rnM (xs (i + 1)).toNatClampNeg (me, nu, ro', un', li', pt, st, cy, pl, bk, 0, kc)).2).1) (((rnM (xs (i + 1)).toNatClampNeg (me, nu, ro', un', li', pt, st, cy, pl, bk, 0, kc)).2).2.2.2.2.2.2.2.2.2.2.2) (((rnM (xs (i + 1)).toNatClampNeg (me, nu, ro', un', li', pt, st, cy, pl, bk, 0, kc)).2).2.2.1) (((rnM (xs (i + 1)).toNatClampNeg (me, nu, ro', un', li', pt, st, cy, pl, bk, 0, kc)).2).2.2.2.2.2.2.2.2.2.2.1) (((rnM (xs (i + 1)).toNatClampNeg (me, nu, ro', un', li', pt, st, cy, pl, bk, 0, kc)).2).2.2.2.1) (((rnM (xs (i + 1)).toNatClampNeg (me, nu, ro', un', li', pt, st, cy, pl, bk, 0, kc)).2).2.2.2.2.1) ln tx ia ct' md lb' wn)))))) := hD
            exact (hz hy).elim
      · skip
        refine lv_tableIn (off := 305) (tgt := 344) hx hb d_law_39 (by decide) (by decide) (by decide) (by decide) ?_
        refine lv_aload_n hx hb d_law_344 rfl (lv_at hl 1 rfl) ?_
        refine lv_aload_n hx hb d_law_345 rfl (lv_at hl 0 rfl) ?_
        refine lv_iload hx hb d_law_346 (lv_at hl 4 rfl) ?_
        refine lv_iconst (v := nI 1) hx hb d_law_348 (by decide) ?_
        refine lv_iadd hx hb d_law_349 ?_
        refine zti (y := nI (i + 1)) (nI_add _ _) ?_
        refine va_sld hx hb hX0 hbl hbA hS (vp_in_nI (n := i + 1) (by omega) (by omega)) d_law_350 ?_
        refine zti (y := xs (i + 1)) (congrArg xs (nI_clamp (by omega))) ?_
        refine zgo_l (wr := wO ad ca o ++ wM ad ca cd po nu pt st cy pl bk me kc ro' en' un' li' ln tx ia ct' md lb' wn) C0 (zrunV (na := 1) (As := [.int (xs (i + 1))]) (rest := []) C0 hP hD hS [1, 2, 3, 4, 5, 6, 7, 8, 9, 10, 11, 12] rfl rfl (m_Ch_value l D ca k H.size ad tx ln lb bg ch ct ia wo me nu ro un li pt st cy pl bk en kc (xs (i + 1))) (zg_V q192 q193 q194 q1 q195) (by decide +kernel) rfl rfl ⟨by decide, by decide⟩ 1 rfl rfl rfl hl.1 rfl (Nat.le_of_ble_eq_true rfl) d_law_351 ⟨hce, hsl⟩) hP hD hS [1, 2, 3, 4, 5, 6, 7, 8, 9, 10, 11, 12] [0, 13, 14, 15, 16, 17, 18, 19, 20, 21] rfl rfl (by decide) (by decide) (fun r31 w1 H locs hw hP hD hS => ?_)
        rcases hw with ⟨hz31, rfl, rfl⟩ | ⟨hz31, rfl, rfl⟩
        · skip
          have hP : va_P D vCl (wO ad ca o ++ (wM ad ca cd po nu pt st cy pl bk me kc ro' en' un' li' ln tx ia ct' md lb' wn ++ (wX ad ca  ++ (wA ad ca tx ln lb bg ch ct ia ++ (wW ad ca wo ++ (wP ad ca me nu ro un li pt st cy pl bk en kc)))))) H := hP
          have hD : va_D A (wO ad ca o ++ (wM ad ca cd po nu pt st cy pl bk me kc ro' en' un' li' ln tx ia ct' md lb' wn ++ (wX ad ca  ++ (wA ad ca tx ln lb bg ch ct ia ++ (wW ad ca wo ++ (wP ad ca me nu ro un li pt st cy pl bk en kc)))))) := hD
          refine lv_aload_n hx hb d_law_354 rfl (lv_at hl 2 rfl) ?_
          refine lv_aload_n hx hb d_law_355 rfl (lv_at hl 0 rfl) ?_
          refine lv_iload hx hb d_law_356 (lv_at hl 4 rfl) ?_
          refine lv_iconst (v := nI 1) hx hb d_law_358 (by decide) ?_
          refine lv_iadd hx hb d_law_359 ?_
          refine zti (y := nI (i + 1)) (nI_add _ _) ?_
          refine va_sld hx hb hX0 hbl hbA hS (vp_in_nI (n := i + 1) (by omega) (by omega)) d_law_360 ?_
          refine zti (y := xs (i + 1)) (congrArg xs (nI_clamp (by omega))) ?_
          refine zgo_l (wr := wO ad ca o ++ wX ad ca  ++ wA ad ca tx ln lb bg ch ct ia ++ wW ad ca wo ++ wP ad ca me nu ro un li pt st cy pl bk en kc) C0 (zrunV (na := 1) (As := [.int (xs (i + 1))]) (rest := [.long (lN (nu (xs (i + 1)).toNatClampNeg))]) C0 hP hD hS [1, 2, 3, 4, 5, 6, 7, 8, 9] rfl rfl (m_Mo_value l D ca k H.size ad cd po nu pt st cy pl bk me kc ro' en' un' li' ln tx ia ct' md lb' wn (xs (i + 1))) (zg_V q769 q770 q771 q7 q772) (by decide +kernel) rfl rfl ⟨by decide, by decide⟩ 1 rfl rfl rfl hl.1 rfl (Nat.le_of_ble_eq_true rfl) d_law_361 ⟨hce, hsl⟩) hP hD hS [1, 2, 3, 4, 5, 6, 7, 8, 9] [0, 10, 11, 12, 13, 14, 15, 16, 17, 18, 19, 20, 21] rfl rfl (by decide) (by decide) (fun r32 w1 H locs hw hP hD hS => ?_)
          rcases hw with ⟨hz32, rfl, rfl⟩ | ⟨hz32, rfl, rfl⟩
          · skip
            have hP : va_P D vCl (wO ad ca o ++ (wX ad ca  ++ (wA ad ca tx ln lb bg ch ct ia ++ (wW ad ca wo ++ (wP ad ca me nu ro un li pt st cy pl bk en kc ++ (wM ad ca 0 po nu pt st cy pl bk me kc ro' en' un' li' ln tx ia ct' md lb' wn)))))) H := hP
            have hD : va_D A (wO ad ca o ++ (wX ad ca  ++ (wA ad ca tx ln lb bg ch ct ia ++ (wW ad ca wo ++ (wP ad ca me nu ro un li pt st cy pl bk en kc ++ (wM ad ca 0 po nu pt st cy pl bk me kc ro' en' un' li' ln tx ia ct' md lb' wn)))))) := hD
            refine W.lcmp hx hb d_law_364 ?_
            refine lv_if_eq (tgt := 514) hx hb d_law_365 (by decide) (fun _ => ?_) (fun h => absurd ((lg_cmp_eq _ _).mpr (rfl)) h)
            refine lv_iinc (k := 4) (v := nI (i + 4)) hx hb d_law_514 hl rfl (zinc4 _) (by decide) rfl (fun ls hl => ?_)
            have hl : lv_has ls 7 [(4, .int (nI (i + 4))), (0, .ref b), (1, .ref (ad 0)), (2, .ref (ad 12)), (3, .ref (ad 21))] := hl
            refine lv_goto (tgt := 23) hx hb d_law_517 (by decide) ?_
            exact ih (i + 4) ce sl o tx ln lb bg ch ct ia wo me nu ro un li pt st cy pl bk en kc 0 po ro' en' un' li' ct' md lb' wn H locs ls (by omega) (by omega) (by omega) (by omega) J (lv_sub hl [1, 2, 3, 4, 0] rfl) hP hD hS
          · skip
            have hP : va_P D vCl (wO ad ca o ++ (wX ad ca  ++ (wA ad ca tx ln lb bg ch ct ia ++ (wW ad ca wo ++ (wP ad ca me nu ro un li pt st cy pl bk en kc ++ (wM ad ca 0 po nu pt st cy pl bk me kc ro' en' un' li' ln tx ia ct' md lb' wn)))))) H := hP
            have hD : va_D A (wO ad ca o ++ (wX ad ca  ++ (wA ad ca tx ln lb bg ch ct ia ++ (wW ad ca wo ++ (wP ad ca me nu ro un li pt st cy pl bk en kc ++ (wM ad ca 0 po nu pt st cy pl bk me kc ro' en' un' li' ln tx ia ct' md lb' wn)))))) := hD
            exact absurd hz31 hz32
        · skip
          have hP : va_P D vCl (wO ad ca o ++ (wM ad ca cd po nu pt st cy pl bk me kc ro' en' un' li' ln tx ia ct' md lb' wn ++ (wX ad ca  ++ (wA ad ca tx ln lb bg ch ct ia ++ (wW ad ca wo ++ (wP ad ca me nu ro un li pt st cy pl bk en kc)))))) H := hP
          have hD : va_D A (wO ad ca o ++ (wM ad ca cd po nu pt st cy pl bk me kc ro' en' un' li' ln tx ia ct' md lb' wn ++ (wX ad ca  ++ (wA ad ca tx ln lb bg ch ct ia ++ (wW ad ca wo ++ (wP ad ca me nu ro un li pt st cy pl bk en kc)))))) := hD
          refine lv_aload_n hx hb d_law_354 rfl (lv_at hl 2 rfl) ?_
          refine lv_aload_n hx hb d_law_355 rfl (lv_at hl 0 rfl) ?_
          refine lv_iload hx hb d_law_356 (lv_at hl 4 rfl) ?_
          refine lv_iconst (v := nI 1) hx hb d_law_358 (by decide) ?_
          refine lv_iadd hx hb d_law_359 ?_
          refine zti (y := nI (i + 1)) (nI_add _ _) ?_
          refine va_sld hx hb hX0 hbl hbA hS (vp_in_nI (n := i + 1) (by omega) (by omega)) d_law_360 ?_
          refine zti (y := xs (i + 1)) (congrArg xs (nI_clamp (by omega))) ?_
          refine zgo_l (wr := wO ad ca o ++ wX ad ca  ++ wA ad ca tx ln lb bg ch ct ia ++ wW ad ca wo ++ wP ad ca me nu ro un li pt st cy pl bk en kc) C0 (zrunV (na := 1) (As := [.int (xs (i + 1))]) (rest := [.long (-1)]) C0 hP hD hS [1, 2, 3, 4, 5, 6, 7, 8, 9] rfl rfl (m_Mo_value l D ca k H.size ad cd po nu pt st cy pl bk me kc ro' en' un' li' ln tx ia ct' md lb' wn (xs (i + 1))) (zg_V q769 q770 q771 q7 q772) (by decide +kernel) rfl rfl ⟨by decide, by decide⟩ 1 rfl rfl rfl hl.1 rfl (Nat.le_of_ble_eq_true rfl) d_law_361 ⟨hce, hsl⟩) hP hD hS [1, 2, 3, 4, 5, 6, 7, 8, 9] [0, 10, 11, 12, 13, 14, 15, 16, 17, 18, 19, 20, 21] rfl rfl (by decide) (by decide) (fun r33 w1 H locs hw hP hD hS => ?_)
          rcases hw with ⟨hz33, rfl, rfl⟩ | ⟨hz33, rfl, rfl⟩
          · skip
            have hP : va_P D vCl (wO ad ca o ++ (wX ad ca  ++ (wA ad ca tx ln lb bg ch ct ia ++ (wW ad ca wo ++ (wP ad ca me nu ro un li pt st cy pl bk en kc ++ (wM ad ca 0 po nu pt st cy pl bk me kc ro' en' un' li' ln tx ia ct' md lb' wn)))))) H := hP
            have hD : va_D A (wO ad ca o ++ (wX ad ca  ++ (wA ad ca tx ln lb bg ch ct ia ++ (wW ad ca wo ++ (wP ad ca me nu ro un li pt st cy pl bk en kc ++ (wM ad ca 0 po nu pt st cy pl bk me kc ro' en' un' li' ln tx ia ct' md lb' wn)))))) := hD
            exact absurd hz33 hz31
          · skip
            have hP : va_P D vCl (wO ad ca o ++ (wX ad ca  ++ (wA ad ca tx ln lb bg ch ct ia ++ (wW ad ca wo ++ (wP ad ca me nu ro un li pt st cy pl bk en kc ++ (wM ad ca 0 po nu pt st cy pl bk me kc ro' en' un' li' ln tx ia ct' md lb' wn)))))) H := hP
            have hD : va_D A (wO ad ca o ++ (wX ad ca  ++ (wA ad ca tx ln lb bg ch ct ia ++ (wW ad ca wo ++ (wP ad ca me nu ro un li pt st cy pl bk en kc ++ (wM ad ca 0 po nu pt st cy pl bk me kc ro' en' un' li' ln tx ia ct' md lb' wn)))))) := hD
            refine W.lcmp hx hb d_law_364 ?_
            refine lv_if_eq (tgt := 514) hx hb d_law_365 (by decide) (fun _ => ?_) (fun h => absurd ((lg_cmp_eq _ _).mpr (rfl)) h)
            refine lv_iinc (k := 4) (v := nI (i + 4)) hx hb d_law_514 hl rfl (zinc4 _) (by decide) rfl (fun ls hl => ?_)
            have hl : lv_has ls 7 [(4, .int (nI (i + 4))), (0, .ref b), (1, .ref (ad 0)), (2, .ref (ad 12)), (3, .ref (ad 21))] := hl
            refine lv_goto (tgt := 23) hx hb d_law_517 (by decide) ?_
            exact ih (i + 4) ce sl o tx ln lb bg ch ct ia wo me nu ro un li pt st cy pl bk en kc 0 po ro' en' un' li' ct' md lb' wn H locs ls (by omega) (by omega) (by omega) (by omega) J (lv_sub hl [1, 2, 3, 4, 0] rfl) hP hD hS
      · skip
        refine lv_tableIn (off := 331) (tgt := 370) hx hb d_law_39 (by decide) (by decide) (by decide) (by decide) ?_
        refine lv_aload_n hx hb d_law_370 rfl (lv_at hl 1 rfl) ?_
        refine lv_aload_n hx hb d_law_371 rfl (lv_at hl 0 rfl) ?_
        refine lv_iload hx hb d_law_372 (lv_at hl 4 rfl) ?_
        refine lv_iconst (v := nI 1) hx hb d_law_374 (by decide) ?_
        refine lv_iadd hx hb d_law_375 ?_
        refine zti (y := nI (i + 1)) (nI_add _ _) ?_
        refine va_sld hx hb hX0 hbl hbA hS (vp_in_nI (n := i + 1) (by omega) (by omega)) d_law_376 ?_
        refine zti (y := xs (i + 1)) (congrArg xs (nI_clamp (by omega))) ?_
        refine lv_aload_n hx hb d_law_377 rfl (lv_at hl 0 rfl) ?_
        refine lv_iload hx hb d_law_378 (lv_at hl 4 rfl) ?_
        refine lv_iconst (v := nI 2) hx hb d_law_380 (by decide) ?_
        refine lv_iadd hx hb d_law_381 ?_
        refine zti (y := nI (i + 2)) (nI_add _ _) ?_
        refine va_sld hx hb hX0 hbl hbA hS (vp_in_nI (n := i + 2) (by omega) (by omega)) d_law_382 ?_
        refine zti (y := xs (i + 2)) (congrArg xs (nI_clamp (by omega))) ?_
        refine lv_i2l (v := ((xs (i + 2))).toInt64) hx hb d_law_383 rfl ?_
        refine lv_bipush (v := nI 32) hx hb d_law_384 (by decide) ?_
        refine lv_lshl (v := (((xs (i + 2))).toInt64) <<< ((nI 32).toInt64 &&& 63)) hx hb d_law_386 rfl ?_
        refine lv_aload_n hx hb d_law_387 rfl (lv_at hl 0 rfl) ?_
        refine lv_iload hx hb d_law_388 (lv_at hl 4 rfl) ?_
        refine lv_iconst (v := nI 3) hx hb d_law_390 (by decide) ?_
        refine lv_iadd hx hb d_law_391 ?_
        refine zti (y := nI (i + 3)) (nI_add _ _) ?_
        refine va_sld hx hb hX0 hbl hbA hS (vp_in_nI (n := i + 3) (by omega) (by omega)) d_law_392 ?_
        refine zti (y := xs (i + 3)) (congrArg xs (nI_clamp (by omega))) ?_
        refine lv_i2l (v := ((xs (i + 3))).toInt64) hx hb d_law_393 rfl ?_
        refine lv_ldc2 hx hb hown (ht _ q794) d_law_394 ?_
        refine ztl (y := lN 4294967295) (by decide) ?_
        refine lv_land hx hb d_law_397 ?_
        refine lv_lor hx hb d_law_398 ?_
        refine zgo_i (wr := wO ad ca o ++ wM ad ca cd po nu pt st cy pl bk me kc ro' en' un' li' ln tx ia ct' md lb' wn) C0 (zrunV (na := 2) (As := [.int (xs (i + 1)), .long (((((xs (i + 2))).toInt64) <<< ((nI 32).toInt64 &&& 63)) ||| ((((xs (i + 3))).toInt64) &&& (lN 4294967295)))]) (rest := []) C0 hP hD hS [1, 2, 3, 4, 5, 6, 7, 8, 9, 10, 11, 12] rfl rfl (m_Ch_set l D ca k H.size ad tx ln lb bg ch ct ia wo me nu ro un li pt st cy pl bk en kc (xs (i + 1)) (((((xs (i + 2))).toInt64) <<< ((nI 32).toInt64 &&& 63)) ||| ((((xs (i + 3))).toInt64) &&& (lN 4294967295)))) (zg_V q200 q201 q202 q1 q203) (by decide +kernel) rfl rfl ⟨by decide, by decide⟩ 1 rfl rfl rfl hl.1 rfl (Nat.le_of_ble_eq_true rfl) d_law_399 ⟨hce, hsl⟩) hP hD hS [1, 2, 3, 4, 5, 6, 7, 8, 9, 10, 11, 12] [0, 13, 14, 15, 16, 17, 18, 19, 20, 21] rfl rfl (by decide) (by decide) (fun r34 w1 H locs hw hP hD hS => ?_)
        rcases hw with ⟨hz34, rfl, rfl⟩ | ⟨hz34, rfl, rfl⟩
        · skip
          have hP : va_P D vCl (wO ad ca o ++ (wM ad ca cd po nu pt st cy pl bk me kc ro' en' un' li' ln tx ia ct' md lb' wn ++ (wX ad ca  ++ (wA ad ca tx ln lb bg ch ct ia ++ (wW ad ca wo ++ (wP ad ca me (uN nu (xs (i + 1)).toNatClampNeg ((((((xs (i + 2))).toInt64) <<< ((nI 32).toInt64 &&& 63)) ||| ((((xs (i + 3))).toInt64) &&& (lN 4294967295))).toNatClampNeg % 10 ^ 14)) ro un li pt st cy pl bk en kc)))))) H := hP
          have hD : va_D A (wO ad ca o ++ (wM ad ca cd po nu pt st cy pl bk me kc ro' en' un' li' ln tx ia ct' md lb' wn ++ (wX ad ca  ++ (wA ad ca tx ln lb bg ch ct ia ++ (wW ad ca wo ++ (wP ad ca me (uN nu (xs (i + 1)).toNatClampNeg ((((((xs (i + 2))).toInt64) <<< ((nI 32).toInt64 &&& 63)) ||| ((((xs (i + 3))).toInt64) &&& (lN 4294967295))).toNatClampNeg % 10 ^ 14)) ro un li pt st cy pl bk en kc)))))) := hD
          refine lv_aload_n hx hb d_law_402 rfl (lv_at hl 2 rfl) ?_
          refine lv_aload_n hx hb d_law_403 rfl (lv_at hl 0 rfl) ?_
          refine lv_iload hx hb d_law_404 (lv_at hl 4 rfl) ?_
          refine lv_iconst (v := nI 1) hx hb d_law_406 (by decide) ?_
          refine lv_iadd hx hb d_law_407 ?_
          refine zti (y := nI (i + 1)) (nI_add _ _) ?_
          refine va_sld hx hb hX0 hbl hbA hS (vp_in_nI (n := i + 1) (by omega) (by omega)) d_law_408 ?_
          refine zti (y := xs (i + 1)) (congrArg xs (nI_clamp (by omega))) ?_
          refine lv_aload_n hx hb d_law_409 rfl (lv_at hl 0 rfl) ?_
          refine lv_iload hx hb d_law_410 (lv_at hl 4 rfl) ?_
          refine lv_iconst (v := nI 2) hx hb d_law_412 (by decide) ?_
          refine lv_iadd hx hb d_law_413 ?_
          refine zti (y := nI (i + 2)) (nI_add _ _) ?_
          refine va_sld hx hb hX0 hbl hbA hS (vp_in_nI (n := i + 2) (by omega) (by omega)) d_law_414 ?_
          refine zti (y := xs (i + 2)) (congrArg xs (nI_clamp (by omega))) ?_
          refine lv_i2l (v := ((xs (i + 2))).toInt64) hx hb d_law_415 rfl ?_
          refine lv_bipush (v := nI 32) hx hb d_law_416 (by decide) ?_
          refine lv_lshl (v := (((xs (i + 2))).toInt64) <<< ((nI 32).toInt64 &&& 63)) hx hb d_law_418 rfl ?_
          refine lv_aload_n hx hb d_law_419 rfl (lv_at hl 0 rfl) ?_
          refine lv_iload hx hb d_law_420 (lv_at hl 4 rfl) ?_
          refine lv_iconst (v := nI 3) hx hb d_law_422 (by decide) ?_
          refine lv_iadd hx hb d_law_423 ?_
          refine zti (y := nI (i + 3)) (nI_add _ _) ?_
          refine va_sld hx hb hX0 hbl hbA hS (vp_in_nI (n := i + 3) (by omega) (by omega)) d_law_424 ?_
          refine zti (y := xs (i + 3)) (congrArg xs (nI_clamp (by omega))) ?_
          refine lv_i2l (v := ((xs (i + 3))).toInt64) hx hb d_law_425 rfl ?_
          refine lv_ldc2 hx hb hown (ht _ q794) d_law_426 ?_
          refine ztl (y := lN 4294967295) (by decide) ?_
          refine lv_land hx hb d_law_429 ?_
          refine lv_lor hx hb d_law_430 ?_
          refine zgo_i (wr := wO ad ca o ++ wX ad ca  ++ wA ad ca tx ln lb bg ch ct ia ++ wW ad ca wo ++ wP ad ca me (uN nu (xs (i + 1)).toNatClampNeg ((((((xs (i + 2))).toInt64) <<< ((nI 32).toInt64 &&& 63)) ||| ((((xs (i + 3))).toInt64) &&& (lN 4294967295))).toNatClampNeg % 10 ^ 14)) ro un li pt st cy pl bk en kc) C0 (zrunV (na := 2) (As := [.int (xs (i + 1)), .long (((((xs (i + 2))).toInt64) <<< ((nI 32).toInt64 &&& 63)) ||| ((((xs (i + 3))).toInt64) &&& (lN 4294967295)))]) (rest := [.int (nI 1)]) C0 hP hD hS [1, 2, 3, 4, 5, 6, 7, 8, 9] rfl rfl (m_Mo_set l D ca k H.size ad cd po nu pt st cy pl bk me kc ro' en' un' li' ln tx ia ct' md lb' wn (xs (i + 1)) (((((xs (i + 2))).toInt64) <<< ((nI 32).toInt64 &&& 63)) ||| ((((xs (i + 3))).toInt64) &&& (lN 4294967295))) J.2.2.2.2.2.2.2.2) (zg_V q774 q775 q776 q7 q777) (by decide +kernel) rfl rfl ⟨by decide, by decide⟩ 1 rfl rfl rfl hl.1 rfl (Nat.le_of_ble_eq_true rfl) d_law_431 ⟨hce, hsl⟩) hP hD hS [1, 2, 3, 4, 5, 6, 7, 8, 9] [0, 10, 11, 12, 13, 14, 15, 16, 17, 18, 19, 20, 21] rfl rfl (by decide) (by decide) (fun r35 w1 H locs hw hP hD hS => ?_)
          rcases hw with ⟨hz35, rfl, rfl⟩ | ⟨hz35, rfl, rfl⟩
          · skip
            have hP : va_P D vCl (wO ad ca o ++ (wX ad ca  ++ (wA ad ca tx ln lb bg ch ct ia ++ (wW ad ca wo ++ (wP ad ca me (uN nu (xs (i + 1)).toNatClampNeg ((((((xs (i + 2))).toInt64) <<< ((nI 32).toInt64 &&& 63)) ||| ((((xs (i + 3))).toInt64) &&& (lN 4294967295))).toNatClampNeg % 10 ^ 14)) ro un li pt st cy pl bk en kc ++ (wM ad ca 0 po (uN nu (xs (i + 1)).toNatClampNeg ((((((xs (i + 2))).toInt64) <<< ((nI 32).toInt64 &&& 63)) ||| ((((xs (i + 3))).toInt64) &&& (lN 4294967295))).toNatClampNeg % 10 ^ 14)) pt st cy pl bk me kc ro' en' un' li' ln tx ia ct' md lb' wn)))))) H := hP
            have hD : va_D A (wO ad ca o ++ (wX ad ca  ++ (wA ad ca tx ln lb bg ch ct ia ++ (wW ad ca wo ++ (wP ad ca me (uN nu (xs (i + 1)).toNatClampNeg ((((((xs (i + 2))).toInt64) <<< ((nI 32).toInt64 &&& 63)) ||| ((((xs (i + 3))).toInt64) &&& (lN 4294967295))).toNatClampNeg % 10 ^ 14)) ro un li pt st cy pl bk en kc ++ (wM ad ca 0 po (uN nu (xs (i + 1)).toNatClampNeg ((((((xs (i + 2))).toInt64) <<< ((nI 32).toInt64 &&& 63)) ||| ((((xs (i + 3))).toInt64) &&& (lN 4294967295))).toNatClampNeg % 10 ^ 14)) pt st cy pl bk me kc ro' en' un' li' ln tx ia ct' md lb' wn)))))) := hD
            refine lv_icmp_eq (tgt := 514) hx hb d_law_434 (by decide) (fun _ => ?_) (fun h => absurd rfl h)
            refine lv_iinc (k := 4) (v := nI (i + 4)) hx hb d_law_514 hl rfl (zinc4 _) (by decide) rfl (fun ls hl => ?_)
            have hl : lv_has ls 7 [(4, .int (nI (i + 4))), (0, .ref b), (1, .ref (ad 0)), (2, .ref (ad 12)), (3, .ref (ad 21))] := hl
            refine lv_goto (tgt := 23) hx hb d_law_517 (by decide) ?_
            exact ih (i + 4) ce sl o tx ln lb bg ch ct ia wo me (uN nu (xs (i + 1)).toNatClampNeg ((((((xs (i + 2))).toInt64) <<< ((nI 32).toInt64 &&& 63)) ||| ((((xs (i + 3))).toInt64) &&& (lN 4294967295))).toNatClampNeg % 10 ^ 14)) ro un li pt st cy pl bk en kc 0 po ro' en' un' li' ct' md lb' wn H locs ls (by omega) (by omega) (by omega) (by omega) (lw_set J) (lv_sub hl [1, 2, 3, 4, 0] rfl) hP hD hS
          · skip
            have hP : va_P D vCl (wO ad ca o ++ (wX ad ca  ++ (wA ad ca tx ln lb bg ch ct ia ++ (wW ad ca wo ++ (wP ad ca me (uN nu (xs (i + 1)).toNatClampNeg ((((((xs (i + 2))).toInt64) <<< ((nI 32).toInt64 &&& 63)) ||| ((((xs (i + 3))).toInt64) &&& (lN 4294967295))).toNatClampNeg % 10 ^ 14)) ro un li pt st cy pl bk en kc ++ (wM ad ca 0 po nu pt st cy pl bk me kc ro' en' un' li' ln tx ia ct' md lb' wn)))))) H := hP
            have hD : va_D A (wO ad ca o ++ (wX ad ca  ++ (wA ad ca tx ln lb bg ch ct ia ++ (wW ad ca wo ++ (wP ad ca me (uN nu (xs (i + 1)).toNatClampNeg ((((((xs (i + 2))).toInt64) <<< ((nI 32).toInt64 &&& 63)) ||| ((((xs (i + 3))).toInt64) &&& (lN 4294967295))).toNatClampNeg % 10 ^ 14)) ro un li pt st cy pl bk en kc ++ (wM ad ca 0 po nu pt st cy pl bk me kc ro' en' un' li' ln tx ia ct' md lb' wn)))))) := hD
            exact absurd hz34 hz35
        · skip
          have hP : va_P D vCl (wO ad ca o ++ (wM ad ca cd po nu pt st cy pl bk me kc ro' en' un' li' ln tx ia ct' md lb' wn ++ (wX ad ca  ++ (wA ad ca tx ln lb bg ch ct ia ++ (wW ad ca wo ++ (wP ad ca me nu ro un li pt st cy pl bk en kc)))))) H := hP
          have hD : va_D A (wO ad ca o ++ (wM ad ca cd po nu pt st cy pl bk me kc ro' en' un' li' ln tx ia ct' md lb' wn ++ (wX ad ca  ++ (wA ad ca tx ln lb bg ch ct ia ++ (wW ad ca wo ++ (wP ad ca me nu ro un li pt st cy pl bk en kc)))))) := hD
          refine lv_aload_n hx hb d_law_402 rfl (lv_at hl 2 rfl) ?_
          refine lv_aload_n hx hb d_law_403 rfl (lv_at hl 0 rfl) ?_
          refine lv_iload hx hb d_law_404 (lv_at hl 4 rfl) ?_
          refine lv_iconst (v := nI 1) hx hb d_law_406 (by decide) ?_
          refine lv_iadd hx hb d_law_407 ?_
          refine zti (y := nI (i + 1)) (nI_add _ _) ?_
          refine va_sld hx hb hX0 hbl hbA hS (vp_in_nI (n := i + 1) (by omega) (by omega)) d_law_408 ?_
          refine zti (y := xs (i + 1)) (congrArg xs (nI_clamp (by omega))) ?_
          refine lv_aload_n hx hb d_law_409 rfl (lv_at hl 0 rfl) ?_
          refine lv_iload hx hb d_law_410 (lv_at hl 4 rfl) ?_
          refine lv_iconst (v := nI 2) hx hb d_law_412 (by decide) ?_
          refine lv_iadd hx hb d_law_413 ?_
          refine zti (y := nI (i + 2)) (nI_add _ _) ?_
          refine va_sld hx hb hX0 hbl hbA hS (vp_in_nI (n := i + 2) (by omega) (by omega)) d_law_414 ?_
          refine zti (y := xs (i + 2)) (congrArg xs (nI_clamp (by omega))) ?_
          refine lv_i2l (v := ((xs (i + 2))).toInt64) hx hb d_law_415 rfl ?_
          refine lv_bipush (v := nI 32) hx hb d_law_416 (by decide) ?_
          refine lv_lshl (v := (((xs (i + 2))).toInt64) <<< ((nI 32).toInt64 &&& 63)) hx hb d_law_418 rfl ?_
          refine lv_aload_n hx hb d_law_419 rfl (lv_at hl 0 rfl) ?_
          refine lv_iload hx hb d_law_420 (lv_at hl 4 rfl) ?_
          refine lv_iconst (v := nI 3) hx hb d_law_422 (by decide) ?_
          refine lv_iadd hx hb d_law_423 ?_
          refine zti (y := nI (i + 3)) (nI_add _ _) ?_
          refine va_sld hx hb hX0 hbl hbA hS (vp_in_nI (n := i + 3) (by omega) (by omega)) d_law_424 ?_
          refine zti (y := xs (i + 3)) (congrArg xs (nI_clamp (by omega))) ?_
          refine lv_i2l (v := ((xs (i + 3))).toInt64) hx hb d_law_425 rfl ?_
          refine lv_ldc2 hx hb hown (ht _ q794) d_law_426 ?_
          refine ztl (y := lN 4294967295) (by decide) ?_
          refine lv_land hx hb d_law_429 ?_
          refine lv_lor hx hb d_law_430 ?_
          refine zgo_i (wr := wO ad ca o ++ wX ad ca  ++ wA ad ca tx ln lb bg ch ct ia ++ wW ad ca wo ++ wP ad ca me nu ro un li pt st cy pl bk en kc) C0 (zrunV (na := 2) (As := [.int (xs (i + 1)), .long (((((xs (i + 2))).toInt64) <<< ((nI 32).toInt64 &&& 63)) ||| ((((xs (i + 3))).toInt64) &&& (lN 4294967295)))]) (rest := [.int (nI 0)]) C0 hP hD hS [1, 2, 3, 4, 5, 6, 7, 8, 9] rfl rfl (m_Mo_set l D ca k H.size ad cd po nu pt st cy pl bk me kc ro' en' un' li' ln tx ia ct' md lb' wn (xs (i + 1)) (((((xs (i + 2))).toInt64) <<< ((nI 32).toInt64 &&& 63)) ||| ((((xs (i + 3))).toInt64) &&& (lN 4294967295))) J.2.2.2.2.2.2.2.2) (zg_V q774 q775 q776 q7 q777) (by decide +kernel) rfl rfl ⟨by decide, by decide⟩ 1 rfl rfl rfl hl.1 rfl (Nat.le_of_ble_eq_true rfl) d_law_431 ⟨hce, hsl⟩) hP hD hS [1, 2, 3, 4, 5, 6, 7, 8, 9] [0, 10, 11, 12, 13, 14, 15, 16, 17, 18, 19, 20, 21] rfl rfl (by decide) (by decide) (fun r36 w1 H locs hw hP hD hS => ?_)
          rcases hw with ⟨hz36, rfl, rfl⟩ | ⟨hz36, rfl, rfl⟩
          · skip
            have hP : va_P D vCl (wO ad ca o ++ (wX ad ca  ++ (wA ad ca tx ln lb bg ch ct ia ++ (wW ad ca wo ++ (wP ad ca me nu ro un li pt st cy pl bk en kc ++ (wM ad ca 0 po (uN nu (xs (i + 1)).toNatClampNeg ((((((xs (i + 2))).toInt64) <<< ((nI 32).toInt64 &&& 63)) ||| ((((xs (i + 3))).toInt64) &&& (lN 4294967295))).toNatClampNeg % 10 ^ 14)) pt st cy pl bk me kc ro' en' un' li' ln tx ia ct' md lb' wn)))))) H := hP
            have hD : va_D A (wO ad ca o ++ (wX ad ca  ++ (wA ad ca tx ln lb bg ch ct ia ++ (wW ad ca wo ++ (wP ad ca me nu ro un li pt st cy pl bk en kc ++ (wM ad ca 0 po (uN nu (xs (i + 1)).toNatClampNeg ((((((xs (i + 2))).toInt64) <<< ((nI 32).toInt64 &&& 63)) ||| ((((xs (i + 3))).toInt64) &&& (lN 4294967295))).toNatClampNeg % 10 ^ 14)) pt st cy pl bk me kc ro' en' un' li' ln tx ia ct' md lb' wn)))))) := hD
            exact absurd hz36 hz34
          · skip
            have hP : va_P D vCl (wO ad ca o ++ (wX ad ca  ++ (wA ad ca tx ln lb bg ch ct ia ++ (wW ad ca wo ++ (wP ad ca me nu ro un li pt st cy pl bk en kc ++ (wM ad ca 0 po nu pt st cy pl bk me kc ro' en' un' li' ln tx ia ct' md lb' wn)))))) H := hP
            have hD : va_D A (wO ad ca o ++ (wX ad ca  ++ (wA ad ca tx ln lb bg ch ct ia ++ (wW ad ca wo ++ (wP ad ca me nu ro un li pt st cy pl bk en kc ++ (wM ad ca 0 po nu pt st cy pl bk me kc ro' en' un' li' ln tx ia ct' md lb' wn)))))) := hD
            refine lv_icmp_eq (tgt := 514) hx hb d_law_434 (by decide) (fun _ => ?_) (fun h => absurd rfl h)
            refine lv_iinc (k := 4) (v := nI (i + 4)) hx hb d_law_514 hl rfl (zinc4 _) (by decide) rfl (fun ls hl => ?_)
            have hl : lv_has ls 7 [(4, .int (nI (i + 4))), (0, .ref b), (1, .ref (ad 0)), (2, .ref (ad 12)), (3, .ref (ad 21))] := hl
            refine lv_goto (tgt := 23) hx hb d_law_517 (by decide) ?_
            exact ih (i + 4) ce sl o tx ln lb bg ch ct ia wo me nu ro un li pt st cy pl bk en kc 0 po ro' en' un' li' ct' md lb' wn H locs ls (by omega) (by omega) (by omega) (by omega) J (lv_sub hl [1, 2, 3, 4, 0] rfl) hP hD hS
      · skip
        refine lv_tableIn (off := 400) (tgt := 439) hx hb d_law_39 (by decide) (by decide) (by decide) (by decide) ?_
        refine lv_aload_n hx hb d_law_439 rfl (lv_at hl 1 rfl) ?_
        refine lv_aload_n hx hb d_law_440 rfl (lv_at hl 0 rfl) ?_
        refine lv_iload hx hb d_law_441 (lv_at hl 4 rfl) ?_
        refine lv_iconst (v := nI 1) hx hb d_law_443 (by decide) ?_
        refine lv_iadd hx hb d_law_444 ?_
        refine zti (y := nI (i + 1)) (nI_add _ _) ?_
        refine va_sld hx hb hX0 hbl hbA hS (vp_in_nI (n := i + 1) (by omega) (by omega)) d_law_445 ?_
        refine zti (y := xs (i + 1)) (congrArg xs (nI_clamp (by omega))) ?_
        refine zgo_i (wr := wO ad ca o ++ wM ad ca cd po nu pt st cy pl bk me kc ro' en' un' li' ln tx ia ct' md lb' wn) C0 (zrunV (na := 1) (As := [.int (xs (i + 1))]) (rest := []) C0 hP hD hS [1, 2, 3, 4, 5, 6, 7, 8, 9, 10, 11, 12] rfl rfl (m_Ch_state l D ca k H.size ad tx ln lb bg ch ct ia wo me nu ro un li pt st cy pl bk en kc (xs (i + 1)) J.1.2.2.2.2.1) (zg_V q206 q207 q208 q1 q209) (by decide +kernel) rfl rfl ⟨by decide, by decide⟩ 1 rfl rfl rfl hl.1 rfl (Nat.le_of_ble_eq_true rfl) d_law_446 ⟨hce, hsl⟩) hP hD hS [1, 2, 3, 4, 5, 6, 7, 8, 9, 10, 11, 12] [0, 13, 14, 15, 16, 17, 18, 19, 20, 21] rfl rfl (by decide) (by decide) (fun r37 w1 H locs hw hP hD hS => ?_)
        obtain ⟨rfl, rfl⟩ := hw
        have hP : va_P D vCl (wO ad ca o ++ (wM ad ca cd po nu pt st cy pl bk me kc ro' en' un' li' ln tx ia ct' md lb' wn ++ (wX ad ca  ++ (wA ad ca tx ln lb bg ch ct ia ++ (wW ad ca wo ++ (wP ad ca me nu ro un li pt st cy pl bk en kc)))))) H := hP
        have hD : va_D A (wO ad ca o ++ (wM ad ca cd po nu pt st cy pl bk me kc ro' en' un' li' ln tx ia ct' md lb' wn ++ (wX ad ca  ++ (wA ad ca tx ln lb bg ch ct ia ++ (wW ad ca wo ++ (wP ad ca me nu ro un li pt st cy pl bk en kc)))))) := hD
        refine lv_aload_n hx hb d_law_449 rfl (lv_at hl 2 rfl) ?_
        refine lv_aload_n hx hb d_law_450 rfl (lv_at hl 0 rfl) ?_
        refine lv_iload hx hb d_law_451 (lv_at hl 4 rfl) ?_
        refine lv_iconst (v := nI 1) hx hb d_law_453 (by decide) ?_
        refine lv_iadd hx hb d_law_454 ?_
        refine zti (y := nI (i + 1)) (nI_add _ _) ?_
        refine va_sld hx hb hX0 hbl hbA hS (vp_in_nI (n := i + 1) (by omega) (by omega)) d_law_455 ?_
        refine zti (y := xs (i + 1)) (congrArg xs (nI_clamp (by omega))) ?_
        refine zgo_i (wr := wO ad ca o ++ wX ad ca  ++ wA ad ca tx ln lb bg ch ct ia ++ wW ad ca wo ++ wP ad ca me nu ro un li pt st cy pl bk en kc) C0 (zrunV (na := 1) (As := [.int (xs (i + 1))]) (rest := [.int (sta (xs (i + 1)) pt st cy pl bk)]) C0 hP hD hS [1, 2, 3, 4, 5, 6, 7, 8, 9] rfl rfl (m_Mo_state l D ca k H.size ad cd po nu pt st cy pl bk me kc ro' en' un' li' ln tx ia ct' md lb' wn (xs (i + 1)) J.1.2.2.2.2.1) (zg_V q778 q779 q780 q7 q781) (by decide +kernel) rfl rfl ⟨by decide, by decide⟩ 1 rfl rfl rfl hl.1 rfl (Nat.le_of_ble_eq_true rfl) d_law_456 ⟨hce, hsl⟩) hP hD hS [1, 2, 3, 4, 5, 6, 7, 8, 9] [0, 10, 11, 12, 13, 14, 15, 16, 17, 18, 19, 20, 21] rfl rfl (by decide) (by decide) (fun r38 w1 H locs hw hP hD hS => ?_)
        obtain ⟨rfl, rfl⟩ := hw
        have hP : va_P D vCl (wO ad ca o ++ (wX ad ca  ++ (wA ad ca tx ln lb bg ch ct ia ++ (wW ad ca wo ++ (wP ad ca me nu ro un li pt st cy pl bk en kc ++ (wM ad ca 0 po nu pt st cy pl bk me kc ro' en' un' li' ln tx ia ct' md lb' wn)))))) H := hP
        have hD : va_D A (wO ad ca o ++ (wX ad ca  ++ (wA ad ca tx ln lb bg ch ct ia ++ (wW ad ca wo ++ (wP ad ca me nu ro un li pt st cy pl bk en kc ++ (wM ad ca 0 po nu pt st cy pl bk me kc ro' en' un' li' ln tx ia ct' md lb' wn)))))) := hD
        refine lv_icmp_eq (tgt := 514) hx hb d_law_459 (by decide) (fun _ => ?_) (fun h => absurd rfl h)
        refine lv_iinc (k := 4) (v := nI (i + 4)) hx hb d_law_514 hl rfl (zinc4 _) (by decide) rfl (fun ls hl => ?_)
        have hl : lv_has ls 7 [(4, .int (nI (i + 4))), (0, .ref b), (1, .ref (ad 0)), (2, .ref (ad 12)), (3, .ref (ad 21))] := hl
        refine lv_goto (tgt := 23) hx hb d_law_517 (by decide) ?_
        exact ih (i + 4) ce sl o tx ln lb bg ch ct ia wo me nu ro un li pt st cy pl bk en kc 0 po ro' en' un' li' ct' md lb' wn H locs ls (by omega) (by omega) (by omega) (by omega) J (lv_sub hl [1, 2, 3, 4, 0] rfl) hP hD hS
      · skip
        refine lv_tableIn (off := 425) (tgt := 464) hx hb d_law_39 (by decide) (by decide) (by decide) (by decide) ?_
        refine lv_aload_n hx hb d_law_464 rfl (lv_at hl 1 rfl) ?_
        refine lv_aload_n hx hb d_law_465 rfl (lv_at hl 0 rfl) ?_
        refine lv_iload hx hb d_law_466 (lv_at hl 4 rfl) ?_
        refine lv_iconst (v := nI 1) hx hb d_law_468 (by decide) ?_
        refine lv_iadd hx hb d_law_469 ?_
        refine zti (y := nI (i + 1)) (nI_add _ _) ?_
        refine va_sld hx hb hX0 hbl hbA hS (vp_in_nI (n := i + 1) (by omega) (by omega)) d_law_470 ?_
        refine zti (y := xs (i + 1)) (congrArg xs (nI_clamp (by omega))) ?_
        refine zgo_i (wr := wO ad ca o ++ wM ad ca cd po nu pt st cy pl bk me kc ro' en' un' li' ln tx ia ct' md lb' wn) C0 (zrunV (na := 1) (As := [.int (xs (i + 1))]) (rest := []) C0 hP hD hS [1, 2, 3, 4, 5, 6, 7, 8, 9, 10, 11, 12] rfl rfl (m_Ch_go l D ca k H.size ad tx ln lb bg ch ct ia wo me nu ro un li pt st cy pl bk en kc (xs (i + 1))) (zg_V q210 q211 q212 q1 q213) (by decide +kernel) rfl rfl ⟨by decide, by decide⟩ 1 rfl rfl rfl hl.1 rfl (Nat.le_of_ble_eq_true rfl) d_law_471 ⟨hce, hsl⟩) hP hD hS [1, 2, 3, 4, 5, 6, 7, 8, 9, 10, 11, 12] [0, 13, 14, 15, 16, 17, 18, 19, 20, 21] rfl rfl (by decide) (by decide) (fun r39 w1 H locs hw hP hD hS => ?_)
        rcases hw with ⟨hz39, rfl, rfl⟩ | ⟨hz39, rfl, rfl⟩
        · skip
          have hP : va_P D vCl (wO ad ca o ++ (wM ad ca cd po nu pt st cy pl bk me kc ro' en' un' li' ln tx ia ct' md lb' wn ++ (wX ad ca  ++ (wA ad ca tx ln lb bg ch ct ia ++ (wW ad ca wo ++ (wP ad ca me nu ro un li pt st cy ((xs (i + 1)).toNatClampNeg) bk en kc)))))) H := hP
          have hD : va_D A (wO ad ca o ++ (wM ad ca cd po nu pt st cy pl bk me kc ro' en' un' li' ln tx ia ct' md lb' wn ++ (wX ad ca  ++ (wA ad ca tx ln lb bg ch ct ia ++ (wW ad ca wo ++ (wP ad ca me nu ro un li pt st cy ((xs (i + 1)).toNatClampNeg) bk en kc)))))) := hD
          refine lv_aload_n hx hb d_law_474 rfl (lv_at hl 2 rfl) ?_
          refine lv_aload_n hx hb d_law_475 rfl (lv_at hl 0 rfl) ?_
          refine lv_iload hx hb d_law_476 (lv_at hl 4 rfl) ?_
          refine lv_iconst (v := nI 1) hx hb d_law_478 (by decide) ?_
          refine lv_iadd hx hb d_law_479 ?_
          refine zti (y := nI (i + 1)) (nI_add _ _) ?_
          refine va_sld hx hb hX0 hbl hbA hS (vp_in_nI (n := i + 1) (by omega) (by omega)) d_law_480 ?_
          refine zti (y := xs (i + 1)) (congrArg xs (nI_clamp (by omega))) ?_
          refine zgo_i (wr := wO ad ca o ++ wX ad ca  ++ wA ad ca tx ln lb bg ch ct ia ++ wW ad ca wo ++ wP ad ca me nu ro un li pt st cy ((xs (i + 1)).toNatClampNeg) bk en kc) C0 (zrunV (na := 1) (As := [.int (xs (i + 1))]) (rest := [.int (nI 1)]) C0 hP hD hS [1, 2, 3, 4, 5, 6, 7, 8, 9] rfl rfl (m_Mo_go l D ca k H.size ad cd po nu pt st cy pl bk me kc ro' en' un' li' ln tx ia ct' md lb' wn (xs (i + 1))) (zg_V q782 q783 q784 q7 q785) (by decide +kernel) rfl rfl ⟨by decide, by decide⟩ 1 rfl rfl rfl hl.1 rfl (Nat.le_of_ble_eq_true rfl) d_law_481 ⟨hce, hsl⟩) hP hD hS [1, 2, 3, 4, 5, 6, 7, 8, 9] [0, 10, 11, 12, 13, 14, 15, 16, 17, 18, 19, 20, 21] rfl rfl (by decide) (by decide) (fun r40 w1 H locs hw hP hD hS => ?_)
          rcases hw with ⟨hz40, rfl, rfl⟩ | ⟨hz40, rfl, rfl⟩
          · skip
            have hP : va_P D vCl (wO ad ca o ++ (wX ad ca  ++ (wA ad ca tx ln lb bg ch ct ia ++ (wW ad ca wo ++ (wP ad ca me nu ro un li pt st cy ((xs (i + 1)).toNatClampNeg) bk en kc ++ (wM ad ca 0 po nu pt st cy ((xs (i + 1)).toNatClampNeg) bk me kc ro' en' un' li' ln tx ia ct' md lb' wn)))))) H := hP
            have hD : va_D A (wO ad ca o ++ (wX ad ca  ++ (wA ad ca tx ln lb bg ch ct ia ++ (wW ad ca wo ++ (wP ad ca me nu ro un li pt st cy ((xs (i + 1)).toNatClampNeg) bk en kc ++ (wM ad ca 0 po nu pt st cy ((xs (i + 1)).toNatClampNeg) bk me kc ro' en' un' li' ln tx ia ct' md lb' wn)))))) := hD
            refine lv_icmp_eq (tgt := 514) hx hb d_law_484 (by decide) (fun _ => ?_) (fun h => absurd rfl h)
            refine lv_iinc (k := 4) (v := nI (i + 4)) hx hb d_law_514 hl rfl (zinc4 _) (by decide) rfl (fun ls hl => ?_)
            have hl : lv_has ls 7 [(4, .int (nI (i + 4))), (0, .ref b), (1, .ref (ad 0)), (2, .ref (ad 12)), (3, .ref (ad 21))] := hl
            refine lv_goto (tgt := 23) hx hb d_law_517 (by decide) ?_
            exact ih (i + 4) ce sl o tx ln lb bg ch ct ia wo me nu ro un li pt st cy ((xs (i + 1)).toNatClampNeg) bk en kc 0 po ro' en' un' li' ct' md lb' wn H locs ls (by omega) (by omega) (by omega) (by omega) (lw_go J hz39) (lv_sub hl [1, 2, 3, 4, 0] rfl) hP hD hS
          · skip
            have hP : va_P D vCl (wO ad ca o ++ (wX ad ca  ++ (wA ad ca tx ln lb bg ch ct ia ++ (wW ad ca wo ++ (wP ad ca me nu ro un li pt st cy ((xs (i + 1)).toNatClampNeg) bk en kc ++ (wM ad ca 0 po nu pt st cy pl bk me kc ro' en' un' li' ln tx ia ct' md lb' wn)))))) H := hP
            have hD : va_D A (wO ad ca o ++ (wX ad ca  ++ (wA ad ca tx ln lb bg ch ct ia ++ (wW ad ca wo ++ (wP ad ca me nu ro un li pt st cy ((xs (i + 1)).toNatClampNeg) bk en kc ++ (wM ad ca 0 po nu pt st cy pl bk me kc ro' en' un' li' ln tx ia ct' md lb' wn)))))) := hD
            exact absurd hz39 hz40
        · skip
          have hP : va_P D vCl (wO ad ca o ++ (wM ad ca cd po nu pt st cy pl bk me kc ro' en' un' li' ln tx ia ct' md lb' wn ++ (wX ad ca  ++ (wA ad ca tx ln lb bg ch ct ia ++ (wW ad ca wo ++ (wP ad ca me nu ro un li pt st cy pl bk en kc)))))) H := hP
          have hD : va_D A (wO ad ca o ++ (wM ad ca cd po nu pt st cy pl bk me kc ro' en' un' li' ln tx ia ct' md lb' wn ++ (wX ad ca  ++ (wA ad ca tx ln lb bg ch ct ia ++ (wW ad ca wo ++ (wP ad ca me nu ro un li pt st cy pl bk en kc)))))) := hD
          refine lv_aload_n hx hb d_law_474 rfl (lv_at hl 2 rfl) ?_
          refine lv_aload_n hx hb d_law_475 rfl (lv_at hl 0 rfl) ?_
          refine lv_iload hx hb d_law_476 (lv_at hl 4 rfl) ?_
          refine lv_iconst (v := nI 1) hx hb d_law_478 (by decide) ?_
          refine lv_iadd hx hb d_law_479 ?_
          refine zti (y := nI (i + 1)) (nI_add _ _) ?_
          refine va_sld hx hb hX0 hbl hbA hS (vp_in_nI (n := i + 1) (by omega) (by omega)) d_law_480 ?_
          refine zti (y := xs (i + 1)) (congrArg xs (nI_clamp (by omega))) ?_
          refine zgo_i (wr := wO ad ca o ++ wX ad ca  ++ wA ad ca tx ln lb bg ch ct ia ++ wW ad ca wo ++ wP ad ca me nu ro un li pt st cy pl bk en kc) C0 (zrunV (na := 1) (As := [.int (xs (i + 1))]) (rest := [.int (nI 0)]) C0 hP hD hS [1, 2, 3, 4, 5, 6, 7, 8, 9] rfl rfl (m_Mo_go l D ca k H.size ad cd po nu pt st cy pl bk me kc ro' en' un' li' ln tx ia ct' md lb' wn (xs (i + 1))) (zg_V q782 q783 q784 q7 q785) (by decide +kernel) rfl rfl ⟨by decide, by decide⟩ 1 rfl rfl rfl hl.1 rfl (Nat.le_of_ble_eq_true rfl) d_law_481 ⟨hce, hsl⟩) hP hD hS [1, 2, 3, 4, 5, 6, 7, 8, 9] [0, 10, 11, 12, 13, 14, 15, 16, 17, 18, 19, 20, 21] rfl rfl (by decide) (by decide) (fun r41 w1 H locs hw hP hD hS => ?_)
          rcases hw with ⟨hz41, rfl, rfl⟩ | ⟨hz41, rfl, rfl⟩
          · skip
            have hP : va_P D vCl (wO ad ca o ++ (wX ad ca  ++ (wA ad ca tx ln lb bg ch ct ia ++ (wW ad ca wo ++ (wP ad ca me nu ro un li pt st cy pl bk en kc ++ (wM ad ca 0 po nu pt st cy ((xs (i + 1)).toNatClampNeg) bk me kc ro' en' un' li' ln tx ia ct' md lb' wn)))))) H := hP
            have hD : va_D A (wO ad ca o ++ (wX ad ca  ++ (wA ad ca tx ln lb bg ch ct ia ++ (wW ad ca wo ++ (wP ad ca me nu ro un li pt st cy pl bk en kc ++ (wM ad ca 0 po nu pt st cy ((xs (i + 1)).toNatClampNeg) bk me kc ro' en' un' li' ln tx ia ct' md lb' wn)))))) := hD
            exact absurd hz41 hz39
          · skip
            have hP : va_P D vCl (wO ad ca o ++ (wX ad ca  ++ (wA ad ca tx ln lb bg ch ct ia ++ (wW ad ca wo ++ (wP ad ca me nu ro un li pt st cy pl bk en kc ++ (wM ad ca 0 po nu pt st cy pl bk me kc ro' en' un' li' ln tx ia ct' md lb' wn)))))) H := hP
            have hD : va_D A (wO ad ca o ++ (wX ad ca  ++ (wA ad ca tx ln lb bg ch ct ia ++ (wW ad ca wo ++ (wP ad ca me nu ro un li pt st cy pl bk en kc ++ (wM ad ca 0 po nu pt st cy pl bk me kc ro' en' un' li' ln tx ia ct' md lb' wn)))))) := hD
            refine lv_icmp_eq (tgt := 514) hx hb d_law_484 (by decide) (fun _ => ?_) (fun h => absurd rfl h)
            refine lv_iinc (k := 4) (v := nI (i + 4)) hx hb d_law_514 hl rfl (zinc4 _) (by decide) rfl (fun ls hl => ?_)
            have hl : lv_has ls 7 [(4, .int (nI (i + 4))), (0, .ref b), (1, .ref (ad 0)), (2, .ref (ad 12)), (3, .ref (ad 21))] := hl
            refine lv_goto (tgt := 23) hx hb d_law_517 (by decide) ?_
            exact ih (i + 4) ce sl o tx ln lb bg ch ct ia wo me nu ro un li pt st cy pl bk en kc 0 po ro' en' un' li' ct' md lb' wn H locs ls (by omega) (by omega) (by omega) (by omega) J (lv_sub hl [1, 2, 3, 4, 0] rfl) hP hD hS
      · skip
        refine lv_tableIn (off := 450) (tgt := 489) hx hb d_law_39 (by decide) (by decide) (by decide) (by decide) ?_
        refine lv_aload_n hx hb d_law_489 rfl (lv_at hl 1 rfl) ?_
        refine lv_aload_n hx hb d_law_490 rfl (lv_at hl 0 rfl) ?_
        refine lv_iload hx hb d_law_491 (lv_at hl 4 rfl) ?_
        refine lv_iconst (v := nI 1) hx hb d_law_493 (by decide) ?_
        refine lv_iadd hx hb d_law_494 ?_
        refine zti (y := nI (i + 1)) (nI_add _ _) ?_
        refine va_sld hx hb hX0 hbl hbA hS (vp_in_nI (n := i + 1) (by omega) (by omega)) d_law_495 ?_
        refine zti (y := xs (i + 1)) (congrArg xs (nI_clamp (by omega))) ?_
        refine zgo_i (wr := wO ad ca o ++ wM ad ca cd po nu pt st cy pl bk me kc ro' en' un' li' ln tx ia ct' md lb' wn) C0 (zrunV (na := 1) (As := [.int (xs (i + 1))]) (rest := []) C0 hP hD hS [1, 2, 3, 4, 5, 6, 7, 8, 9, 10, 11, 12] rfl rfl (m_Ch_display l D ca k H.size ad tx ln lb bg ch ct ia wo me nu ro un li pt st cy pl bk en kc (xs (i + 1)) J.1.2.1) (zg_V q214 q215 q216 q1 q217) (by decide +kernel) rfl rfl ⟨by decide, by decide⟩ 1 rfl rfl rfl hl.1 rfl (Nat.le_of_ble_eq_true rfl) d_law_496 ⟨hce, hsl⟩) hP hD hS [1, 2, 3, 4, 5, 6, 7, 8, 9, 10, 11, 12] [0, 13, 14, 15, 16, 17, 18, 19, 20, 21] rfl rfl (by decide) (by decide) (fun r42 w1 H locs hw hP hD hS => ?_)
        obtain ⟨rfl, rfl⟩ := hw
        have hP : va_P D vCl (wO ad ca o ++ (wM ad ca cd po nu pt st cy pl bk me kc ro' en' un' li' ln tx ia ct' md lb' wn ++ (wX ad ca  ++ (wA ad ca tx ln lb bg ch ct ia ++ (wW ad ca wo ++ (wP ad ca me nu ro un li pt st cy pl bk en kc)))))) H := hP
        have hD : va_D A (wO ad ca o ++ (wM ad ca cd po nu pt st cy pl bk me kc ro' en' un' li' ln tx ia ct' md lb' wn ++ (wX ad ca  ++ (wA ad ca tx ln lb bg ch ct ia ++ (wW ad ca wo ++ (wP ad ca me nu ro un li pt st cy pl bk en kc)))))) := hD
        refine lv_aload_n hx hb d_law_499 rfl (lv_at hl 2 rfl) ?_
        refine lv_aload_n hx hb d_law_500 rfl (lv_at hl 0 rfl) ?_
        refine lv_iload hx hb d_law_501 (lv_at hl 4 rfl) ?_
        refine lv_iconst (v := nI 1) hx hb d_law_503 (by decide) ?_
        refine lv_iadd hx hb d_law_504 ?_
        refine zti (y := nI (i + 1)) (nI_add _ _) ?_
        refine va_sld hx hb hX0 hbl hbA hS (vp_in_nI (n := i + 1) (by omega) (by omega)) d_law_505 ?_
        refine zti (y := xs (i + 1)) (congrArg xs (nI_clamp (by omega))) ?_
        refine zgo_i (wr := wO ad ca o ++ wX ad ca  ++ wA ad ca tx ln lb bg ch ct ia ++ wW ad ca wo ++ wP ad ca me nu ro un li pt st cy pl bk en kc) C0 (zrunV (na := 1) (As := [.int (xs (i + 1))]) (rest := [.int (dsp (xs (i + 1)) nu)]) C0 hP hD hS [1, 2, 3, 4, 5, 6, 7, 8, 9] rfl rfl (m_Mo_display l D ca k H.size ad cd po nu pt st cy pl bk me kc ro' en' un' li' ln tx ia ct' md lb' wn (xs (i + 1)) J.1.2.1 J.2.2.2.2.2.2.2.2) (zg_V q786 q787 q788 q7 q789) (by decide +kernel) rfl rfl ⟨by decide, by decide⟩ 1 rfl rfl rfl hl.1 rfl (Nat.le_of_ble_eq_true rfl) d_law_506 ⟨hce, hsl⟩) hP hD hS [1, 2, 3, 4, 5, 6, 7, 8, 9] [0, 10, 11, 12, 13, 14, 15, 16, 17, 18, 19, 20, 21] rfl rfl (by decide) (by decide) (fun r43 w1 H locs hw hP hD hS => ?_)
        obtain ⟨rfl, rfl⟩ := hw
        have hP : va_P D vCl (wO ad ca o ++ (wX ad ca  ++ (wA ad ca tx ln lb bg ch ct ia ++ (wW ad ca wo ++ (wP ad ca me nu ro un li pt st cy pl bk en kc ++ (wM ad ca 0 po nu pt st cy pl bk me kc ro' en' un' li' ln tx ia ct' md lb' wn)))))) H := hP
        have hD : va_D A (wO ad ca o ++ (wX ad ca  ++ (wA ad ca tx ln lb bg ch ct ia ++ (wW ad ca wo ++ (wP ad ca me nu ro un li pt st cy pl bk en kc ++ (wM ad ca 0 po nu pt st cy pl bk me kc ro' en' un' li' ln tx ia ct' md lb' wn)))))) := hD
        refine lv_icmp_eq (tgt := 514) hx hb d_law_509 (by decide) (fun _ => ?_) (fun h => absurd rfl h)
        refine lv_iinc (k := 4) (v := nI (i + 4)) hx hb d_law_514 hl rfl (zinc4 _) (by decide) rfl (fun ls hl => ?_)
        have hl : lv_has ls 7 [(4, .int (nI (i + 4))), (0, .ref b), (1, .ref (ad 0)), (2, .ref (ad 12)), (3, .ref (ad 21))] := hl
        refine lv_goto (tgt := 23) hx hb d_law_517 (by decide) ?_
        exact ih (i + 4) ce sl o tx ln lb bg ch ct ia wo me nu ro un li pt st cy pl bk en kc 0 po ro' en' un' li' ct' md lb' wn H locs ls (by omega) (by omega) (by omega) (by omega) J (lv_sub hl [1, 2, 3, 4, 0] rfl) hP hD hS
      · skip
        refine lv_tableOut (tgt := 514) hx hb d_law_39 (by decide) (by decide) ?_
        refine lv_iinc (k := 4) (v := nI (i + 4)) hx hb d_law_514 hl rfl (zinc4 _) (by decide) rfl (fun ls hl => ?_)
        have hl : lv_has ls 7 [(4, .int (nI (i + 4))), (0, .ref b), (1, .ref (ad 0)), (2, .ref (ad 12)), (3, .ref (ad 21))] := hl
        refine lv_goto (tgt := 23) hx hb d_law_517 (by decide) ?_
        exact ih (i + 4) ce sl o tx ln lb bg ch ct ia wo me nu ro un li pt st cy pl bk en kc cd po ro' en' un' li' ct' md lb' wn H locs ls (by omega) (by omega) (by omega) (by omega) J (lv_sub hl [1, 2, 3, 4, 0] rfl) hP hD hS
      · skip
        refine lv_tableOut (tgt := 514) hx hb d_law_39 (by decide) (by decide) ?_
        refine lv_iinc (k := 4) (v := nI (i + 4)) hx hb d_law_514 hl rfl (zinc4 _) (by decide) rfl (fun ls hl => ?_)
        have hl : lv_has ls 7 [(4, .int (nI (i + 4))), (0, .ref b), (1, .ref (ad 0)), (2, .ref (ad 12)), (3, .ref (ad 21))] := hl
        refine lv_goto (tgt := 23) hx hb d_law_517 (by decide) ?_
        exact ih (i + 4) ce sl o tx ln lb bg ch ct ia wo me nu ro un li pt st cy pl bk en kc cd po ro' en' un' li' ct' md lb' wn H locs ls (by omega) (by omega) (by omega) (by omega) J (lv_sub hl [1, 2, 3, 4, 0] rfl) hP hD hS
      · skip
        refine lv_tableOut (tgt := 514) hx hb d_law_39 (by decide) (by decide) ?_
        refine lv_iinc (k := 4) (v := nI (i + 4)) hx hb d_law_514 hl rfl (zinc4 _) (by decide) rfl (fun ls hl => ?_)
        have hl : lv_has ls 7 [(4, .int (nI (i + 4))), (0, .ref b), (1, .ref (ad 0)), (2, .ref (ad 12)), (3, .ref (ad 21))] := hl
        refine lv_goto (tgt := 23) hx hb d_law_517 (by decide) ?_
        exact ih (i + 4) ce sl o tx ln lb bg ch ct ia wo me nu ro un li pt st cy pl bk en kc cd po ro' en' un' li' ct' md lb' wn H locs ls (by omega) (by omega) (by omega) (by omega) J (lv_sub hl [1, 2, 3, 4, 0] rfl) hP hD hS
