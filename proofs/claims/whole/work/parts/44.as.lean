set_option maxHeartbeats 4000000 in
set_option maxRecDepth 100000 in
theorem m_Ar_fill (l : Launch) (D : va_G) (ca : Nat → ClassId) (k : Nat → Nat) (sz : Nat) (ad : Nat → Nat) (tx : Nat → Nat) (ln : Nat) (lb : Nat → Int32) (bg : Nat → Nat) (ch : Int32) (ct : Nat) (ia : Int32) (x : Int32) : Met l y_Ar_fill (zw y_Ar_fill c_Ar_fill 4 none) { frames := 0, cells := 0, slots := 0, locals := 0 } (va_Pc [.ref (ad 3), .int x] (zPre D (zty ca) k (wA ad ca tx ln lb bg ch ct ia) sz)) (va_Qv (fun w => w = wA ad ca tx ln (fil lb x 26) bg ch ct ia) (zB D (zty ca) (wA ad ca tx ln lb bg ch ct ia) sz) (va_A (wA ad ca tx ln lb bg ch ct ia) sz)) 0 0 (va_A (wA ad ca tx ln lb bg ch ct ia) sz) := by
  refine zOfF (own := "java/util/Arrays") (by decide +kernel) rfl (Nat.le_of_ble_eq_true rfl) ?_
  intro p e s m below meth c A ls C0 hr hnm hAe hsz hl hP hD hS
  have hl : lv_has ls 4 [(0, .ref (ad 3)), (1, .int x)] := hl
  obtain ⟨hx, hb, hml, hown, ht, hK, hX, hA, hlk⟩ := id C0
  refine lv_iconst (v := nI 0) hx hb d_Ar_fill_0 (by decide) ?_
  refine lv_istore_n hx hb d_Ar_fill_1 rfl hl (by decide) rfl (fun ls hl => ?_)
  have hl : lv_has ls 4 [(2, .int (nI 0)), (0, .ref (ad 3)), (1, .int x)] := hl
  refine lv_aload_n hx hb d_Ar_fill_2 rfl (lv_at hl 1 rfl) ?_
  refine va_alen hx hb hK hP 2 0 rfl rfl (v := nI 26) rfl d_Ar_fill_3 ?_
  refine lv_istore_n hx hb d_Ar_fill_4 rfl hl (by decide) rfl (fun ls hl => ?_)
  have hl : lv_has ls 4 [(3, .int (nI 26)), (2, .int (nI 0)), (0, .ref (ad 3)), (1, .int x)] := hl
  have loop_lp : ∀ (n_lp : Nat) (i : Nat) (H : Heap) (locs : List Loc) (ls : Array Slot), 26 - i < n_lp → (i ≤ 26) → lv_has ls 4 [(2, .int (nI i)), (3, .int (nI 26)), (0, .ref (ad 3)), (1, .int x)] → va_P D vCl (wA ad ca tx ln (fil lb x i) bg ch ct ia) H → va_D A (wA ad ca tx ln (fil lb x i) bg ch ct ia) → va_S A s.heap H locs → W p l e { frames := 0, cells := 0, slots := 0, locals := 0 } s m ([.ref (ad 3), .int x] : List Value).toArray below meth c H locs 0 0 (MQ below (va_Qv (fun w => w = wA ad ca tx ln (fil lb x 26) bg ch ct ia) (zB D (zty ca) (wA ad ca tx ln lb bg ch ct ia) sz) (va_A (wA ad ca tx ln lb bg ch ct ia) sz)) ([.ref (ad 3), .int x] : List Value).toArray s 0 0 (va_A (wA ad ca tx ln lb bg ch ct ia) sz)) (F0 m 5 ls []) := by
    intro n_lp
    induction n_lp with
    | zero => intro i H locs ls hm; exact absurd hm (Nat.not_lt_zero _)
    | succ n_lp ih_lp =>
      intro i H locs ls hm hi hl hP hD hS
      refine lv_iload_n hx hb d_Ar_fill_5 rfl (lv_at hl 0 rfl) ?_
      refine lv_iload_n hx hb d_Ar_fill_6 rfl (lv_at hl 1 rfl) ?_
      refine lv_icmp_ge (tgt := 20) hx hb d_Ar_fill_7 (by decide) (fun h1 => ?_) (fun h1 => ?_)
      · skip
        have h1 : (26 ≤ i) := (nI_leI (by omega) (by omega)).mp h1
        exact zret_v C0 hr hAe hP hD hS (by rw [show i = 26 by omega]) d_Ar_fill_20
      · skip
        have h1 : ¬ (26 ≤ i) := fun z => h1 ((nI_leI (by omega) (by omega)).mpr z)
        refine lv_aload_n hx hb d_Ar_fill_10 rfl (lv_at hl 2 rfl) ?_
        refine lv_iload_n hx hb d_Ar_fill_11 rfl (lv_at hl 0 rfl) ?_
        refine lv_iload_n hx hb d_Ar_fill_12 rfl (lv_at hl 3 rfl) ?_
        refine va_iast hx hb hK hP hD hS 2 0 rfl rfl (vp_in_nI (n := i) (by omega) (by decide)) d_Ar_fill_13 (fun H locs hP hD hS => ?_)
        rw [rF_up (by omega)] at hP hD
        have hP : va_P D vCl (wA ad ca tx ln (upd (fil lb x i) i x) bg ch ct ia) H := hP
        have hD : va_D A (wA ad ca tx ln (upd (fil lb x i) i x) bg ch ct ia) := hD
        refine lv_iinc (k := 0) (v := nI (i + 1)) hx hb d_Ar_fill_14 hl rfl (zinc _) (by decide) rfl (fun ls hl => ?_)
        have hl : lv_has ls 4 [(2, .int (nI (i + 1))), (3, .int (nI 26)), (0, .ref (ad 3)), (1, .int x)] := hl
        refine lv_goto (tgt := 5) hx hb d_Ar_fill_17 (by decide) ?_
        rw [fil_s] at hP hD
        exact ih_lp (i + 1) H locs ls (by omega) (by omega) hl hP hD hS
  exact loop_lp (27) 0 _ _ _ (by omega) (by omega) (lv_sub hl [1, 0, 2, 3] rfl) hP hD hS
