set_option maxHeartbeats 4000000 in
set_option maxRecDepth 100000 in
theorem m_Mo_numberAt (l : Launch) (D : va_G) (ca : Nat → ClassId) (k : Nat → Nat) (sz : Nat) (ad : Nat → Nat) (op : Nat) (hop : op < 16) : Met l y_Mo_numberAt (zw y_Mo_numberAt c_Mo_numberAt 1 (some .int)) { frames := 0, cells := 0, slots := 0, locals := 0 } (va_Pc [.int (nI op)] (zPre D (zty ca) k ([]) sz)) (va_Qi (fun r w => (naO op = none ∧ r = (-1) ∧ w = []) ∨ (∃ a, naO op = some a ∧ a < 4 ∧ r = nI a ∧ w = [])) (zB D (zty ca) ([]) sz) (va_A ([]) sz)) 0 0 (va_A ([]) sz) := by
  refine zOf (own := "DigitChipModel") (by decide +kernel) rfl (Nat.le_of_ble_eq_true rfl) ?_
  intro p e s m below meth c A ls C0 hr hnm hAe hsz hl hP hD hS
  have hl : lv_has ls 1 [(0, .int (nI op))] := hl
  obtain ⟨hx, hb, hml, hown, ht, hK, hX, hA, hlk⟩ := id C0
  rcases (show op = 0 ∨ op = 1 ∨ op = 2 ∨ op = 3 ∨ op = 4 ∨ op = 5 ∨ op = 6 ∨ op = 7 ∨ op = 8 ∨ op = 9 ∨ op = 10 ∨ op = 11 ∨ op = 12 ∨ op = 13 ∨ op = 14 ∨ op = 15 from by omega) with rfl | rfl | rfl | rfl | rfl | rfl | rfl | rfl | rfl | rfl | rfl | rfl | rfl | rfl | rfl | rfl
  · skip
    refine lv_iload_n hx hb d_Mo_numberAt_0 rfl (lv_at hl 0 rfl) ?_
    refine lv_iconst (v := nI 2) hx hb d_Mo_numberAt_1 (by decide) ?_
    refine lv_icmp_ne (tgt := 9) hx hb d_Mo_numberAt_2 (by decide) (fun _ => ?_) (fun h1 => absurd h1 (by decide))
    refine lv_iload_n hx hb d_Mo_numberAt_9 rfl (lv_at hl 0 rfl) ?_
    refine lv_iconst (v := nI 1) hx hb d_Mo_numberAt_10 (by decide) ?_
    refine lv_icmp_eq (tgt := 19) hx hb d_Mo_numberAt_11 (by decide) (fun h2 => absurd h2 (by decide)) (fun _ => ?_)
    refine lv_iload_n hx hb d_Mo_numberAt_14 rfl (lv_at hl 0 rfl) ?_
    refine lv_iconst (v := nI 5) hx hb d_Mo_numberAt_15 (by decide) ?_
    refine lv_icmp_ne (tgt := 23) hx hb d_Mo_numberAt_16 (by decide) (fun _ => ?_) (fun h3 => absurd h3 (by decide))
    refine lv_iload_n hx hb d_Mo_numberAt_23 rfl (lv_at hl 0 rfl) ?_
    refine lv_iconst (v := nI 3) hx hb d_Mo_numberAt_24 (by decide) ?_
    refine lv_icmp_eq (tgt := 39) hx hb d_Mo_numberAt_25 (by decide) (fun h4 => absurd h4 (by decide)) (fun _ => ?_)
    refine lv_iload_n hx hb d_Mo_numberAt_28 rfl (lv_at hl 0 rfl) ?_
    refine lv_iconst (v := nI 4) hx hb d_Mo_numberAt_29 (by decide) ?_
    refine lv_icmp_eq (tgt := 39) hx hb d_Mo_numberAt_30 (by decide) (fun h5 => absurd h5 (by decide)) (fun _ => ?_)
    refine lv_iload_n hx hb d_Mo_numberAt_33 rfl (lv_at hl 0 rfl) ?_
    refine lv_bipush (v := nI 6) hx hb d_Mo_numberAt_34 (by decide) ?_
    refine lv_icmp_ne (tgt := 43) hx hb d_Mo_numberAt_36 (by decide) (fun _ => ?_) (fun h6 => absurd h6 (by decide))
    refine lv_iconst (v := (-1)) hx hb d_Mo_numberAt_43 (by decide) ?_
    exact zret_i C0 hr hAe hP hD hS (Or.inl ⟨rfl, rfl, rfl⟩) d_Mo_numberAt_44
  · skip
    refine lv_iload_n hx hb d_Mo_numberAt_0 rfl (lv_at hl 0 rfl) ?_
    refine lv_iconst (v := nI 2) hx hb d_Mo_numberAt_1 (by decide) ?_
    refine lv_icmp_ne (tgt := 9) hx hb d_Mo_numberAt_2 (by decide) (fun _ => ?_) (fun h7 => absurd h7 (by decide))
    refine lv_iload_n hx hb d_Mo_numberAt_9 rfl (lv_at hl 0 rfl) ?_
    refine lv_iconst (v := nI 1) hx hb d_Mo_numberAt_10 (by decide) ?_
    refine lv_icmp_eq (tgt := 19) hx hb d_Mo_numberAt_11 (by decide) (fun _ => ?_) (fun h8 => absurd (by decide) h8)
    refine lv_iconst (v := nI 2) hx hb d_Mo_numberAt_19 (by decide) ?_
    refine lv_goto (tgt := 44) hx hb d_Mo_numberAt_20 (by decide) ?_
    exact zret_i C0 hr hAe hP hD hS (Or.inr ⟨2, rfl, by decide, rfl, rfl⟩) d_Mo_numberAt_44
  · skip
    refine lv_iload_n hx hb d_Mo_numberAt_0 rfl (lv_at hl 0 rfl) ?_
    refine lv_iconst (v := nI 2) hx hb d_Mo_numberAt_1 (by decide) ?_
    refine lv_icmp_ne (tgt := 9) hx hb d_Mo_numberAt_2 (by decide) (fun h9 => absurd (by decide) h9) (fun _ => ?_)
    refine lv_iconst (v := nI 3) hx hb d_Mo_numberAt_5 (by decide) ?_
    refine lv_goto (tgt := 44) hx hb d_Mo_numberAt_6 (by decide) ?_
    exact zret_i C0 hr hAe hP hD hS (Or.inr ⟨3, rfl, by decide, rfl, rfl⟩) d_Mo_numberAt_44
  · skip
    refine lv_iload_n hx hb d_Mo_numberAt_0 rfl (lv_at hl 0 rfl) ?_
    refine lv_iconst (v := nI 2) hx hb d_Mo_numberAt_1 (by decide) ?_
    refine lv_icmp_ne (tgt := 9) hx hb d_Mo_numberAt_2 (by decide) (fun _ => ?_) (fun h10 => absurd h10 (by decide))
    refine lv_iload_n hx hb d_Mo_numberAt_9 rfl (lv_at hl 0 rfl) ?_
    refine lv_iconst (v := nI 1) hx hb d_Mo_numberAt_10 (by decide) ?_
    refine lv_icmp_eq (tgt := 19) hx hb d_Mo_numberAt_11 (by decide) (fun h11 => absurd h11 (by decide)) (fun _ => ?_)
    refine lv_iload_n hx hb d_Mo_numberAt_14 rfl (lv_at hl 0 rfl) ?_
    refine lv_iconst (v := nI 5) hx hb d_Mo_numberAt_15 (by decide) ?_
    refine lv_icmp_ne (tgt := 23) hx hb d_Mo_numberAt_16 (by decide) (fun _ => ?_) (fun h12 => absurd h12 (by decide))
    refine lv_iload_n hx hb d_Mo_numberAt_23 rfl (lv_at hl 0 rfl) ?_
    refine lv_iconst (v := nI 3) hx hb d_Mo_numberAt_24 (by decide) ?_
    refine lv_icmp_eq (tgt := 39) hx hb d_Mo_numberAt_25 (by decide) (fun _ => ?_) (fun h13 => absurd (by decide) h13)
    refine lv_iconst (v := nI 1) hx hb d_Mo_numberAt_39 (by decide) ?_
    refine lv_goto (tgt := 44) hx hb d_Mo_numberAt_40 (by decide) ?_
    exact zret_i C0 hr hAe hP hD hS (Or.inr ⟨1, rfl, by decide, rfl, rfl⟩) d_Mo_numberAt_44
  · skip
    refine lv_iload_n hx hb d_Mo_numberAt_0 rfl (lv_at hl 0 rfl) ?_
    refine lv_iconst (v := nI 2) hx hb d_Mo_numberAt_1 (by decide) ?_
    refine lv_icmp_ne (tgt := 9) hx hb d_Mo_numberAt_2 (by decide) (fun _ => ?_) (fun h14 => absurd h14 (by decide))
    refine lv_iload_n hx hb d_Mo_numberAt_9 rfl (lv_at hl 0 rfl) ?_
    refine lv_iconst (v := nI 1) hx hb d_Mo_numberAt_10 (by decide) ?_
    refine lv_icmp_eq (tgt := 19) hx hb d_Mo_numberAt_11 (by decide) (fun h15 => absurd h15 (by decide)) (fun _ => ?_)
    refine lv_iload_n hx hb d_Mo_numberAt_14 rfl (lv_at hl 0 rfl) ?_
    refine lv_iconst (v := nI 5) hx hb d_Mo_numberAt_15 (by decide) ?_
    refine lv_icmp_ne (tgt := 23) hx hb d_Mo_numberAt_16 (by decide) (fun _ => ?_) (fun h16 => absurd h16 (by decide))
    refine lv_iload_n hx hb d_Mo_numberAt_23 rfl (lv_at hl 0 rfl) ?_
    refine lv_iconst (v := nI 3) hx hb d_Mo_numberAt_24 (by decide) ?_
    refine lv_icmp_eq (tgt := 39) hx hb d_Mo_numberAt_25 (by decide) (fun h17 => absurd h17 (by decide)) (fun _ => ?_)
    refine lv_iload_n hx hb d_Mo_numberAt_28 rfl (lv_at hl 0 rfl) ?_
    refine lv_iconst (v := nI 4) hx hb d_Mo_numberAt_29 (by decide) ?_
    refine lv_icmp_eq (tgt := 39) hx hb d_Mo_numberAt_30 (by decide) (fun _ => ?_) (fun h18 => absurd (by decide) h18)
    refine lv_iconst (v := nI 1) hx hb d_Mo_numberAt_39 (by decide) ?_
    refine lv_goto (tgt := 44) hx hb d_Mo_numberAt_40 (by decide) ?_
    exact zret_i C0 hr hAe hP hD hS (Or.inr ⟨1, rfl, by decide, rfl, rfl⟩) d_Mo_numberAt_44
  · skip
    refine lv_iload_n hx hb d_Mo_numberAt_0 rfl (lv_at hl 0 rfl) ?_
    refine lv_iconst (v := nI 2) hx hb d_Mo_numberAt_1 (by decide) ?_
    refine lv_icmp_ne (tgt := 9) hx hb d_Mo_numberAt_2 (by decide) (fun _ => ?_) (fun h19 => absurd h19 (by decide))
    refine lv_iload_n hx hb d_Mo_numberAt_9 rfl (lv_at hl 0 rfl) ?_
    refine lv_iconst (v := nI 1) hx hb d_Mo_numberAt_10 (by decide) ?_
    refine lv_icmp_eq (tgt := 19) hx hb d_Mo_numberAt_11 (by decide) (fun h20 => absurd h20 (by decide)) (fun _ => ?_)
    refine lv_iload_n hx hb d_Mo_numberAt_14 rfl (lv_at hl 0 rfl) ?_
    refine lv_iconst (v := nI 5) hx hb d_Mo_numberAt_15 (by decide) ?_
    refine lv_icmp_ne (tgt := 23) hx hb d_Mo_numberAt_16 (by decide) (fun h21 => absurd (by decide) h21) (fun _ => ?_)
    refine lv_iconst (v := nI 2) hx hb d_Mo_numberAt_19 (by decide) ?_
    refine lv_goto (tgt := 44) hx hb d_Mo_numberAt_20 (by decide) ?_
    exact zret_i C0 hr hAe hP hD hS (Or.inr ⟨2, rfl, by decide, rfl, rfl⟩) d_Mo_numberAt_44
  · skip
    refine lv_iload_n hx hb d_Mo_numberAt_0 rfl (lv_at hl 0 rfl) ?_
    refine lv_iconst (v := nI 2) hx hb d_Mo_numberAt_1 (by decide) ?_
    refine lv_icmp_ne (tgt := 9) hx hb d_Mo_numberAt_2 (by decide) (fun _ => ?_) (fun h22 => absurd h22 (by decide))
    refine lv_iload_n hx hb d_Mo_numberAt_9 rfl (lv_at hl 0 rfl) ?_
    refine lv_iconst (v := nI 1) hx hb d_Mo_numberAt_10 (by decide) ?_
    refine lv_icmp_eq (tgt := 19) hx hb d_Mo_numberAt_11 (by decide) (fun h23 => absurd h23 (by decide)) (fun _ => ?_)
    refine lv_iload_n hx hb d_Mo_numberAt_14 rfl (lv_at hl 0 rfl) ?_
    refine lv_iconst (v := nI 5) hx hb d_Mo_numberAt_15 (by decide) ?_
    refine lv_icmp_ne (tgt := 23) hx hb d_Mo_numberAt_16 (by decide) (fun _ => ?_) (fun h24 => absurd h24 (by decide))
    refine lv_iload_n hx hb d_Mo_numberAt_23 rfl (lv_at hl 0 rfl) ?_
    refine lv_iconst (v := nI 3) hx hb d_Mo_numberAt_24 (by decide) ?_
    refine lv_icmp_eq (tgt := 39) hx hb d_Mo_numberAt_25 (by decide) (fun h25 => absurd h25 (by decide)) (fun _ => ?_)
    refine lv_iload_n hx hb d_Mo_numberAt_28 rfl (lv_at hl 0 rfl) ?_
    refine lv_iconst (v := nI 4) hx hb d_Mo_numberAt_29 (by decide) ?_
    refine lv_icmp_eq (tgt := 39) hx hb d_Mo_numberAt_30 (by decide) (fun h26 => absurd h26 (by decide)) (fun _ => ?_)
    refine lv_iload_n hx hb d_Mo_numberAt_33 rfl (lv_at hl 0 rfl) ?_
    refine lv_bipush (v := nI 6) hx hb d_Mo_numberAt_34 (by decide) ?_
    refine lv_icmp_ne (tgt := 43) hx hb d_Mo_numberAt_36 (by decide) (fun h27 => absurd (by decide) h27) (fun _ => ?_)
    refine lv_iconst (v := nI 1) hx hb d_Mo_numberAt_39 (by decide) ?_
    refine lv_goto (tgt := 44) hx hb d_Mo_numberAt_40 (by decide) ?_
    exact zret_i C0 hr hAe hP hD hS (Or.inr ⟨1, rfl, by decide, rfl, rfl⟩) d_Mo_numberAt_44
  · skip
    refine lv_iload_n hx hb d_Mo_numberAt_0 rfl (lv_at hl 0 rfl) ?_
    refine lv_iconst (v := nI 2) hx hb d_Mo_numberAt_1 (by decide) ?_
    refine lv_icmp_ne (tgt := 9) hx hb d_Mo_numberAt_2 (by decide) (fun _ => ?_) (fun h28 => absurd h28 (by decide))
    refine lv_iload_n hx hb d_Mo_numberAt_9 rfl (lv_at hl 0 rfl) ?_
    refine lv_iconst (v := nI 1) hx hb d_Mo_numberAt_10 (by decide) ?_
    refine lv_icmp_eq (tgt := 19) hx hb d_Mo_numberAt_11 (by decide) (fun h29 => absurd h29 (by decide)) (fun _ => ?_)
    refine lv_iload_n hx hb d_Mo_numberAt_14 rfl (lv_at hl 0 rfl) ?_
    refine lv_iconst (v := nI 5) hx hb d_Mo_numberAt_15 (by decide) ?_
    refine lv_icmp_ne (tgt := 23) hx hb d_Mo_numberAt_16 (by decide) (fun _ => ?_) (fun h30 => absurd h30 (by decide))
    refine lv_iload_n hx hb d_Mo_numberAt_23 rfl (lv_at hl 0 rfl) ?_
    refine lv_iconst (v := nI 3) hx hb d_Mo_numberAt_24 (by decide) ?_
    refine lv_icmp_eq (tgt := 39) hx hb d_Mo_numberAt_25 (by decide) (fun h31 => absurd h31 (by decide)) (fun _ => ?_)
    refine lv_iload_n hx hb d_Mo_numberAt_28 rfl (lv_at hl 0 rfl) ?_
    refine lv_iconst (v := nI 4) hx hb d_Mo_numberAt_29 (by decide) ?_
    refine lv_icmp_eq (tgt := 39) hx hb d_Mo_numberAt_30 (by decide) (fun h32 => absurd h32 (by decide)) (fun _ => ?_)
    refine lv_iload_n hx hb d_Mo_numberAt_33 rfl (lv_at hl 0 rfl) ?_
    refine lv_bipush (v := nI 6) hx hb d_Mo_numberAt_34 (by decide) ?_
    refine lv_icmp_ne (tgt := 43) hx hb d_Mo_numberAt_36 (by decide) (fun _ => ?_) (fun h33 => absurd h33 (by decide))
    refine lv_iconst (v := (-1)) hx hb d_Mo_numberAt_43 (by decide) ?_
    exact zret_i C0 hr hAe hP hD hS (Or.inl ⟨rfl, rfl, rfl⟩) d_Mo_numberAt_44
  · skip
    refine lv_iload_n hx hb d_Mo_numberAt_0 rfl (lv_at hl 0 rfl) ?_
    refine lv_iconst (v := nI 2) hx hb d_Mo_numberAt_1 (by decide) ?_
    refine lv_icmp_ne (tgt := 9) hx hb d_Mo_numberAt_2 (by decide) (fun _ => ?_) (fun h34 => absurd h34 (by decide))
    refine lv_iload_n hx hb d_Mo_numberAt_9 rfl (lv_at hl 0 rfl) ?_
    refine lv_iconst (v := nI 1) hx hb d_Mo_numberAt_10 (by decide) ?_
    refine lv_icmp_eq (tgt := 19) hx hb d_Mo_numberAt_11 (by decide) (fun h35 => absurd h35 (by decide)) (fun _ => ?_)
    refine lv_iload_n hx hb d_Mo_numberAt_14 rfl (lv_at hl 0 rfl) ?_
    refine lv_iconst (v := nI 5) hx hb d_Mo_numberAt_15 (by decide) ?_
    refine lv_icmp_ne (tgt := 23) hx hb d_Mo_numberAt_16 (by decide) (fun _ => ?_) (fun h36 => absurd h36 (by decide))
    refine lv_iload_n hx hb d_Mo_numberAt_23 rfl (lv_at hl 0 rfl) ?_
    refine lv_iconst (v := nI 3) hx hb d_Mo_numberAt_24 (by decide) ?_
    refine lv_icmp_eq (tgt := 39) hx hb d_Mo_numberAt_25 (by decide) (fun h37 => absurd h37 (by decide)) (fun _ => ?_)
    refine lv_iload_n hx hb d_Mo_numberAt_28 rfl (lv_at hl 0 rfl) ?_
    refine lv_iconst (v := nI 4) hx hb d_Mo_numberAt_29 (by decide) ?_
    refine lv_icmp_eq (tgt := 39) hx hb d_Mo_numberAt_30 (by decide) (fun h38 => absurd h38 (by decide)) (fun _ => ?_)
    refine lv_iload_n hx hb d_Mo_numberAt_33 rfl (lv_at hl 0 rfl) ?_
    refine lv_bipush (v := nI 6) hx hb d_Mo_numberAt_34 (by decide) ?_
    refine lv_icmp_ne (tgt := 43) hx hb d_Mo_numberAt_36 (by decide) (fun _ => ?_) (fun h39 => absurd h39 (by decide))
    refine lv_iconst (v := (-1)) hx hb d_Mo_numberAt_43 (by decide) ?_
    exact zret_i C0 hr hAe hP hD hS (Or.inl ⟨rfl, rfl, rfl⟩) d_Mo_numberAt_44
  · skip
    refine lv_iload_n hx hb d_Mo_numberAt_0 rfl (lv_at hl 0 rfl) ?_
    refine lv_iconst (v := nI 2) hx hb d_Mo_numberAt_1 (by decide) ?_
    refine lv_icmp_ne (tgt := 9) hx hb d_Mo_numberAt_2 (by decide) (fun _ => ?_) (fun h40 => absurd h40 (by decide))
    refine lv_iload_n hx hb d_Mo_numberAt_9 rfl (lv_at hl 0 rfl) ?_
    refine lv_iconst (v := nI 1) hx hb d_Mo_numberAt_10 (by decide) ?_
    refine lv_icmp_eq (tgt := 19) hx hb d_Mo_numberAt_11 (by decide) (fun h41 => absurd h41 (by decide)) (fun _ => ?_)
    refine lv_iload_n hx hb d_Mo_numberAt_14 rfl (lv_at hl 0 rfl) ?_
    refine lv_iconst (v := nI 5) hx hb d_Mo_numberAt_15 (by decide) ?_
    refine lv_icmp_ne (tgt := 23) hx hb d_Mo_numberAt_16 (by decide) (fun _ => ?_) (fun h42 => absurd h42 (by decide))
    refine lv_iload_n hx hb d_Mo_numberAt_23 rfl (lv_at hl 0 rfl) ?_
    refine lv_iconst (v := nI 3) hx hb d_Mo_numberAt_24 (by decide) ?_
    refine lv_icmp_eq (tgt := 39) hx hb d_Mo_numberAt_25 (by decide) (fun h43 => absurd h43 (by decide)) (fun _ => ?_)
    refine lv_iload_n hx hb d_Mo_numberAt_28 rfl (lv_at hl 0 rfl) ?_
    refine lv_iconst (v := nI 4) hx hb d_Mo_numberAt_29 (by decide) ?_
    refine lv_icmp_eq (tgt := 39) hx hb d_Mo_numberAt_30 (by decide) (fun h44 => absurd h44 (by decide)) (fun _ => ?_)
    refine lv_iload_n hx hb d_Mo_numberAt_33 rfl (lv_at hl 0 rfl) ?_
    refine lv_bipush (v := nI 6) hx hb d_Mo_numberAt_34 (by decide) ?_
    refine lv_icmp_ne (tgt := 43) hx hb d_Mo_numberAt_36 (by decide) (fun _ => ?_) (fun h45 => absurd h45 (by decide))
    refine lv_iconst (v := (-1)) hx hb d_Mo_numberAt_43 (by decide) ?_
    exact zret_i C0 hr hAe hP hD hS (Or.inl ⟨rfl, rfl, rfl⟩) d_Mo_numberAt_44
  · skip
    refine lv_iload_n hx hb d_Mo_numberAt_0 rfl (lv_at hl 0 rfl) ?_
    refine lv_iconst (v := nI 2) hx hb d_Mo_numberAt_1 (by decide) ?_
    refine lv_icmp_ne (tgt := 9) hx hb d_Mo_numberAt_2 (by decide) (fun _ => ?_) (fun h46 => absurd h46 (by decide))
    refine lv_iload_n hx hb d_Mo_numberAt_9 rfl (lv_at hl 0 rfl) ?_
    refine lv_iconst (v := nI 1) hx hb d_Mo_numberAt_10 (by decide) ?_
    refine lv_icmp_eq (tgt := 19) hx hb d_Mo_numberAt_11 (by decide) (fun h47 => absurd h47 (by decide)) (fun _ => ?_)
    refine lv_iload_n hx hb d_Mo_numberAt_14 rfl (lv_at hl 0 rfl) ?_
    refine lv_iconst (v := nI 5) hx hb d_Mo_numberAt_15 (by decide) ?_
    refine lv_icmp_ne (tgt := 23) hx hb d_Mo_numberAt_16 (by decide) (fun _ => ?_) (fun h48 => absurd h48 (by decide))
    refine lv_iload_n hx hb d_Mo_numberAt_23 rfl (lv_at hl 0 rfl) ?_
    refine lv_iconst (v := nI 3) hx hb d_Mo_numberAt_24 (by decide) ?_
    refine lv_icmp_eq (tgt := 39) hx hb d_Mo_numberAt_25 (by decide) (fun h49 => absurd h49 (by decide)) (fun _ => ?_)
    refine lv_iload_n hx hb d_Mo_numberAt_28 rfl (lv_at hl 0 rfl) ?_
    refine lv_iconst (v := nI 4) hx hb d_Mo_numberAt_29 (by decide) ?_
    refine lv_icmp_eq (tgt := 39) hx hb d_Mo_numberAt_30 (by decide) (fun h50 => absurd h50 (by decide)) (fun _ => ?_)
    refine lv_iload_n hx hb d_Mo_numberAt_33 rfl (lv_at hl 0 rfl) ?_
    refine lv_bipush (v := nI 6) hx hb d_Mo_numberAt_34 (by decide) ?_
    refine lv_icmp_ne (tgt := 43) hx hb d_Mo_numberAt_36 (by decide) (fun _ => ?_) (fun h51 => absurd h51 (by decide))
    refine lv_iconst (v := (-1)) hx hb d_Mo_numberAt_43 (by decide) ?_
    exact zret_i C0 hr hAe hP hD hS (Or.inl ⟨rfl, rfl, rfl⟩) d_Mo_numberAt_44
  · skip
    refine lv_iload_n hx hb d_Mo_numberAt_0 rfl (lv_at hl 0 rfl) ?_
    refine lv_iconst (v := nI 2) hx hb d_Mo_numberAt_1 (by decide) ?_
    refine lv_icmp_ne (tgt := 9) hx hb d_Mo_numberAt_2 (by decide) (fun _ => ?_) (fun h52 => absurd h52 (by decide))
    refine lv_iload_n hx hb d_Mo_numberAt_9 rfl (lv_at hl 0 rfl) ?_
    refine lv_iconst (v := nI 1) hx hb d_Mo_numberAt_10 (by decide) ?_
    refine lv_icmp_eq (tgt := 19) hx hb d_Mo_numberAt_11 (by decide) (fun h53 => absurd h53 (by decide)) (fun _ => ?_)
    refine lv_iload_n hx hb d_Mo_numberAt_14 rfl (lv_at hl 0 rfl) ?_
    refine lv_iconst (v := nI 5) hx hb d_Mo_numberAt_15 (by decide) ?_
    refine lv_icmp_ne (tgt := 23) hx hb d_Mo_numberAt_16 (by decide) (fun _ => ?_) (fun h54 => absurd h54 (by decide))
    refine lv_iload_n hx hb d_Mo_numberAt_23 rfl (lv_at hl 0 rfl) ?_
    refine lv_iconst (v := nI 3) hx hb d_Mo_numberAt_24 (by decide) ?_
    refine lv_icmp_eq (tgt := 39) hx hb d_Mo_numberAt_25 (by decide) (fun h55 => absurd h55 (by decide)) (fun _ => ?_)
    refine lv_iload_n hx hb d_Mo_numberAt_28 rfl (lv_at hl 0 rfl) ?_
    refine lv_iconst (v := nI 4) hx hb d_Mo_numberAt_29 (by decide) ?_
    refine lv_icmp_eq (tgt := 39) hx hb d_Mo_numberAt_30 (by decide) (fun h56 => absurd h56 (by decide)) (fun _ => ?_)
    refine lv_iload_n hx hb d_Mo_numberAt_33 rfl (lv_at hl 0 rfl) ?_
    refine lv_bipush (v := nI 6) hx hb d_Mo_numberAt_34 (by decide) ?_
    refine lv_icmp_ne (tgt := 43) hx hb d_Mo_numberAt_36 (by decide) (fun _ => ?_) (fun h57 => absurd h57 (by decide))
    refine lv_iconst (v := (-1)) hx hb d_Mo_numberAt_43 (by decide) ?_
    exact zret_i C0 hr hAe hP hD hS (Or.inl ⟨rfl, rfl, rfl⟩) d_Mo_numberAt_44
  · skip
    refine lv_iload_n hx hb d_Mo_numberAt_0 rfl (lv_at hl 0 rfl) ?_
    refine lv_iconst (v := nI 2) hx hb d_Mo_numberAt_1 (by decide) ?_
    refine lv_icmp_ne (tgt := 9) hx hb d_Mo_numberAt_2 (by decide) (fun _ => ?_) (fun h58 => absurd h58 (by decide))
    refine lv_iload_n hx hb d_Mo_numberAt_9 rfl (lv_at hl 0 rfl) ?_
    refine lv_iconst (v := nI 1) hx hb d_Mo_numberAt_10 (by decide) ?_
    refine lv_icmp_eq (tgt := 19) hx hb d_Mo_numberAt_11 (by decide) (fun h59 => absurd h59 (by decide)) (fun _ => ?_)
    refine lv_iload_n hx hb d_Mo_numberAt_14 rfl (lv_at hl 0 rfl) ?_
    refine lv_iconst (v := nI 5) hx hb d_Mo_numberAt_15 (by decide) ?_
    refine lv_icmp_ne (tgt := 23) hx hb d_Mo_numberAt_16 (by decide) (fun _ => ?_) (fun h60 => absurd h60 (by decide))
    refine lv_iload_n hx hb d_Mo_numberAt_23 rfl (lv_at hl 0 rfl) ?_
    refine lv_iconst (v := nI 3) hx hb d_Mo_numberAt_24 (by decide) ?_
    refine lv_icmp_eq (tgt := 39) hx hb d_Mo_numberAt_25 (by decide) (fun h61 => absurd h61 (by decide)) (fun _ => ?_)
    refine lv_iload_n hx hb d_Mo_numberAt_28 rfl (lv_at hl 0 rfl) ?_
    refine lv_iconst (v := nI 4) hx hb d_Mo_numberAt_29 (by decide) ?_
    refine lv_icmp_eq (tgt := 39) hx hb d_Mo_numberAt_30 (by decide) (fun h62 => absurd h62 (by decide)) (fun _ => ?_)
    refine lv_iload_n hx hb d_Mo_numberAt_33 rfl (lv_at hl 0 rfl) ?_
    refine lv_bipush (v := nI 6) hx hb d_Mo_numberAt_34 (by decide) ?_
    refine lv_icmp_ne (tgt := 43) hx hb d_Mo_numberAt_36 (by decide) (fun _ => ?_) (fun h63 => absurd h63 (by decide))
    refine lv_iconst (v := (-1)) hx hb d_Mo_numberAt_43 (by decide) ?_
    exact zret_i C0 hr hAe hP hD hS (Or.inl ⟨rfl, rfl, rfl⟩) d_Mo_numberAt_44
  · skip
    refine lv_iload_n hx hb d_Mo_numberAt_0 rfl (lv_at hl 0 rfl) ?_
    refine lv_iconst (v := nI 2) hx hb d_Mo_numberAt_1 (by decide) ?_
    refine lv_icmp_ne (tgt := 9) hx hb d_Mo_numberAt_2 (by decide) (fun _ => ?_) (fun h64 => absurd h64 (by decide))
    refine lv_iload_n hx hb d_Mo_numberAt_9 rfl (lv_at hl 0 rfl) ?_
    refine lv_iconst (v := nI 1) hx hb d_Mo_numberAt_10 (by decide) ?_
    refine lv_icmp_eq (tgt := 19) hx hb d_Mo_numberAt_11 (by decide) (fun h65 => absurd h65 (by decide)) (fun _ => ?_)
    refine lv_iload_n hx hb d_Mo_numberAt_14 rfl (lv_at hl 0 rfl) ?_
    refine lv_iconst (v := nI 5) hx hb d_Mo_numberAt_15 (by decide) ?_
    refine lv_icmp_ne (tgt := 23) hx hb d_Mo_numberAt_16 (by decide) (fun _ => ?_) (fun h66 => absurd h66 (by decide))
    refine lv_iload_n hx hb d_Mo_numberAt_23 rfl (lv_at hl 0 rfl) ?_
    refine lv_iconst (v := nI 3) hx hb d_Mo_numberAt_24 (by decide) ?_
    refine lv_icmp_eq (tgt := 39) hx hb d_Mo_numberAt_25 (by decide) (fun h67 => absurd h67 (by decide)) (fun _ => ?_)
    refine lv_iload_n hx hb d_Mo_numberAt_28 rfl (lv_at hl 0 rfl) ?_
    refine lv_iconst (v := nI 4) hx hb d_Mo_numberAt_29 (by decide) ?_
    refine lv_icmp_eq (tgt := 39) hx hb d_Mo_numberAt_30 (by decide) (fun h68 => absurd h68 (by decide)) (fun _ => ?_)
    refine lv_iload_n hx hb d_Mo_numberAt_33 rfl (lv_at hl 0 rfl) ?_
    refine lv_bipush (v := nI 6) hx hb d_Mo_numberAt_34 (by decide) ?_
    refine lv_icmp_ne (tgt := 43) hx hb d_Mo_numberAt_36 (by decide) (fun _ => ?_) (fun h69 => absurd h69 (by decide))
    refine lv_iconst (v := (-1)) hx hb d_Mo_numberAt_43 (by decide) ?_
    exact zret_i C0 hr hAe hP hD hS (Or.inl ⟨rfl, rfl, rfl⟩) d_Mo_numberAt_44
  · skip
    refine lv_iload_n hx hb d_Mo_numberAt_0 rfl (lv_at hl 0 rfl) ?_
    refine lv_iconst (v := nI 2) hx hb d_Mo_numberAt_1 (by decide) ?_
    refine lv_icmp_ne (tgt := 9) hx hb d_Mo_numberAt_2 (by decide) (fun _ => ?_) (fun h70 => absurd h70 (by decide))
    refine lv_iload_n hx hb d_Mo_numberAt_9 rfl (lv_at hl 0 rfl) ?_
    refine lv_iconst (v := nI 1) hx hb d_Mo_numberAt_10 (by decide) ?_
    refine lv_icmp_eq (tgt := 19) hx hb d_Mo_numberAt_11 (by decide) (fun h71 => absurd h71 (by decide)) (fun _ => ?_)
    refine lv_iload_n hx hb d_Mo_numberAt_14 rfl (lv_at hl 0 rfl) ?_
    refine lv_iconst (v := nI 5) hx hb d_Mo_numberAt_15 (by decide) ?_
    refine lv_icmp_ne (tgt := 23) hx hb d_Mo_numberAt_16 (by decide) (fun _ => ?_) (fun h72 => absurd h72 (by decide))
    refine lv_iload_n hx hb d_Mo_numberAt_23 rfl (lv_at hl 0 rfl) ?_
    refine lv_iconst (v := nI 3) hx hb d_Mo_numberAt_24 (by decide) ?_
    refine lv_icmp_eq (tgt := 39) hx hb d_Mo_numberAt_25 (by decide) (fun h73 => absurd h73 (by decide)) (fun _ => ?_)
    refine lv_iload_n hx hb d_Mo_numberAt_28 rfl (lv_at hl 0 rfl) ?_
    refine lv_iconst (v := nI 4) hx hb d_Mo_numberAt_29 (by decide) ?_
    refine lv_icmp_eq (tgt := 39) hx hb d_Mo_numberAt_30 (by decide) (fun h74 => absurd h74 (by decide)) (fun _ => ?_)
    refine lv_iload_n hx hb d_Mo_numberAt_33 rfl (lv_at hl 0 rfl) ?_
    refine lv_bipush (v := nI 6) hx hb d_Mo_numberAt_34 (by decide) ?_
    refine lv_icmp_ne (tgt := 43) hx hb d_Mo_numberAt_36 (by decide) (fun _ => ?_) (fun h75 => absurd h75 (by decide))
    refine lv_iconst (v := (-1)) hx hb d_Mo_numberAt_43 (by decide) ?_
    exact zret_i C0 hr hAe hP hD hS (Or.inl ⟨rfl, rfl, rfl⟩) d_Mo_numberAt_44
  · skip
    refine lv_iload_n hx hb d_Mo_numberAt_0 rfl (lv_at hl 0 rfl) ?_
    refine lv_iconst (v := nI 2) hx hb d_Mo_numberAt_1 (by decide) ?_
    refine lv_icmp_ne (tgt := 9) hx hb d_Mo_numberAt_2 (by decide) (fun _ => ?_) (fun h76 => absurd h76 (by decide))
    refine lv_iload_n hx hb d_Mo_numberAt_9 rfl (lv_at hl 0 rfl) ?_
    refine lv_iconst (v := nI 1) hx hb d_Mo_numberAt_10 (by decide) ?_
    refine lv_icmp_eq (tgt := 19) hx hb d_Mo_numberAt_11 (by decide) (fun h77 => absurd h77 (by decide)) (fun _ => ?_)
    refine lv_iload_n hx hb d_Mo_numberAt_14 rfl (lv_at hl 0 rfl) ?_
    refine lv_iconst (v := nI 5) hx hb d_Mo_numberAt_15 (by decide) ?_
    refine lv_icmp_ne (tgt := 23) hx hb d_Mo_numberAt_16 (by decide) (fun _ => ?_) (fun h78 => absurd h78 (by decide))
    refine lv_iload_n hx hb d_Mo_numberAt_23 rfl (lv_at hl 0 rfl) ?_
    refine lv_iconst (v := nI 3) hx hb d_Mo_numberAt_24 (by decide) ?_
    refine lv_icmp_eq (tgt := 39) hx hb d_Mo_numberAt_25 (by decide) (fun h79 => absurd h79 (by decide)) (fun _ => ?_)
    refine lv_iload_n hx hb d_Mo_numberAt_28 rfl (lv_at hl 0 rfl) ?_
    refine lv_iconst (v := nI 4) hx hb d_Mo_numberAt_29 (by decide) ?_
    refine lv_icmp_eq (tgt := 39) hx hb d_Mo_numberAt_30 (by decide) (fun h80 => absurd h80 (by decide)) (fun _ => ?_)
    refine lv_iload_n hx hb d_Mo_numberAt_33 rfl (lv_at hl 0 rfl) ?_
    refine lv_bipush (v := nI 6) hx hb d_Mo_numberAt_34 (by decide) ?_
    refine lv_icmp_ne (tgt := 43) hx hb d_Mo_numberAt_36 (by decide) (fun _ => ?_) (fun h81 => absurd h81 (by decide))
    refine lv_iconst (v := (-1)) hx hb d_Mo_numberAt_43 (by decide) ?_
    exact zret_i C0 hr hAe hP hD hS (Or.inl ⟨rfl, rfl, rfl⟩) d_Mo_numberAt_44
set_option maxHeartbeats 4000000 in
set_option maxRecDepth 100000 in
theorem m_Mo_digit (l : Launch) (D : va_G) (ca : Nat → ClassId) (k : Nat → Nat) (sz : Nat) (ad : Nat → Nat) (c0 : Nat) (hc : c0 < 128) : Met l y_Mo_digit (zw y_Mo_digit c_Mo_digit 1 (some .int)) { frames := 0, cells := 0, slots := 0, locals := 0 } (va_Pc [.int (nI c0)] (zPre D (zty ca) k ([]) sz)) (va_Qi (fun r w => (∃ d, ixO (zS 4) c0 0 = some d ∧ d < 16 ∧ r = nI d ∧ w = []) ∨ (ixO (zS 4) c0 0 = none ∧ r = (-1) ∧ w = [])) (zB D (zty ca) ([]) sz) (va_A ([]) sz)) 0 0 (va_A ([]) sz) := by
  refine zOf (own := "DigitChipModel") (by decide +kernel) rfl (Nat.le_of_ble_eq_true rfl) ?_
  intro p e s m below meth c A ls C0 hr hnm hAe hsz hl hP hD hS
  have hl : lv_has ls 1 [(0, .int (nI c0))] := hl
  obtain ⟨hx, hb, hml, hown, ht, hK, hX, hA, hlk⟩ := id C0
  refine lv_iload_n hx hb d_Mo_digit_0 rfl (lv_at hl 0 rfl) ?_
  refine lv_bipush (v := nI 48) hx hb d_Mo_digit_1 (by decide) ?_
  refine lv_icmp_lt (tgt := 19) hx hb d_Mo_digit_3 (by decide) (fun h1 => ?_) (fun h1 => ?_)
  · skip
    have h1 : (c0 < 48) := (nI_ltI (by omega) (by omega)).mp h1
    refine lv_iload_n hx hb d_Mo_digit_19 rfl (lv_at hl 0 rfl) ?_
    refine lv_bipush (v := nI 97) hx hb d_Mo_digit_20 (by decide) ?_
    refine lv_icmp_lt (tgt := 41) hx hb d_Mo_digit_22 (by decide) (fun h2 => ?_) (fun h2 => ?_)
    · skip
      have h2 : (c0 < 97) := (nI_ltI (by omega) (by omega)).mp h2
      refine lv_iconst (v := (-1)) hx hb d_Mo_digit_41 (by decide) ?_
      exact zret_i C0 hr hAe hP hD hS (Or.inr ⟨by rw [dg_all c0 hc, if_neg (by omega), if_neg (by omega)], rfl, rfl⟩) d_Mo_digit_42
    · skip
      have h2 : ¬ (c0 < 97) := fun z => h2 ((nI_ltI (by omega) (by omega)).mpr z)
      refine lv_iload_n hx hb d_Mo_digit_25 rfl (lv_at hl 0 rfl) ?_
      refine lv_bipush (v := nI 102) hx hb d_Mo_digit_26 (by decide) ?_
      refine lv_icmp_gt (tgt := 41) hx hb d_Mo_digit_28 (by decide) (fun h3 => ?_) (fun h3 => ?_)
      · skip
        have h3 : (102 < c0) := (nI_ltI (by omega) (by omega)).mp h3
        refine lv_iconst (v := (-1)) hx hb d_Mo_digit_41 (by decide) ?_
        exact zret_i C0 hr hAe hP hD hS (Or.inr ⟨by rw [dg_all c0 hc, if_neg (by omega), if_neg (by omega)], rfl, rfl⟩) d_Mo_digit_42
      · skip
        have h3 : ¬ (102 < c0) := fun z => h3 ((nI_ltI (by omega) (by omega)).mpr z)
        refine lv_iload_n hx hb d_Mo_digit_31 rfl (lv_at hl 0 rfl) ?_
        refine lv_bipush (v := nI 97) hx hb d_Mo_digit_32 (by decide) ?_
        refine lv_isub hx hb d_Mo_digit_34 ?_
        refine zti (y := nI (c0 - 97)) (pk_sub (by omega)) ?_
        refine lv_bipush (v := nI 10) hx hb d_Mo_digit_35 (by decide) ?_
        refine lv_iadd hx hb d_Mo_digit_37 ?_
        refine zti (y := nI ((c0 - 97) + 10)) (nI_add _ _) ?_
        refine lv_goto (tgt := 42) hx hb d_Mo_digit_38 (by decide) ?_
        exact zret_i C0 hr hAe hP hD hS (Or.inl ⟨_, by rw [dg_all c0 hc, if_neg (by omega), if_pos (by omega)], by omega, rfl, rfl⟩) d_Mo_digit_42
  · skip
    have h1 : ¬ (c0 < 48) := fun z => h1 ((nI_ltI (by omega) (by omega)).mpr z)
    refine lv_iload_n hx hb d_Mo_digit_6 rfl (lv_at hl 0 rfl) ?_
    refine lv_bipush (v := nI 57) hx hb d_Mo_digit_7 (by decide) ?_
    refine lv_icmp_gt (tgt := 19) hx hb d_Mo_digit_9 (by decide) (fun h4 => ?_) (fun h4 => ?_)
    · skip
      have h4 : (57 < c0) := (nI_ltI (by omega) (by omega)).mp h4
      refine lv_iload_n hx hb d_Mo_digit_19 rfl (lv_at hl 0 rfl) ?_
      refine lv_bipush (v := nI 97) hx hb d_Mo_digit_20 (by decide) ?_
      refine lv_icmp_lt (tgt := 41) hx hb d_Mo_digit_22 (by decide) (fun h5 => ?_) (fun h5 => ?_)
      · skip
        have h5 : (c0 < 97) := (nI_ltI (by omega) (by omega)).mp h5
        refine lv_iconst (v := (-1)) hx hb d_Mo_digit_41 (by decide) ?_
        exact zret_i C0 hr hAe hP hD hS (Or.inr ⟨by rw [dg_all c0 hc, if_neg (by omega), if_neg (by omega)], rfl, rfl⟩) d_Mo_digit_42
      · skip
        have h5 : ¬ (c0 < 97) := fun z => h5 ((nI_ltI (by omega) (by omega)).mpr z)
        refine lv_iload_n hx hb d_Mo_digit_25 rfl (lv_at hl 0 rfl) ?_
        refine lv_bipush (v := nI 102) hx hb d_Mo_digit_26 (by decide) ?_
        refine lv_icmp_gt (tgt := 41) hx hb d_Mo_digit_28 (by decide) (fun h6 => ?_) (fun h6 => ?_)
        · skip
          have h6 : (102 < c0) := (nI_ltI (by omega) (by omega)).mp h6
          refine lv_iconst (v := (-1)) hx hb d_Mo_digit_41 (by decide) ?_
          exact zret_i C0 hr hAe hP hD hS (Or.inr ⟨by rw [dg_all c0 hc, if_neg (by omega), if_neg (by omega)], rfl, rfl⟩) d_Mo_digit_42
        · skip
          have h6 : ¬ (102 < c0) := fun z => h6 ((nI_ltI (by omega) (by omega)).mpr z)
          refine lv_iload_n hx hb d_Mo_digit_31 rfl (lv_at hl 0 rfl) ?_
          refine lv_bipush (v := nI 97) hx hb d_Mo_digit_32 (by decide) ?_
          refine lv_isub hx hb d_Mo_digit_34 ?_
          refine zti (y := nI (c0 - 97)) (pk_sub (by omega)) ?_
          refine lv_bipush (v := nI 10) hx hb d_Mo_digit_35 (by decide) ?_
          refine lv_iadd hx hb d_Mo_digit_37 ?_
          refine zti (y := nI ((c0 - 97) + 10)) (nI_add _ _) ?_
          refine lv_goto (tgt := 42) hx hb d_Mo_digit_38 (by decide) ?_
          exact zret_i C0 hr hAe hP hD hS (Or.inl ⟨_, by rw [dg_all c0 hc, if_neg (by omega), if_pos (by omega)], by omega, rfl, rfl⟩) d_Mo_digit_42
    · skip
      have h4 : ¬ (57 < c0) := fun z => h4 ((nI_ltI (by omega) (by omega)).mpr z)
      refine lv_iload_n hx hb d_Mo_digit_12 rfl (lv_at hl 0 rfl) ?_
      refine lv_bipush (v := nI 48) hx hb d_Mo_digit_13 (by decide) ?_
      refine lv_isub hx hb d_Mo_digit_15 ?_
      refine zti (y := nI (c0 - 48)) (pk_sub (by omega)) ?_
      refine lv_goto (tgt := 42) hx hb d_Mo_digit_16 (by decide) ?_
      exact zret_i C0 hr hAe hP hD hS (Or.inl ⟨_, by rw [dg_all c0 hc, if_pos (by omega)], by omega, rfl, rfl⟩) d_Mo_digit_42
set_option maxHeartbeats 4000000 in
set_option maxRecDepth 100000 in
theorem m_Mo_fieldOf (l : Launch) (D : va_G) (ca : Nat → ClassId) (k : Nat → Nat) (sz : Nat) (ad : Nat → Nat) (c0 : Nat) (hc : c0 < 128) : Met l y_Mo_fieldOf (zw y_Mo_fieldOf c_Mo_fieldOf 1 (some .int)) { frames := 0, cells := 0, slots := 0, locals := 0 } (va_Pc [.int (nI c0)] (zPre D (zty ca) k ([]) sz)) (va_Qi (fun r w => (∃ d, ixO (zS 5) c0 0 = some d ∧ d < 8 ∧ r = nI d ∧ w = []) ∨ (ixO (zS 5) c0 0 = none ∧ r = (-1) ∧ w = [])) (zB D (zty ca) ([]) sz) (va_A ([]) sz)) 0 0 (va_A ([]) sz) := by
  refine zOf (own := "DigitChipModel") (by decide +kernel) rfl (Nat.le_of_ble_eq_true rfl) ?_
  intro p e s m below meth c A ls C0 hr hnm hAe hsz hl hP hD hS
  have hl : lv_has ls 1 [(0, .int (nI c0))] := hl
  obtain ⟨hx, hb, hml, hown, ht, hK, hX, hA, hlk⟩ := id C0
  refine lv_iload_n hx hb d_Mo_fieldOf_0 rfl (lv_at hl 0 rfl) ?_
  by_cases hr0 : c0 < 101 ∨ 120 < c0
  · skip
    refine lv_tableOut (tgt := 114) hx hb d_Mo_fieldOf_1 (fo_out hc hr0) (by decide) ?_
    refine lv_iconst (v := (-1)) hx hb d_Mo_fieldOf_114 (by decide) ?_
    exact zret_i C0 hr hAe hP hD hS (Or.inr ⟨fo_all c0 hc hr0, rfl, rfl⟩) d_Mo_fieldOf_115
  rcases (show c0 = 101 ∨ c0 = 102 ∨ c0 = 103 ∨ c0 = 104 ∨ c0 = 105 ∨ c0 = 106 ∨ c0 = 107 ∨ c0 = 108 ∨ c0 = 109 ∨ c0 = 110 ∨ c0 = 111 ∨ c0 = 112 ∨ c0 = 113 ∨ c0 = 114 ∨ c0 = 115 ∨ c0 = 116 ∨ c0 = 117 ∨ c0 = 118 ∨ c0 = 119 ∨ c0 = 120 by omega) with rfl | rfl | rfl | rfl | rfl | rfl | rfl | rfl | rfl | rfl | rfl | rfl | rfl | rfl | rfl | rfl | rfl | rfl | rfl | rfl
  · skip
    refine lv_tableIn (off := 99) (tgt := 100) hx hb d_Mo_fieldOf_1 (by decide) (by decide) (by decide) (by decide) ?_
    refine lv_iconst (v := nI 2) hx hb d_Mo_fieldOf_100 (by decide) ?_
    exact zret_i C0 hr hAe hP hD hS (Or.inl ⟨2, by decide +kernel, by decide, rfl, rfl⟩) d_Mo_fieldOf_101
  · skip
    refine lv_tableIn (off := 113) (tgt := 114) hx hb d_Mo_fieldOf_1 (by decide) (by decide) (by decide) (by decide) ?_
    refine lv_iconst (v := (-1)) hx hb d_Mo_fieldOf_114 (by decide) ?_
    exact zret_i C0 hr hAe hP hD hS (Or.inr ⟨by decide +kernel, rfl, rfl⟩) d_Mo_fieldOf_115
  · skip
    refine lv_tableIn (off := 113) (tgt := 114) hx hb d_Mo_fieldOf_1 (by decide) (by decide) (by decide) (by decide) ?_
    refine lv_iconst (v := (-1)) hx hb d_Mo_fieldOf_114 (by decide) ?_
    exact zret_i C0 hr hAe hP hD hS (Or.inr ⟨by decide +kernel, rfl, rfl⟩) d_Mo_fieldOf_115
  · skip
    refine lv_tableIn (off := 113) (tgt := 114) hx hb d_Mo_fieldOf_1 (by decide) (by decide) (by decide) (by decide) ?_
    refine lv_iconst (v := (-1)) hx hb d_Mo_fieldOf_114 (by decide) ?_
    exact zret_i C0 hr hAe hP hD hS (Or.inr ⟨by decide +kernel, rfl, rfl⟩) d_Mo_fieldOf_115
  · skip
    refine lv_tableIn (off := 113) (tgt := 114) hx hb d_Mo_fieldOf_1 (by decide) (by decide) (by decide) (by decide) ?_
    refine lv_iconst (v := (-1)) hx hb d_Mo_fieldOf_114 (by decide) ?_
    exact zret_i C0 hr hAe hP hD hS (Or.inr ⟨by decide +kernel, rfl, rfl⟩) d_Mo_fieldOf_115
  · skip
    refine lv_tableIn (off := 113) (tgt := 114) hx hb d_Mo_fieldOf_1 (by decide) (by decide) (by decide) (by decide) ?_
    refine lv_iconst (v := (-1)) hx hb d_Mo_fieldOf_114 (by decide) ?_
    exact zret_i C0 hr hAe hP hD hS (Or.inr ⟨by decide +kernel, rfl, rfl⟩) d_Mo_fieldOf_115
  · skip
    refine lv_tableIn (off := 113) (tgt := 114) hx hb d_Mo_fieldOf_1 (by decide) (by decide) (by decide) (by decide) ?_
    refine lv_iconst (v := (-1)) hx hb d_Mo_fieldOf_114 (by decide) ?_
    exact zret_i C0 hr hAe hP hD hS (Or.inr ⟨by decide +kernel, rfl, rfl⟩) d_Mo_fieldOf_115
  · skip
    refine lv_tableIn (off := 113) (tgt := 114) hx hb d_Mo_fieldOf_1 (by decide) (by decide) (by decide) (by decide) ?_
    refine lv_iconst (v := (-1)) hx hb d_Mo_fieldOf_114 (by decide) ?_
    exact zret_i C0 hr hAe hP hD hS (Or.inr ⟨by decide +kernel, rfl, rfl⟩) d_Mo_fieldOf_115
  · skip
    refine lv_tableIn (off := 105) (tgt := 106) hx hb d_Mo_fieldOf_1 (by decide) (by decide) (by decide) (by decide) ?_
    refine lv_iconst (v := nI 5) hx hb d_Mo_fieldOf_106 (by decide) ?_
    exact zret_i C0 hr hAe hP hD hS (Or.inl ⟨5, by decide +kernel, by decide, rfl, rfl⟩) d_Mo_fieldOf_107
  · skip
    refine lv_tableIn (off := 107) (tgt := 108) hx hb d_Mo_fieldOf_1 (by decide) (by decide) (by decide) (by decide) ?_
    refine lv_bipush (v := nI 6) hx hb d_Mo_fieldOf_108 (by decide) ?_
    exact zret_i C0 hr hAe hP hD hS (Or.inl ⟨6, by decide +kernel, by decide, rfl, rfl⟩) d_Mo_fieldOf_110
  · skip
    refine lv_tableIn (off := 113) (tgt := 114) hx hb d_Mo_fieldOf_1 (by decide) (by decide) (by decide) (by decide) ?_
    refine lv_iconst (v := (-1)) hx hb d_Mo_fieldOf_114 (by decide) ?_
    exact zret_i C0 hr hAe hP hD hS (Or.inr ⟨by decide +kernel, rfl, rfl⟩) d_Mo_fieldOf_115
  · skip
    refine lv_tableIn (off := 95) (tgt := 96) hx hb d_Mo_fieldOf_1 (by decide) (by decide) (by decide) (by decide) ?_
    refine lv_iconst (v := nI 0) hx hb d_Mo_fieldOf_96 (by decide) ?_
    exact zret_i C0 hr hAe hP hD hS (Or.inl ⟨0, by decide +kernel, by decide, rfl, rfl⟩) d_Mo_fieldOf_97
  · skip
    refine lv_tableIn (off := 97) (tgt := 98) hx hb d_Mo_fieldOf_1 (by decide) (by decide) (by decide) (by decide) ?_
    refine lv_iconst (v := nI 1) hx hb d_Mo_fieldOf_98 (by decide) ?_
    exact zret_i C0 hr hAe hP hD hS (Or.inl ⟨1, by decide +kernel, by decide, rfl, rfl⟩) d_Mo_fieldOf_99
  · skip
    refine lv_tableIn (off := 113) (tgt := 114) hx hb d_Mo_fieldOf_1 (by decide) (by decide) (by decide) (by decide) ?_
    refine lv_iconst (v := (-1)) hx hb d_Mo_fieldOf_114 (by decide) ?_
    exact zret_i C0 hr hAe hP hD hS (Or.inr ⟨by decide +kernel, rfl, rfl⟩) d_Mo_fieldOf_115
  · skip
    refine lv_tableIn (off := 103) (tgt := 104) hx hb d_Mo_fieldOf_1 (by decide) (by decide) (by decide) (by decide) ?_
    refine lv_iconst (v := nI 4) hx hb d_Mo_fieldOf_104 (by decide) ?_
    exact zret_i C0 hr hAe hP hD hS (Or.inl ⟨4, by decide +kernel, by decide, rfl, rfl⟩) d_Mo_fieldOf_105
  · skip
    refine lv_tableIn (off := 113) (tgt := 114) hx hb d_Mo_fieldOf_1 (by decide) (by decide) (by decide) (by decide) ?_
    refine lv_iconst (v := (-1)) hx hb d_Mo_fieldOf_114 (by decide) ?_
    exact zret_i C0 hr hAe hP hD hS (Or.inr ⟨by decide +kernel, rfl, rfl⟩) d_Mo_fieldOf_115
  · skip
    refine lv_tableIn (off := 113) (tgt := 114) hx hb d_Mo_fieldOf_1 (by decide) (by decide) (by decide) (by decide) ?_
    refine lv_iconst (v := (-1)) hx hb d_Mo_fieldOf_114 (by decide) ?_
    exact zret_i C0 hr hAe hP hD hS (Or.inr ⟨by decide +kernel, rfl, rfl⟩) d_Mo_fieldOf_115
  · skip
    refine lv_tableIn (off := 113) (tgt := 114) hx hb d_Mo_fieldOf_1 (by decide) (by decide) (by decide) (by decide) ?_
    refine lv_iconst (v := (-1)) hx hb d_Mo_fieldOf_114 (by decide) ?_
    exact zret_i C0 hr hAe hP hD hS (Or.inr ⟨by decide +kernel, rfl, rfl⟩) d_Mo_fieldOf_115
  · skip
    refine lv_tableIn (off := 110) (tgt := 111) hx hb d_Mo_fieldOf_1 (by decide) (by decide) (by decide) (by decide) ?_
    refine lv_bipush (v := nI 7) hx hb d_Mo_fieldOf_111 (by decide) ?_
    exact zret_i C0 hr hAe hP hD hS (Or.inl ⟨7, by decide +kernel, by decide, rfl, rfl⟩) d_Mo_fieldOf_113
  · skip
    refine lv_tableIn (off := 101) (tgt := 102) hx hb d_Mo_fieldOf_1 (by decide) (by decide) (by decide) (by decide) ?_
    refine lv_iconst (v := nI 3) hx hb d_Mo_fieldOf_102 (by decide) ?_
    exact zret_i C0 hr hAe hP hD hS (Or.inl ⟨3, by decide +kernel, by decide, rfl, rfl⟩) d_Mo_fieldOf_103
set_option maxHeartbeats 4000000 in
set_option maxRecDepth 100000 in
theorem m_Mo_control (l : Launch) (D : va_G) (ca : Nat → ClassId) (k : Nat → Nat) (sz : Nat) (ad : Nat → Nat) (op : Nat) (hop : op < 16) : Met l y_Mo_control (zw y_Mo_control c_Mo_control 1 (some .long)) { frames := 0, cells := 0, slots := 0, locals := 0 } (va_Pc [.int (nI op)] (zPre D (zty ca) k ([]) sz)) (va_Ql (fun r w => r = lN (ctN op) ∧ w = []) (zB D (zty ca) ([]) sz) (va_A ([]) sz)) 0 0 (va_A ([]) sz) := by
  refine zOf (own := "DigitChipModel") (by decide +kernel) rfl (Nat.le_of_ble_eq_true rfl) ?_
  intro p e s m below meth c A ls C0 hr hnm hAe hsz hl hP hD hS
  have hl : lv_has ls 1 [(0, .int (nI op))] := hl
  obtain ⟨hx, hb, hml, hown, ht, hK, hX, hA, hlk⟩ := id C0
  rcases (show op = 0 ∨ op = 1 ∨ op = 2 ∨ op = 3 ∨ op = 4 ∨ op = 5 ∨ op = 6 ∨ op = 7 ∨ op = 8 ∨ op = 9 ∨ op = 10 ∨ op = 11 ∨ op = 12 ∨ op = 13 ∨ op = 14 ∨ op = 15 from by omega) with rfl | rfl | rfl | rfl | rfl | rfl | rfl | rfl | rfl | rfl | rfl | rfl | rfl | rfl | rfl | rfl
  · skip
    refine lv_iload_n hx hb d_Mo_control_0 rfl (lv_at hl 0 rfl) ?_
    refine lv_tableIn (off := 75) (tgt := 76) hx hb d_Mo_control_1 (by decide) (by decide) (by decide) (by decide) ?_
    refine lv_ldc2 hx hb hown (ht _ q692) d_Mo_control_76 ?_
    refine ztl (y := lN 28271) (by decide) ?_
    exact zret_l C0 hr hAe hP hD hS ⟨rfl, rfl⟩ d_Mo_control_79
  · skip
    refine lv_iload_n hx hb d_Mo_control_0 rfl (lv_at hl 0 rfl) ?_
    refine lv_tableIn (off := 79) (tgt := 80) hx hb d_Mo_control_1 (by decide) (by decide) (by decide) (by decide) ?_
    refine lv_ldc2 hx hb hown (ht _ q693) d_Mo_control_80 ?_
    refine ztl (y := lN 7355683) (by decide) ?_
    exact zret_l C0 hr hAe hP hD hS ⟨rfl, rfl⟩ d_Mo_control_83
  · skip
    refine lv_iload_n hx hb d_Mo_control_0 rfl (lv_at hl 0 rfl) ?_
    refine lv_tableIn (off := 83) (tgt := 84) hx hb d_Mo_control_1 (by decide) (by decide) (by decide) (by decide) ?_
    refine lv_ldc2 hx hb hown (ht _ q694) d_Mo_control_84 ?_
    refine ztl (y := lN 1064320291) (by decide) ?_
    exact zret_l C0 hr hAe hP hD hS ⟨rfl, rfl⟩ d_Mo_control_87
  · skip
    refine lv_iload_n hx hb d_Mo_control_0 rfl (lv_at hl 0 rfl) ?_
    refine lv_tableIn (off := 87) (tgt := 88) hx hb d_Mo_control_1 (by decide) (by decide) (by decide) (by decide) ?_
    refine lv_ldc2 hx hb hown (ht _ q695) d_Mo_control_88 ?_
    refine ztl (y := lN 7545643) (by decide) ?_
    exact zret_l C0 hr hAe hP hD hS ⟨rfl, rfl⟩ d_Mo_control_91
  · skip
    refine lv_iload_n hx hb d_Mo_control_0 rfl (lv_at hl 0 rfl) ?_
    refine lv_tableIn (off := 91) (tgt := 92) hx hb d_Mo_control_1 (by decide) (by decide) (by decide) (by decide) ?_
    refine lv_ldc2 hx hb hown (ht _ q696) d_Mo_control_92 ?_
    refine ztl (y := lN 7545645) (by decide) ?_
    exact zret_l C0 hr hAe hP hD hS ⟨rfl, rfl⟩ d_Mo_control_95
  · skip
    refine lv_iload_n hx hb d_Mo_control_0 rfl (lv_at hl 0 rfl) ?_
    refine lv_tableIn (off := 95) (tgt := 96) hx hb d_Mo_control_1 (by decide) (by decide) (by decide) (by decide) ?_
    refine lv_ldc2 hx hb hown (ht _ q697) d_Mo_control_96 ?_
    refine ztl (y := lN 4158243) (by decide) ?_
    exact zret_l C0 hr hAe hP hD hS ⟨rfl, rfl⟩ d_Mo_control_99
  · skip
    refine lv_iload_n hx hb d_Mo_control_0 rfl (lv_at hl 0 rfl) ?_
    refine lv_tableIn (off := 99) (tgt := 100) hx hb d_Mo_control_1 (by decide) (by decide) (by decide) (by decide) ?_
    refine lv_ldc2 hx hb hown (ht _ q698) d_Mo_control_100 ?_
    refine ztl (y := lN 27683) (by decide) ?_
    exact zret_l C0 hr hAe hP hD hS ⟨rfl, rfl⟩ d_Mo_control_103
  · skip
    refine lv_iload_n hx hb d_Mo_control_0 rfl (lv_at hl 0 rfl) ?_
    refine lv_tableIn (off := 103) (tgt := 104) hx hb d_Mo_control_1 (by decide) (by decide) (by decide) (by decide) ?_
    refine lv_ldc2 hx hb hown (ht _ q699) d_Mo_control_104 ?_
    refine ztl (y := lN 28715) (by decide) ?_
    exact zret_l C0 hr hAe hP hD hS ⟨rfl, rfl⟩ d_Mo_control_107
  · skip
    refine lv_iload_n hx hb d_Mo_control_0 rfl (lv_at hl 0 rfl) ?_
    refine lv_tableIn (off := 107) (tgt := 108) hx hb d_Mo_control_1 (by decide) (by decide) (by decide) (by decide) ?_
    refine lv_ldc2 hx hb hown (ht _ q700) d_Mo_control_108 ?_
    refine ztl (y := lN 28717) (by decide) ?_
    exact zret_l C0 hr hAe hP hD hS ⟨rfl, rfl⟩ d_Mo_control_111
  · skip
    refine lv_iload_n hx hb d_Mo_control_0 rfl (lv_at hl 0 rfl) ?_
    refine lv_tableIn (off := 111) (tgt := 112) hx hb d_Mo_control_1 (by decide) (by decide) (by decide) (by decide) ?_
    refine lv_ldc2 hx hb hown (ht _ q701) d_Mo_control_112 ?_
    refine ztl (y := lN 1886745448) (by decide) ?_
    exact zret_l C0 hr hAe hP hD hS ⟨rfl, rfl⟩ d_Mo_control_115
  · skip
    refine lv_iload_n hx hb d_Mo_control_0 rfl (lv_at hl 0 rfl) ?_
    refine lv_tableIn (off := 115) (tgt := 116) hx hb d_Mo_control_1 (by decide) (by decide) (by decide) (by decide) ?_
    refine lv_ldc2 hx hb hown (ht _ q702) d_Mo_control_116 ?_
    refine ztl (y := lN 7368560) (by decide) ?_
    exact zret_l C0 hr hAe hP hD hS ⟨rfl, rfl⟩ d_Mo_control_119
  · skip
    refine lv_iload_n hx hb d_Mo_control_0 rfl (lv_at hl 0 rfl) ?_
    refine lv_tableIn (off := 119) (tgt := 120) hx hb d_Mo_control_1 (by decide) (by decide) (by decide) (by decide) ?_
    refine lv_ldc2 hx hb hown (ht _ q703) d_Mo_control_120 ?_
    refine ztl (y := lN 1650549611) (by decide) ?_
    exact zret_l C0 hr hAe hP hD hS ⟨rfl, rfl⟩ d_Mo_control_123
  · skip
    refine lv_iload_n hx hb d_Mo_control_0 rfl (lv_at hl 0 rfl) ?_
    refine lv_tableIn (off := 123) (tgt := 124) hx hb d_Mo_control_1 (by decide) (by decide) (by decide) (by decide) ?_
    refine lv_ldc2 hx hb hown (ht _ q704) d_Mo_control_124 ?_
    refine ztl (y := lN 7038329) (by decide) ?_
    exact zret_l C0 hr hAe hP hD hS ⟨rfl, rfl⟩ d_Mo_control_127
  · skip
    refine lv_iload_n hx hb d_Mo_control_0 rfl (lv_at hl 0 rfl) ?_
    refine lv_tableIn (off := 127) (tgt := 128) hx hb d_Mo_control_1 (by decide) (by decide) (by decide) (by decide) ?_
    refine lv_ldc2 hx hb hown (ht _ q705) d_Mo_control_128 ?_
    refine ztl (y := lN 1937010544) (by decide) ?_
    exact zret_l C0 hr hAe hP hD hS ⟨rfl, rfl⟩ d_Mo_control_131
  · skip
    refine lv_iload_n hx hb d_Mo_control_0 rfl (lv_at hl 0 rfl) ?_
    refine lv_tableIn (off := 131) (tgt := 132) hx hb d_Mo_control_1 (by decide) (by decide) (by decide) (by decide) ?_
    refine lv_ldc2 hx hb hown (ht _ q706) d_Mo_control_132 ?_
    refine ztl (y := lN 4405837) (by decide) ?_
    exact zret_l C0 hr hAe hP hD hS ⟨rfl, rfl⟩ d_Mo_control_135
  · skip
    refine lv_iload_n hx hb d_Mo_control_0 rfl (lv_at hl 0 rfl) ?_
    refine lv_tableOut (tgt := 136) hx hb d_Mo_control_1 (by decide) (by decide) ?_
    refine lv_ldc2 hx hb hown (ht _ q707) d_Mo_control_136 ?_
    refine ztl (y := lN 1685026670) (by decide) ?_
    exact zret_l C0 hr hAe hP hD hS ⟨rfl, rfl⟩ d_Mo_control_139
set_option maxHeartbeats 4000000 in
set_option maxRecDepth 100000 in
theorem m_Mo_sum (l : Launch) (D : va_G) (ca : Nat → ClassId) (k : Nat → Nat) (sz : Nat) (ad : Nat → Nat) (op : Nat) (hop : op < 32) : Met l y_Mo_sum (zw y_Mo_sum c_Mo_sum 1 (some .long)) { frames := 0, cells := 0, slots := 0, locals := 0 } (va_Pc [.int (nI op)] (zPre D (zty ca) k ([]) sz)) (va_Ql (fun r w => r = lN (smN op) ∧ w = []) (zB D (zty ca) ([]) sz) (va_A ([]) sz)) 0 0 (va_A ([]) sz) := by
  refine zOf (own := "DigitChipModel") (by decide +kernel) rfl (Nat.le_of_ble_eq_true rfl) ?_
  intro p e s m below meth c A ls C0 hr hnm hAe hsz hl hP hD hS
  have hl : lv_has ls 1 [(0, .int (nI op))] := hl
  obtain ⟨hx, hb, hml, hown, ht, hK, hX, hA, hlk⟩ := id C0
  rcases (show op = 0 ∨ op = 1 ∨ op = 2 ∨ op = 3 ∨ op = 4 ∨ op = 5 ∨ op = 6 ∨ op = 7 ∨ op = 8 ∨ op = 9 ∨ op = 10 ∨ op = 11 ∨ op = 12 ∨ op = 13 ∨ op = 14 ∨ op = 15 ∨ op = 16 ∨ op = 17 ∨ op = 18 ∨ op = 19 ∨ op = 20 ∨ op = 21 ∨ op = 22 ∨ op = 23 ∨ op = 24 ∨ op = 25 ∨ op = 26 ∨ op = 27 ∨ op = 28 ∨ op = 29 ∨ op = 30 ∨ op = 31 from by omega) with rfl | rfl | rfl | rfl | rfl | rfl | rfl | rfl | rfl | rfl | rfl | rfl | rfl | rfl | rfl | rfl | rfl | rfl | rfl | rfl | rfl | rfl | rfl | rfl | rfl | rfl | rfl | rfl | rfl | rfl | rfl | rfl
  · skip
    refine lv_iload_n hx hb d_Mo_sum_0 rfl (lv_at hl 0 rfl) ?_
    refine lv_tableIn (off := 139) (tgt := 140) hx hb d_Mo_sum_1 (by decide) (by decide) (by decide) (by decide) ?_
    refine lv_ldc2 hx hb hown (ht _ q717) d_Mo_sum_140 ?_
    refine ztl (y := lN 4275504) (by decide) ?_
    exact zret_l C0 hr hAe hP hD hS ⟨rfl, rfl⟩ d_Mo_sum_143
  · skip
    refine lv_iload_n hx hb d_Mo_sum_0 rfl (lv_at hl 0 rfl) ?_
    refine lv_tableIn (off := 143) (tgt := 144) hx hb d_Mo_sum_1 (by decide) (by decide) (by decide) (by decide) ?_
    refine lv_ldc2 hx hb hown (ht _ q718) d_Mo_sum_144 ?_
    refine ztl (y := lN 4341040) (by decide) ?_
    exact zret_l C0 hr hAe hP hD hS ⟨rfl, rfl⟩ d_Mo_sum_147
  · skip
    refine lv_iload_n hx hb d_Mo_sum_0 rfl (lv_at hl 0 rfl) ?_
    refine lv_tableIn (off := 147) (tgt := 148) hx hb d_Mo_sum_1 (by decide) (by decide) (by decide) (by decide) ?_
    refine lv_ldc2 hx hb hown (ht _ q719) d_Mo_sum_148 ?_
    refine ztl (y := lN 4406576) (by decide) ?_
    exact zret_l C0 hr hAe hP hD hS ⟨rfl, rfl⟩ d_Mo_sum_151
  · skip
    refine lv_iload_n hx hb d_Mo_sum_0 rfl (lv_at hl 0 rfl) ?_
    refine lv_tableIn (off := 151) (tgt := 152) hx hb d_Mo_sum_1 (by decide) (by decide) (by decide) (by decide) ?_
    refine lv_ldc2 hx hb hown (ht _ q720) d_Mo_sum_152 ?_
    refine ztl (y := lN 4274754) (by decide) ?_
    exact zret_l C0 hr hAe hP hD hS ⟨rfl, rfl⟩ d_Mo_sum_155
  · skip
    refine lv_iload_n hx hb d_Mo_sum_0 rfl (lv_at hl 0 rfl) ?_
    refine lv_tableIn (off := 155) (tgt := 156) hx hb d_Mo_sum_1 (by decide) (by decide) (by decide) (by decide) ?_
    refine lv_ldc2 hx hb hown (ht _ q721) d_Mo_sum_156 ?_
    refine ztl (y := lN 4341057) (by decide) ?_
    exact zret_l C0 hr hAe hP hD hS ⟨rfl, rfl⟩ d_Mo_sum_159
  · skip
    refine lv_iload_n hx hb d_Mo_sum_0 rfl (lv_at hl 0 rfl) ?_
    refine lv_tableIn (off := 159) (tgt := 160) hx hb d_Mo_sum_1 (by decide) (by decide) (by decide) (by decide) ?_
    refine lv_ldc2 hx hb hown (ht _ q722) d_Mo_sum_160 ?_
    refine ztl (y := lN 4274755) (by decide) ?_
    exact zret_l C0 hr hAe hP hD hS ⟨rfl, rfl⟩ d_Mo_sum_163
  · skip
    refine lv_iload_n hx hb d_Mo_sum_0 rfl (lv_at hl 0 rfl) ?_
    refine lv_tableIn (off := 163) (tgt := 164) hx hb d_Mo_sum_1 (by decide) (by decide) (by decide) (by decide) ?_
    refine lv_ldc2 hx hb hown (ht _ q723) d_Mo_sum_164 ?_
    refine ztl (y := lN 4406594) (by decide) ?_
    exact zret_l C0 hr hAe hP hD hS ⟨rfl, rfl⟩ d_Mo_sum_167
  · skip
    refine lv_iload_n hx hb d_Mo_sum_0 rfl (lv_at hl 0 rfl) ?_
    refine lv_tableIn (off := 167) (tgt := 168) hx hb d_Mo_sum_1 (by decide) (by decide) (by decide) (by decide) ?_
    refine lv_ldc2 hx hb hown (ht _ q724) d_Mo_sum_168 ?_
    refine ztl (y := lN 4340291) (by decide) ?_
    exact zret_l C0 hr hAe hP hD hS ⟨rfl, rfl⟩ d_Mo_sum_171
  · skip
    refine lv_iload_n hx hb d_Mo_sum_0 rfl (lv_at hl 0 rfl) ?_
    refine lv_tableIn (off := 171) (tgt := 172) hx hb d_Mo_sum_1 (by decide) (by decide) (by decide) (by decide) ?_
    refine lv_ldc2 hx hb hown (ht _ q725) d_Mo_sum_172 ?_
    refine ztl (y := lN 280200555330) (by decide) ?_
    exact zret_l C0 hr hAe hP hD hS ⟨rfl, rfl⟩ d_Mo_sum_175
  · skip
    refine lv_iload_n hx hb d_Mo_sum_0 rfl (lv_at hl 0 rfl) ?_
    refine lv_tableIn (off := 175) (tgt := 176) hx hb d_Mo_sum_1 (by decide) (by decide) (by decide) (by decide) ?_
    refine lv_ldc2 hx hb hown (ht _ q726) d_Mo_sum_176 ?_
    refine ztl (y := lN 280200555331) (by decide) ?_
    exact zret_l C0 hr hAe hP hD hS ⟨rfl, rfl⟩ d_Mo_sum_179
  · skip
    refine lv_iload_n hx hb d_Mo_sum_0 rfl (lv_at hl 0 rfl) ?_
    refine lv_tableIn (off := 179) (tgt := 180) hx hb d_Mo_sum_1 (by decide) (by decide) (by decide) (by decide) ?_
    refine lv_ldc2 hx hb hown (ht _ q727) d_Mo_sum_180 ?_
    refine ztl (y := lN 288790489923) (by decide) ?_
    exact zret_l C0 hr hAe hP hD hS ⟨rfl, rfl⟩ d_Mo_sum_183
  · skip
    refine lv_iload_n hx hb d_Mo_sum_0 rfl (lv_at hl 0 rfl) ?_
    refine lv_tableIn (off := 183) (tgt := 184) hx hb d_Mo_sum_1 (by decide) (by decide) (by decide) (by decide) ?_
    refine lv_ldc2 hx hb hown (ht _ q728) d_Mo_sum_184 ?_
    refine ztl (y := lN 280200555313) (by decide) ?_
    exact zret_l C0 hr hAe hP hD hS ⟨rfl, rfl⟩ d_Mo_sum_187
  · skip
    refine lv_iload_n hx hb d_Mo_sum_0 rfl (lv_at hl 0 rfl) ?_
    refine lv_tableIn (off := 187) (tgt := 188) hx hb d_Mo_sum_1 (by decide) (by decide) (by decide) (by decide) ?_
    refine lv_ldc2 hx hb hown (ht _ q729) d_Mo_sum_188 ?_
    refine ztl (y := lN 288790620977) (by decide) ?_
    exact zret_l C0 hr hAe hP hD hS ⟨rfl, rfl⟩ d_Mo_sum_191
  · skip
    refine lv_iload_n hx hb d_Mo_sum_0 rfl (lv_at hl 0 rfl) ?_
    refine lv_tableIn (off := 191) (tgt := 192) hx hb d_Mo_sum_1 (by decide) (by decide) (by decide) (by decide) ?_
    refine lv_ldc2 hx hb hown (ht _ q730) d_Mo_sum_192 ?_
    refine ztl (y := lN 280200555842) (by decide) ?_
    exact zret_l C0 hr hAe hP hD hS ⟨rfl, rfl⟩ d_Mo_sum_195
  · skip
    refine lv_iload_n hx hb d_Mo_sum_0 rfl (lv_at hl 0 rfl) ?_
    refine lv_tableIn (off := 195) (tgt := 196) hx hb d_Mo_sum_1 (by decide) (by decide) (by decide) (by decide) ?_
    refine lv_ldc2 hx hb hown (ht _ q731) d_Mo_sum_196 ?_
    refine ztl (y := lN 280200555843) (by decide) ?_
    exact zret_l C0 hr hAe hP hD hS ⟨rfl, rfl⟩ d_Mo_sum_199
  · skip
    refine lv_iload_n hx hb d_Mo_sum_0 rfl (lv_at hl 0 rfl) ?_
    refine lv_tableIn (off := 199) (tgt := 200) hx hb d_Mo_sum_1 (by decide) (by decide) (by decide) (by decide) ?_
    refine lv_ldc2 hx hb hown (ht _ q732) d_Mo_sum_200 ?_
    refine ztl (y := lN 288790490435) (by decide) ?_
    exact zret_l C0 hr hAe hP hD hS ⟨rfl, rfl⟩ d_Mo_sum_203
  · skip
    refine lv_iload_n hx hb d_Mo_sum_0 rfl (lv_at hl 0 rfl) ?_
    refine lv_tableIn (off := 203) (tgt := 204) hx hb d_Mo_sum_1 (by decide) (by decide) (by decide) (by decide) ?_
    refine lv_ldc2 hx hb hown (ht _ q733) d_Mo_sum_204 ?_
    refine ztl (y := lN 280200555825) (by decide) ?_
    exact zret_l C0 hr hAe hP hD hS ⟨rfl, rfl⟩ d_Mo_sum_207
  · skip
    refine lv_iload_n hx hb d_Mo_sum_0 rfl (lv_at hl 0 rfl) ?_
    refine lv_tableIn (off := 207) (tgt := 208) hx hb d_Mo_sum_1 (by decide) (by decide) (by decide) (by decide) ?_
    refine lv_ldc2 hx hb hown (ht _ q734) d_Mo_sum_208 ?_
    refine ztl (y := lN 288790621489) (by decide) ?_
    exact zret_l C0 hr hAe hP hD hS ⟨rfl, rfl⟩ d_Mo_sum_211
  · skip
    refine lv_iload_n hx hb d_Mo_sum_0 rfl (lv_at hl 0 rfl) ?_
    refine lv_tableIn (off := 211) (tgt := 212) hx hb d_Mo_sum_1 (by decide) (by decide) (by decide) (by decide) ?_
    refine lv_ldc2 hx hb hown (ht _ q735) d_Mo_sum_212 ?_
    refine ztl (y := lN 1128082755) (by decide) ?_
    exact zret_l C0 hr hAe hP hD hS ⟨rfl, rfl⟩ d_Mo_sum_215
  · skip
    refine lv_iload_n hx hb d_Mo_sum_0 rfl (lv_at hl 0 rfl) ?_
    refine lv_tableIn (off := 215) (tgt := 216) hx hb d_Mo_sum_1 (by decide) (by decide) (by decide) (by decide) ?_
    refine lv_ldc2 hx hb hown (ht _ q736) d_Mo_sum_216 ?_
    refine ztl (y := lN 73930031443249) (by decide) ?_
    exact zret_l C0 hr hAe hP hD hS ⟨rfl, rfl⟩ d_Mo_sum_219
  · skip
    refine lv_iload_n hx hb d_Mo_sum_0 rfl (lv_at hl 0 rfl) ?_
    refine lv_tableIn (off := 219) (tgt := 220) hx hb d_Mo_sum_1 (by decide) (by decide) (by decide) (by decide) ?_
    refine lv_ldc2 hx hb hown (ht _ q737) d_Mo_sum_220 ?_
    refine ztl (y := lN 16700) (by decide) ?_
    exact zret_l C0 hr hAe hP hD hS ⟨rfl, rfl⟩ d_Mo_sum_223
  · skip
    refine lv_iload_n hx hb d_Mo_sum_0 rfl (lv_at hl 0 rfl) ?_
    refine lv_tableIn (off := 223) (tgt := 224) hx hb d_Mo_sum_1 (by decide) (by decide) (by decide) (by decide) ?_
    refine lv_ldc2 hx hb hown (ht _ q738) d_Mo_sum_224 ?_
    refine ztl (y := lN 16702) (by decide) ?_
    exact zret_l C0 hr hAe hP hD hS ⟨rfl, rfl⟩ d_Mo_sum_227
  · skip
    refine lv_iload_n hx hb d_Mo_sum_0 rfl (lv_at hl 0 rfl) ?_
    refine lv_tableIn (off := 227) (tgt := 228) hx hb d_Mo_sum_1 (by decide) (by decide) (by decide) (by decide) ?_
    refine lv_ldc2 hx hb hown (ht _ q739) d_Mo_sum_228 ?_
    refine ztl (y := lN 16958) (by decide) ?_
    exact zret_l C0 hr hAe hP hD hS ⟨rfl, rfl⟩ d_Mo_sum_231
  · skip
    refine lv_iload_n hx hb d_Mo_sum_0 rfl (lv_at hl 0 rfl) ?_
    refine lv_tableIn (off := 231) (tgt := 232) hx hb d_Mo_sum_1 (by decide) (by decide) (by decide) (by decide) ?_
    refine lv_ldc2 hx hb hown (ht _ q740) d_Mo_sum_232 ?_
    refine ztl (y := lN 17214) (by decide) ?_
    exact zret_l C0 hr hAe hP hD hS ⟨rfl, rfl⟩ d_Mo_sum_235
  · skip
    refine lv_iload_n hx hb d_Mo_sum_0 rfl (lv_at hl 0 rfl) ?_
    refine lv_tableIn (off := 235) (tgt := 236) hx hb d_Mo_sum_1 (by decide) (by decide) (by decide) (by decide) ?_
    refine lv_ldc2 hx hb hown (ht _ q741) d_Mo_sum_236 ?_
    refine ztl (y := lN 1061239874) (by decide) ?_
    exact zret_l C0 hr hAe hP hD hS ⟨rfl, rfl⟩ d_Mo_sum_239
  · skip
    refine lv_iload_n hx hb d_Mo_sum_0 rfl (lv_at hl 0 rfl) ?_
    refine lv_tableIn (off := 239) (tgt := 240) hx hb d_Mo_sum_1 (by decide) (by decide) (by decide) (by decide) ?_
    refine lv_ldc2 hx hb hown (ht _ q742) d_Mo_sum_240 ?_
    refine ztl (y := lN 1061239875) (by decide) ?_
    exact zret_l C0 hr hAe hP hD hS ⟨rfl, rfl⟩ d_Mo_sum_243
  · skip
    refine lv_iload_n hx hb d_Mo_sum_0 rfl (lv_at hl 0 rfl) ?_
    refine lv_tableIn (off := 243) (tgt := 244) hx hb d_Mo_sum_1 (by decide) (by decide) (by decide) (by decide) ?_
    refine lv_ldc2 hx hb hown (ht _ q743) d_Mo_sum_244 ?_
    refine ztl (y := lN 16194) (by decide) ?_
    exact zret_l C0 hr hAe hP hD hS ⟨rfl, rfl⟩ d_Mo_sum_247
  · skip
    refine lv_iload_n hx hb d_Mo_sum_0 rfl (lv_at hl 0 rfl) ?_
    refine lv_tableIn (off := 247) (tgt := 248) hx hb d_Mo_sum_1 (by decide) (by decide) (by decide) (by decide) ?_
    refine lv_ldc2 hx hb hown (ht _ q744) d_Mo_sum_248 ?_
    refine ztl (y := lN 16195) (by decide) ?_
    exact zret_l C0 hr hAe hP hD hS ⟨rfl, rfl⟩ d_Mo_sum_251
  · skip
    refine lv_iload_n hx hb d_Mo_sum_0 rfl (lv_at hl 0 rfl) ?_
    refine lv_tableIn (off := 251) (tgt := 252) hx hb d_Mo_sum_1 (by decide) (by decide) (by decide) (by decide) ?_
    refine lv_ldc2 hx hb hown (ht _ q745) d_Mo_sum_252 ?_
    refine ztl (y := lN 1061240112) (by decide) ?_
    exact zret_l C0 hr hAe hP hD hS ⟨rfl, rfl⟩ d_Mo_sum_255
  · skip
    refine lv_iload_n hx hb d_Mo_sum_0 rfl (lv_at hl 0 rfl) ?_
    refine lv_tableIn (off := 255) (tgt := 256) hx hb d_Mo_sum_1 (by decide) (by decide) (by decide) (by decide) ?_
    refine lv_ldc2 hx hb hown (ht _ q746) d_Mo_sum_256 ?_
    refine ztl (y := lN 1061371184) (by decide) ?_
    exact zret_l C0 hr hAe hP hD hS ⟨rfl, rfl⟩ d_Mo_sum_259
  · skip
    refine lv_iload_n hx hb d_Mo_sum_0 rfl (lv_at hl 0 rfl) ?_
    refine lv_tableIn (off := 259) (tgt := 260) hx hb d_Mo_sum_1 (by decide) (by decide) (by decide) (by decide) ?_
    refine lv_ldc2 hx hb hown (ht _ q747) d_Mo_sum_260 ?_
    refine ztl (y := lN 288790620995) (by decide) ?_
    exact zret_l C0 hr hAe hP hD hS ⟨rfl, rfl⟩ d_Mo_sum_263
  · skip
    refine lv_iload_n hx hb d_Mo_sum_0 rfl (lv_at hl 0 rfl) ?_
    refine lv_tableOut (tgt := 264) hx hb d_Mo_sum_1 (by decide) (by decide) ?_
    refine lv_ldc2 hx hb hown (ht _ q748) d_Mo_sum_264 ?_
    refine ztl (y := lN 4275523) (by decide) ?_
    exact zret_l C0 hr hAe hP hD hS ⟨rfl, rfl⟩ d_Mo_sum_267
