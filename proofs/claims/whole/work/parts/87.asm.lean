-- labels filled in, alike
theorem sm_fl {tx : Nat → Nat} {T : AS} {M : AMs} (h : smT tx T M) : ∀ {r i : Nat} {wo md : Nat → Nat}, i + r = T.2.1 → (∀ j, j < i → wo j = md j) → (∀ j, i ≤ j → j < T.2.1 → wo j = T.2.2.1 j ∧ md j = M.2.2.1 j) →
    ((fl_ T.1 T.2.2.2 r i wo).1 = (-1) ∧ (rfM tx M.1 M.2.2.2 r i md).1 = (-1) ∧ ∀ j, j < T.2.1 → (fl_ T.1 T.2.2.2 r i wo).2 j = (rfM tx M.1 M.2.2.2 r i md).2 j) ∨ (∃ b, b < 240 ∧ (fl_ T.1 T.2.2.2 r i wo).1 = nI b ∧ (rfM tx M.1 M.2.2.2 r i md).1 = nI b)
  | 0, i, wo, md, e, h1, _ => Or.inl ⟨rfl, rfl, fun j hj => h1 j (by omega)⟩
  | r + 1, i, wo, md, e, h1, h2 => by
    obtain ⟨g1, g2, g3⟩ := h
    obtain ⟨k1, k2⟩ := h2 i (Nat.le_refl _) (by omega)
    rw [l_w, rf_w]
    rcases g3 i (by omega) with ⟨p1, p2, p3⟩ | ⟨a, p0, p1, p2, p3, p4, p5, p6, p7⟩
    · rw [if_pos (by rw [k1]; exact p3), if_pos p1]
      refine sm_fl ⟨g1, g2, g3⟩ (by omega) (fun j hj => ?_) (fun j a b => h2 j (by omega) b)
      by_cases hz : j = i
      · rw [hz, k1, k2, p2]
      · exact h1 j (by omega)
    · have hc : wo i / 4 = tx (a + 1) - 97 := by rw [k1, p7]; omega
      have hm : wo i % 4 = md i := by rw [k1, p7, k2]; omega
      rw [if_neg (by rw [k1, p7]; omega), if_neg (fun z => zm1 (n := a) (by omega) (p1.symm.trans z)), hc, p1, nI_clamp (by omega), hm]
      rcases g2 (tx (a + 1) - 97) (by omega) with ⟨q1, q2⟩ | ⟨t, q0, q1, q2⟩
      · rw [if_pos q1, if_pos q2, p2]
        exact Or.inr ⟨a, by omega, rfl, rfl⟩
      · rw [if_neg (fun z => zm1 (n := t % 64) (by omega) (q1.symm.trans z)), if_neg (fun z => zm1 (n := t) (by omega) (q2.symm.trans z)), q1, q2, nI_clamp (by omega), nI_clamp (by omega)]
        refine sm_fl ⟨g1, g2, g3⟩ (by omega) (fun j hj => ?_) (fun j a b => ?_)
        · unfold uN
          by_cases hz : j = i
          · rw [if_pos hz, if_pos hz]
            omega
          · rw [if_neg hz, if_neg hz]
            exact h1 j (by omega)
        · unfold uN
          rw [if_neg (by omega), if_neg (by omega)]
          exact h2 j (by omega) b
-- where a name ends
theorem e_in {tx : Nat → Nat} {ln : Nat} : ∀ {r j : Nat}, ∀ k, j ≤ k → k < eN tx ln r j → ¬ tx k = 32
  | 0, j, k, h1, h2 => by
    unfold eN at h2
    omega
  | r + 1, j, k, h1, h2 => by
    by_cases hz : tx j = 32
    · rw [e_s hz] at h2
      omega
    · rw [e_n hz] at h2
      by_cases hk : k = j
      · rw [hk]
        exact hz
      · exact e_in k (by omega) h2
theorem e_end {tx : Nat → Nat} {ln : Nat} : ∀ {r j : Nat}, eN tx ln r j = j + r ∨ tx (eN tx ln r j) = 32
  | 0, j => Or.inl rfl
  | r + 1, j => by
    by_cases hz : tx j = 32
    · rw [e_s hz]
      exact Or.inr hz
    · rw [e_n hz]
      rcases e_end (tx := tx) (ln := ln) (r := r) (j := j + 1) with h | h
      · exact Or.inl (by rw [h]; omega)
      · exact Or.inr h
theorem t_skip {tx : Nat → Nat} {ln r : Nat} {T : AS} : ∀ {d a : Nat}, 0 < a → (∀ k, a - 1 ≤ k → k < a - 1 + d → ¬ tx k = 32) → tR tx ln (d + r) a T = tR tx ln r (a + d) T
  | 0, a, _, _ => by rw [Nat.zero_add, Nat.add_zero]
  | d + 1, a, h0, h => by
    rw [show d + 1 + r = (d + r) + 1 by omega, t_w, if_neg, t_skip (by omega) (fun k h1 h2 => h k (by omega) (by omega)), show a + 1 + d = a + (d + 1) by omega]
    rintro ⟨h1, h2 | h2⟩
    · omega
    · exact h (a - 1) (Nat.le_refl _) (by omega) h2
theorem sm_re {tx : Nat → Nat} {tn : Nat} (hln : tn ≤ 240) (htx : ∀ j, tx j < 127) (ht32 : ∀ j, j < tn → 32 ≤ tx j) : ∀ {r a0 : Nat} {T : AS} {M : AMs}, tn - a0 ≤ r → (a0 = 0 ∨ tx (a0 - 1) = 32 ∨ tx a0 = 32 ∨ tn ≤ a0) → okT T → smT tx T M →
    ((tR tx tn (tn - a0) a0 T).1 = (-1) ∧ (reM tx tn r a0 M).1 = (-1) ∧ okT (tR tx tn (tn - a0) a0 T).2 ∧ smT tx (tR tx tn (tn - a0) a0 T).2 (reM tx tn r a0 M).2) ∨ (∃ b, b < 240 ∧ (tR tx tn (tn - a0) a0 T).1 = nI b ∧ (reM tx tn r a0 M).1 = nI b)
  | 0, a0, T, M, hr, _, ok, h => by
    rw [show tn - a0 = 0 by omega]
    exact Or.inl ⟨rfl, rfl, ok, h⟩
  | r + 1, a0, T, M, hr, hb, ok, h => by
    by_cases hz : tn ≤ a0
    · rw [show tn - a0 = 0 by omega, re_e hz]
      exact Or.inl ⟨rfl, rfl, ok, h⟩
    · rw [re_w, if_neg hz]
      have hle := e_le (tx := tx) (ln := tn) (r := tn - a0) (j := a0)
      by_cases h32 : tx a0 = 32
      · have e : eN tx tn (tn - a0) a0 = a0 := by rw [show tn - a0 = (tn - (a0 + 1)) + 1 by omega]; exact e_s h32
        rw [e, if_neg (by omega), show tn - a0 = (tn - (a0 + 1)) + 1 by omega, t_w, if_neg (fun z => z.1 h32)]
        exact sm_re hln htx ht32 (by omega) (Or.inr (Or.inl (by rw [Nat.add_sub_cancel]; exact h32))) ok h
      · have hin := e_in (tx := tx) (ln := tn) (r := tn - a0) (j := a0)
        have hend := e_end (tx := tx) (ln := tn) (r := tn - a0) (j := a0)
        have hlt : a0 < eN tx tn (tn - a0) a0 := by
          rw [show tn - a0 = (tn - (a0 + 1)) + 1 by omega, e_n h32]
          have := (e_le (tx := tx) (ln := tn) (r := tn - (a0 + 1)) (j := a0 + 1)).1
          omega
        rw [if_pos hlt]
        obtain ⟨e, he⟩ : ∃ e, eN tx tn (tn - a0) a0 = e := ⟨_, rfl⟩
        rw [he] at hle hin hend hlt ⊢
        have hbg : ¬ tx a0 = 32 ∧ (a0 = 0 ∨ tx (a0 - 1) = 32) := ⟨h32, by
          rcases hb with hb | hb | hb | hb
          · exact Or.inl hb
          · exact Or.inr hb
          · exact absurd hb h32
          · omega⟩
        have ht : ∀ j, a0 ≤ j → j < e → 0 < tx j ∧ tx j < 256 := fun j h1 h2 => ⟨by have := ht32 j (by omega); omega, by have := htx j; omega⟩
        have hT : tR tx tn (tn - a0) a0 T = (match tN tx a0 e T with
          | some T' => tR tx tn (tn - (a0 + 1)) (a0 + 1) T'
          | none => (nI a0, T)) := by
          rw [← he, show tR tx tn (tn - a0) a0 T = tR tx tn ((tn - (a0 + 1)) + 1) a0 T by rw [show (tn - (a0 + 1)) + 1 = tn - a0 by omega], t_w, if_pos hbg]
          rfl
        rcases sm_t hlt (by omega) hin ht htx ok.1 h with ⟨n1, n2⟩ | ⟨T', M', s1, s2, s3⟩
        · rw [hT, n1, n2]
          exact Or.inr ⟨a0, by omega, rfl, rfl⟩
        · rw [hT, s1, s2]
          dsimp only
          rw [show tn - (a0 + 1) = (e - (a0 + 1)) + (tn - e) by omega, t_skip (by omega) (fun k h1 h2 => hin k (by omega) (by omega)), show a0 + 1 + (e - (a0 + 1)) = e by omega]
          exact sm_re hln htx ht32 (by omega) (by
            rcases hend with hend | hend
            · exact Or.inr (Or.inr (Or.inr (by omega)))
            · exact Or.inr (Or.inr (Or.inl hend))) (okT_t (by omega) ok s1) s3
-- the whole text, alike
theorem smT_0 {tx : Nat → Nat} {lb lb' wn : Nat → Int32} {wo bg md : Nat → Nat} : smT tx (fil lb (-1) 26, 0, wo, bg) (fil lb' (-1) 26, 0, md, wn) :=
  ⟨rfl, fun j hj => Or.inl ⟨if_pos hj, if_pos hj⟩, fun i hi => absurd hi (Nat.not_lt_zero _)⟩
theorem sm_asm {tx : Nat → Nat} {tn : Nat} {lb lb' wn : Nat → Int32} {wo bg md : Nat → Nat} (hln : tn ≤ 240) (htx : ∀ j, tx j < 127) (ht32 : ∀ j, j < tn → 32 ≤ tx j) (hw : ∀ j, wo j < 1024) (hb : ∀ j, bg j < 240) :
    ((asm tx tn lb wo bg).1 = (-1) ∧ (asM tx tn lb' md wn).1 = (-1) ∧ (asm tx tn lb wo bg).2.2.1 = (asM tx tn lb' md wn).2.2.1 ∧ ∀ j, j < (asm tx tn lb wo bg).2.2.1 → (asm tx tn lb wo bg).2.2.2.1 j = (asM tx tn lb' md wn).2.2.2.1 j) ∨ (∃ b, b < 240 ∧ (asm tx tn lb wo bg).1 = nI b ∧ (asM tx tn lb' md wn).1 = nI b) := by
  have h := sm_re hln htx ht32 (r := tn) (a0 := 0) (by omega) (Or.inl rfl) (okT_0 (lb := lb) hw hb) (smT_0 (tx := tx) (lb := lb) (lb' := lb') (wn := wn) (wo := wo) (bg := bg) (md := md))
  rw [Nat.sub_zero] at h
  obtain ⟨Z, hZ⟩ : ∃ Z, tR tx tn tn 0 (fil lb (-1) 26, 0, wo, bg) = Z := ⟨_, rfl⟩
  obtain ⟨Y, hY⟩ : ∃ Y, reM tx tn tn 0 (fil lb' (-1) 26, 0, md, wn) = Y := ⟨_, rfl⟩
  rw [hZ, hY] at h
  obtain ⟨za, ZT⟩ := Z
  obtain ⟨ya, YT⟩ := Y
  dsimp only at h
  rcases h with ⟨rfl, rfl, ok, hs⟩ | ⟨b, hb2, rfl, rfl⟩
  · rw [asm_a hZ, asM_a hY]
    dsimp only
    have hf := sm_fl hs (r := ZT.2.1) (i := 0) (wo := ZT.2.2.1) (md := YT.2.2.1) (by omega) (fun j hj => absurd hj (Nat.not_lt_zero _)) (fun j _ _ => ⟨rfl, rfl⟩)
    rw [← hs.1]
    rcases hf with ⟨f1, f2, f3⟩ | ⟨b, f0, f1, f2⟩
    · exact Or.inl ⟨f1, f2, rfl, f3⟩
    · exact Or.inr ⟨b, f0, f1, f2⟩
  · rw [asm_b hb2 hZ, asM_b hb2 hY]
    exact Or.inr ⟨b, hb2, rfl, rfl⟩
