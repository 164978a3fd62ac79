-- the invariant is kept by every call
section INV
variable {tx : Nat → Nat} {ln : Nat} {wo bg me nu ro ro' : Nat → Nat} {un li un' li' pt : Nat} {st : Int32} {cy pl bk kc : Nat} {po : Nat → Nat}
theorem lw_type {c0 : Nat} (J : lwI tx ln wo bg me nu ro ro' un li un' li' pt st cy pl bk kc po) (h : 32 ≤ c0 ∧ c0 ≤ 126 ∧ ln < 240) : lwI (uN tx ln c0) (ln + 1) wo bg me nu ro ro' un li un' li' pt st cy pl bk kc po := by
  obtain ⟨j1, j2, j3, j4, j5, j6, j7, j8, j9⟩ := J
  refine ⟨j1, j2, j3, by omega, uN_lt j5 (by omega), fun j hj => ?_, j7, j8, j9⟩
  unfold uN
  split
  · exact h.1
  · exact j6 j (by omega)
theorem inR_lt {x : Int32} {n : Nat} (hn : n < 2 ^ 31) (h : inR x n) : x.toNatClampNeg < n := by
  obtain ⟨j, hj, rfl⟩ := h
  rw [nI_clamp (by omega)]
  exact hj
theorem lw_poke {x x1 : Int32} (J : lwI tx ln wo bg me nu ro ro' un li un' li' pt st cy pl bk kc po) (h : inR x 64 ∧ inR x1 1024) : lwI tx ln wo bg (uN me x.toNatClampNeg x1.toNatClampNeg) nu ro ro' un li un' li' pt st cy pl bk kc po := by
  obtain ⟨⟨a1, a2⟩, ⟨b1, b2⟩, j3⟩ := J
  have := inR_lt (by decide) h.2
  exact ⟨⟨uN_lt a1 this, a2⟩, ⟨uN_lt b1 this, b2⟩, j3⟩
theorem lw_go {x : Int32} (J : lwI tx ln wo bg me nu ro ro' un li un' li' pt st cy pl bk kc po) (h : inR x 64) : lwI tx ln wo bg me nu ro ro' un li un' li' pt st cy x.toNatClampNeg bk kc po := by
  obtain ⟨⟨a1, a2, a3, a4, a5, a6, a7⟩, ⟨b1, b2, b3, b4, b5, b6, b7⟩, j3⟩ := J
  have := inR_lt (by decide) h
  exact ⟨⟨a1, a2, a3, a4, a5, this, a7⟩, ⟨b1, b2, b3, b4, b5, this, b7⟩, j3⟩
theorem lw_set {x : Int32} {v : Int64} (J : lwI tx ln wo bg me nu ro ro' un li un' li' pt st cy pl bk kc po) : lwI tx ln wo bg me (uN nu x.toNatClampNeg (v.toNatClampNeg % 10 ^ 14)) ro ro' un li un' li' pt st cy pl bk kc po := by
  obtain ⟨⟨a1, a2, a3⟩, ⟨b1, b2, b3⟩, j3⟩ := J
  exact ⟨⟨a1, uN_lt a2 (Nat.mod_lt _ (by decide)), a3⟩, ⟨b1, uN_lt b2 (Nat.mod_lt _ (by decide)), b3⟩, j3⟩
theorem lw_key {x : Int32} (J : lwI tx ln wo bg me nu ro ro' un li un' li' pt st cy pl bk kc po) (h : kOk x kc) : lwI tx ln wo bg me nu (uN ro kc x.toNatClampNeg) (uN ro' kc x.toNatClampNeg) un li un' li' pt st cy pl bk (kc + 1) po := by
  obtain ⟨⟨a1, a2, a3, a4, a5, a6, a7, a8, a9⟩, ⟨b1, b2, b3, b4, b5, b6, b7, b8, b9⟩, j3, j4⟩ := J
  obtain ⟨k1, k2, k3⟩ := h
  obtain ⟨j, hj, rfl⟩ := nI_of k1
  rw [nI_clamp (by omega)]
  dsimp only at a9
  have hj16 : j < 16 := by
    by_cases hz : j < 16
    · exact hz
    · exact absurd (nI_le (show 16 ≤ j by omega) (by omega)) k2
  refine ⟨⟨a1, a2, uN_lt a3 hj16, a4, a5, a6, a7, a8, by dsimp only; omega⟩, ⟨b1, b2, uN_lt b3 hj16, b4, b5, b6, b7, b8, by dsimp only; omega⟩, fun i hi => ?_, j4⟩
  unfold uN
  split
  · rfl
  · exact j3 i (by omega)
theorem lw_sm {en en' : Nat} (J : lwI tx ln wo bg me nu ro ro' un li un' li' pt st cy pl bk kc po) : smP (me, nu, ro, un, li, pt, st, cy, pl, bk, 0, kc) (me, nu, ro', un', li', pt, st, cy, pl, bk, 0, kc) := ⟨_, _, _, _, _, _, _, _, _, _, _, _, _, _, _, rfl, rfl, J.2.2.1⟩
theorem lw_run {n en2 : Nat} {me2 nu2 ro2 ro2' : Nat → Nat} {un2 un2' li2 li2' pt2 : Nat} {st2 : Int32} {cy2 pl2 bk2 kc2 : Nat} (J : lwI tx ln wo bg me nu ro ro' un li un' li' pt st cy pl bk kc po)
    (hS : (rnS n (me, nu, ro, un, li, pt, st, cy, pl, bk, 0, kc)).2 = (me2, nu2, ro2, un2, li2, pt2, st2, cy2, pl2, bk2, en2, kc2)) (hM : (rnM n (me, nu, ro', un', li', pt, st, cy, pl, bk, 0, kc)).2 = (me2, nu2, ro2', un2', li2', pt2, st2, cy2, pl2, bk2, en2, kc2)) (hr : ∀ j, j < kc2 → ro2 j = ro2' j) :
    lwI tx ln wo bg me2 nu2 ro2 ro2' un2 li2 un2' li2' pt2 st2 cy2 pl2 bk2 kc2 po := by
  obtain ⟨j1, j2, j3, j4⟩ := J
  have a := ok_rn (n := n) j1
  have b := ok_rnM (n := n) j2
  rw [hS] at a
  rw [hM] at b
  obtain ⟨a1, a2, a3, a4, a5, a6, a7, a8, a9⟩ := a
  obtain ⟨b1, b2, b3, b4, b5, b6, b7, b8, b9⟩ := b
  exact ⟨⟨a1, a2, a3, a4, a5, a6, a7, by dsimp only; omega, a9⟩, ⟨b1, b2, b3, b4, b5, b6, b7, by dsimp only; omega, b9⟩, hr, j4⟩
theorem fl_lt {lb : Nat → Int32} {bg : Nat → Nat} (hlb : ∀ j, j < 26 → (lb j = (-1) ∨ ∃ t, t < 64 ∧ lb j = nI t)) : ∀ {r i : Nat} {wo : Nat → Nat}, okW i (i + r) wo → ∀ j, (fl_ lb bg r i wo).2 j < 1024
  | 0, i, wo, h => h.2
  | r + 1, i, wo, h => by
    rw [l_w]
    have hs : okW (i + 1) (i + 1 + r) wo := by rw [show i + 1 + r = i + (r + 1) by omega]; exact okW_s h
    by_cases h2 : wo i % 2 = 0
    · rw [if_pos h2]
      exact fl_lt hlb hs
    · rw [if_neg h2]
      by_cases h3 : lb (wo i / 4) = (-1)
      · rw [if_pos h3]
        exact h.2
      · rw [if_neg h3]
        rcases hlb (wo i / 4) (h.1 i (Nat.le_refl _) (by omega) (by omega)) with hg | ⟨t, ht, hg⟩
        · exact absurd hg h3
        · rw [hg, nI_clamp (by omega)]
          refine fl_lt hlb ?_
          rw [show i + 1 + r = i + (r + 1) by omega]
          exact okW_u h ht
theorem asm_b2 {lb : Nat → Int32} (hln : ln ≤ 240) (hw : ∀ j, wo j < 1024) (hb : ∀ j, bg j < 240) : (∀ j, (asm tx ln lb wo bg).2.2.2.1 j < 1024) ∧ ∀ j, (asm tx ln lb wo bg).2.2.2.2 j < 240 := by
  have h := okT_r (tx := tx) (ln := ln) hln (r := ln) (a := 0) rfl (okT_0 (lb := lb) hw hb)
  unfold asm
  revert h
  generalize tR tx ln ln 0 (fil lb (-1) 26, 0, wo, bg) = Z
  intro h
  obtain ⟨ia, lb1, ct, wo1, bg1⟩ := Z
  obtain ⟨h1, h2, h3, h4, h5⟩ := h
  dsimp only at h1 h2 h3 h4 h5 ⊢
  split
  · exact ⟨fl_lt h4 ⟨fun j _ h => h2 j (by omega), h3⟩, h5⟩
  · exact ⟨h3, h5⟩
theorem ldM_eq {co co' : Nat → Nat} {n : Nat} (h : ∀ j, j < n → co j = co' j) : ldM co n me 64 = ldM co' n me 64 := by
  funext j
  unfold ldM
  split
  · split
    · exact h j (by assumption)
    · rfl
  · rfl
theorem lw_asm {wo2 bg2 : Nat → Nat} {n : Nat} (J : lwI tx ln wo bg me nu ro ro' un li un' li' pt st cy pl bk kc po) (hw : ∀ j, wo2 j < 1024) (hb : ∀ j, bg2 j < 240) : lwI tx 0 wo2 bg2 (ldM wo2 n me 64) nu ro ro' un li un' li' pt st cy 0 bk kc po := by
  obtain ⟨⟨a1, a2, a3, a4, a5, a6, a7, a8, a9⟩, ⟨b1, b2, b3, b4, b5, b6, b7, b8, b9⟩, j3, j4, j5, j6, j7, j8, j9⟩ := J
  have hm : ∀ j, ldM wo2 n me 64 j < 1024 := fun j => by
    unfold ldM
    split
    · split
      · exact hw j
      · decide
    · exact a1 j
  exact ⟨⟨hm, a2, a3, a4, a5, (by show 0 < 64; decide), a7, a8, a9⟩, ⟨hm, b2, b3, b4, b5, (by show 0 < 64; decide), b7, b8, b9⟩, j3, by omega, j5, fun j hj => absurd hj (Nat.not_lt_zero _), hw, hb, j9⟩
theorem lw_ill {wo2 bg2 : Nat → Nat} (J : lwI tx ln wo bg me nu ro ro' un li un' li' pt st cy pl bk kc po) (hw : ∀ j, wo2 j < 1024) (hb : ∀ j, bg2 j < 240) : lwI tx 0 wo2 bg2 me nu ro ro' un li un' li' pt st cy pl bk kc po := by
  obtain ⟨j1, j2, j3, j4, j5, j6, j7, j8, j9⟩ := J
  exact ⟨j1, j2, j3, by omega, j5, fun j hj => absurd hj (Nat.not_lt_zero _), hw, hb, j9⟩
end INV
theorem zinc4 (n : Nat) : nI n + Int32.ofInt 4 = nI (n + 4) := nI_add n 4
