-- the class's processor and the reference: alike but for scratch, and for keys behind the count
def smP (S M : PS) : Prop := ∃ (me nu ro ro' : Nat → Nat) (un un' li li' pt : Nat) (st : Int32) (cy pl bk en kc : Nat), S = (me, nu, ro, un, li, pt, st, cy, pl, bk, en, kc) ∧ M = (me, nu, ro', un', li', pt, st, cy, pl, bk, en, kc) ∧ ∀ j, j < kc → ro j = ro' j
theorem sm_pl {op g : Nat} {S M : PS} (hop : op < 16) (h12 : op ≠ 12) (h : smP S M) : smP (plS op g S) (plS op g M) := by
  obtain ⟨me, nu, ro, ro', un, un', li, li', pt, st, cy, pl, bk, en, kc, rfl, rfl, hr⟩ := h
  rcases (show op = 0 ∨ op = 1 ∨ op = 2 ∨ op = 3 ∨ op = 4 ∨ op = 5 ∨ op = 6 ∨ op = 7 ∨ op = 8 ∨ op = 9 ∨ op = 10 ∨ op = 11 ∨ op = 12 ∨ op = 13 ∨ op = 14 ∨ op = 15 by omega) with rfl | rfl | rfl | rfl | rfl | rfl | rfl | rfl | rfl | rfl | rfl | rfl | rfl | rfl | rfl | rfl
  all_goals first | exact absurd rfl h12 | exact ⟨_, _, _, _, _, _, _, _, _, _, _, _, _, _, _, rfl, rfl, hr⟩
theorem sm_key {g : Nat} {S M : PS} {here : Nat} (hk : S.2.2.2.2.2.2.2.2.2.2.2 ≤ 3) (hh : (S.2.2.2.2.2.2.2.2.1 + 64 - 1) % 64 = here) (h : smP S M) : smP (plS 12 g S) (plM here 12 g M) := by
  obtain ⟨me, nu, ro, ro', un, un', li, li', pt, st, cy, pl, bk, en, kc, rfl, rfl, hr⟩ := h
  dsimp only at hk hh
  show smP (if kc = 0 then (me, nu, ro, un, li, pt, st, cy, (pl + 64 - 1) % 64, bk, 1, kc) else (me, nu, shC ro kc, un, li, pt, st, cy, ro 0 * 8 % 64, bk, en, kc - 1)) (if kc = 0 then (me, nu, ro', un', li', pt, st, cy, here, bk, 1, kc) else (me, nu, shM ro', un', li', pt, st, cy, 8 * ro' 0 % 64, bk, en, kc - 1))
  by_cases hz : kc = 0
  · rw [if_pos hz, if_pos hz, hh]
    exact ⟨_, _, _, _, _, _, _, _, _, _, _, _, _, _, _, rfl, rfl, hr⟩
  · rw [if_neg hz, if_neg hz]
    refine ⟨me, nu, shC ro kc, shM ro', un, un', li, li', pt, st, cy, ro 0 * 8 % 64, bk, en, kc - 1, rfl, ?_, fun j hj => ?_⟩
    · rw [hr 0 (by omega), Nat.mul_comm]
    · rcases (show kc = 1 ∨ kc = 2 ∨ kc = 3 by omega) with rfl | rfl | rfl
      · omega
      · obtain rfl : j = 0 := by omega
        show ro 1 = ro' 1
        exact hr 1 (by omega)
      · rcases (show j = 0 ∨ j = 1 by omega) with rfl | rfl
        · show ro 1 = ro' 1
          exact hr 1 (by omega)
        · show ro 2 = ro' 2
          exact hr 2 (by omega)
theorem sm_dw {wd : Nat} {S M : PS} (ok : okS S) (h : smP S M) : smP (dwS wd S) (dwM wd M) := by
  obtain ⟨me, nu, ro, ro', un, un', li, li', pt, st, cy, pl, bk, en, kc, rfl, rfl, hr⟩ := h
  obtain ⟨h1, h2, h3, h4, h5, h6, h7, h8, h9⟩ := ok
  dsimp only at h6 h9
  unfold dwS dwM
  dsimp only
  rcases (show wd % 4 = 0 ∨ wd % 4 = 1 ∨ wd % 4 = 2 ∨ wd % 4 = 3 by omega) with e | e | e | e
  · rw [e]
    have hz : smP (me, nu, ro, un, li, pt, st, 0, (pl + 1) % 64, bk, en, kc) (me, nu, ro', un', li', pt, st, 0, (pl + 1) % 64, bk, en, kc) := ⟨_, _, _, _, _, _, _, _, _, _, _, _, _, _, _, rfl, rfl, hr⟩
    show smP (plS (wd / 4 % 16) (wd / 64) (me, nu, ro, un, li, pt, st, 0, (pl + 1) % 64, bk, en, kc)) (plM pl (wd / 4 % 16) (wd / 64) (me, nu, ro', un', li', pt, st, 0, (pl + 1) % 64, bk, en, kc))
    by_cases hp : wd / 4 % 16 = 12
    · rw [hp]
      exact sm_key h9 (by dsimp only; omega) hz
    · unfold plM
      rw [if_neg hp]
      exact sm_pl (by omega) hp hz
  · rw [e]
    exact ⟨_, _, _, _, _, _, _, _, _, _, _, _, _, _, _, rfl, rfl, hr⟩
  · rw [e]
    exact ⟨_, _, _, _, _, _, _, _, _, _, _, _, _, _, _, rfl, rfl, hr⟩
  · rw [e]
    exact ⟨_, _, _, _, _, _, _, _, _, _, _, _, _, _, _, rfl, rfl, hr⟩
theorem sm_rn : ∀ {n : Nat} {S M : PS}, okS S → smP S M → (rnS n S).1 = (rnM n M).1 ∧ smP (rnS n S).2 (rnM n M).2
  | 0, S, M, _, h => ⟨rfl, h⟩
  | n + 1, S, M, ok, h => by
    have h0 := h
    obtain ⟨me, nu, ro, ro', un, un', li, li', pt, st, cy, pl, bk, en, kc, hS, hM, hr⟩ := h0
    by_cases hz : en = 0
    · have hzS : S.2.2.2.2.2.2.2.2.2.2.1 = 0 := by rw [hS]; exact hz
      have hzM : M.2.2.2.2.2.2.2.2.2.2.1 = 0 := by rw [hM]; exact hz
      rw [rn_s hzS, rm_s hzM]
      have e1 : M.1 M.2.2.2.2.2.2.2.2.1 = S.1 S.2.2.2.2.2.2.2.2.1 := by rw [hS, hM]
      rw [e1]
      have ih := sm_rn (n := n) (ok_dw ok) (sm_dw (wd := S.1 S.2.2.2.2.2.2.2.2.1) ok h)
      exact ⟨by dsimp only; rw [ih.1], ih.2⟩
    · have hzS : ¬ S.2.2.2.2.2.2.2.2.2.2.1 = 0 := by rw [hS]; exact hz
      have hzM : ¬ M.2.2.2.2.2.2.2.2.2.2.1 = 0 := by rw [hM]; exact hz
      rw [rn_e hzS, rm_e hzM]
      exact ⟨rfl, h⟩
