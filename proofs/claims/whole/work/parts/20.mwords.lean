theorem rF_at {f : Nat → Int32} {j : Nat} (h : j < 2 ^ 31) : f (nI j).toNatClampNeg = f j := by rw [nI_clamp h]
theorem rF_up {f : Nat → Int32} {j : Nat} {x : Int32} (h : j < 2 ^ 31) : upd f (nI j).toNatClampNeg x = upd f j x := by rw [nI_clamp h]
-- the reference's cells
abbrev wM (ad : Nat → Nat) (ca : Nat → ClassId) (cd : Nat) (po nu : Nat → Nat) (pt : Nat) (st : Int32) (cy pl bk : Nat) (me : Nat → Nat) (kc : Nat) (ro : Nat → Nat) (en un li tn : Nat) (tx : Nat → Nat) (ia : Int32) (ct : Nat) (md : Nat → Nat) (lb wn : Nat → Int32) : va_W :=
  [(ad 12, .inr (5, [.int (nI cd), .ref (ad 13), .ref (ad 14), .int (nI pt), .int st, .int (nI cy), .int (nI pl), .int (nI bk), .ref (ad 15), .int (nI kc), .ref (ad 16), .int (nI en), .long (lN un), .long (lN li), .int (nI tn), .ref (ad 17), .int ia, .int (nI ct), .ref (ad 18), .ref (ad 19), .ref (ad 20)])),
   (ad 13, .inl (ca 1, 15, .inr (.inl (lF po)))), (ad 14, .inl (ca 1, 7, .inr (.inl (lF nu)))), (ad 15, .inl (ca 0, 64, .inl (nF me))), (ad 16, .inl (ca 0, 3, .inl (nF ro))), (ad 17, .inl (ca 2, 240, .inl (nF tx))), (ad 18, .inl (ca 0, 64, .inl (nF md))), (ad 19, .inl (ca 0, 26, .inl lb)), (ad 20, .inl (ca 0, 64, .inl wn))]
def shM (ro : Nat → Nat) : Nat → Nat := uN (uN ro 0 (ro 1)) 1 ((uN ro 0 (ro 1)) 2)
def plM (here op g : Nat) (S : PS) : PS := if op = 12 then (match S with
  | (me, nu, ro, un, li, pt, st, cy, pl, bk, en, kc) => if kc = 0 then (me, nu, ro, un, li, pt, st, cy, here, bk, 1, kc) else (me, nu, shM ro, un, li, pt, st, cy, 8 * ro 0 % 64, bk, en, kc - 1)) else plS op g S
def dwM (wd : Nat) (S : PS) : PS := match S with
  | (me, nu, ro, un, li, pt, st, cy, pl, bk, en, kc) => match wd % 4 with
    | 0 => plM pl (wd / 4 % 16) (wd / 64) (me, nu, ro, un, li, pt, st, 0, (pl + 1) % 64, bk, en, kc)
    | 1 => (me, nu, ro, un, li, pt, st, 0, wd / 4 % 64, (pl + 1) % 64, en, kc)
    | 2 => (me, fwN (wd / 32) (fU pt (wd / 4 % 8)) (fL pt (wd / 4 % 8)) nu, ro, fU pt (wd / 4 % 8), fL pt (wd / 4 % 8), pt, st, fwC (wd / 32) (fU pt (wd / 4 % 8)) (fL pt (wd / 4 % 8)) nu, (pl + 1) % 64, bk, en, kc)
    | _ => (me, nu, ro, un, li, pt, st, 0, if cy = 0 then wd / 4 % 64 else (pl + 1) % 64, bk, en, kc)
theorem shM_lt {f : Nat → Nat} {B : Nat} (h : ∀ j, f j < B) : ∀ j, shM f j < B := uN_lt (uN_lt h (h 1)) (uN_lt h (h 1) 2)
theorem ok_plM {here op g : Nat} {S : PS} (hh : here < 64) (h : okS S) : okS (plM here op g S) := by
  unfold plM
  split
  · obtain ⟨me, nu, ro, un, li, pt, st, cy, pl, bk, en, kc⟩ := S
    obtain ⟨h1, h2, h3, h4, h5, h6, h7, h8, h9⟩ := h
    dsimp only at h1 h2 h3 h4 h5 h6 h7 h8 h9
    have h0 := h3 0
    dsimp only
    split
    · refine ⟨h1, h2, h3, ?_, ?_, ?_, ?_, ?_, ?_⟩ <;> dsimp only <;> omega
    · refine ⟨h1, h2, shM_lt h3, ?_, ?_, ?_, ?_, ?_, ?_⟩ <;> dsimp only <;> omega
  · exact ok_pl h
theorem ok_dwM {wd : Nat} {S : PS} (h : okS S) : okS (dwM wd S) := by
  obtain ⟨me, nu, ro, un, li, pt, st, cy, pl, bk, en, kc⟩ := S
  obtain ⟨h1, h2, h3, h4, h5, h6, h7, h8, h9⟩ := h
  dsimp only at h1 h2 h3 h4 h5 h6 h7 h8 h9
  unfold dwM
  dsimp only
  split
  · refine ok_plM h6 ⟨h1, h2, h3, ?_, ?_, ?_, ?_, ?_, ?_⟩ <;> dsimp only <;> omega
  · refine ⟨h1, h2, h3, ?_, ?_, ?_, ?_, ?_, ?_⟩ <;> dsimp only <;> omega
  · refine ⟨h1, ok_fwN h2 (fU_pos _ _) (fL_pos _ _) (fUL h4), h3, ?_, ?_, ?_, ?_, ?_, ?_⟩ <;> dsimp only <;> first | omega | exact ok_fwC _ _ _ _
  · refine ⟨h1, h2, h3, ?_, ?_, ?_, ?_, ?_, ?_⟩ <;> dsimp only <;> first | omega | (split <;> omega)
def rnM : Nat → PS → Nat × PS
  | 0, S => (0, S)
  | n + 1, S => if S.2.2.2.2.2.2.2.2.2.2.1 = 0 then ((rnM n (dwM (S.1 S.2.2.2.2.2.2.2.2.1) S)).1 + 1, (rnM n (dwM (S.1 S.2.2.2.2.2.2.2.2.1) S)).2) else (0, S)
theorem rm_0 (S : PS) : rnM 0 S = (0, S) := rfl
theorem rm_s {n : Nat} {S : PS} (h : S.2.2.2.2.2.2.2.2.2.2.1 = 0) : rnM (n + 1) S = ((rnM n (dwM (S.1 S.2.2.2.2.2.2.2.2.1) S)).1 + 1, (rnM n (dwM (S.1 S.2.2.2.2.2.2.2.2.1) S)).2) := if_pos h
theorem rm_e {n : Nat} {S : PS} (h : ¬ S.2.2.2.2.2.2.2.2.2.2.1 = 0) : rnM (n + 1) S = (0, S) := if_neg h
theorem ok_rnM : ∀ {n : Nat} {S : PS}, okS S → okS (rnM n S).2
  | 0, _, h => h
  | n + 1, S, h => by
    unfold rnM
    split
    · exact ok_rnM (ok_dwM h)
    · exact h
-- a sum that doesn't fit, a difference below 0: the reference's two ways
theorem bc_n {l : Nat} {z : Int} (h1 : z < 0) (h2 : -(l : Int) ≤ z) : Int64.ofInt z + lN l = lN (rz l z) := by
  rw [lN_int, lN_int, ← Int64.ofInt_add]
  congr 1
  unfold rz
  have h4 : z % (l : Int) = z + l := by
    have h5 : (z + l) % (l : Int) = z + l := Int.emod_eq_of_lt (by omega) (by omega)
    rw [Int.add_emod_right] at h5
    exact h5
  rw [h4]
  exact (Int.toNat_of_nonneg (by omega)).symm
theorem bc_p {l : Nat} {z : Int} (hz : -(2 ^ 62) ≤ z ∧ z < 2 ^ 62) (hl : 0 < l) (hl2 : l < 2 ^ 62) (h : 0 ≤ z) : Int64.ofInt z - Int64.ofInt z / lN l * lN l = lN (rz l z) := (fm_rem hz hl2).trans (fm_p hl h)
theorem zneg {c : Nat} : -(lN c) = Int64.ofInt (((0 : Nat) : Int) - (c : Nat)) := by
  rw [lN_int, ← Int64.ofInt_neg]
  congr 1
  omega
theorem sw15 (n : Nat → Nat) : uN (uN (uN (uN n 2 (n 3)) 0 (n 2)) 3 ((uN (uN n 2 (n 3)) 0 (n 2)) 4)) 4 ((uN (uN (uN n 2 (n 3)) 0 (n 2)) 3 ((uN (uN n 2 (n 3)) 0 (n 2)) 4)) 5) = cpN (cpN (cpN (cpN n 2 0) 3 2) 4 3) 5 4 := by
  have e : uN (uN n 2 (n 3)) 0 (n 2) = cpN (cpN n 2 0) 3 2 := by
    funext j
    unfold cpN uN
    by_cases h0 : j = 0
    · subst h0; simp
    · by_cases h2 : j = 2
      · subst h2; simp
      · simp [h0, h2]
  rw [e]
  rfl
def rOk (x : Int32) : Prop := ¬ x < 0 ∧ x ≤ nI 400
