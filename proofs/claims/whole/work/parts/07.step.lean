abbrev PS : Type := (Nat → Nat) × (Nat → Nat) × (Nat → Nat) × Nat × Nat × Nat × Int32 × Nat × Nat × Nat × Nat × Nat
abbrev wS (ad : Nat → Nat) (ca : Nat → ClassId) (S : PS) : va_W := wP ad ca S.1 S.2.1 S.2.2.1 S.2.2.2.1 S.2.2.2.2.1 S.2.2.2.2.2.1 S.2.2.2.2.2.2.1 S.2.2.2.2.2.2.2.1 S.2.2.2.2.2.2.2.2.1 S.2.2.2.2.2.2.2.2.2.1 S.2.2.2.2.2.2.2.2.2.2.1 S.2.2.2.2.2.2.2.2.2.2.2
def fwZ (op a b c : Nat) : Int := match op with
  | 8 => ((a + b : Nat) : Int)
  | 9 => ((a + c : Nat) : Int)
  | 10 => ((a + c : Nat) : Int)
  | 11 => ((a + 1 : Nat) : Int)
  | 12 => ((c + 1 : Nat) : Int)
  | 13 => ((a : Nat) : Int) - (b : Nat)
  | 14 => ((a : Nat) : Int) - (c : Nat)
  | 15 => ((a : Nat) : Int) - (c : Nat)
  | 16 => ((a : Nat) : Int) - (1 : Nat)
  | 17 => ((c : Nat) : Int) - (1 : Nat)
  | 18 => ((0 : Nat) : Int) - (c : Nat)
  | 19 => (((0 : Nat) : Int) - (c : Nat)) - (1 : Nat)
  | _ => ((c + c : Nat) : Int)
def fwN (op u l : Nat) (n : Nat → Nat) : Nat → Nat := match op with
  | 0 => wr u l n 0 0
  | 1 => wr u l n 1 0
  | 2 => wr u l n 2 0
  | 3 => wr u l (wr u l n 0 (pr u l (n 1))) 1 (pr u l (n 0))
  | 4 => wr u l n 1 (pr u l (n 0))
  | 5 => wr u l (wr u l n 0 (pr u l (n 2))) 2 (pr u l (n 0))
  | 6 => wr u l n 2 (pr u l (n 1))
  | 7 => wr u l (wr u l n 1 (pr u l (n 2))) 2 (pr u l (n 1))
  | 8 => wr u l n 0 (rz l (fwZ 8 (pr u l (n 0)) (pr u l (n 1)) (pr u l (n 2))))
  | 9 => wr u l n 0 (rz l (fwZ 9 (pr u l (n 0)) (pr u l (n 1)) (pr u l (n 2))))
  | 10 => wr u l n 2 (rz l (fwZ 10 (pr u l (n 0)) (pr u l (n 1)) (pr u l (n 2))))
  | 11 => wr u l n 0 (rz l (fwZ 11 (pr u l (n 0)) (pr u l (n 1)) (pr u l (n 2))))
  | 12 => wr u l n 2 (rz l (fwZ 12 (pr u l (n 0)) (pr u l (n 1)) (pr u l (n 2))))
  | 13 => wr u l n 0 (rz l (fwZ 13 (pr u l (n 0)) (pr u l (n 1)) (pr u l (n 2))))
  | 14 => wr u l n 0 (rz l (fwZ 14 (pr u l (n 0)) (pr u l (n 1)) (pr u l (n 2))))
  | 15 => wr u l n 2 (rz l (fwZ 15 (pr u l (n 0)) (pr u l (n 1)) (pr u l (n 2))))
  | 16 => wr u l n 0 (rz l (fwZ 16 (pr u l (n 0)) (pr u l (n 1)) (pr u l (n 2))))
  | 17 => wr u l n 2 (rz l (fwZ 17 (pr u l (n 0)) (pr u l (n 1)) (pr u l (n 2))))
  | 18 => wr u l n 2 (rz l (fwZ 18 (pr u l (n 0)) (pr u l (n 1)) (pr u l (n 2))))
  | 19 => wr u l n 2 (rz l (fwZ 19 (pr u l (n 0)) (pr u l (n 1)) (pr u l (n 2))))
  | 20 => wr u l n 0 (pr u l (n 0) * 10 % l)
  | 21 => wr u l n 0 (pr u l (n 0) / 10)
  | 22 => wr u l n 1 (pr u l (n 1) / 10)
  | 23 => wr u l n 2 (pr u l (n 2) / 10)
  | 24 => n
  | 25 => n
  | 26 => n
  | 27 => n
  | 28 => n
  | 29 => n
  | 30 => wr u l n 2 (rz l (fwZ 30 (pr u l (n 0)) (pr u l (n 1)) (pr u l (n 2))))
  | _ => wr u l n 0 (pr u l (n 2))
def fwC (op u l : Nat) (n : Nat → Nat) : Nat := match op with
  | 8 => rc l (fwZ 8 (pr u l (n 0)) (pr u l (n 1)) (pr u l (n 2)))
  | 9 => rc l (fwZ 9 (pr u l (n 0)) (pr u l (n 1)) (pr u l (n 2)))
  | 10 => rc l (fwZ 10 (pr u l (n 0)) (pr u l (n 1)) (pr u l (n 2)))
  | 11 => rc l (fwZ 11 (pr u l (n 0)) (pr u l (n 1)) (pr u l (n 2)))
  | 12 => rc l (fwZ 12 (pr u l (n 0)) (pr u l (n 1)) (pr u l (n 2)))
  | 13 => rc l (fwZ 13 (pr u l (n 0)) (pr u l (n 1)) (pr u l (n 2)))
  | 14 => rc l (fwZ 14 (pr u l (n 0)) (pr u l (n 1)) (pr u l (n 2)))
  | 15 => rc l (fwZ 15 (pr u l (n 0)) (pr u l (n 1)) (pr u l (n 2)))
  | 16 => rc l (fwZ 16 (pr u l (n 0)) (pr u l (n 1)) (pr u l (n 2)))
  | 17 => rc l (fwZ 17 (pr u l (n 0)) (pr u l (n 1)) (pr u l (n 2)))
  | 18 => rc l (fwZ 18 (pr u l (n 0)) (pr u l (n 1)) (pr u l (n 2)))
  | 19 => rc l (fwZ 19 (pr u l (n 0)) (pr u l (n 1)) (pr u l (n 2)))
  | 24 => if pr u l (n 1) ≤ pr u l (n 0) then 0 else 1
  | 25 => if pr u l (n 2) ≤ pr u l (n 0) then 0 else 1
  | 26 => if pr u l (n 1) = 0 then 0 else 1
  | 27 => if pr u l (n 2) = 0 then 0 else 1
  | 28 => if pr u l (n 0) = 0 then 1 else 0
  | 29 => if pr u l (n 2) = 0 then 1 else 0
  | 30 => rc l (fwZ 30 (pr u l (n 0)) (pr u l (n 1)) (pr u l (n 2)))
  | _ => 0
def cpN (n : Nat → Nat) (a b : Nat) : Nat → Nat := uN n b (n a)
def plS (op g : Nat) (S : PS) : PS := match S with
  | (me, nu, ro, un, li, pt, st, cy, pl, bk, en, kc) => match op with
    | 1 => (me, nu, ro, un, li, g % 14, st, cy, pl, bk, en, kc)
    | 2 => (me, nu, ro, un, li, pt, st, if pt = g then 1 else 0, pl, bk, en, kc)
    | 3 => (me, nu, ro, un, li, pt, sSt g st, cy, pl, bk, en, kc)
    | 4 => (me, nu, ro, un, li, pt, cSt g st, cy, pl, bk, en, kc)
    | 5 => (me, nu, ro, un, li, pt, st, hSt g st, pl, bk, en, kc)
    | 6 => (me, wr (fU pt 0) (fL pt 0) nu 2 (g % 10), ro, fU pt 0, fL pt 0, (pt + 14 - 1) % 14, st, cy, pl, bk, en, kc)
    | 7 => (me, nu, ro, un, li, (pt + 1) % 14, st, cy, pl, bk, en, kc)
    | 8 => (me, nu, ro, un, li, (pt + 14 - 1) % 14, st, cy, pl, bk, en, kc)
    | 9 => (me, cpN (cpN (cpN nu 4 5) 3 4) 2 3, ro, un, li, pt, st, cy, pl, bk, en, kc)
    | 10 => (me, cpN (cpN (cpN nu 3 0) 4 3) 5 4, ro, un, li, pt, st, cy, pl, bk, en, kc)
    | 11 => (me, nu, ro, un, li, pt, st, cy, bk, bk, en, kc)
    | 12 => if kc = 0 then (me, nu, ro, un, li, pt, st, cy, (pl + 64 - 1) % 64, bk, 1, kc) else (me, nu, shC ro kc, un, li, pt, st, cy, ro 0 * 8 % 64, bk, en, kc - 1)
    | 13 => (me, nu, ro, un, li, pt, st, cy, pl, bk, 1, kc)
    | 14 => (me, uN (cpN nu 6 2) 6 (nu 2), ro, un, li, pt, st, cy, pl, bk, en, kc)
    | 15 => (me, cpN (cpN (cpN (cpN nu 2 0) 3 2) 4 3) 5 4, ro, un, li, pt, st, cy, pl, bk, en, kc)
    | _ => (me, nu, ro, un, li, pt, st, cy, pl, bk, en, kc)
def dwS (wd : Nat) (S : PS) : PS := match S with
  | (me, nu, ro, un, li, pt, st, cy, pl, bk, en, kc) => match wd % 4 with
    | 0 => plS (wd / 4 % 16) (wd / 64) (me, nu, ro, un, li, pt, st, 0, (pl + 1) % 64, bk, en, kc)
    | 1 => (me, nu, ro, un, li, pt, st, 0, wd / 4 % 64, (pl + 1) % 64, en, kc)
    | 2 => (me, fwN (wd / 32) (fU pt (wd / 4 % 8)) (fL pt (wd / 4 % 8)) nu, ro, fU pt (wd / 4 % 8), fL pt (wd / 4 % 8), pt, st, fwC (wd / 32) (fU pt (wd / 4 % 8)) (fL pt (wd / 4 % 8)) nu, (pl + 1) % 64, bk, en, kc)
    | _ => (me, nu, ro, un, li, pt, st, 0, if cy = 0 then wd / 4 % 64 else (pl + 1) % 64, bk, en, kc)
theorem fLo_le {g f : Nat} (hg : g < 14) : fLo g f ≤ fHi g f ∧ fHi g f ≤ 13 := by
  unfold fLo fHi
  split <;> simp <;> omega
theorem fU_pos (g f : Nat) : 0 < fU g f := Nat.pow_pos (by decide)
theorem fL_pos (g f : Nat) : 0 < fL g f := Nat.pow_pos (by decide)
theorem fU_le {g f : Nat} (hg : g < 14) : fU g f ≤ 10 ^ 14 := Nat.pow_le_pow_right (by decide) (by have := fLo_le (f := f) hg; omega)
theorem fL_le {g f : Nat} (hg : g < 14) : fL g f ≤ 10 ^ 14 := Nat.pow_le_pow_right (by decide) (by have := fLo_le (f := f) hg; omega)
theorem fUL {g f : Nat} (hg : g < 14) : fU g f * fL g f ∣ 10 ^ 14 := by
  unfold fU fL
  rw [← Nat.pow_add]
  exact Nat.pow_dvd_pow 10 (by have := fLo_le (f := f) hg; omega)
-- Math.floorMod
theorem sg (x : Int64) : x < 0 ↔ x.toBitVec.msb = true := by
  show (x.toBitVec.slt 0#64 = true) ↔ _
  rw [BitVec.slt_zero_eq_msb]
theorem fm_sg {z : Int} {n : Nat} (h : -(2 ^ 62) ≤ z ∧ z < 2 ^ 62) (hn : n < 2 ^ 62) : lN 0 ≤ Int64.ofInt z ^^^ lN n ↔ 0 ≤ z := by
  have h1 : ¬ (Int64.ofInt z ^^^ lN n) < 0 ↔ ¬ z < 0 := by
    refine not_congr ?_
    rw [sg, Int64.toBitVec_xor, BitVec.msb_xor]
    have e1 : (lN n).toBitVec.msb = false := by
      cases hm : (lN n).toBitVec.msb
      · rfl
      · have h2 := (sg _).mpr hm
        rw [Int64.lt_iff_toInt_lt, pk_lT (by omega)] at h2
        simp at h2
        omega
    rw [e1, Bool.xor_false, ← sg, Int64.lt_iff_toInt_lt, zI_int h.1 h.2]
    simp
  have h3 : lN 0 ≤ Int64.ofInt z ^^^ lN n ↔ ¬ (Int64.ofInt z ^^^ lN n) < 0 := by
    rw [show lN 0 = (0 : Int64) from rfl]
    exact (Int64.not_lt).symm
  rw [h3, h1]
  omega
theorem fm_rem {z : Int} {n : Nat} (h : -(2 ^ 62) ≤ z ∧ z < 2 ^ 62) (hn : n < 2 ^ 62) : Int64.ofInt z - Int64.ofInt z / lN n * lN n = Int64.ofInt (z.tmod n) := by
  have e : Int64.ofInt z / lN n = Int64.ofInt (z.tdiv n) := by
    rw [lN_int]
    have hm : Int64.minValue.toInt = -9223372036854775808 := by decide
    have hM : Int64.maxValue.toInt = 9223372036854775807 := by decide
    exact (Int64.ofInt_tdiv (by rw [hm]; omega) (by rw [hM]; omega) (by rw [hm]; omega) (by rw [hM]; omega)).symm
  rw [e, lN_int, ← Int64.ofInt_mul, ← Int64.ofInt_sub]
  congr 1
  have := Int.tmod_add_mul_tdiv z n
  rw [Int.mul_comm] at this
  omega
theorem zc_eq {z : Int} {n : Nat} (h : -(2 ^ 62) ≤ z ∧ z < 2 ^ 62) (hn : n < 2 ^ 62) : Int64.ofInt z = lN n ↔ z = ((n : Nat) : Int) := by
  rw [← Int64.toInt_inj, zI_int h.1 h.2, lN_int, zI_int (by omega) (by omega)]
theorem fm_bd {z : Int} {n : Nat} (h : -(2 ^ 62) ≤ z ∧ z < 2 ^ 62) (hn0 : 0 < n) (hn : n < 2 ^ 62) : -(2 ^ 62) ≤ z.tmod n ∧ z.tmod n < 2 ^ 62 := by
  have h1 := Int.tmod_lt_of_pos z (show (0 : Int) < n by omega)
  have h2 : -(n : Int) < z.tmod n := by
    have := Int.tmod_lt_of_pos (-z) (show (0 : Int) < n by omega)
    rw [Int.neg_tmod] at this
    omega
  omega
theorem fm_p {z : Int} {n : Nat} (hn : 0 < n) (h : 0 ≤ z) : Int64.ofInt (z.tmod n) = lN (rz n z) := by
  rw [lN_int]
  congr 1
  unfold rz
  rw [Int.tmod_eq_emod_of_nonneg h]
  exact (Int.toNat_of_nonneg (Int.emod_nonneg z (by omega))).symm
theorem fm_q {z : Int} {n : Nat} (hn : 0 < n) (h : z.tmod n = ((0 : Nat) : Int)) : Int64.ofInt (z.tmod n) = lN (rz n z) := by
  rw [h, lN_int]
  congr 1
  unfold rz
  have : z % (n : Int) = 0 := Int.emod_eq_zero_of_dvd (Int.dvd_of_tmod_eq_zero h)
  rw [this]
  rfl
theorem fm_r {z : Int} {n : Nat} (hn : 0 < n) (hn1 : n < 2 ^ 62) (hz : ¬ 0 ≤ z) (h : ¬ z.tmod n = ((0 : Nat) : Int)) : Int64.ofInt (z.tmod n) + lN n = lN (rz n z) := by
  rw [lN_int, lN_int, ← Int64.ofInt_add]
  congr 1
  unfold rz
  have h1 := Int.tmod_add_mul_tdiv z n
  have h2 := Int.tmod_lt_of_pos (-z) (show (0 : Int) < n by omega)
  rw [Int.neg_tmod] at h2
  have h3 : z.tmod n ≤ 0 := by
    have := Int.tmod_nonneg (a := -z) (n : Int) (by omega)
    rw [Int.neg_tmod] at this
    omega
  have h4 : z % (n : Int) = z.tmod n + n := by
    have e : z = (z.tmod n + n) + n * (z.tdiv n - 1) := by
      rw [Int.mul_sub]
      omega
    have h5 : (z.tmod n + n) % (n : Int) = z.tmod n + n := Int.emod_eq_of_lt (by omega) (by omega)
    have h6 : z % (n : Int) = ((z.tmod n + n) + n * (z.tdiv n - 1)) % (n : Int) := by rw [← e]
    rw [h6, Int.add_mul_emod_self_left]
    exact h5
  rw [h4]
  exact (Int.toNat_of_nonneg (by omega)).symm
