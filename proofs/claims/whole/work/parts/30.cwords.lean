abbrev wX (ad : Nat → Nat) (_ca : Nat → ClassId) : va_W := [(ad 0, .inr (4, [.ref (ad 1), .ref (ad 6)]))]
abbrev wA (ad : Nat → Nat) (ca : Nat → ClassId) (tx : Nat → Nat) (ln : Nat) (lb : Nat → Int32) (bg : Nat → Nat) (ch : Int32) (ct : Nat) (ia : Int32) : va_W :=
  [(ad 1, .inr (0, [.ref (ad 2), .int (nI ln), .ref (ad 3), .ref (ad 4), .int ch, .ref (ad 5), .int (nI ct), .int ia])), (ad 2, .inl (ca 2, 240, .inl (nF tx))), (ad 3, .inl (ca 0, 26, .inl lb)), (ad 4, .inl (ca 0, 64, .inl (nF bg)))]
def inR (x : Int32) (n : Nat) : Prop := ∃ j : Nat, j < n ∧ x = nI j
theorem inR_y {j n : Nat} (h : j < n) : inR (nI j) n := ⟨j, h, rfl⟩
theorem inR_1 {x : Int32} {n : Nat} (hn : n ≤ 2 ^ 31) (h : x < 0) : ¬ inR x n := fun ⟨j, hj, e⟩ => by
  subst e
  exact nI_pos (by omega) h
theorem inR_2 {j n : Nat} (hn : n ≤ 2 ^ 31) (hj : j < 2 ^ 31) (h : n ≤ j) : ¬ inR (nI j) n := fun ⟨i, hi, e⟩ => by
  have := (nI_eq hj (by omega)).mp e
  omega
theorem lN_clamp {n : Nat} (h : n < 2 ^ 63) : (lN n).toNatClampNeg = n := Int64.toNatClampNeg_ofNat_of_lt h
def cod (nu : Nat → Nat) (q : Nat) : Nat := if nu 1 / 10 ^ q % 10 = 9 then 32 else if q = 13 ∨ q = 2 then (if nu 0 / 10 ^ q % 10 = 9 then 45 else 32) else 48 + nu 0 / 10 ^ q % 10
def dp (nu : Nat → Nat) : Nat → Int32
  | 0 => (-1)
  | n + 1 => if nu 1 / 10 ^ (n + 3) % 10 = 2 then nI (n + 3) else dp nu n
theorem dp_p {nu : Nat → Nat} {n : Nat} (h : nu 1 / 10 ^ (n + 3) % 10 = 2) : dp nu (n + 1) = nI (n + 3) := if_pos h
theorem dp_n {nu : Nat → Nat} {n : Nat} (h : ¬ nu 1 / 10 ^ (n + 3) % 10 = 2) : dp nu (n + 1) = dp nu n := if_neg h
def sta (x : Int32) (pt : Nat) (st : Int32) (cy pl bk : Nat) : Int32 := if x = nI 0 then nI pt else if x = nI 1 then st else if x = nI 2 then nI cy else if x = nI 3 then nI pl else if x = nI 4 then nI bk else (-1)
theorem sta_o {x : Int32} (h0 : ¬ x = nI 0) (h1 : ¬ x = nI 1) (h2 : ¬ x = nI 2) (h3 : ¬ x = nI 3) (h4 : ¬ x = nI 4) : x.toInt < 0 ∨ 4 < x.toInt := by
  have e0 := lv_neT h0 (a := 0) (by decide)
  have e1 := lv_neT h1 (a := 1) (by decide)
  have e2 := lv_neT h2 (a := 2) (by decide)
  have e3 := lv_neT h3 (a := 3) (by decide)
  have e4 := lv_neT h4 (a := 4) (by decide)
  omega
def dsp (x : Int32) (nu : Nat → Nat) : Int32 := if x = nI 14 then dp nu 10 else if ¬ x < 0 ∧ x < nI 14 then nI (cod nu (13 - x.toNatClampNeg)) else (-1)
theorem dR_y {j n : Nat} (h : j < n) (hn : n < 2 ^ 31) : ¬ nI j < 0 ∧ nI j < nI n := ⟨nI_pos (by omega), nI_lt h hn⟩
theorem dR_1 {x : Int32} {n : Nat} (h : x < 0) : ¬ (¬ x < 0 ∧ x < nI n) := fun z => z.1 h
theorem dR_2 {j n : Nat} (hn : n < 2 ^ 31) (hj : j < 2 ^ 31) (h : n ≤ j) : ¬ (¬ nI j < 0 ∧ nI j < nI n) := fun z => by
  have := (nI_ltI hj hn).mp z.2
  omega
