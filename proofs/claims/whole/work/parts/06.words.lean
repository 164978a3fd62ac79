def zty (ca : Nat → ClassId) : List (ClassId × FieldType) := [(ca 0, .int), (ca 1, .long), (ca 2, .char)]
def uN (f : Nat → Nat) (k x : Nat) : Nat → Nat := fun j => if j = k then x else f j
def nF (f : Nat → Nat) : Nat → Int32 := fun j => nI (f j)
def lF (f : Nat → Nat) : Nat → Int64 := fun j => lN (f j)
theorem nF_at {f : Nat → Nat} {j : Nat} (h : j < 2 ^ 31) : nF f (nI j).toNatClampNeg = nI (f j) := by rw [nI_clamp h]; rfl
theorem lF_at {f : Nat → Nat} {j : Nat} (h : j < 2 ^ 31) : lF f (nI j).toNatClampNeg = lN (f j) := by rw [nI_clamp h]; rfl
theorem nF_up {f : Nat → Nat} {j x : Nat} (h : j < 2 ^ 31) : upd (nF f) (nI j).toNatClampNeg (nI x) = nF (uN f j x) := by
  rw [nI_clamp h]; funext i; unfold upd nF uN; split <;> rfl
theorem lF_up {f : Nat → Nat} {j x : Nat} (h : j < 2 ^ 31) : vp_updL (lF f) (nI j).toNatClampNeg (lN x) = lF (uN f j x) := by
  rw [nI_clamp h]; funext i; unfold vp_updL lF uN; split <;> rfl
theorem nar_c {x : Nat} (h : x < 65536) : vp_nar .char (nI x) = nI x := by
  have e := (pk_charN h).1
  unfold vp_nar
  rw [e]
theorem nF_upc {f : Nat → Nat} {j x : Nat} (h : j < 2 ^ 31) (hx : x < 65536) : upd (nF f) (nI j).toNatClampNeg (vp_nar .char (nI x)) = nF (uN f j x) := by
  rw [nar_c hx]; exact nF_up h
theorem zten {j : Nat} (h : j < 2 ^ 31) : (fun j => Value.long (lN (10 ^ j))) (nI j).toNatClampNeg = Value.long (lN (10 ^ j)) := by
  show Value.long (lN (10 ^ (nI j).toNatClampNeg)) = _
  rw [nI_clamp h]
theorem zlne {n : Nat} (h0 : 0 < n) (h : n < 2 ^ 63) : ¬ lN n = 0 := fun z => by
  have := (pk_lEQ (a := n) (b := 0) h (by decide)).mp z
  omega
theorem zinc (n : Nat) : nI n + Int32.ofInt 1 = nI (n + 1) := nI_1 n
theorem zdec {n : Nat} (h : 1 ≤ n) : nI n + Int32.ofInt (-1) = nI (n - 1) := by
  obtain ⟨m, rfl⟩ : ∃ m, n = m + 1 := ⟨n - 1, by omega⟩
  exact pk_m1 m
theorem zbn {b : Nat} (h : b ≤ 1) : narrow .boolean (.int (nI b)) = .int (nI b) := by
  rcases (show b = 0 ∨ b = 1 by omega) with rfl | rfl <;> rfl
theorem zbf {b : Nat} (h : b ≤ 1) : fits .boolean (.int (nI b)) = true := by
  rcases (show b = 0 ∨ b = 1 by omega) with rfl | rfl <;> rfl
theorem zcn {b : Nat} (h : b < 65536) : narrow .char (.int (nI b)) = .int (nI b) := (pk_charN h).1
-- the long under an index and an array, by another of the same worth
section ZS
variable {p : Program} {l : Launch} {e : Env} {R : Room} {s : State} {m : MethodId} {args : Array Value} {below : List Frame} {meth : Method} {c : Code} {H : Heap} {locs : List Loc} {cells slots : Nat} {Q : State → Prop} {pc : Nat} {ls : Array Slot} {rest : List Value}
theorem zsl {x y : Int64} (h : x = y) (kk : W p l e R s m args below meth c H locs cells slots Q (F0 m pc ls (.long y :: rest))) : W p l e R s m args below meth c H locs cells slots Q (F0 m pc ls (.long x :: rest)) := h ▸ kk
end ZS
theorem zm1 {n : Nat} (h : n < 2 ^ 31) (e : nI n = (-1)) : False := by
  have h1 := nI_toInt h
  rw [e] at h1
  have h2 : (-1 : Int32).toInt = -1 := by decide
  omega
-- the processor's cells
abbrev wP (ad : Nat → Nat) (ca : Nat → ClassId) (me nu ro : Nat → Nat) (un li pt : Nat) (st : Int32) (cy pl bk en kc : Nat) : va_W :=
  [(ad 6, .inr (1, [.ref (ad 7), .ref (ad 8), .ref (ad 10), .int (nI pt), .int st, .int (nI cy), .int (nI pl), .int (nI bk), .int (nI en)])), (ad 7, .inl (ca 0, 64, .inl (nF me))),
   (ad 8, .inr (2, [.ref (ad 9), .long (lN un), .long (lN li)])), (ad 9, .inl (ca 1, 7, .inr (.inl (lF nu)))), (ad 10, .inr (3, [.ref (ad 11), .int (nI kc)])), (ad 11, .inl (ca 0, 3, .inl (nF ro)))]
abbrev wW (ad : Nat → Nat) (ca : Nat → ClassId) (wo : Nat → Nat) : va_W := [(ad 5, .inl (ca 0, 64, .inl (nF wo)))]
-- a field's part of a number, the number with another part
def pr (u l n : Nat) : Nat := n / u % l
def pu (u l n p : Nat) : Nat := n + p * u - n / u % l * u
def wr (u l : Nat) (n : Nat → Nat) (r p : Nat) : Nat → Nat := uN n r (pu u l (n r) p)
theorem lN_int {n : Nat} : lN n = Int64.ofInt (n : Int) := by
  rw [lN]; exact (Int64.ofInt_eq_ofNat (n := n)).symm
theorem pu_long {u l n p : Nat} : lN n + (lN p - lN (n / u % l)) * lN u = lN (pu u l n p) := by
  have h : n / u % l * u ≤ n + p * u := by
    have h1 : n / u % l ≤ n / u := Nat.mod_le _ _
    have h2 : n / u * u ≤ n := Nat.div_mul_le_self n u
    have h3 : n / u % l * u ≤ n / u * u := Nat.mul_le_mul_right u h1
    omega
  rw [lN_int, lN_int, lN_int, lN_int, ← Int64.ofInt_sub, ← Int64.ofInt_mul, ← Int64.ofInt_add, lN_int]
  congr 1
  unfold pu
  rw [Int.ofNat_sub h]
  push_cast
  rw [Int.sub_mul]
  omega
def fLo (g f : Nat) : Nat := match f with
  | 0 => g
  | 1 => 0
  | 2 => 2
  | 3 => 0
  | 4 => 13
  | 5 => 3
  | 6 => 3
  | _ => 0
def fHi (g f : Nat) : Nat := match f with
  | 0 => g
  | 1 => g
  | 2 => 2
  | 3 => 2
  | 4 => 13
  | 5 => 12
  | 6 => 13
  | _ => 13
def fU (g f : Nat) : Nat := 10 ^ fLo g f
def fL (g f : Nat) : Nat := 10 ^ (fHi g f - fLo g f + 1)
def kOk (x : Int32) (kc : Nat) : Prop := ¬ x < 0 ∧ ¬ nI 16 ≤ x ∧ kc < 3
def shC (ro : Nat → Nat) (kc : Nat) : Nat → Nat := match kc with
  | 2 => uN ro 0 (ro 1)
  | 3 => uN (uN ro 0 (ro 1)) 1 ((uN ro 0 (ro 1)) 2)
  | _ => ro
def sSt (g : Nat) (st : Int32) : Int32 := if g < 12 then st ||| (nI 1 <<< (nI g &&& 31)) else st
def cSt (g : Nat) (st : Int32) : Int32 := if g < 12 then st &&& ((nI 1 <<< (nI g &&& 31)) ^^^ (-1)) else st
def hSt (g : Nat) (st : Int32) : Nat := if g < 12 ∧ (st >>> (nI g &&& 31)) &&& nI 1 = nI 1 then 1 else 0
def rz (l : Nat) (z : Int) : Nat := (z % (l : Int)).toNat
def rc (l : Nat) (z : Int) : Nat := if z < 0 ∨ (l : Int) ≤ z then 1 else 0
theorem zL_sub {a b : Nat} : lN a - lN b = Int64.ofInt ((a : Int) - (b : Nat)) := by rw [lN_int, lN_int, ← Int64.ofInt_sub]
theorem zI_sub {z : Int} {b : Nat} : Int64.ofInt z - lN b = Int64.ofInt (z - (b : Nat)) := by rw [lN_int, ← Int64.ofInt_sub]
theorem zI_int {z : Int} (h1 : -(2 ^ 62) ≤ z) (h2 : z < 2 ^ 62) : (Int64.ofInt z).toInt = z := by
  rw [Int64.toInt_ofInt]
  have e : Int64.size = 18446744073709551616 := rfl
  rw [e]
  exact Int.bmod_eq_of_le (by omega) (by omega)
theorem zc_lt {z : Int} {n : Nat} (h : -(2 ^ 62) ≤ z ∧ z < 2 ^ 62) (hn : n < 2 ^ 62) : Int64.ofInt z < lN n ↔ z < ((n : Nat) : Int) := by
  rw [Int64.lt_iff_toInt_lt, zI_int h.1 h.2, lN_int, zI_int (by omega) (by omega)]
theorem zc_ge {z : Int} {n : Nat} (h : -(2 ^ 62) ≤ z ∧ z < 2 ^ 62) (hn : n < 2 ^ 62) : lN n ≤ Int64.ofInt z ↔ ((n : Nat) : Int) ≤ z := by
  rw [Int64.le_iff_toInt_le, zI_int h.1 h.2, lN_int, zI_int (by omega) (by omega)]
theorem rz_lt {l : Nat} {z : Int} (h : 0 < l) : rz l z < l := by
  unfold rz
  have h1 := Int.emod_nonneg z (show (l : Int) ≠ 0 by omega)
  have h2 := Int.emod_lt_of_pos z (show (0 : Int) < l by omega)
  omega
theorem wr_lt {u l r p : Nat} {n : Nat → Nat} (hn : ∀ j, n j < 10 ^ 14) (hu : 0 < u) (hg : u * l ∣ 10 ^ 14) (hp : p < l) : ∀ j, wr u l n r p j < 10 ^ 14 := by
  intro j
  unfold wr uN
  split
  · have h0 := hn r
    generalize n r = x at h0
    unfold pu
    obtain ⟨k, hk⟩ := hg
    have h1 := Nat.div_add_mod x u
    have h2 := Nat.mod_lt x hu
    have h3 := Nat.div_add_mod (x / u) l
    generalize x / u = a at h1 h3
    generalize x % u = b at h1 h2
    generalize a % l = t at h3
    generalize a / l = c at h3
    subst h3
    have e1 : u * (l * c + t) = u * l * c + t * u := by rw [Nat.mul_add, Nat.mul_assoc, Nat.mul_comm u t]
    have e2 : c < k := by
      refine Nat.lt_of_mul_lt_mul_left (a := u * l) ?_
      rw [← hk]
      omega
    have e3 : u * l * (c + 1) ≤ u * l * k := Nat.mul_le_mul_left _ e2
    have e4 : u * l * (c + 1) = u * l * c + u * l := Nat.mul_succ _ _
    have e5 : (p + 1) * u ≤ l * u := Nat.mul_le_mul_right u hp
    have e6 : (p + 1) * u = p * u + u := Nat.succ_mul p u
    have e7 : l * u = u * l := Nat.mul_comm l u
    omega
  · exact hn j
