def naO (op : Nat) : Option Nat := match op with
  | 1 => some 2
  | 2 => some 3
  | 3 => some 1
  | 4 => some 1
  | 5 => some 2
  | 6 => some 1
  | _ => none
theorem dg_all : ∀ c, c < 128 → ixO (zS 4) c 0 = (if 48 ≤ c ∧ c ≤ 57 then some (c - 48) else if 97 ≤ c ∧ c ≤ 102 then some (c - 97 + 10) else none) := by decide +kernel
theorem fo_all : ∀ c, c < 128 → (c < 101 ∨ 120 < c) → ixO (zS 5) c 0 = none := by decide +kernel
theorem lt_all : ∀ c, c < 128 → ixO (zS 6) c 0 = (if 97 ≤ c ∧ c ≤ 122 then some (c - 97) else none) := by decide +kernel
theorem fo_out {c : Nat} (hc : c < 128) (h : c < 101 ∨ 120 < c) : (nI c).toInt < 101 ∨ 120 < (nI c).toInt := by
  rw [nI_toInt (by omega)]
  omega
def ctN (op : Nat) : Nat := match op with
  | 0 => 0x6E6F
  | 1 => 0x703D23
  | 2 => 0x3F703D23
  | 3 => 0x73232B
  | 4 => 0x73232D
  | 5 => 0x3F7323
  | 6 => 0x6C23
  | 7 => 0x702B
  | 8 => 0x702D
  | 9 => 0x70757368
  | 10 => 0x706F70
  | 11 => 0x6261636B
  | 12 => 0x6B6579
  | 13 => 0x73746F70
  | 14 => 0x433A4D
  | _ => 0x646F776E
def smN (op : Nat) : Nat := match op with
  | 0 => 0x413D30
  | 1 => 0x423D30
  | 2 => 0x433D30
  | 3 => 0x413A42
  | 4 => 0x423D41
  | 5 => 0x413A43
  | 6 => 0x433D42
  | 7 => 0x423A43
  | 8 => 0x413D412B42
  | 9 => 0x413D412B43
  | 10 => 0x433D412B43
  | 11 => 0x413D412B31
  | 12 => 0x433D432B31
  | 13 => 0x413D412D42
  | 14 => 0x413D412D43
  | 15 => 0x433D412D43
  | 16 => 0x413D412D31
  | 17 => 0x433D432D31
  | 18 => 0x433D2D43
  | 19 => 0x433D2D432D31
  | 20 => 0x413C
  | 21 => 0x413E
  | 22 => 0x423E
  | 23 => 0x433E
  | 24 => 0x3F413C42
  | 25 => 0x3F413C43
  | 26 => 0x3F42
  | 27 => 0x3F43
  | 28 => 0x3F413D30
  | 29 => 0x3F433D30
  | 30 => 0x433D432B43
  | _ => 0x413D43
def nmR (tx : Nat → Nat) (a0 : Nat) (az : Option Nat) : Nat → Nat → Nat → Nat
  | 0, _, v => v
  | r + 1, i, v => nmR tx a0 az r (i + 1) (v * 256 + (if az = some i then 35 else tx (a0 + i)))
def nm (tx : Nat → Nat) (a0 e0 : Nat) (az : Option Nat) : Nat := if 6 < e0 - a0 then 0 else nmR tx a0 az (e0 - a0) 0 0
theorem nm_l {tx : Nat → Nat} {a0 n : Nat} {az : Option Nat} (h : n ≤ 6) : nm tx a0 (a0 + n) az = nmR tx a0 az n 0 0 := by
  unfold nm
  rw [show a0 + n - a0 = n by omega, if_neg (by omega)]
theorem nm_b {tx : Nat → Nat} {a0 e0 : Nat} {az : Option Nat} (h : 6 < e0 - a0) : nm tx a0 e0 az = 0 := if_pos h
theorem zshl8 {n : Nat} : lN n <<< ((nI 8).toInt64 &&& 63) = lN (n * 256) := by
  have e : ((nI 8).toInt64 &&& 63) = 8 := by decide
  rw [e]
  apply Int64.toBitVec_inj.mp
  rw [Int64.toBitVec_shiftLeft]
  show (BitVec.ofNat 64 n) <<< ((8 : Int64).toBitVec.smod 64) = BitVec.ofNat 64 (n * 256)
  have e2 : (8 : Int64).toBitVec.smod 64 = 8#64 := by decide
  rw [e2]
  apply BitVec.eq_of_toNat_eq
  simp [BitVec.toNat_shiftLeft, Nat.shiftLeft_eq]
theorem zlor {n x : Nat} (h : x < 256) (hn : n < 2 ^ 50) : lN (n * 256) ||| lN x = lN (n * 256 + x) := by
  apply Int64.toBitVec_inj.mp
  rw [Int64.toBitVec_or]
  show (BitVec.ofNat 64 (n * 256)) ||| (BitVec.ofNat 64 x) = BitVec.ofNat 64 (n * 256 + x)
  apply BitVec.eq_of_toNat_eq
  rw [BitVec.toNat_or, BitVec.toNat_ofNat, BitVec.toNat_ofNat, BitVec.toNat_ofNat, Nat.mod_eq_of_lt (by omega), Nat.mod_eq_of_lt (by omega), Nat.mod_eq_of_lt (by omega)]
  have := Nat.shiftLeft_add_eq_or_of_lt (i := 8) (show x < 2 ^ 8 by omega) n
  rw [Nat.shiftLeft_eq] at this
  exact this.symm
-- the reference's word of a name
def moR (tx : Nat → Nat) (a0 e0 : Nat) : Nat → Nat → Option Nat
  | 0, _ => none
  | r + 1, op => match naO op with
    | none => if nm tx a0 e0 none = ctN op then some (64 * 0 + 4 * op) else moR tx a0 e0 r (op + 1)
    | some a => if e0 - a0 ≤ a then moR tx a0 e0 r (op + 1) else if nm tx a0 e0 (some a) = ctN op then (match ixO (zS 4) (tx (a0 + a)) 0 with
      | some n => some (64 * n + 4 * op)
      | none => moR tx a0 e0 r (op + 1)) else moR tx a0 e0 r (op + 1)
def mfR (v f : Nat) : Nat → Nat → Option Nat
  | 0, _ => none
  | r + 1, op => if v = smN op then some (32 * op + 4 * f + 2) else mfR v f r (op + 1)
def wM_ (tx : Nat → Nat) (a0 e0 : Nat) : Option Nat := match moR tx a0 e0 16 0 with
  | some m => some m
  | none => if e0 - a0 < 3 ∨ ¬ tx (e0 - 2) = 46 then none else match ixO (zS 5) (tx (e0 - 1)) 0 with
    | some f => mfR (nm tx a0 (e0 - 2) none) f 32 0
    | none => none
theorem mo_w {tx : Nat → Nat} {a0 e0 r op : Nat} : moR tx a0 e0 (r + 1) op = (match naO op with
    | none => if nm tx a0 e0 none = ctN op then some (64 * 0 + 4 * op) else moR tx a0 e0 r (op + 1)
    | some a => if e0 - a0 ≤ a then moR tx a0 e0 r (op + 1) else if nm tx a0 e0 (some a) = ctN op then (match ixO (zS 4) (tx (a0 + a)) 0 with
      | some n => some (64 * n + 4 * op)
      | none => moR tx a0 e0 r (op + 1)) else moR tx a0 e0 r (op + 1)) := rfl
theorem mo_0 {tx : Nat → Nat} {a0 e0 op : Nat} : moR tx a0 e0 0 op = none := rfl
theorem mf_0 {v f op : Nat} : mfR v f 0 op = none := rfl
theorem mf_w {v f r op : Nat} : mfR v f (r + 1) op = (if v = smN op then some (32 * op + 4 * f + 2) else mfR v f r (op + 1)) := rfl
theorem ctN_lt (op : Nat) : ctN op < 2 ^ 50 := by unfold ctN; split <;> decide
theorem smN_lt (op : Nat) : smN op < 2 ^ 50 := by unfold smN; split <;> decide
theorem zm_le {n : Nat} (h : n < 2 ^ 31) (e : nI n ≤ (-1)) : False := by
  rw [Int32.le_iff_toInt_le, nI_toInt h] at e
  have h2 : (-1 : Int32).toInt = -1 := by decide
  omega
theorem zm_lt {n : Nat} (h : n < 2 ^ 31) (e : nI n < (-1)) : False := by
  rw [Int32.lt_iff_toInt_lt, nI_toInt h] at e
  have h2 : (-1 : Int32).toInt = -1 := by decide
  omega
theorem nm_lt {tx : Nat → Nat} {a0 e0 : Nat} {az : Option Nat} (ht : ∀ j, tx j < 127) : nm tx a0 e0 az < 2 ^ 50 := by
  have key : ∀ r i v, v < 256 ^ i → i + r ≤ 6 → nmR tx a0 az r i v < 256 ^ 6 := by
    intro r
    induction r with
    | zero =>
      intro i v hv hi
      unfold nmR
      exact Nat.lt_of_lt_of_le hv (Nat.pow_le_pow_right (by decide) (by omega))
    | succ r ih =>
      intro i v hv hi
      unfold nmR
      refine ih (i + 1) _ ?_ (by omega)
      have h1 : (if az = some i then 35 else tx (a0 + i)) < 256 := by
        split
        · decide
        · have := ht (a0 + i); omega
      rw [Nat.pow_succ]
      omega
  unfold nm
  split
  · decide
  · exact Nat.lt_of_lt_of_le (key _ 0 0 (by decide) (by omega)) (by decide)
