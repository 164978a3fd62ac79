theorem zSl_all : ∀ i, i < 7 → (zS i).length < 2 ^ 31 := by decide +kernel
theorem zi2c {n : Nat} (h : n < 65536) : ((nI n).toUInt32 % 65536).toInt32 = nI n := by
  rw [pk_char, pk_tn (by omega), Nat.mod_eq_of_lt h]
theorem zi2b_all : ∀ n, n < 128 → (nI n).toInt8.toInt32 = nI n := by decide +kernel
theorem zi2b {n : Nat} (h : n < 128) : (nI n).toInt8.toInt32 = nI n := zi2b_all n h
theorem zsb {L : List Nat} {j : Nat} (h : j < 2 ^ 31) : (fun j => Value.int (nI (L.getD j 0))) (nI j).toNatClampNeg = Value.int (nI (L.getD j 0)) := by
  show Value.int (nI (L.getD (nI j).toNatClampNeg 0)) = _
  rw [nI_clamp h]
theorem zSc_all : ∀ i, i < 7 → ∀ a ∈ zS i, 32 ≤ a ∧ a < 127 := by decide +kernel
theorem zS_c {i j : Nat} (hi : i < 7) (hj : j < (zS i).length) : 32 ≤ (zS i).getD j 0 ∧ (zS i).getD j 0 < 127 := by
  refine zSc_all i hi _ ?_
  rw [List.getD_eq_getElem?_getD, List.getElem?_eq_getElem hj]
  exact List.getElem_mem hj
-- the place of a character in a text
def ixO : List Nat → Nat → Nat → Option Nat
  | [], _, _ => none
  | a :: t, c, n => if a = c then some n else ixO t c (n + 1)
theorem ix_drop {L : List Nat} {i : Nat} (h : i < L.length) : L.drop i = L.getD i 0 :: L.drop (i + 1) := by
  rw [List.drop_eq_getElem_cons h, List.getD_eq_getElem?_getD, List.getElem?_eq_getElem h]
  rfl
def ixR (o : Option Nat) : Int32 := match o with
  | some i => nI i
  | none => (-1)
def fil (f : Nat → Int32) (x : Int32) (i : Nat) : Nat → Int32 := fun j => if j < i then x else f j
theorem fil_0 (f : Nat → Int32) (x : Int32) : fil f x 0 = f := by
  funext j; unfold fil; rw [if_neg (by omega)]
theorem fil_s {f : Nat → Int32} {x : Int32} {i : Nat} : upd (fil f x i) i x = fil f x (i + 1) := by
  funext j
  unfold upd fil
  by_cases h : j = i
  · subst h
    rw [if_pos rfl, if_pos (show j < j + 1 by omega)]
  · rw [if_neg h]
    by_cases h2 : j < i
    · rw [if_pos h2, if_pos (show j < i + 1 by omega)]
    · rw [if_neg h2, if_neg (show ¬ j < i + 1 by omega)]
theorem zand255 {n : Nat} (h : n < 256) : nI n &&& nI 255 = nI n := by
  rw [pk_andN (by omega) 8 (by decide), Nat.mod_eq_of_lt h]
theorem ix_y {L : List Nat} {c i : Nat} (h : i < L.length) (e : L.getD i 0 = c) : ixO (L.drop i) c i = some i := by
  rw [ix_drop h, ixO, if_pos e]
theorem ix_n {L : List Nat} {c i : Nat} (h : i < L.length) (e : ¬ L.getD i 0 = c) : ixO (L.drop i) c i = ixO (L.drop (i + 1)) c (i + 1) := by
  rw [ix_drop h, ixO, if_neg e]
theorem ix_e {L : List Nat} {c i : Nat} (h : L.length ≤ i) : ixO (L.drop i) c i = none := by
  rw [List.drop_eq_nil_of_le h]
  rfl
theorem zS_b {i : Nat} (hi : i < 7) (j : Nat) : (zS i).getD j 0 < 127 := by
  by_cases h : j < (zS i).length
  · exact (zS_c hi h).2
  · rw [List.getD_eq_getElem?_getD, List.getElem?_eq_none (by omega)]
    decide
