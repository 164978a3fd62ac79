def cA (op : Nat) : List Nat := match op with
  | 0 => [110, 111]
  | 1 => [112, 61]
  | 2 => [63, 112, 61]
  | 3 => [115]
  | 4 => [115]
  | 5 => [63, 115]
  | 6 => [108]
  | 7 => [112, 43]
  | 8 => [112, 45]
  | 9 => [112, 117, 115, 104]
  | 10 => [112, 111, 112]
  | 11 => [98, 97, 99, 107]
  | 12 => [107, 101, 121]
  | 13 => [115, 116, 111, 112]
  | 14 => [67, 58, 77]
  | _ => [100, 111, 119, 110]
def cB (op : Nat) : Option (List Nat) := match op with
  | 1 => some []
  | 2 => some []
  | 3 => some [43]
  | 4 => some [45]
  | 5 => some []
  | 6 => some []
  | _ => none
def sA (op : Nat) : List Nat := match op with
  | 0 => [65, 61, 48]
  | 1 => [66, 61, 48]
  | 2 => [67, 61, 48]
  | 3 => [65, 58, 66]
  | 4 => [66, 61, 65]
  | 5 => [65, 58, 67]
  | 6 => [67, 61, 66]
  | 7 => [66, 58, 67]
  | 8 => [65, 61, 65, 43, 66]
  | 9 => [65, 61, 65, 43, 67]
  | 10 => [67, 61, 65, 43, 67]
  | 11 => [65, 61, 65, 43, 49]
  | 12 => [67, 61, 67, 43, 49]
  | 13 => [65, 61, 65, 45, 66]
  | 14 => [65, 61, 65, 45, 67]
  | 15 => [67, 61, 65, 45, 67]
  | 16 => [65, 61, 65, 45, 49]
  | 17 => [67, 61, 67, 45, 49]
  | 18 => [67, 61, 45, 67]
  | 19 => [67, 61, 45, 67, 45, 49]
  | 20 => [65, 60]
  | 21 => [65, 62]
  | 22 => [66, 62]
  | 23 => [67, 62]
  | 24 => [63, 65, 60, 66]
  | 25 => [63, 65, 60, 67]
  | 26 => [63, 66]
  | 27 => [63, 67]
  | 28 => [63, 65, 61, 48]
  | 29 => [63, 67, 61, 48]
  | 30 => [67, 61, 67, 43, 67]
  | _ => [65, 61, 67]
def cP (op : Nat) : List Nat := cA op ++ (match cB op with
  | some B => 78 :: B
  | none => [])
def sP (op : Nat) : List Nat := sA op ++ [46, 70]
theorem zS0 : zS 0 = unw [[58, 76]] := by decide +kernel
theorem zS1 : zS 1 = unw [[64, 76], [62, 76]] := by decide +kernel
theorem zS2 : zS 2 = unw ((List.range' 0 16).map cP) := by decide +kernel
theorem zS3 : zS 3 = unw ((List.range' 0 32).map sP) := by decide +kernel
theorem cP_ok : ∀ P ∈ (List.range' 0 16).map cP, P ≠ [] ∧ ∀ x ∈ P, ¬ x = 32 := by decide +kernel
theorem sP_ok : ∀ P ∈ (List.range' 0 32).map sP, P ≠ [] ∧ ∀ x ∈ P, ¬ x = 32 := by decide +kernel
-- packing
def pk : List Nat → Nat → Nat
  | [], v => v
  | x :: t, v => pk t (v * 256 + x)
def dl (tx : Nat → Nat) (a0 : Nat) (az : Option Nat) : Nat → Nat → List Nat
  | 0, _ => []
  | r + 1, i => (if az = some i then 35 else tx (a0 + i)) :: dl tx a0 az r (i + 1)
theorem nmR_pk {tx : Nat → Nat} {a0 : Nat} {az : Option Nat} : ∀ {r i v : Nat}, nmR tx a0 az r i v = pk (dl tx a0 az r i) v
  | 0, i, v => rfl
  | r + 1, i, v => nmR_pk (r := r) (i := i + 1)
theorem dl_len {tx : Nat → Nat} {a0 : Nat} {az : Option Nat} : ∀ {r i : Nat}, (dl tx a0 az r i).length = r
  | 0, i => rfl
  | r + 1, i => by
    show (dl tx a0 az r (i + 1)).length + 1 = r + 1
    rw [dl_len]
theorem zpk_ge : ∀ {A : List Nat} {v : Nat}, v * 256 ^ A.length ≤ pk A v
  | [], v => by simp [pk]
  | x :: t, v => by
    have := zpk_ge (A := t) (v := v * 256 + x)
    refine Nat.le_trans ?_ this
    rw [List.length_cons, Nat.pow_succ, Nat.add_mul]
    have : v * (256 ^ t.length * 256) = v * 256 * 256 ^ t.length := by rw [Nat.mul_comm (256 ^ t.length), Nat.mul_assoc]
    omega
theorem zpk_lt : ∀ {A : List Nat} {v : Nat}, (∀ x ∈ A, x < 256) → pk A v < (v + 1) * 256 ^ A.length
  | [], v, _ => by simp [pk]
  | x :: t, v, h => by
    have h1 := zpk_lt (A := t) (v := v * 256 + x) (fun y hy => h y (List.mem_cons_of_mem _ hy))
    have hx := h x List.mem_cons_self
    refine Nat.lt_of_lt_of_le h1 ?_
    rw [List.length_cons, Nat.pow_succ, Nat.mul_comm (256 ^ t.length), ← Nat.mul_assoc]
    exact Nat.mul_le_mul_right _ (by omega)
theorem zpk_in : ∀ {A B : List Nat} {v w : Nat}, A.length = B.length → (∀ x ∈ A, x < 256) → (∀ x ∈ B, x < 256) → pk A v = pk B w → v = w ∧ A = B
  | [], [], v, w, _, _, _, h => ⟨h, rfl⟩
  | [], _ :: _, _, _, hl, _, _, _ => by simp at hl
  | _ :: _, [], _, _, hl, _, _, _ => by simp at hl
  | x :: t, y :: u, v, w, hl, ha, hb, h => by
    obtain ⟨h1, h2⟩ := zpk_in (A := t) (B := u) (by simpa using hl) (fun z hz => ha z (List.mem_cons_of_mem _ hz)) (fun z hz => hb z (List.mem_cons_of_mem _ hz)) h
    have hx := ha x List.mem_cons_self
    have hy := hb y List.mem_cons_self
    exact ⟨by omega, by rw [h2, show x = y by omega]⟩
theorem zpk_len {A B : List Nat} (hA : A ≠ []) (hB : B ≠ []) (ha : ∀ x ∈ A, 0 < x ∧ x < 256) (hb : ∀ x ∈ B, 0 < x ∧ x < 256) (h : pk A 0 = pk B 0) : A.length = B.length := by
  have key : ∀ {A B : List Nat}, A ≠ [] → B ≠ [] → (∀ x ∈ A, 0 < x ∧ x < 256) → (∀ x ∈ B, 0 < x ∧ x < 256) → pk A 0 = pk B 0 → ¬ A.length < B.length := by
    intro A B hA hB ha hb h hlt
    obtain ⟨y, u, rfl⟩ := List.exists_cons_of_ne_nil hB
    have h1 := zpk_lt (A := A) (v := 0) (fun x hx => (ha x hx).2)
    have h2 : 1 * 256 ^ u.length ≤ pk (y :: u) 0 := by
      refine Nat.le_trans ?_ (zpk_ge (A := u) (v := 0 * 256 + y))
      exact Nat.mul_le_mul_right _ (by have := (hb y List.mem_cons_self).1; omega)
    have h3 : 256 ^ A.length ≤ 256 ^ u.length := Nat.pow_le_pow_right (by decide) (by simp only [List.length_cons] at hlt; omega)
    omega
  have h1 := key hA hB ha hb h
  have h2 := key hB hA hb ha h.symm
  omega
theorem dl_b {tx : Nat → Nat} {a0 : Nat} {az : Option Nat} : ∀ {r i : Nat}, (∀ j, a0 + i ≤ j → j < a0 + i + r → 0 < tx j ∧ tx j < 256) → ∀ x ∈ dl tx a0 az r i, 0 < x ∧ x < 256
  | 0, i, _, x, hx => by cases hx
  | r + 1, i, h, x, hx => by
    rcases List.mem_cons.mp hx with rfl | hx
    · split
      · omega
      · exact h _ (by omega) (by omega)
    · exact dl_b (fun j h1 h2 => h j (by omega) (by omega)) x hx
theorem nm_iff {tx : Nat → Nat} {a0 e0 : Nat} {az : Option Nat} {Q : List Nat} (hae : a0 < e0) (ht : ∀ j, a0 ≤ j → j < e0 → 0 < tx j ∧ tx j < 256) (hQ : Q ≠ []) (hq : ∀ x ∈ Q, 0 < x ∧ x < 256) (h6 : Q.length ≤ 6) : nm tx a0 e0 az = pk Q 0 ↔ dl tx a0 az (e0 - a0) 0 = Q := by
  have hb := dl_b (tx := tx) (a0 := a0) (az := az) (r := e0 - a0) (i := 0) (fun j h1 h2 => ht j (by omega) (by omega))
  have hne : dl tx a0 az (e0 - a0) 0 ≠ [] := fun z => by
    have := dl_len (tx := tx) (a0 := a0) (az := az) (r := e0 - a0) (i := 0)
    rw [z] at this
    simp at this
    omega
  unfold nm
  constructor
  · intro h
    split at h
    · obtain ⟨y, u, rfl⟩ := List.exists_cons_of_ne_nil hQ
      have h2 : 1 * 256 ^ u.length ≤ pk (y :: u) 0 := by
        refine Nat.le_trans ?_ (zpk_ge (A := u) (v := 0 * 256 + y))
        exact Nat.mul_le_mul_right _ (by have := (hq y List.mem_cons_self).1; omega)
      have h3 : 0 < 256 ^ u.length := Nat.pow_pos (by decide)
      omega
    · rw [nmR_pk] at h
      exact (zpk_in (zpk_len hne hQ hb hq h) (fun x hx => (hb x hx).2) (fun x hx => (hq x hx).2) h).2
  · intro h
    have hl : e0 - a0 = Q.length := by rw [← h, dl_len]
    rw [if_neg (by omega), nmR_pk, h]
-- plain matching
def eqP : List Nat → (Nat → Nat) → Nat → Prop
  | [], _, _ => True
  | x :: A, tx, j => x = tx j ∧ eqP A tx (j + 1)
theorem pmP_c {x : Nat} {P : List Nat} {tx : Nat → Nat} {j ch : Nat} : pmP (x :: P) tx j ch = (if x = 78 then (match ixO (zS 4) (tx j) 0 with
      | some c => pmP P tx (j + 1) c
      | none => none)
    else if x = 70 then (match ixO (zS 5) (tx j) 0 with
      | some c => pmP P tx (j + 1) c
      | none => none)
    else if x = 76 then (match ixO (zS 6) (tx j) 0 with
      | some c => pmP P tx (j + 1) c
      | none => none)
    else if x = tx j then pmP P tx (j + 1) ch else none) := rfl
theorem pmP_y {tx : Nat → Nat} {R : List Nat} : ∀ {A : List Nat} {j ch : Nat}, (∀ x ∈ A, ¬ x = 78 ∧ ¬ x = 70 ∧ ¬ x = 76) → eqP A tx j → pmP (A ++ R) tx j ch = pmP R tx (j + A.length) ch
  | [], j, ch, _, _ => rfl
  | x :: A, j, ch, hp, h => by
    obtain ⟨h1, h2, h3⟩ := hp x List.mem_cons_self
    show pmP (x :: (A ++ R)) tx j ch = _
    rw [pmP_c, if_neg h1, if_neg h2, if_neg h3, if_pos h.1, pmP_y (fun y hy => hp y (List.mem_cons_of_mem _ hy)) h.2, show j + 1 + A.length = j + (x :: A).length by simp only [List.length_cons]; omega]
theorem pmP_n {tx : Nat → Nat} {R : List Nat} : ∀ {A : List Nat} {j ch : Nat}, (∀ x ∈ A, ¬ x = 78 ∧ ¬ x = 70 ∧ ¬ x = 76) → ¬ eqP A tx j → pmP (A ++ R) tx j ch = none
  | [], j, ch, _, h => absurd trivial h
  | x :: A, j, ch, hp, h => by
    obtain ⟨h1, h2, h3⟩ := hp x List.mem_cons_self
    show pmP (x :: (A ++ R)) tx j ch = _
    rw [pmP_c, if_neg h1, if_neg h2, if_neg h3]
    by_cases hx : x = tx j
    · rw [if_pos hx]
      exact pmP_n (fun y hy => hp y (List.mem_cons_of_mem _ hy)) (fun z => h ⟨hx, z⟩)
    · rw [if_neg hx]
theorem dl_eq {tx : Nat → Nat} {a0 : Nat} {az : Option Nat} {Z : List Nat} {r : Nat} : ∀ {A : List Nat} {i : Nat}, (∀ k, i ≤ k → k < i + A.length → ¬ az = some k) → (dl tx a0 az (A.length + r) i = A ++ Z ↔ eqP A tx (a0 + i) ∧ dl tx a0 az r (i + A.length) = Z)
  | [], i, _ => by
    show dl tx a0 az (0 + r) i = Z ↔ True ∧ dl tx a0 az r (i + 0) = Z
    rw [Nat.zero_add, Nat.add_zero]
    simp
  | x :: A, i, h => by
    rw [show (x :: A).length + r = (A.length + r) + 1 by simp only [List.length_cons]; omega]
    show (if az = some i then 35 else tx (a0 + i)) :: dl tx a0 az (A.length + r) (i + 1) = x :: (A ++ Z) ↔ (x = tx (a0 + i) ∧ eqP A tx (a0 + i + 1)) ∧ _
    rw [if_neg (h i (Nat.le_refl _) (by simp only [List.length_cons]; omega)), List.cons.injEq, dl_eq (fun k h1 h2 => h k (by omega) (by simp only [List.length_cons]; omega)), show a0 + (i + 1) = a0 + i + 1 by omega, show i + 1 + A.length = i + (x :: A).length by simp only [List.length_cons]; omega]
    constructor
    · rintro ⟨h1, h2, h3⟩
      exact ⟨⟨h1.symm, h2⟩, h3⟩
    · rintro ⟨⟨h1, h2⟩, h3⟩
      exact ⟨h1.symm, h2, h3⟩
