theorem ixO_lt : ∀ {L : List Nat} {c n i : Nat}, ixO L c n = some i → i < n + L.length
  | [], _, _, _, h => by simp [ixO] at h
  | a :: t, c, n, i, h => by
    unfold ixO at h
    split at h
    · cases h
      simp
    · have := ixO_lt h
      simp only [List.length_cons]
      omega
def pmR (L : List Nat) (sp a0 : Nat) (tx : Nat → Nat) : Nat → Nat → Nat → Option Nat
  | 0, _, ch => some ch
  | r + 1, j, ch => if L.getD (sp + j - a0) 0 = 78 then (match ixO (zS 4) (tx j) 0 with
      | some c => pmR L sp a0 tx r (j + 1) c
      | none => none)
    else if L.getD (sp + j - a0) 0 = 70 then (match ixO (zS 5) (tx j) 0 with
      | some c => pmR L sp a0 tx r (j + 1) c
      | none => none)
    else if L.getD (sp + j - a0) 0 = 76 then (match ixO (zS 6) (tx j) 0 with
      | some c => pmR L sp a0 tx r (j + 1) c
      | none => none)
    else if L.getD (sp + j - a0) 0 = tx j then pmR L sp a0 tx r (j + 1) ch else none
theorem pm_0 {L : List Nat} {sp a0 j ch : Nat} {tx : Nat → Nat} : pmR L sp a0 tx 0 j ch = some ch := rfl
theorem pm_w {L : List Nat} {sp a0 r j ch : Nat} {tx : Nat → Nat} : pmR L sp a0 tx (r + 1) j ch = (if L.getD (sp + j - a0) 0 = 78 then (match ixO (zS 4) (tx j) 0 with
      | some c => pmR L sp a0 tx r (j + 1) c
      | none => none)
    else if L.getD (sp + j - a0) 0 = 70 then (match ixO (zS 5) (tx j) 0 with
      | some c => pmR L sp a0 tx r (j + 1) c
      | none => none)
    else if L.getD (sp + j - a0) 0 = 76 then (match ixO (zS 6) (tx j) 0 with
      | some c => pmR L sp a0 tx r (j + 1) c
      | none => none)
    else if L.getD (sp + j - a0) 0 = tx j then pmR L sp a0 tx r (j + 1) ch else none) := rfl
def isN (L : List Nat) (sp : Nat) (tx : Nat → Nat) (a0 e0 : Nat) : Option Nat := if L.length < sp + e0 - a0 ∨ (sp + e0 - a0 < L.length ∧ ¬ L.getD (sp + e0 - a0) 0 = 32) then none else pmR L sp a0 tx (e0 - a0) a0 0
def fR (L : List Nat) (tx : Nat → Nat) (a0 e0 : Nat) : Nat → Nat → Nat → Option (Nat × Nat)
  | 0, _, _ => none
  | r + 1, sp, q => if L.getD sp 0 = 32 then fR L tx a0 e0 r (sp + 1) (q + 1) else if sp = 0 ∨ L.getD (sp - 1) 0 = 32 then (match isN L sp tx a0 e0 with
      | some c => some (q, c)
      | none => fR L tx a0 e0 r (sp + 1) q) else fR L tx a0 e0 r (sp + 1) q
theorem f_0 {L : List Nat} {tx : Nat → Nat} {a0 e0 sp q : Nat} : fR L tx a0 e0 0 sp q = none := rfl
theorem f_w {L : List Nat} {tx : Nat → Nat} {a0 e0 r sp q : Nat} : fR L tx a0 e0 (r + 1) sp q = (if L.getD sp 0 = 32 then fR L tx a0 e0 r (sp + 1) (q + 1) else if sp = 0 ∨ L.getD (sp - 1) 0 = 32 then (match isN L sp tx a0 e0 with
      | some c => some (q, c)
      | none => fR L tx a0 e0 r (sp + 1) q) else fR L tx a0 e0 r (sp + 1) q) := rfl
def fN (sn : Nat) (tx : Nat → Nat) (a0 e0 : Nat) : Option (Nat × Nat) := fR (zS sn) tx a0 e0 (zS sn).length 0 0
def wN (tx : Nat → Nat) (a0 e0 : Nat) : Option Nat := match fN 2 tx a0 e0 with
  | some (q, c) => some (c * 64 + q * 4)
  | none => match fN 3 tx a0 e0 with
    | some (q, c) => some (q * 32 + c * 4 + 2)
    | none => match fN 1 tx a0 e0 with
      | some (q, c) => some (c * 4 + q * 2 + 1)
      | none => none
-- where a name ends
def eN (tx : Nat → Nat) (ln : Nat) : Nat → Nat → Nat
  | 0, j => j
  | r + 1, j => if tx j = 32 then j else eN tx ln r (j + 1)
theorem e_0 {tx : Nat → Nat} {ln j : Nat} : eN tx ln 0 j = j := rfl
theorem e_s {tx : Nat → Nat} {ln r j : Nat} (h : tx j = 32) : eN tx ln (r + 1) j = j := if_pos h
theorem e_n {tx : Nat → Nat} {ln r j : Nat} (h : ¬ tx j = 32) : eN tx ln (r + 1) j = eN tx ln r (j + 1) := if_neg h
theorem e_le {tx : Nat → Nat} {ln : Nat} : ∀ {r j : Nat}, j ≤ eN tx ln r j ∧ eN tx ln r j ≤ j + r
  | 0, j => ⟨Nat.le_refl _, Nat.le_refl _⟩
  | r + 1, j => by
    unfold eN
    split
    · omega
    · have := e_le (tx := tx) (ln := ln) (r := r) (j := j + 1)
      omega
def fl_ (lb : Nat → Int32) (bg : Nat → Nat) : Nat → Nat → (Nat → Nat) → Int32 × (Nat → Nat)
  | 0, _, wo => ((-1), wo)
  | r + 1, i, wo => if wo i % 2 = 0 then fl_ lb bg r (i + 1) wo else if lb (wo i / 4) = (-1) then (nI (bg i), wo) else fl_ lb bg r (i + 1) (uN wo i ((lb (wo i / 4)).toNatClampNeg * 4 + wo i % 4))
theorem zSl2 : ∀ i, i < 7 → (zS i).length < 256 := by decide +kernel
