def dfAs : List Value := [.null, .int (nI 0), .null, .null, .int (nI 0), .null, .int (nI 0), .int (nI 0)]
theorem dfAs_ok : ∀ j, j < 8 → defaultValue (tyAs j) = vp_V dfAs j := fun j hj => match j, hj with
  | 0, _ => rfl
  | 1, _ => rfl
  | 2, _ => rfl
  | 3, _ => rfl
  | 4, _ => rfl
  | 5, _ => rfl
  | 6, _ => rfl
  | 7, _ => rfl
  | j + 8, h => absurd h (by omega)
def dfPr : List Value := [.null, .null, .null, .int (nI 0), .int (nI 0), .int (nI 0), .int (nI 0), .int (nI 0), .int (nI 0)]
theorem dfPr_ok : ∀ j, j < 9 → defaultValue (tyPr j) = vp_V dfPr j := fun j hj => match j, hj with
  | 0, _ => rfl
  | 1, _ => rfl
  | 2, _ => rfl
  | 3, _ => rfl
  | 4, _ => rfl
  | 5, _ => rfl
  | 6, _ => rfl
  | 7, _ => rfl
  | 8, _ => rfl
  | j + 9, h => absurd h (by omega)
def dfRe : List Value := [.null, .long (lN 0), .long (lN 0)]
theorem dfRe_ok : ∀ j, j < 3 → defaultValue (tyRe j) = vp_V dfRe j := fun j hj => match j, hj with
  | 0, _ => rfl
  | 1, _ => rfl
  | 2, _ => rfl
  | j + 3, h => absurd h (by omega)
def dfWa : List Value := [.null, .int (nI 0)]
theorem dfWa_ok : ∀ j, j < 2 → defaultValue (tyWa j) = vp_V dfWa j := fun j hj => match j, hj with
  | 0, _ => rfl
  | 1, _ => rfl
  | j + 2, h => absurd h (by omega)
def dfCh : List Value := [.null, .null]
theorem dfCh_ok : ∀ j, j < 2 → defaultValue (tyCh j) = vp_V dfCh j := fun j hj => match j, hj with
  | 0, _ => rfl
  | 1, _ => rfl
  | j + 2, h => absurd h (by omega)
def dfMo : List Value := [.int (nI 0), .null, .null, .int (nI 0), .int (nI 0), .int (nI 0), .int (nI 0), .int (nI 0), .null, .int (nI 0), .null, .int (nI 0), .long (lN 0), .long (lN 0), .int (nI 0), .null, .int (nI 0), .int (nI 0), .null, .null, .null]
theorem dfMo_ok : ∀ j, j < 21 → defaultValue (tyMo j) = vp_V dfMo j := fun j hj => match j, hj with
  | 0, _ => rfl
  | 1, _ => rfl
  | 2, _ => rfl
  | 3, _ => rfl
  | 4, _ => rfl
  | 5, _ => rfl
  | 6, _ => rfl
  | 7, _ => rfl
  | 8, _ => rfl
  | 9, _ => rfl
  | 10, _ => rfl
  | 11, _ => rfl
  | 12, _ => rfl
  | 13, _ => rfl
  | 14, _ => rfl
  | 15, _ => rfl
  | 16, _ => rfl
  | 17, _ => rfl
  | 18, _ => rfl
  | 19, _ => rfl
  | 20, _ => rfl
  | j + 21, h => absurd h (by omega)
