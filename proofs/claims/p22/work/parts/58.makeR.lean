/-! ===== the reference: its constructor ===== -/
def rul0 : Int → Int := fun j => if j = 0 then 20 else if j = 1 then 1 else if j = 2 then 1 else 0
def MR0 : Mem := sc MZ 2 rul0
theorem hrul : upd (upd (upd (fun _ : Nat => (0 : Int32)) (iI 0).toNatClampNeg (iI 20)) (iI 1).toNatClampNeg (iI 1)) (iI 2).toNatClampNeg (iI 1) = fun j : Nat => iI (rul0 (j : Int)) := by
  have e0 : (iI 0).toNatClampNeg = 0 := rfl
  have e1 : (iI 1).toNatClampNeg = 1 := rfl
  have e2 : (iI 2).toNatClampNeg = 2 := rfl
  rw [e0, e1, e2]
  funext j
  unfold upd rul0
  match j with
  | 0 => rfl
  | 1 => rfl
  | 2 => rfl
  | j + 3 =>
    rw [if_neg (by omega), if_neg (by omega), if_neg (by omega), if_neg (by omega), if_neg (by omega), if_neg (by omega)]
    rfl
def o5 (h0 : Nat) : va_W := [(h0, .inr (5, [.null, .int 0, .null, .int 0, .null, .null, .null, .null, .null, .null, .null, .int 0, .null, .null, .null, .null, .int 0, .null, .null, .null, .long 0, .null, .null]))]
