def w0r (r : Nat) : Int32 := if r = 1 ∨ r = 2 ∨ r = 3 then -1 else if 4 ≤ r ∧ r % 2 = 0 then 1 else 0
def w0 (j : Nat) : Int32 := if j = 3 then 1 else if 8 ≤ j ∧ j < 168 then w0r ((j - 8) % 20) else if 413480 ≤ j ∧ j < 413544 then -1 else 0
def sM0 : Sg := (fun i k => if i = 0 then (if k = 13 ∨ k = 27 then -1 else 0) else if i = 1 then w0 k else if i = 33 then (if k < 4 then -1 else 0) else 0, fun _ _ => 0, fun _ _ => none)
theorem mn0 (k : Nat) (h : k < 4) : sM0.1 33 k = -1 := by
  show (if k < 4 then (-1 : Int32) else 0) = -1
  rw [if_pos h]
theorem w0_p (k r : Nat) (hk : k < 8) (hr : r < 20) : sM0.1 1 (8 + 20 * k + r) = w0r r := by
  show w0 (8 + 20 * k + r) = w0r r
  unfold w0
  rw [if_neg (by omega), if_pos (by omega), show (8 + 20 * k + r - 8) % 20 = r by omega]
theorem w0_lo (k f : Nat) (hk : k < 8) (hf : f < 8) : sM0.1 1 (8 + 20 * k + 4 + 2 * f) = 1 := by
  have h := w0_p k (4 + 2 * f) hk (by omega)
  rw [show 8 + 20 * k + 4 + 2 * f = 8 + 20 * k + (4 + 2 * f) by omega, h]
  unfold w0r
  rw [if_neg (by omega), if_pos (by omega)]
theorem w0_hi (k f : Nat) (hk : k < 8) (hf : f < 8) : sM0.1 1 (8 + 20 * k + 4 + 2 * f + 1) = 0 := by
  have h := w0_p k (5 + 2 * f) hk (by omega)
  rw [show 8 + 20 * k + 4 + 2 * f + 1 = 8 + 20 * k + (5 + 2 * f) by omega, h]
  unfold w0r
  rw [if_neg (by omega), if_neg (by omega)]
theorem w0_z (j : Nat) (h : 168 ≤ j) (h2 : j < 413480 ∨ 413544 ≤ j) : sM0.1 1 j = 0 := by
  show w0 j = 0
  unfold w0
  rw [if_neg (by omega), if_neg (by omega), if_neg (by omega)]
theorem w0_c (j : Nat) (h : 413480 ≤ j) (h2 : j < 413544) : sM0.1 1 j = -1 := by
  show w0 j = -1
  unfold w0
  rw [if_neg (by omega), if_neg (by omega), if_pos (by omega)]
