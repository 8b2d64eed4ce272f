theorem z_nand {n : Nat} (h : n < 2147483648) : nI n &&& nI 1 = nI (n % 2) := pk_andN (by omega) 1 (by decide)
theorem am_dr.ne2 {S : am_S} {a q a0 q0 : Nat} (h : am_dr S a q) (h0 : am_dr S a0 q0) : a0 ≠ q := by
  intro e
  have h1 := h0.2.1
  have h2 := h.2.2.2.2
  rw [e, h2] at h1
  cases h1
/-! the inner points by rows -/
def rowP (w j i : Nat) : List (Nat × Nat) := if i < 2 * w then (i, j) :: rowP w j (i + 2) else []
termination_by 2 * w - i
decreasing_by omega
theorem rowP_c {w j i : Nat} (h : i < 2 * w) : rowP w j i = (i, j) :: rowP w j (i + 2) := by rw [rowP, if_pos h]
theorem rowP_n {w j i : Nat} (h : 2 * w ≤ i) : rowP w j i = [] := by rw [rowP, if_neg (by omega)]
def rowsP (w h j : Nat) : List (Nat × Nat) := if j < 2 * h then rowP w j (1 + j % 2) ++ rowsP w h (j + 1) else []
termination_by 2 * h - j
decreasing_by omega
theorem rowsP_c {w h j : Nat} (hj : j < 2 * h) : rowsP w h j = rowP w j (1 + j % 2) ++ rowsP w h (j + 1) := by rw [rowsP, if_pos hj]
theorem rowsP_n {w h j : Nat} (hj : 2 * h ≤ j) : rowsP w h j = [] := by rw [rowsP, if_neg (by omega)]
def pts (w h : Nat) : List (Nat × Nat) := rowsP w h 1
/-! what one point does, when a drawing is laid over another, and when one is turned -/
def lyS (q q0 ri dj : Nat) (I : am_I) (p : Nat × Nat) : am_I := if I q0 (8 * p.2 + p.1 / 2) = 0 then I else am_up I q (8 * (p.2 + dj) + (p.1 + ri) / 2) (I q0 (8 * p.2 + p.1 / 2))
def tcol (w h t i j : Nat) : Nat := match t with
  | 0 => i
  | 1 => 2 * h - j
  | 2 => 2 * w - i
  | _ => j
def trow (w h t i j : Nat) : Nat := match t with
  | 0 => j
  | 1 => i
  | 2 => 2 * h - j
  | _ => 2 * w - i
def twid (w h t : Nat) : Nat := if t % 2 = 1 then h else w
def thig (w h t : Nat) : Nat := if t % 2 = 1 then w else h
def tval (t : Nat) (v : Int32) : Int32 := if t % 2 = 1 then (if v = 0 then v else nI 3 - v) else v
def tflp (w h t f x : Nat) : Nat := if f = 1 then 2 * twid w h t - x else x
def ttS (q q0 w h t f : Nat) (I : am_I) (p : Nat × Nat) : am_I := am_up I q (8 * trow w h t p.1 p.2 + tflp w h t f (tcol w h t p.1 p.2) / 2) (tval t (I q0 (8 * p.2 + p.1 / 2)))
