/-! the four squares round an inner point, by the upper left one's number -/
section NB
variable {w h : Nat} {M : Nat → Nat → Nat}
def ulS (w i j : Nat) : Nat := 2 * w * (j - 1) + (i - 1)
theorem ul_b {i j : Nat} (hin : nInner w h i j = true) : ulS w i j + 2 * w + 1 < 4 * w * h ∧ 2 * w * j + i = ulS w i j + 2 * w + 1 := by
  have hb := nIn.mp hin
  have e0 : 2 * w * j = 2 * w * (j - 1) + 2 * w := by rw [show j = (j - 1) + 1 by omega, Nat.mul_add, Nat.mul_one]; rfl
  have h1 : 2 * w * (j + 1) ≤ 2 * w * (2 * h) := Nat.mul_le_mul_left _ (by omega)
  have e : 2 * w * (2 * h) = 4 * w * h := by rw [show 4 * w * h = 2 * 2 * w * h by rfl]; simp only [Nat.mul_assoc, Nat.mul_left_comm, Nat.mul_comm]
  have e2 : 2 * w * (j + 1) = 2 * w * j + 2 * w := by rw [Nat.mul_add, Nat.mul_one]
  unfold ulS
  omega
theorem nb_step {s : lS} (w1 : 1 ≤ w) (hs : lInv w h s) {x y : Nat} (ex : sn w s = x) (ey : sn w (lF w h M s) = y) : lnum w h M x = lnum w h M y := by
  rw [← ex, ← ey]
  exact (lnum_step w1 hs).symm
theorem sn_mk (a b : Nat) (r d : Bool) : sn w (a, b, r, d) = 2 * w * b + a := rfl
theorem nb_all (w1 : 1 ≤ w) {i j : Nat} (hin : nInner w h i j = true) :
    (M i j = 0 → lnum w h M (ulS w i j) = lnum w h M (ulS w i j + 2 * w + 1) ∧ lnum w h M (ulS w i j + 1) = lnum w h M (ulS w i j + 2 * w)) ∧
    (M i j = 1 → lnum w h M (ulS w i j) = lnum w h M (ulS w i j + 2 * w) ∧ lnum w h M (ulS w i j + 1) = lnum w h M (ulS w i j + 2 * w + 1)) ∧
    (M i j = 2 → lnum w h M (ulS w i j) = lnum w h M (ulS w i j + 1) ∧ lnum w h M (ulS w i j + 2 * w) = lnum w h M (ulS w i j + 2 * w + 1)) := by
  have hb := nIn.mp hin
  have hu := (ul_b hin).2
  have hg : gv w h M i j = M i j := if_pos hin
  -- the three places that come to the point
  have i1 : lInv w h (i - 1, j - 1, true, true) := ⟨by show i - 1 < 2 * w; omega, by show j - 1 < 2 * h; omega, by show true = (decide ((i - 1 + (j - 1)) % 2 = 1) == true); rw [decide_eq_true (by omega)]; rfl⟩
  have i2 : lInv w h (i, j - 1, false, true) := ⟨by show i < 2 * w; omega, by show j - 1 < 2 * h; omega, by show true = (decide ((i + (j - 1)) % 2 = 1) == false); rw [decide_eq_false (by omega)]; rfl⟩
  have i3 : lInv w h (i - 1, j, true, false) := ⟨by show i - 1 < 2 * w; omega, by show j < 2 * h; omega, by show false = (decide ((i - 1 + j) % 2 = 1) == true); rw [decide_eq_false (by omega)]; rfl⟩
  have p1 : lI (i - 1, j - 1, true, true) = i ∧ lJ (i - 1, j - 1, true, true) = j := ⟨by show i - 1 + 1 = i; omega, by show j - 1 + 1 = j; omega⟩
  have p2 : lI (i, j - 1, false, true) = i ∧ lJ (i, j - 1, false, true) = j := ⟨rfl, by show j - 1 + 1 = j; omega⟩
  have p3 : lI (i - 1, j, true, false) = i ∧ lJ (i - 1, j, true, false) = j := ⟨by show i - 1 + 1 = i; omega, rfl⟩
  have F : ∀ (a b : Nat) (r d : Bool), lI (a, b, r, d) = i → lJ (a, b, r, d) = j → lF w h M (a, b, r, d) = (if (if M i j = 1 then !r else r) = true then i else i - 1, if (if M i j = 2 then !d else d) = true then j else j - 1, (if M i j = 1 then !r else r), (if M i j = 2 then !d else d)) := by
    intro a b r d e1 e2
    have tx : lTx w h M i j = decide (M i j = 1) := by unfold lTx; rw [hg]; exact decide_eq_decide.mpr (by omega)
    have ty : lTy w h M i j = decide (M i j = 2) := by unfold lTy; rw [hg]; exact decide_eq_decide.mpr (by omega)
    have eR : lR w h M (a, b, r, d) = if M i j = 1 then !r else r := by unfold lR; rw [e1, e2, tx]; simp
    have eD : lD w h M (a, b, r, d) = if M i j = 2 then !d else d := by
      unfold lD
      rw [e1, e2, tx, ty]
      by_cases h1 : M i j = 1
      · simp [h1]
      · simp [h1]
    unfold lF
    rw [eR, eD, e1, e2]
  have e1 : 2 * w * (j - 1) + (i - 1) = ulS w i j := rfl
  have e2 : 2 * w * (j - 1) + i = ulS w i j + 1 := by unfold ulS; omega
  have e3 : 2 * w * j + (i - 1) = ulS w i j + 2 * w := by omega
  refine ⟨fun hm => ⟨nb_step w1 i1 e1 ?_, nb_step w1 i2 e2 ?_⟩, fun hm => ⟨nb_step w1 i1 e1 ?_, nb_step w1 i2 e2 ?_⟩, fun hm => ⟨nb_step w1 i1 e1 ?_, nb_step w1 i3 e3 ?_⟩⟩
  · rw [F _ _ _ _ p1.1 p1.2, hm]; simp [sn_mk]; omega
  · rw [F _ _ _ _ p2.1 p2.2, hm]; simp [sn_mk]; omega
  · rw [F _ _ _ _ p1.1 p1.2, hm]; simp [sn_mk]; omega
  · rw [F _ _ _ _ p2.1 p2.2, hm]; simp [sn_mk]; omega
  · rw [F _ _ _ _ p1.1 p1.2, hm]; simp [sn_mk]; omega
  · rw [F _ _ _ _ p3.1 p3.2, hm]; simp [sn_mk]; omega
/-- the other strand's square, as the reference takes it -/
def st1 (w : Nat) (M : Nat → Nat → Nat) (i j : Nat) : Nat := if M i j = 2 then ulS w i j + 2 * w else ulS w i j + 1
theorem c4_four {i j : Nat} (w1 : 1 ≤ w) (hok : okM w h M) (hin : nInner w h i j = true) (l : Int32) : c4 w h M l (ulS w i j) = 4 ↔ nI (lnum w h M (ulS w i j)) = l ∧ nI (lnum w h M (st1 w M i j)) = l := by
  obtain ⟨n0, n1, n2⟩ := nb_all (M := M) w1 hin
  have hm := hok i j hin
  unfold c4 eqL st1
  rcases (show M i j = 0 ∨ M i j = 1 ∨ M i j = 2 by omega) with q | q | q
  · obtain ⟨a, b⟩ := n0 q
    rw [q, if_neg (by decide : ¬ (0 = 2)), ← a, ← b]
    by_cases h1 : nI (lnum w h M (ulS w i j)) = l <;> by_cases h2 : nI (lnum w h M (ulS w i j + 1)) = l <;> simp [h1, h2]
  · obtain ⟨a, b⟩ := n1 q
    rw [q, if_neg (by decide : ¬ (1 = 2)), ← a, ← b]
    by_cases h1 : nI (lnum w h M (ulS w i j)) = l <;> by_cases h2 : nI (lnum w h M (ulS w i j + 1)) = l <;> simp [h1, h2]
  · obtain ⟨a, b⟩ := n2 q
    rw [q, if_pos rfl, ← a, ← b]
    by_cases h1 : nI (lnum w h M (ulS w i j)) = l <;> by_cases h2 : nI (lnum w h M (ulS w i j + 2 * w)) = l <;> simp [h1, h2]
end NB
/-! counting points -/
def cntP (f : Nat → Nat → Nat) : List (Nat × Nat) → Nat
  | [] => 0
  | p :: l => f p.1 p.2 + cntP f l
theorem cntP_app (f : Nat → Nat → Nat) (a b : List (Nat × Nat)) : cntP f (a ++ b) = cntP f a + cntP f b := by
  induction a with
  | nil => simp [cntP]
  | cons p a ih => simp only [List.cons_append, cntP, ih]; omega
/-- one number among the first n -/
theorem sumN_one {n c : Nat} (v : Nat) (hc : c < n) : sumN (fun k => if k = c then v else 0) n = v := by
  induction n with
  | zero => exact absurd hc (by omega)
  | succ n ih =>
    simp only [sumN]
    by_cases h : c = n
    · subst h
      rw [if_pos rfl]
      have : sumN (fun k => if k = c then v else 0) c = 0 :=
        (sumN_congr (g := fun _ => 0) (fun k hk => if_neg (by omega))).trans (sumN_0 c)
      omega
    · rw [ih (by omega), if_neg (by omega)]; rfl
theorem cntP_row (f : Nat → Nat → Nat) {w j : Nat} (w8 : w ≤ 8) : ∀ i, cntP f (rowP w j i) = sumN (fun k => if i ≤ k ∧ k < 2 * w ∧ (k + i) % 2 = 0 then f k j else 0) 17 := by
  have key : ∀ m i, 2 * w - i ≤ m → cntP f (rowP w j i) = sumN (fun k => if i ≤ k ∧ k < 2 * w ∧ (k + i) % 2 = 0 then f k j else 0) 17 := by
    intro m
    induction m with
    | zero =>
      intro i hm
      rw [rowP_n (by omega), cntP, ← sumN_0 17]
      exact sumN_congr (fun k _ => (if_neg (by omega)).symm)
    | succ m ih =>
      intro i hm
      by_cases hi : i < 2 * w
      · rw [rowP_c hi, cntP, ih (i + 2) (by omega)]
        have e : sumN (fun k => if i ≤ k ∧ k < 2 * w ∧ (k + i) % 2 = 0 then f k j else 0) 17 = sumN (fun k => (if k = i then f i j else 0) + (if i + 2 ≤ k ∧ k < 2 * w ∧ (k + (i + 2)) % 2 = 0 then f k j else 0)) 17 := by
          refine sumN_congr (fun k _ => ?_)
          by_cases h1 : k = i
          · subst h1
            rw [if_pos (by omega), if_pos rfl, if_neg (by omega)]; rfl
          · rw [if_neg h1]
            by_cases h2 : i ≤ k ∧ k < 2 * w ∧ (k + i) % 2 = 0
            · rw [if_pos h2, if_pos (by omega), Nat.zero_add]
            · rw [if_neg h2, if_neg (by omega)]
        rw [e, sumN_add, sumN_one _ (by omega)]
      · rw [rowP_n (by omega), cntP, ← sumN_0 17]
        exact sumN_congr (fun k _ => (if_neg (by omega)).symm)
  exact fun i => key _ i (Nat.le_refl _)
theorem cntP_rows (f : Nat → Nat → Nat) {w h : Nat} (w8 : w ≤ 8) (h8 : h ≤ 8) : ∀ j, cntP f (rowsP w h j) = sumN (fun q => if j ≤ q ∧ q < 2 * h then cntP f (rowP w q (1 + q % 2)) else 0) 17 := by
  have key : ∀ m j, 2 * h - j ≤ m → cntP f (rowsP w h j) = sumN (fun q => if j ≤ q ∧ q < 2 * h then cntP f (rowP w q (1 + q % 2)) else 0) 17 := by
    intro m
    induction m with
    | zero =>
      intro j hm
      rw [rowsP_n (by omega), cntP, ← sumN_0 17]
      exact sumN_congr (fun k _ => (if_neg (by omega)).symm)
    | succ m ih =>
      intro j hm
      by_cases hj : j < 2 * h
      · rw [rowsP_c hj, cntP_app, ih (j + 1) (by omega)]
        have e : sumN (fun q => if j ≤ q ∧ q < 2 * h then cntP f (rowP w q (1 + q % 2)) else 0) 17 = sumN (fun q => (if q = j then cntP f (rowP w j (1 + j % 2)) else 0) + (if j + 1 ≤ q ∧ q < 2 * h then cntP f (rowP w q (1 + q % 2)) else 0)) 17 := by
          refine sumN_congr (fun q _ => ?_)
          by_cases h1 : q = j
          · subst h1
            rw [if_pos (by omega), if_pos rfl, if_neg (by omega)]; rfl
          · rw [if_neg h1]
            by_cases h2 : j ≤ q ∧ q < 2 * h
            · rw [if_pos h2, if_pos (by omega), Nat.zero_add]
            · rw [if_neg h2, if_neg (by omega)]
        rw [e, sumN_add, sumN_one _ (by omega)]
      · rw [rowsP_n (by omega), cntP, ← sumN_0 17]
        exact sumN_congr (fun k _ => (if_neg (by omega)).symm)
  exact fun j => key _ j (Nat.le_refl _)
theorem cntP_pts (f : Nat → Nat → Nat) {w h : Nat} (w8 : w ≤ 8) (h8 : h ≤ 8) : cntP f (pts w h) = sumN (fun j => sumN (fun i => if nInner w h i j = true then f i j else 0) 17) 17 := by
  unfold pts
  rw [cntP_rows f w8 h8]
  refine sumN_congr (fun j _ => ?_)
  by_cases hj : 1 ≤ j ∧ j < 2 * h
  · rw [if_pos hj, cntP_row f w8]
    refine sumN_congr (fun i _ => ?_)
    by_cases hi : nInner w h i j = true
    · have hb := nIn.mp hi
      rw [if_pos hi, if_pos (by omega)]
    · rw [if_neg hi, if_neg (fun q => hi (nIn.mpr (by omega)))]
  · rw [if_neg hj]
    exact ((sumN_congr (g := fun _ => 0) (fun i _ => if_neg (fun q => hj (by have := nIn.mp q; omega)))).trans (sumN_0 17)).symm
theorem cntP_le {f : Nat → Nat → Nat} (hf : ∀ i j, f i j ≤ 1) (l : List (Nat × Nat)) : cntP f l ≤ l.length := by
  induction l with
  | nil => simp [cntP]
  | cons p l ih => simp only [cntP, List.length_cons]; have := hf p.1 p.2; omega
