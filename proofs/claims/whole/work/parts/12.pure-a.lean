/-! numbers -/
theorem z_le {x y : Int32} : x ≤ y ↔ x.toInt ≤ y.toInt := Int32.le_iff_toInt_le
theorem z_lt {x y : Int32} : x < y ↔ x.toInt < y.toInt := Int32.lt_iff_toInt_lt
theorem z_eq {x y : Int32} : x = y ↔ x.toInt = y.toInt := ⟨fun h => by rw [h], fun h => Int32.toInt_inj.mp h⟩
theorem z_0 : (0 : Int32).toInt = 0 := rfl
theorem z_1 : (1 : Int32).toInt = 1 := rfl
theorem z_2 : (2 : Int32).toInt = 2 := rfl
theorem z_m1 : (-1 : Int32).toInt = -1 := by decide
theorem z_tn (x : Int32) : x.toInt % 2 = ((x.toBitVec.toNat % 2 : Nat) : Int) := by
  have h : x.toInt = x.toBitVec.toInt := rfl
  rw [h, BitVec.toInt_eq_toNat_cond]
  split <;> omega
theorem z_and1 (x : Int32) : x &&& 1 = nI (x.toInt % 2).toNat := by
  rw [pk_and x (m := 1) 1 (by decide), z_tn]
  rfl
theorem z_par (x y : Int32) : (x + y).toInt % 2 = (x.toInt + y.toInt) % 2 := by
  rw [Int32.toInt_add]
  have h : ∀ z : Int, (z.bmod (2 ^ 32)) % 2 = z % 2 := by
    intro z
    rw [Int.bmod_def]
    split <;> omega
  exact h _
theorem z_pand (x y : Int32) : (x + y) &&& 1 = nI ((x.toInt + y.toInt) % 2).toNat := by rw [z_and1, z_par]
/-- a number that isn't below 0 -/
theorem z_nat {x : Int32} (h : 0 ≤ x.toInt) : x = nI x.toInt.toNat := by
  apply Int32.toInt_inj.mp
  have := Int32.toInt_lt x
  rw [nI_toInt (by omega)]
  omega
theorem z_nI {n : Nat} (h : n < 2147483648) : (nI n).toInt = (n : Int) := nI_toInt h
/-! the points of a drawing -/
def pInner (w h : Nat) (i j : Int32) : Bool := decide (0 < i.toInt ∧ i.toInt < 2 * w ∧ 0 < j.toInt ∧ j.toInt < 2 * h ∧ (i.toInt + j.toInt) % 2 = 1)
def pPoint (w h : Nat) (i j : Int32) : Bool := decide (0 ≤ i.toInt ∧ i.toInt ≤ 2 * w ∧ 0 ≤ j.toInt ∧ j.toInt ≤ 2 * h ∧ (i.toInt + j.toInt) % 2 = 1)
/-- by natural numbers -/
def nInner (w h i j : Nat) : Bool := decide (0 < i ∧ i < 2 * w ∧ 0 < j ∧ j < 2 * h ∧ (i + j) % 2 = 1)
theorem pInner_nI {w h i j : Nat} (hi : i < 2147483648) (hj : j < 2147483648) : pInner w h (nI i) (nI j) = nInner w h i j := by
  unfold pInner nInner
  rw [z_nI hi, z_nI hj]
  congr 1
  apply propext
  constructor <;> intro hh <;> omega
theorem pInner_ex {w h : Nat} {i j : Int32} (hh : pInner w h i j = true) : ∃ a c : Nat, i = nI a ∧ j = nI c ∧ 0 < a ∧ a < 2 * w ∧ 0 < c ∧ c < 2 * h ∧ (a + c) % 2 = 1 := by
  have hp := of_decide_eq_true hh
  refine ⟨i.toInt.toNat, j.toInt.toNat, z_nat (by omega), z_nat (by omega), ?_⟩
  omega
theorem z_par1 {x y : Int32} (h : (x + y) &&& 1 = nI 1) : (x.toInt + y.toInt) % 2 = 1 := by
  rw [z_pand, nI_eq (by omega) (by decide)] at h
  omega
theorem z_par0 {x y : Int32} (h : ¬ (x + y) &&& 1 = nI 1) : ¬ (x.toInt + y.toInt) % 2 = 1 := by
  intro h2
  apply h
  rw [z_pand, h2]
  rfl
/-- a size that can be -/
def okSz (w : Nat) : Prop := 1 ≤ w ∧ w ≤ 8
/-! loops -/
theorem am_loop {P : Nat → Prop} (n : Nat) (h : ∀ k, k ≤ n → (k < n → P (k + 1)) → P k) : ∀ k, k ≤ n → P k := by
  have key : ∀ m k, n - k = m → k ≤ n → P k := by
    intro m
    induction m with
    | zero => intro k hm hk; exact h k hk (fun hl => absurd hl (by omega))
    | succ m ih => intro k hm hk; exact h k hk (fun hl => ih (k + 1) (by omega) (by omega))
  exact fun k hk => key (n - k) k rfl hk
theorem am_wf {σ : Type} {P : σ → Prop} (μ : σ → Nat) (h : ∀ s, (∀ s', μ s' < μ s → P s') → P s) : ∀ s, P s := by
  have key : ∀ m s, μ s < m → P s := by
    intro m
    induction m with
    | zero => intro s hs; exact absurd hs (by omega)
    | succ m ih => intro s hs; exact h s (fun s' h' => ih s' (by omega))
  exact fun s => key (μ s + 1) s (by omega)
/-! drawings of the class: the object a, its row q; M tells the mirror at an inner point -/
def am_dr (S : am_S) (a q : Nat) : Prop := a < S.1 ∧ S.2.1 a = .inr (.inr 0) ∧ S.2.2 a 2 = some q ∧ q < S.1 ∧ S.2.1 q = .inl (0, 128)
theorem am_dr.ne {S : am_S} {a q : Nat} (h : am_dr S a q) : a ≠ q := by
  intro e
  have h1 := h.2.1
  have h2 := h.2.2.2.2
  rw [e, h2] at h1
  cases h1
def am_fl (n : Nat) (v : Int32) (f : Nat → Int32) : Nat → Int32 := fun j => if j < n then v else f j
theorem am_fl_step (I : am_I) (r k n : Nat) (v : Int32) : am_up (va_up I r (am_fl k v (I r))) r k v = va_up I r (am_fl (k + 1) v (I r)) := by
  funext b j
  by_cases hb : b = r
  · subst hb
    by_cases hj : j = k
    · subst hj; simp [am_up, va_up, am_fl]
    · by_cases h2 : j < k
      · simp [am_up, va_up, am_fl, hj, h2, Nat.lt_succ_of_lt h2]
      · have h3 : ¬ j < k + 1 := by omega
        simp [am_up, va_up, am_fl, hj, h2, h3]
  · simp [am_up, va_up, hb]
theorem am_fl_0 (I : am_I) (r : Nat) (v : Int32) : I = va_up I r (am_fl 0 v (I r)) := by
  funext b j
  by_cases hb : b = r
  · subst hb; simp [va_up, am_fl]
  · simp [va_up, hb]
theorem rn_copyN {d : Nat} {Y : am_Y} {b : Nat × Nat} {pc : Nat} {ls : List (Option Value)} {st : List Value} {S : am_S} {I : am_I} {Q : Option Value → am_S → am_I → Prop} {i a0 a n0 n1 sp dp n : Nat} (hdg : decode Y.2.2.1 pc = .ok (.invokestatic i, 3)) (hw : Cond.methodLink (am_R Y.2.1) i arraycopyName ∈ am_gw ∧ Cond.native arraycopyName ∈ am_gw ∧ Cond.static arraycopyName ∈ am_gw ∧ Cond.initialized "java/lang/System" ∈ am_gw)
    (ha0 : a0 < S.1) (ha : a < S.1) (hk0 : S.2.1 a0 = .inl (0, n0)) (hk : S.2.1 a = .inl (0, n1)) (h1 : sp < 2147483648) (h2 : dp < 2147483648) (h3 : n < 2147483648) (h4 : sp + n ≤ n0) (h5 : dp + n ≤ n1) (hd : 1 ≤ d) (hr : (st.map fun v => v.category).sum ≤ 8)
    (kk : am_Rn d Y b (pc + 3) ls st S (va_up I a (va_cpy (I a0) (I a) sp dp n)) Q) : am_Rn d Y b pc ls (.int (nI n) :: .int (nI dp) :: .ref a :: .int (nI sp) :: .ref a0 :: st) S I Q :=
  rn_copy hdg hw ha0 ha hk0 hk (nI_pos h1) (nI_pos h2) (nI_pos h3) (by rw [nI_clamp h1, nI_clamp h3]; exact h4) (by rw [nI_clamp h2, nI_clamp h3]; exact h5) hd hr (by rw [nI_clamp h1, nI_clamp h2, nI_clamp h3]; exact kk)
/-- how often a value stands among the first n -/
def cntV (f : Nat → Int32) (v : Int32) : Nat → Nat
  | 0 => 0
  | n + 1 => cntV f v n + (if f n = v then 1 else 0)
theorem cntV_le (f : Nat → Int32) (v : Int32) (n : Nat) : cntV f v n ≤ n := by
  induction n with
  | zero => exact Nat.le_refl _
  | succ n ih =>
    simp only [cntV]
    split <;> omega
/-- a drawing's object and row are changed -/
def dr_sz (I : am_I) (a w h : Nat) : am_I := am_up (am_up I a 0 (nI w)) a 1 (nI h)
def dr_clr (I : am_I) (a q w h : Nat) : am_I := va_up (dr_sz I a w h) q (am_fl 128 (nI 0) (dr_sz I a w h q))
def dr_cpy (I : am_I) (a q a0 q0 w h : Nat) : am_I := va_up (dr_sz I a w h) q (va_cpy (dr_sz I a w h q0) (dr_sz I a w h q) 0 0 128)
theorem dr_sz_o (I : am_I) {a w h b : Nat} (hb : b ≠ a) : dr_sz I a w h b = I b := by simp [dr_sz, am_up, va_up, hb]
theorem dr_clr_o (I : am_I) {a q w h b : Nat} (hb : b ≠ a) (hq : b ≠ q) : dr_clr I a q w h b = I b := by simp [dr_clr, va_up, hq, dr_sz_o I hb]
theorem dr_clr_w (I : am_I) {a q w h : Nat} (hn : a ≠ q) : dr_clr I a q w h a 0 = nI w ∧ dr_clr I a q w h a 1 = nI h := by simp [dr_clr, va_up, hn, dr_sz, am_up]
theorem dr_clr_r (I : am_I) {a q w h p : Nat} (hp : p < 128) : dr_clr I a q w h q p = nI 0 := by simp [dr_clr, va_up, am_fl, hp]
theorem dr_cpy_o (I : am_I) {a q a0 q0 w h b : Nat} (hb : b ≠ a) (hq : b ≠ q) : dr_cpy I a q a0 q0 w h b = I b := by simp [dr_cpy, va_up, hq, dr_sz_o I hb]
theorem dr_cpy_w (I : am_I) {a q a0 q0 w h : Nat} (hn : a ≠ q) : dr_cpy I a q a0 q0 w h a 0 = nI w ∧ dr_cpy I a q a0 q0 w h a 1 = nI h := by simp [dr_cpy, va_up, hn, dr_sz, am_up]
theorem dr_cpy_r (I : am_I) {a q a0 q0 w h p : Nat} (hq : q0 ≠ a) (hp : p < 128) : dr_cpy I a q a0 q0 w h q p = I q0 p := by simp [dr_cpy, va_up, va_cpy, hp, dr_sz_o I hq]
/-- a truth as a bit -/
noncomputable def pb (P : Prop) : Bool := @decide P (Classical.propDecidable P)
theorem pb_t {P : Prop} (h : P) : pb P = true := @decide_eq_true P (Classical.propDecidable P) h
theorem pb_f {P : Prop} (h : ¬ P) : pb P = false := @decide_eq_false P (Classical.propDecidable P) h
theorem pb_of {P : Prop} (h : pb P = true) : P := @of_decide_eq_true P (Classical.propDecidable P) h
theorem pb_no {P : Prop} (h : pb P = false) : ¬ P := @of_decide_eq_false P (Classical.propDecidable P) h
theorem pb_congr {P R : Prop} (h : P ↔ R) : pb P = pb R := by rw [propext h]
theorem pb_dec (P : Prop) [hP : Decidable P] : pb P = decide P := by
  by_cases h : P
  · rw [pb_t h, decide_eq_true h]
  · rw [pb_f h, decide_eq_false h]
