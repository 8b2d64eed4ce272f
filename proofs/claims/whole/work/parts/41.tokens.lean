/-! scanning a tape -/
def scn (P : Nat → Bool) (n p : Nat) : Nat := if h : p < n ∧ P p = true then scn P n (p + 1) else p
termination_by n - p
decreasing_by omega
section SC
variable {P : Nat → Bool} {n p : Nat}
theorem scn_s (h : p < n) (hp : P p = true) : scn P n p = scn P n (p + 1) := by rw [scn, dif_pos ⟨h, hp⟩]
theorem scn_e (h : ¬ (p < n ∧ P p = true)) : scn P n p = p := by rw [scn, dif_neg h]
theorem scn_all : ∀ m p, n - p ≤ m → p ≤ scn P n p ∧ (p ≤ n → scn P n p ≤ n) ∧ (∀ q, p ≤ q → q < scn P n p → q < n ∧ P q = true) ∧ ¬ (scn P n p < n ∧ P (scn P n p) = true) := by
  intro m
  induction m with
  | zero =>
    intro p hm
    have h : ¬ (p < n ∧ P p = true) := fun q => by omega
    rw [scn_e h]
    exact ⟨Nat.le_refl _, fun h => h, fun q h1 h2 => by omega, h⟩
  | succ m ih =>
    intro p hm
    by_cases h : p < n ∧ P p = true
    · rw [scn_s h.1 h.2]
      obtain ⟨a, b, c, d⟩ := ih (p + 1) (by omega)
      refine ⟨by omega, fun _ => b (by omega), fun q h1 h2 => ?_, d⟩
      by_cases hq : q = p
      · rw [hq]; exact h
      · exact c q (by omega) h2
    · rw [scn_e h]
      exact ⟨Nat.le_refl _, fun h => h, fun q h1 h2 => by omega, h⟩
theorem scn_ge : p ≤ scn P n p := (scn_all _ p (Nat.le_refl _)).1
theorem scn_le (h : p ≤ n) : scn P n p ≤ n := (scn_all _ p (Nat.le_refl _)).2.1 h
theorem scn_in {q : Nat} (h1 : p ≤ q) (h2 : q < scn P n p) : q < n ∧ P q = true := (scn_all _ p (Nat.le_refl _)).2.2.1 q h1 h2
theorem scn_end : ¬ (scn P n p < n ∧ P (scn P n p) = true) := (scn_all _ p (Nat.le_refl _)).2.2.2
theorem scn_mid {q : Nat} (h1 : p ≤ q) (h2 : q ≤ scn P n p) : scn P n q = scn P n p := by
  induction q with
  | zero => rw [show p = 0 by omega]
  | succ q ih =>
    by_cases h : p = q + 1
    · rw [h]
    · have h3 := scn_in (q := q) (by omega) (by omega : q < scn P n p)
      rw [← scn_s h3.1 h3.2]
      exact ih (by omega) (by omega)
end SC
def isBk (B : Nat → Nat) (q : Nat) : Bool := decide (B q = 32 ∨ B q = 10)
def isDg (B : Nat → Nat) (q : Nat) : Bool := decide (48 ≤ B q ∧ B q ≤ 57)
def isLt (B : Nat → Nat) (q : Nat) : Bool := decide (97 ≤ B q ∧ B q ≤ 122)
/-- where the next token begins -/
def tS (n : Nat) (B : Nat → Nat) (p : Nat) : Nat := scn (isBk B) n p
/-- where a token that begins there ends -/
def tE (n : Nat) (B : Nat → Nat) (s : Nat) : Nat := if s < n ∧ isDg B s = true then scn (isDg B) n s else scn (isLt B) n s
def nvl (B : Nat → Nat) (s : Nat) : Nat → Nat
  | 0 => 0
  | k + 1 => 10 * nvl B s k + (B (s + k) - 48)
def cap (x : Nat) : Nat := if x < 100 then x else 100
theorem cap_le (x : Nat) : cap x ≤ 100 := by unfold cap; split <;> omega
/-- a number's value, 100 for all that are larger -/
def tN (n : Nat) (B : Nat → Nat) (s : Nat) : Nat := cap (nvl B s (scn (isDg B) n s - s))
theorem cap_step (x d : Nat) : cap (10 * cap x + d) = cap (10 * x + d) := by unfold cap; (repeat' split) <;> omega
def rvl (B : Nat → Nat) (s : Nat) : Nat → Nat
  | 0 => 0
  | k + 1 => if rvl B s k < 1000 then 10 * rvl B s k + (B (s + k) - 48) else rvl B s k
theorem rvl_ok {B : Nat → Nat} {s : Nat} : ∀ k, (∀ q, q < k → B (s + q) ≤ 57) → rvl B s k < 10000 ∧ (rvl B s k = nvl B s k ∨ (100 ≤ rvl B s k ∧ 100 ≤ nvl B s k)) := by
  intro k
  induction k with
  | zero => intro _; exact ⟨by show 0 < 10000; omega, Or.inl rfl⟩
  | succ k ih =>
    intro hq
    obtain ⟨h1, h2⟩ := ih (fun q h => hq q (by omega))
    have h3 := hq k (by omega)
    simp only [rvl, nvl]
    split
    · exact ⟨by omega, by omega⟩
    · exact ⟨h1, by omega⟩
theorem rvl_cap {B : Nat → Nat} {s k : Nat} (h : ∀ q, q < k → B (s + q) ≤ 57) : cap (rvl B s k) = cap (nvl B s k) := by
  obtain ⟨_, h2⟩ := rvl_ok k h
  rcases h2 with h2 | ⟨h2, h3⟩
  · rw [h2]
  · unfold cap; rw [if_neg (by omega), if_neg (by omega)]
/-! words -/
def spl (B : Nat → Nat) : Nat → List Nat → Bool
  | _, [] => true
  | s, c :: W => decide (B s = c) && spl B (s + 1) W
def spd (B : Nat → Nat) (s e : Nat) (W : List Nat) : Bool := decide (e = s + W.length) && spl B s W
theorem spl_iff {B : Nat → Nat} : ∀ (W : List Nat) (s : Nat), spl B s W = true ↔ ∀ k, k < W.length → B (s + k) = W.getD k 0 := by
  intro W
  induction W with
  | nil => intro s; exact ⟨fun _ k hk => absurd hk (by simp), fun _ => rfl⟩
  | cons c W ih =>
    intro s
    simp only [spl, Bool.and_eq_true, decide_eq_true_eq, ih (s + 1)]
    constructor
    · rintro ⟨h1, h2⟩ k hk
      rcases k with _ | k
      · exact h1
      · have h3 := h2 k (by simpa using hk)
        rw [show s + (k + 1) = s + 1 + k by omega, h3]
        rfl
    · intro h
      refine ⟨h 0 (by simp), fun k hk => ?_⟩
      have h3 := h (k + 1) (by simpa using hk)
      rw [show s + 1 + k = s + (k + 1) by omega, h3]
      rfl
theorem spd_iff {B : Nat → Nat} {s e : Nat} {W : List Nat} : spd B s e W = true ↔ e = s + W.length ∧ ∀ k, k < W.length → B (s + k) = W.getD k 0 := by
  unfold spd
  rw [Bool.and_eq_true, decide_eq_true_eq, spl_iff]
theorem spd_one {B : Nat → Nat} {s e : Nat} {W W' : List Nat} (h1 : spd B s e W = true) (h2 : spd B s e W' = true) : W = W' := by
  rw [spd_iff] at h1 h2
  have hl : W.length = W'.length := by omega
  refine List.ext_getElem hl (fun k h3 h4 => ?_)
  have e1 := h1.2 k h3
  have e2 := h2.2 k h4
  simp only [List.getD, List.getElem?_eq_getElem h3, Option.getD_some] at e1
  simp only [List.getD, List.getElem?_eq_getElem h4, Option.getD_some] at e2
  omega
theorem spd_not {B : Nat → Nat} {s e : Nat} {W W' : List Nat} (h1 : spd B s e W = true) (hne : W ≠ W') : ¬ spd B s e W' = true := fun h2 => hne (spd_one h1 h2)
def wPlain : List Nat := [112, 108, 97, 105, 110]
def wKept : List Nat := [107, 101, 112, 116]
def wSet : List Nat := [115, 101, 116]
def wTurn : List Nat := [116, 117, 114, 110]
def wFlip : List Nat := [102, 108, 105, 112]
def wRow : List Nat := [114, 111, 119]
def wBeside : List Nat := [98, 101, 115, 105, 100, 101]
def wAbove : List Nat := [97, 98, 111, 118, 101]
def wOver : List Nat := [111, 118, 101, 114]
def tW (B : Nat → Nat) (s e : Nat) : Nat := if spd B s e wPlain = true then 3 else if spd B s e wKept = true then 4 else if spd B s e wSet = true then 5 else if spd B s e wTurn = true then 6 else if spd B s e wFlip = true then 7 else if spd B s e wRow = true then 8 else if spd B s e wBeside = true then 9 else if spd B s e wAbove = true then 10 else if spd B s e wOver = true then 11 else 2
/-- what a token that begins there is: 0 none, 1 a number, 2 wrong, else a word -/
def tK (n : Nat) (B : Nat → Nat) (s : Nat) : Nat := if s < n then (if isDg B s = true then 1 else if isLt B s = true then tW B s (scn (isLt B) n s) else 2) else 0
theorem tW_ge (B : Nat → Nat) (s e : Nat) : 2 ≤ tW B s e ∧ tW B s e ≤ 11 := by unfold tW; (repeat' split) <;> omega
theorem tK_le (n : Nat) (B : Nat → Nat) (s : Nat) : tK n B s ≤ 11 := by
  unfold tK
  have := tW_ge B s (scn (isLt B) n s)
  (repeat' split) <;> omega
theorem tK_0 {n : Nat} {B : Nat → Nat} {s : Nat} (h : n ≤ s) : tK n B s = 0 := if_neg (by omega)
theorem tK_0' {n : Nat} {B : Nat → Nat} {s : Nat} : tK n B s = 0 ↔ n ≤ s := by
  unfold tK
  have := tW_ge B s (scn (isLt B) n s)
  (repeat' split) <;> omega
theorem tK_1 {n : Nat} {B : Nat → Nat} {s : Nat} : tK n B s = 1 ↔ s < n ∧ isDg B s = true := by
  unfold tK
  have := tW_ge B s (scn (isLt B) n s)
  constructor
  · intro h
    by_cases h1 : s < n
    · rw [if_pos h1] at h
      by_cases h2 : isDg B s = true
      · exact ⟨h1, h2⟩
      · rw [if_neg h2] at h; split at h <;> omega
    · rw [if_neg h1] at h; omega
  · rintro ⟨h1, h2⟩; rw [if_pos h1, if_pos h2]
theorem dg_not_lt {B : Nat → Nat} {s : Nat} (h : isDg B s = true) : ¬ isLt B s = true := by
  unfold isDg isLt at *
  rw [decide_eq_true_eq] at *
  omega
/-- a word ends behind its begin -/
theorem tE_gt {n : Nat} {B : Nat → Nat} {s : Nat} (h : tK n B s = 1 ∨ 3 ≤ tK n B s) : s < tE n B s ∧ tE n B s ≤ n := by
  unfold tE
  by_cases h1 : s < n
  · by_cases h2 : isDg B s = true
    · rw [if_pos ⟨h1, h2⟩, scn_s h1 h2]
      exact ⟨scn_ge, scn_le (by omega)⟩
    · have h3 : isLt B s = true := by
        unfold tK at h
        rw [if_pos h1, if_neg h2] at h
        by_cases h3 : isLt B s = true
        · exact h3
        · rw [if_neg h3] at h; omega
      rw [if_neg (fun q => h2 q.2), scn_s h1 h3]
      exact ⟨scn_ge, scn_le (by omega)⟩
  · rw [tK_0 (by omega)] at h; omega
theorem tS_ge {n : Nat} {B : Nat → Nat} {p : Nat} : p ≤ tS n B p := scn_ge
theorem tS_le {n : Nat} {B : Nat → Nat} {p : Nat} (h : p ≤ n) : tS n B p ≤ n := scn_le h
/-! a word packed into a long -/
def pkB (B : Nat → Nat) (s : Nat) : Nat → Nat
  | 0 => 0
  | k + 1 => pkB B s k * 256 + B (s + k)
theorem pkB_lt {B : Nat → Nat} {s : Nat} : ∀ k, (∀ q, q < k → B (s + q) < 256) → pkB B s k < 256 ^ k := by
  intro k
  induction k with
  | zero => intro _; exact Nat.zero_lt_one
  | succ k ih =>
    intro h
    have h1 := ih (fun q hq => h q (by omega))
    have h2 := h k (by omega)
    simp only [pkB, Nat.pow_succ]
    omega
def cPlain : Nat := 482854660462
def cKept : Nat := 1801810036
def cSet : Nat := 7562612
def cTurn : Nat := 1953854062
def cFlip : Nat := 1718380912
def cRow : Nat := 7499639
def cBeside : Nat := 108187867505765
def cAbove : Nat := 418263299685
def cOver : Nat := 1870030194
section PK
variable {B : Nat → Nat} {s k : Nat}
theorem pk_w (hk : k ≤ 6) (hl : ∀ q, q < k → 97 ≤ B (s + q) ∧ B (s + q) ≤ 122) :
    (pkB B s k = cPlain ↔ spd B s (s + k) wPlain = true) ∧ (pkB B s k = cKept ↔ spd B s (s + k) wKept = true) ∧ (pkB B s k = cSet ↔ spd B s (s + k) wSet = true) ∧ (pkB B s k = cTurn ↔ spd B s (s + k) wTurn = true) ∧ (pkB B s k = cFlip ↔ spd B s (s + k) wFlip = true) ∧ (pkB B s k = cRow ↔ spd B s (s + k) wRow = true) ∧ (pkB B s k = cBeside ↔ spd B s (s + k) wBeside = true) ∧ (pkB B s k = cAbove ↔ spd B s (s + k) wAbove = true) ∧ (pkB B s k = cOver ↔ spd B s (s + k) wOver = true) := by
  rcases (show k = 0 ∨ k = 1 ∨ k = 2 ∨ k = 3 ∨ k = 4 ∨ k = 5 ∨ k = 6 by omega) with rfl | rfl | rfl | rfl | rfl | rfl | rfl
  · clear hl hk
    simp only [pkB, spd, spl, wPlain, wKept, wSet, wTurn, wFlip, wRow, wBeside, wAbove, wOver, cPlain, cKept, cSet, cTurn, cFlip, cRow, cBeside, cAbove, cOver, List.length_cons, List.length_nil, Bool.and_eq_true, decide_eq_true_eq, Bool.and_true, eq_self, and_true, true_and, Nat.add_zero, Nat.add_assoc, Nat.reduceAdd, Nat.zero_mul, Nat.zero_add]
    refine ⟨?_, ?_, ?_, ?_, ?_, ?_, ?_, ?_, ?_⟩ <;> first | omega | (constructor <;> intro h9 <;> first | omega | (exfalso; omega))
  · have b0 := hl 0 (by decide)
    clear hl hk
    simp only [pkB, spd, spl, wPlain, wKept, wSet, wTurn, wFlip, wRow, wBeside, wAbove, wOver, cPlain, cKept, cSet, cTurn, cFlip, cRow, cBeside, cAbove, cOver, List.length_cons, List.length_nil, Bool.and_eq_true, decide_eq_true_eq, Bool.and_true, eq_self, and_true, true_and, Nat.add_zero, Nat.add_assoc, Nat.reduceAdd, Nat.zero_mul, Nat.zero_add] at b0 ⊢
    refine ⟨?_, ?_, ?_, ?_, ?_, ?_, ?_, ?_, ?_⟩ <;> first | omega | (constructor <;> intro h9 <;> first | omega | (exfalso; omega))
  · have b0 := hl 0 (by decide)
    have b1 := hl 1 (by decide)
    clear hl hk
    simp only [pkB, spd, spl, wPlain, wKept, wSet, wTurn, wFlip, wRow, wBeside, wAbove, wOver, cPlain, cKept, cSet, cTurn, cFlip, cRow, cBeside, cAbove, cOver, List.length_cons, List.length_nil, Bool.and_eq_true, decide_eq_true_eq, Bool.and_true, eq_self, and_true, true_and, Nat.add_zero, Nat.add_assoc, Nat.reduceAdd, Nat.zero_mul, Nat.zero_add] at b0 b1 ⊢
    refine ⟨?_, ?_, ?_, ?_, ?_, ?_, ?_, ?_, ?_⟩ <;> first | omega | (constructor <;> intro h9 <;> first | omega | (exfalso; omega))
  · have b0 := hl 0 (by decide)
    have b1 := hl 1 (by decide)
    have b2 := hl 2 (by decide)
    clear hl hk
    simp only [pkB, spd, spl, wPlain, wKept, wSet, wTurn, wFlip, wRow, wBeside, wAbove, wOver, cPlain, cKept, cSet, cTurn, cFlip, cRow, cBeside, cAbove, cOver, List.length_cons, List.length_nil, Bool.and_eq_true, decide_eq_true_eq, Bool.and_true, eq_self, and_true, true_and, Nat.add_zero, Nat.add_assoc, Nat.reduceAdd, Nat.zero_mul, Nat.zero_add] at b0 b1 b2 ⊢
    refine ⟨?_, ?_, ?_, ?_, ?_, ?_, ?_, ?_, ?_⟩ <;> first | omega | (constructor <;> intro h9 <;> first | omega | (exfalso; omega))
  · have b0 := hl 0 (by decide)
    have b1 := hl 1 (by decide)
    have b2 := hl 2 (by decide)
    have b3 := hl 3 (by decide)
    clear hl hk
    simp only [pkB, spd, spl, wPlain, wKept, wSet, wTurn, wFlip, wRow, wBeside, wAbove, wOver, cPlain, cKept, cSet, cTurn, cFlip, cRow, cBeside, cAbove, cOver, List.length_cons, List.length_nil, Bool.and_eq_true, decide_eq_true_eq, Bool.and_true, eq_self, and_true, true_and, Nat.add_zero, Nat.add_assoc, Nat.reduceAdd, Nat.zero_mul, Nat.zero_add] at b0 b1 b2 b3 ⊢
    refine ⟨?_, ?_, ?_, ?_, ?_, ?_, ?_, ?_, ?_⟩ <;> first | omega | (constructor <;> intro h9 <;> first | omega | (exfalso; omega))
  · have b0 := hl 0 (by decide)
    have b1 := hl 1 (by decide)
    have b2 := hl 2 (by decide)
    have b3 := hl 3 (by decide)
    have b4 := hl 4 (by decide)
    clear hl hk
    simp only [pkB, spd, spl, wPlain, wKept, wSet, wTurn, wFlip, wRow, wBeside, wAbove, wOver, cPlain, cKept, cSet, cTurn, cFlip, cRow, cBeside, cAbove, cOver, List.length_cons, List.length_nil, Bool.and_eq_true, decide_eq_true_eq, Bool.and_true, eq_self, and_true, true_and, Nat.add_zero, Nat.add_assoc, Nat.reduceAdd, Nat.zero_mul, Nat.zero_add] at b0 b1 b2 b3 b4 ⊢
    refine ⟨?_, ?_, ?_, ?_, ?_, ?_, ?_, ?_, ?_⟩ <;> first | omega | (constructor <;> intro h9 <;> first | omega | (exfalso; omega))
  · have b0 := hl 0 (by decide)
    have b1 := hl 1 (by decide)
    have b2 := hl 2 (by decide)
    have b3 := hl 3 (by decide)
    have b4 := hl 4 (by decide)
    have b5 := hl 5 (by decide)
    clear hl hk
    simp only [pkB, spd, spl, wPlain, wKept, wSet, wTurn, wFlip, wRow, wBeside, wAbove, wOver, cPlain, cKept, cSet, cTurn, cFlip, cRow, cBeside, cAbove, cOver, List.length_cons, List.length_nil, Bool.and_eq_true, decide_eq_true_eq, Bool.and_true, eq_self, and_true, true_and, Nat.add_zero, Nat.add_assoc, Nat.reduceAdd, Nat.zero_mul, Nat.zero_add] at b0 b1 b2 b3 b4 b5 ⊢
    refine ⟨?_, ?_, ?_, ?_, ?_, ?_, ?_, ?_, ?_⟩ <;> first | omega | (constructor <;> intro h9 <;> first | omega | (exfalso; omega))
end PK
theorem lN_sh {a b : Nat} (ha : a < 281474976710656) (hb : b < 256) : (lN a <<< ((nI 8).toInt64 &&& 63)) ||| (nI b).toInt64 = lN (a * 256 + b) := by
  rw [show (nI b).toInt64 = lN b from nI_l (by omega)]
  apply Int64.toBitVec_inj.mp
  apply BitVec.eq_of_toNat_eq
  have e1 : ((lN a <<< ((nI 8).toInt64 &&& 63)) ||| lN b).toBitVec = (BitVec.ofNat 64 a <<< ((nI 8).toInt64 &&& 63).toBitVec.smod 64) ||| BitVec.ofNat 64 b := rfl
  have e2 : ((nI 8).toInt64 &&& 63).toBitVec.smod 64 = 8#64 := by decide
  rw [e1, e2]
  have e3 : (lN (a * 256 + b)).toBitVec = BitVec.ofNat 64 (a * 256 + b) := rfl
  have e4 : (BitVec.ofNat 64 a <<< 8#64 ||| BitVec.ofNat 64 b).toNat = ((a % 2 ^ 64) <<< 8 % 2 ^ 64) ||| (b % 2 ^ 64) := by
    rw [BitVec.toNat_or, BitVec.shiftLeft_eq', BitVec.toNat_shiftLeft]
    simp only [BitVec.toNat_ofNat]
  rw [e3, e4, BitVec.toNat_ofNat]
  rw [Nat.mod_eq_of_lt (show a < 2 ^ 64 by omega), Nat.mod_eq_of_lt (show b < 2 ^ 64 by omega), Nat.mod_eq_of_lt (show a * 256 + b < 2 ^ 64 by omega)]
  have e5 : a <<< 8 = a * 256 := Nat.shiftLeft_eq a 8
  rw [e5, Nat.mod_eq_of_lt (show a * 256 < 2 ^ 64 by omega), ← e5, ← Nat.shiftLeft_add_eq_or_of_lt (show b < 2 ^ 8 by omega)]
def wOf (x : Int64) : Nat := if x = lN cPlain then 3 else if x = lN cKept then 4 else if x = lN cSet then 5 else if x = lN cTurn then 6 else if x = lN cFlip then 7 else if x = lN cRow then 8 else if x = lN cBeside then 9 else if x = lN cAbove then 10 else if x = lN cOver then 11 else 2
theorem wOf_tW {B : Nat → Nat} {s k : Nat} (hk : k ≤ 6) (hl : ∀ q, q < k → 97 ≤ B (s + q) ∧ B (s + q) ≤ 122) : wOf (lN (pkB B s k)) = tW B s (s + k) := by
  have hb := pkB_lt (B := B) (s := s) k (fun q hq => by have := hl q hq; omega)
  have h6 : 256 ^ k ≤ 256 ^ 6 := Nat.pow_le_pow_right (by decide) hk
  have h7 : pkB B s k < 2 ^ 63 := Nat.lt_of_lt_of_le (Nat.lt_of_lt_of_le hb h6) (by decide)
  obtain ⟨p1, p2, p3, p4, p5, p6, p7, p8, p9⟩ := pk_w hk hl
  unfold wOf tW
  simp only [pk_lEQ h7 (show cPlain < 2 ^ 63 by decide), pk_lEQ h7 (show cKept < 2 ^ 63 by decide), pk_lEQ h7 (show cSet < 2 ^ 63 by decide), pk_lEQ h7 (show cTurn < 2 ^ 63 by decide), pk_lEQ h7 (show cFlip < 2 ^ 63 by decide), pk_lEQ h7 (show cRow < 2 ^ 63 by decide), pk_lEQ h7 (show cBeside < 2 ^ 63 by decide), pk_lEQ h7 (show cAbove < 2 ^ 63 by decide), pk_lEQ h7 (show cOver < 2 ^ 63 by decide), p1, p2, p3, p4, p5, p6, p7, p8, p9]
/-- a word of more than six letters is none -/
theorem tW_long {B : Nat → Nat} {s e : Nat} (h : s + 6 < e) : tW B s e = 2 := by
  have k : ∀ W : List Nat, W.length ≤ 6 → ¬ spd B s e W = true := fun W hW q => by have := (spd_iff.mp q).1; omega
  unfold tW
  rw [if_neg (k _ (by decide)), if_neg (k _ (by decide)), if_neg (k _ (by decide)), if_neg (k _ (by decide)), if_neg (k _ (by decide)), if_neg (k _ (by decide)), if_neg (k _ (by decide)), if_neg (k _ (by decide)), if_neg (k _ (by decide))]
/-- the class's numbers of the words -/
def cW (t : Nat) : Nat := if t = 3 then 1 else if t = 5 then 2 else if t = 6 then 3 else if t = 7 then 4 else if t = 9 then 5 else if t = 10 then 6 else if t = 11 then 7 else if t = 8 then 8 else if t = 4 then 9 else 0
def wLs : List (List Nat) := [wPlain, wSet, wTurn, wFlip, wBeside, wAbove, wOver, wRow, wKept]
theorem tW_3 {B : Nat → Nat} {s e : Nat} (h : spd B s e wPlain = true) : tW B s e = 3 := by unfold tW; rw [if_pos h]
theorem tW_4 {B : Nat → Nat} {s e : Nat} (h : spd B s e wKept = true) : tW B s e = 4 := by unfold tW; rw [if_neg (spd_not h (by decide)), if_pos h]
theorem tW_5 {B : Nat → Nat} {s e : Nat} (h : spd B s e wSet = true) : tW B s e = 5 := by unfold tW; rw [if_neg (spd_not h (by decide)), if_neg (spd_not h (by decide)), if_pos h]
theorem tW_6 {B : Nat → Nat} {s e : Nat} (h : spd B s e wTurn = true) : tW B s e = 6 := by unfold tW; rw [if_neg (spd_not h (by decide)), if_neg (spd_not h (by decide)), if_neg (spd_not h (by decide)), if_pos h]
theorem tW_7 {B : Nat → Nat} {s e : Nat} (h : spd B s e wFlip = true) : tW B s e = 7 := by unfold tW; rw [if_neg (spd_not h (by decide)), if_neg (spd_not h (by decide)), if_neg (spd_not h (by decide)), if_neg (spd_not h (by decide)), if_pos h]
theorem tW_8 {B : Nat → Nat} {s e : Nat} (h : spd B s e wRow = true) : tW B s e = 8 := by unfold tW; rw [if_neg (spd_not h (by decide)), if_neg (spd_not h (by decide)), if_neg (spd_not h (by decide)), if_neg (spd_not h (by decide)), if_neg (spd_not h (by decide)), if_pos h]
theorem tW_9 {B : Nat → Nat} {s e : Nat} (h : spd B s e wBeside = true) : tW B s e = 9 := by unfold tW; rw [if_neg (spd_not h (by decide)), if_neg (spd_not h (by decide)), if_neg (spd_not h (by decide)), if_neg (spd_not h (by decide)), if_neg (spd_not h (by decide)), if_neg (spd_not h (by decide)), if_pos h]
theorem tW_10 {B : Nat → Nat} {s e : Nat} (h : spd B s e wAbove = true) : tW B s e = 10 := by unfold tW; rw [if_neg (spd_not h (by decide)), if_neg (spd_not h (by decide)), if_neg (spd_not h (by decide)), if_neg (spd_not h (by decide)), if_neg (spd_not h (by decide)), if_neg (spd_not h (by decide)), if_neg (spd_not h (by decide)), if_pos h]
theorem tW_11 {B : Nat → Nat} {s e : Nat} (h : spd B s e wOver = true) : tW B s e = 11 := by unfold tW; rw [if_neg (spd_not h (by decide)), if_neg (spd_not h (by decide)), if_neg (spd_not h (by decide)), if_neg (spd_not h (by decide)), if_neg (spd_not h (by decide)), if_neg (spd_not h (by decide)), if_neg (spd_not h (by decide)), if_neg (spd_not h (by decide)), if_pos h]
theorem tW_2 {B : Nat → Nat} {s e : Nat} (h : ∀ W, W ∈ wLs → ¬ spd B s e W = true) : tW B s e = 2 := by
  unfold tW
  rw [if_neg (h _ (by decide)), if_neg (h _ (by decide)), if_neg (h _ (by decide)), if_neg (h _ (by decide)), if_neg (h _ (by decide)), if_neg (h _ (by decide)), if_neg (h _ (by decide)), if_neg (h _ (by decide)), if_neg (h _ (by decide))]
