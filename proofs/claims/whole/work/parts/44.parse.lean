/-! drawings and what words make of them -/
abbrev Dw : Type := Nat × Nat × (Nat → Nat → Nat)
def okD (D : Dw) : Prop := (1 ≤ D.1 ∧ D.1 ≤ 8) ∧ (1 ≤ D.2.1 ∧ D.2.1 ≤ 8) ∧ okM D.1 D.2.1 D.2.2
def zM : Nat → Nat → Nat := fun _ _ => 0
theorem okM_z (w h : Nat) : okM w h zM := fun _ _ _ => Nat.zero_le _
theorem okM_lay {w h w0 h0 i0 j0 : Nat} {M0 M : Nat → Nat → Nat} (h0' : okM w0 h0 M0) (h1 : okM w h M) : okM w h (layM i0 j0 w0 h0 M0 M) := by
  intro i j hin
  unfold layM
  split
  · rename_i q; exact h0' _ _ q.2.2.1
  · exact h1 i j hin
def rwM (w h : Nat) (M : Nat → Nat → Nat) : Nat → Nat → Nat → Nat
  | 0 => zM
  | k + 1 => layM (2 * k * w) 0 w h M (rwM w h M k)
theorem okM_rw {w h : Nat} {M : Nat → Nat → Nat} (hM : okM w h M) (w' h' : Nat) : ∀ n, okM w' h' (rwM w h M n)
  | 0 => okM_z _ _
  | k + 1 => okM_lay hM (okM_rw hM w' h' k)
def oRow (n : Nat) (D : Dw) : Option Dw := if D.1 * n ≤ 8 then some (D.1 * n, D.2.1, rwM D.1 D.2.1 D.2.2 n) else none
def oSet (i j v : Nat) (D : Dw) : Option Dw := if nInner D.1 D.2.1 i j = true then some (D.1, D.2.1, upM D.2.2 (i, j) v) else none
def oTurn (D : Dw) : Dw := (D.2.1, D.1, tM D.2.1 D.2.2)
def oFlip (D : Dw) : Dw := (D.1, D.2.1, fM D.1 D.2.2)
def oBes (D E : Dw) : Option Dw := if D.1 + E.1 ≤ 8 ∧ D.2.1 = E.2.1 then some (D.1 + E.1, D.2.1, layM (2 * D.1) 0 E.1 E.2.1 E.2.2 (layM 0 0 D.1 D.2.1 D.2.2 zM)) else none
def oAbv (D E : Dw) : Option Dw := if D.2.1 + E.2.1 ≤ 8 ∧ D.1 = E.1 then some (D.1, D.2.1 + E.2.1, layM 0 (2 * D.2.1) E.1 E.2.1 E.2.2 (layM 0 0 D.1 D.2.1 D.2.2 zM)) else none
def oOvr (D E : Dw) : Option Dw := if D.1 = E.1 ∧ D.2.1 = E.2.1 then some (D.1, D.2.1, layM 0 0 E.1 E.2.1 E.2.2 (layM 0 0 D.1 D.2.1 D.2.2 zM)) else none
/-- an open word: which, where, its numbers -/
abbrev En : Type := Nat × Nat × Nat × Nat × Nat
def opU (e : En) (D : Dw) : Option Dw := if e.1 = 5 then oSet e.2.2.1 e.2.2.2.1 e.2.2.2.2 D else if e.1 = 6 then some (oTurn D) else if e.1 = 7 then some (oFlip D) else oRow e.2.2.1 D
def op2 (t : Nat) (D E : Dw) : Option Dw := if t = 9 then oBes D E else if t = 10 then oAbv D E else oOvr D E
def okE (e : En) : Prop := (5 ≤ e.1 ∧ e.1 ≤ 11) ∧ (e.1 = 5 → e.2.2.1 ≤ 16 ∧ e.2.2.2.1 ≤ 16 ∧ e.2.2.2.2 ≤ 2) ∧ (e.1 = 8 → 1 ≤ e.2.2.1 ∧ e.2.2.1 ≤ 8)
theorem okD_U {e : En} {D D' : Dw} (he : okE e) (h8 : e.1 ≤ 8) (hD : okD D) (h : opU e D = some D') : okD D' := by
  obtain ⟨⟨w1, w8⟩, ⟨h1, h8'⟩, hM⟩ := hD
  unfold opU at h
  split at h
  · rename_i q
    unfold oSet at h
    split at h
    · rw [← Option.some.inj h]; exact ⟨⟨w1, w8⟩, ⟨h1, h8'⟩, okM_up hM _ (he.2.1 q).2.2⟩
    · exact absurd h (by simp)
  · split at h
    · rw [← Option.some.inj h]; exact ⟨⟨h1, h8'⟩, ⟨w1, w8⟩, okM_t hM⟩
    · split at h
      · rw [← Option.some.inj h]; exact ⟨⟨w1, w8⟩, ⟨h1, h8'⟩, okM_f hM⟩
      · rename_i q1 q2 q3
        have e8 := he.2.2 (by have := he.1; omega)
        unfold oRow at h
        split at h
        · rename_i q
          rw [← Option.some.inj h]
          exact ⟨⟨Nat.mul_pos (by omega) (by omega), q⟩, ⟨h1, h8'⟩, okM_rw hM _ _ _⟩
        · exact absurd h (by simp)
theorem okD_2 {t : Nat} {D E D' : Dw} (hD : okD D) (hE : okD E) (h : op2 t D E = some D') : okD D' := by
  obtain ⟨⟨w1, w8⟩, ⟨h1, h8'⟩, hM⟩ := hD
  obtain ⟨⟨w1', w8'⟩, ⟨h1', h8''⟩, hM'⟩ := hE
  unfold op2 at h
  split at h
  · unfold oBes at h
    split at h
    · rename_i q; rw [← Option.some.inj h]; exact ⟨⟨by show 1 ≤ D.1 + E.1; omega, q.1⟩, ⟨h1, h8'⟩, okM_lay hM' (okM_lay hM (okM_z _ _))⟩
    · exact absurd h (by simp)
  · split at h
    · unfold oAbv at h
      split at h
      · rename_i q; rw [← Option.some.inj h]; exact ⟨⟨w1, w8⟩, ⟨by show 1 ≤ D.2.1 + E.2.1; omega, q.1⟩, okM_lay hM' (okM_lay hM (okM_z _ _))⟩
      · exact absurd h (by simp)
    · unfold oOvr at h
      split at h
      · rename_i q; rw [← Option.some.inj h]; exact ⟨⟨w1, w8⟩, ⟨h1, h8'⟩, okM_lay hM' (okM_lay hM (okM_z _ _))⟩
      · exact absurd h (by simp)
/-! reading -/
def bnd {A C : Type} (x : (Nat × Nat) ⊕ A) (f : A → (Nat × Nat) ⊕ C) : (Nat × Nat) ⊕ C := match x with
  | .inl e => .inl e
  | .inr a => f a
theorem bnd_l {A C : Type} (e : Nat × Nat) (f : A → (Nat × Nat) ⊕ C) : bnd (.inl e) f = .inl e := rfl
theorem bnd_r {A C : Type} (a : A) (f : A → (Nat × Nat) ⊕ C) : bnd (.inr a) f = f a := rfl
def opt {C : Type} (e : Nat × Nat) (o : Option C) : (Nat × Nat) ⊕ C := match o with
  | none => .inl e
  | some a => .inr a
def pN (n : Nat) (B : Nat → Nat) (lo hi p : Nat) : (Nat × Nat) ⊕ (Nat × Nat) := if tK n B (tS n B p) = 1 then (if lo ≤ tN n B (tS n B p) ∧ tN n B (tS n B p) ≤ hi then .inr (tN n B (tS n B p), tE n B (tS n B p)) else .inl (2, tS n B p)) else .inl (1, tS n B p)
section PE
variable (n : Nat) (B : Nat → Nat) (Sh : Nat → Option Dw)
/-- a word's begin: fault; a drawing told outright; or an open word -/
def pB (k p : Nat) : (Nat × Nat) ⊕ ((Dw × Nat) ⊕ (En × Nat)) :=
  if tK n B (tS n B p) < 3 then .inl (1, tS n B p)
  else if tK n B (tS n B p) = 3 then bnd (pN n B 1 8 (tE n B (tS n B p))) (fun a => bnd (pN n B 1 8 a.2) (fun b => .inr (.inl ((a.1, b.1, zM), b.2))))
  else if tK n B (tS n B p) = 4 then bnd (pN n B 0 7 (tE n B (tS n B p))) (fun a => match Sh a.1 with
    | none => .inl (2, tS n B (tE n B (tS n B p)))
    | some D => .inr (.inl (D, a.2)))
  else if k = 0 then .inl (3, tS n B p)
  else if tK n B (tS n B p) = 5 then bnd (pN n B 0 16 (tE n B (tS n B p))) (fun a => bnd (pN n B 0 16 a.2) (fun b => bnd (pN n B 0 2 b.2) (fun c => .inr (.inr ((5, tS n B p, a.1, b.1, c.1), c.2)))))
  else if tK n B (tS n B p) = 8 then bnd (pN n B 1 8 (tE n B (tS n B p))) (fun a => .inr (.inr ((8, tS n B p, a.1, 0, 0), a.2)))
  else .inr (.inr ((tK n B (tS n B p), tS n B p, 0, 0, 0), tE n B (tS n B p)))
def pE : Nat → Nat → (Nat × Nat) ⊕ (Dw × Nat)
  | 0, p => bnd (pB n B Sh 0 p) (fun x => match x with
    | .inl Dq => .inr Dq
    | .inr _ => .inl (3, tS n B p))
  | k + 1, p => bnd (pB n B Sh (k + 1) p) (fun x => match x with
    | .inl Dq => .inr Dq
    | .inr eq => bnd (pE k eq.2) (fun d => if eq.1.1 ≤ 8 then opt (4, eq.1.2.1) ((opU eq.1 d.1).map (fun D => (D, d.2))) else bnd (pE k d.2) (fun d2 => opt (4, eq.1.2.1) ((op2 eq.1.1 d.1 d2.1).map (fun D => (D, d2.2))))))
theorem pN_pos {lo hi p : Nat} {r : Nat × Nat} (hp : p ≤ n) (h : pN n B lo hi p = .inr r) : (p < r.2 ∧ r.2 ≤ n) ∧ (lo ≤ r.1 ∧ r.1 ≤ hi) := by
  unfold pN at h
  split at h
  · rename_i h1
    split at h
    · rename_i h2
      rw [← Sum.inr.inj h]
      have h3 := tE_gt (n := n) (B := B) (s := tS n B p) (Or.inl h1)
      have h4 := tS_ge (n := n) (B := B) (p := p)
      exact ⟨⟨by show p < tE n B (tS n B p); omega, h3.2⟩, h2⟩
    · exact absurd h (by simp)
  · exact absurd h (by simp)
theorem bnd_inr {A C : Type} {x : (Nat × Nat) ⊕ A} {f : A → (Nat × Nat) ⊕ C} {c : C} (h : bnd x f = .inr c) : ∃ a, x = .inr a ∧ f a = .inr c := by
  rcases x with e | a
  · exact absurd h (by simp [bnd])
  · exact ⟨a, rfl, h⟩
theorem pB_ok {k p : Nat} (hp : p ≤ n) (hSh : ∀ k D, Sh k = some D → okD D) : (∀ D q, pB n B Sh k p = .inr (.inl (D, q)) → okD D ∧ p < q ∧ q ≤ n) ∧ (∀ e q, pB n B Sh k p = .inr (.inr (e, q)) → okE e ∧ p < q ∧ q ≤ n ∧ 0 < k) := by
  have h4 := tS_ge (n := n) (B := B) (p := p)
  have h5 := tK_le n B (tS n B p)
  unfold pB
  split
  · exact ⟨fun D q h => absurd h (by simp), fun e q h => absurd h (by simp)⟩
  · rename_i h3
    have hg := tE_gt (n := n) (B := B) (s := tS n B p) (Or.inr (by omega))
    split
    · refine ⟨fun D q h => ?_, fun e q h => ?_⟩
      · obtain ⟨a, ha, h⟩ := bnd_inr h
        obtain ⟨b, hb, h⟩ := bnd_inr h
        have ha' := pN_pos n B hg.2 ha
        have hb' := pN_pos n B ha'.1.2 hb
        have h6 := Sum.inl.inj (Sum.inr.inj h)
        have h7 : D = (a.1, b.1, zM) := (congrArg Prod.fst h6).symm
        have h8 : q = b.2 := (congrArg Prod.snd h6).symm
        rw [h7, h8]
        exact ⟨⟨ha'.2, hb'.2, okM_z _ _⟩, by omega, hb'.1.2⟩
      · obtain ⟨a, ha, h⟩ := bnd_inr h
        obtain ⟨b, hb, h⟩ := bnd_inr h
        exact absurd (Sum.inr.inj h) (by simp)
    · split
      · refine ⟨fun D q h => ?_, fun e q h => ?_⟩
        · obtain ⟨a, ha, h⟩ := bnd_inr h
          have ha' := pN_pos n B hg.2 ha
          cases hS : Sh a.1 with
          | none => rw [hS] at h; exact absurd h (by simp)
          | some E =>
            rw [hS] at h
            have h6 := Sum.inl.inj (Sum.inr.inj h)
            have h7 : D = E := (congrArg Prod.fst h6).symm
            have h8 : q = a.2 := (congrArg Prod.snd h6).symm
            rw [h7, h8]
            exact ⟨hSh _ _ hS, by omega, ha'.1.2⟩
        · obtain ⟨a, ha, h⟩ := bnd_inr h
          cases hS : Sh a.1 with
          | none => rw [hS] at h; exact absurd h (by simp)
          | some E => rw [hS] at h; exact absurd (Sum.inr.inj h) (by simp)
      · split
        · exact ⟨fun D q h => absurd h (by simp), fun e q h => absurd h (by simp)⟩
        · rename_i hk
          split
          · refine ⟨fun D q h => ?_, fun e q h => ?_⟩
            · obtain ⟨a, ha, h⟩ := bnd_inr h
              obtain ⟨b, hb, h⟩ := bnd_inr h
              obtain ⟨c, hc, h⟩ := bnd_inr h
              exact absurd (Sum.inr.inj h) (by simp)
            · obtain ⟨a, ha, h⟩ := bnd_inr h
              obtain ⟨b, hb, h⟩ := bnd_inr h
              obtain ⟨c, hc, h⟩ := bnd_inr h
              have ha' := pN_pos n B hg.2 ha
              have hb' := pN_pos n B ha'.1.2 hb
              have hc' := pN_pos n B hb'.1.2 hc
              have h6 := Sum.inr.inj (Sum.inr.inj h)
              have h7 : e = (5, tS n B p, a.1, b.1, c.1) := (congrArg Prod.fst h6).symm
              have h8 : q = c.2 := (congrArg Prod.snd h6).symm
              rw [h7, h8]
              exact ⟨⟨⟨Nat.le_refl 5, Nat.le_of_ble_eq_true rfl⟩, fun _ => ⟨ha'.2.2, hb'.2.2, hc'.2.2⟩, fun h9 => absurd h9 (by simp)⟩, by omega, hc'.1.2, by omega⟩
          · split
            · refine ⟨fun D q h => ?_, fun e q h => ?_⟩
              · obtain ⟨a, ha, h⟩ := bnd_inr h
                exact absurd (Sum.inr.inj h) (by simp)
              · obtain ⟨a, ha, h⟩ := bnd_inr h
                have ha' := pN_pos n B hg.2 ha
                have h6 := Sum.inr.inj (Sum.inr.inj h)
                have h7 : e = (8, tS n B p, a.1, 0, 0) := (congrArg Prod.fst h6).symm
                have h8 : q = a.2 := (congrArg Prod.snd h6).symm
                rw [h7, h8]
                exact ⟨⟨⟨Nat.le_of_ble_eq_true rfl, Nat.le_of_ble_eq_true rfl⟩, fun h9 => absurd h9 (by simp), fun _ => ha'.2⟩, by omega, ha'.1.2, by omega⟩
            · refine ⟨fun D q h => absurd (Sum.inr.inj h) (by simp), fun e q h => ?_⟩
              have h6 := Sum.inr.inj (Sum.inr.inj h)
              have h7 : e = (tK n B (tS n B p), tS n B p, 0, 0, 0) := (congrArg Prod.fst h6).symm
              have h8 : q = tE n B (tS n B p) := (congrArg Prod.snd h6).symm
              rw [h7, h8]
              refine ⟨⟨⟨by show 5 ≤ tK n B (tS n B p); omega, h5⟩, fun h9 => ?_, fun h9 => ?_⟩, by omega, hg.2, by omega⟩
              · rename_i q1 q2; exact absurd h9 q1
              · rename_i q1 q2; exact absurd h9 q2
theorem pE_0 {p : Nat} : pE n B Sh 0 p = bnd (pB n B Sh 0 p) (fun x => match x with
    | .inl Dq => .inr Dq
    | .inr _ => .inl (3, tS n B p)) := rfl
theorem pE_s {k p : Nat} : pE n B Sh (k + 1) p = bnd (pB n B Sh (k + 1) p) (fun x => match x with
    | .inl Dq => .inr Dq
    | .inr eq => bnd (pE n B Sh k eq.2) (fun d => if eq.1.1 ≤ 8 then opt (4, eq.1.2.1) ((opU eq.1 d.1).map (fun D => (D, d.2))) else bnd (pE n B Sh k d.2) (fun d2 => opt (4, eq.1.2.1) ((op2 eq.1.1 d.1 d2.1).map (fun D => (D, d2.2)))))) := rfl
theorem opt_inr {C : Type} {e : Nat × Nat} {o : Option C} {c : C} (h : opt e o = .inr c) : o = some c := by
  cases o with
  | none => exact absurd h (by simp [opt])
  | some a => exact congrArg some (Sum.inr.inj h)
theorem pE_ok (hSh : ∀ k D, Sh k = some D → okD D) : ∀ k p D q, p ≤ n → pE n B Sh k p = .inr (D, q) → okD D ∧ p < q ∧ q ≤ n := by
  intro k
  induction k with
  | zero =>
    intro p D q hp h
    rw [pE_0] at h
    obtain ⟨x, hx, h⟩ := bnd_inr h
    cases x with
    | inl Dq => rw [Sum.inr.inj h] at hx; exact (pB_ok n B Sh hp hSh).1 D q hx
    | inr e => exact absurd h (by simp)
  | succ k ih =>
    intro p D q hp h
    rw [pE_s] at h
    obtain ⟨x, hx, h⟩ := bnd_inr h
    cases x with
    | inl Dq => rw [Sum.inr.inj h] at hx; exact (pB_ok n B Sh hp hSh).1 D q hx
    | inr eq =>
      obtain ⟨e, q1⟩ := eq
      obtain ⟨h1, h2, h3, _⟩ := (pB_ok n B Sh hp hSh).2 e q1 hx
      obtain ⟨⟨D1, r1⟩, hd, h⟩ := bnd_inr h
      obtain ⟨g1, g2, g3⟩ := ih q1 D1 r1 h3 hd
      by_cases h8 : e.1 ≤ 8
      · rw [if_pos h8] at h
        obtain ⟨D', hD', h9⟩ := Option.map_eq_some_iff.mp (opt_inr h)
        have e1 : D = D' := (congrArg Prod.fst h9).symm
        have e2 : q = r1 := (congrArg Prod.snd h9).symm
        rw [e1, e2]
        exact ⟨okD_U h1 h8 g1 hD', by omega, g3⟩
      · rw [if_neg h8] at h
        obtain ⟨⟨D2, r2⟩, hd2, h⟩ := bnd_inr h
        obtain ⟨k1, k2, k3⟩ := ih r1 D2 r2 g3 hd2
        obtain ⟨D', hD', h9⟩ := Option.map_eq_some_iff.mp (opt_inr h)
        have e1 : D = D' := (congrArg Prod.fst h9).symm
        have e2 : q = r2 := (congrArg Prod.snd h9).symm
        rw [e1, e2]
        exact ⟨okD_2 g1 k1 hD', by omega, k3⟩
/-! the reference's way: a stack -/
def pC : List (En × Option Dw) → Dw → (Nat × Nat) ⊕ (Dw ⊕ List (En × Option Dw))
  | [], D => .inr (.inl D)
  | (e, o) :: K, D => if e.1 ≤ 8 then (match opU e D with
      | none => .inl (4, e.2.1)
      | some D' => pC K D') else (match o with
      | none => .inr (.inr ((e, some D) :: K))
      | some D1 => (match op2 e.1 D1 D with
        | none => .inl (4, e.2.1)
        | some D' => pC K D'))
def rA : Nat → List (En × Option Dw) → Nat → (Nat × Nat) ⊕ (Dw × Nat)
  | 0, _, _ => .inl (0, 0)
  | f + 1, K, p => bnd (pB n B Sh (8 - K.length) p) (fun x => match x with
    | .inl Dq => bnd (pC K Dq.1) (fun y => match y with
      | .inl D => .inr (D, Dq.2)
      | .inr K' => rA f K' Dq.2)
    | .inr eq => rA f ((eq.1, none) :: K) eq.2)
def aft (f : Nat) (K : List (En × Option Dw)) (d : Dw × Nat) : (Nat × Nat) ⊕ (Dw × Nat) := bnd (pC K d.1) (fun y => match y with
      | .inl D => .inr (D, d.2)
      | .inr K' => rA n B Sh f K' d.2)
theorem rA_s {f : Nat} {K : List (En × Option Dw)} {p : Nat} : rA n B Sh (f + 1) K p = bnd (pB n B Sh (8 - K.length) p) (fun x => match x with
    | .inl Dq => aft n B Sh f K Dq
    | .inr eq => rA n B Sh f ((eq.1, none) :: K) eq.2) := rfl
theorem rA_mono (hSh : ∀ k D, Sh k = some D → okD D) : ∀ f K p, p ≤ n → n - p < f → rA n B Sh (f + 1) K p = rA n B Sh f K p := by
  intro f
  induction f with
  | zero => intro K p hp h; omega
  | succ f ih =>
    intro K p hp h
    rw [rA_s, rA_s]
    cases hx : pB n B Sh (8 - K.length) p with
    | inl e => rfl
    | inr x =>
      cases x with
      | inl Dq =>
        obtain ⟨D, q⟩ := Dq
        obtain ⟨_, h2, h3⟩ := (pB_ok n B Sh hp hSh).1 D q hx
        show aft n B Sh (f + 1) K (D, q) = aft n B Sh f K (D, q)
        unfold aft
        cases pC K D with
        | inl e => rfl
        | inr y =>
          cases y with
          | inl D' => rfl
          | inr K' => exact ih K' q h3 (by omega)
      | inr eq =>
        obtain ⟨e, q⟩ := eq
        obtain ⟨_, h2, h3, _⟩ := (pB_ok n B Sh hp hSh).2 e q hx
        exact ih _ q h3 (by omega)
theorem aft_mono (hSh : ∀ k D, Sh k = some D → okD D) {f : Nat} {K : List (En × Option Dw)} {d : Dw × Nat} (hp : d.2 ≤ n) (h : n - d.2 < f) : aft n B Sh (f + 1) K d = aft n B Sh f K d := by
  unfold aft
  cases pC K d.1 with
  | inl e => rfl
  | inr y =>
    cases y with
    | inl D' => rfl
    | inr K' => exact rA_mono n B Sh hSh f K' d.2 hp h
theorem rA_pE (hSh : ∀ k D, Sh k = some D → okD D) : ∀ m p, n - p ≤ m → p ≤ n → ∀ K f, K.length ≤ 8 → n - p < f → rA n B Sh f K p = bnd (pE n B Sh (8 - K.length) p) (aft n B Sh f K) := by
  intro m
  induction m with
  | zero =>
    intro p hm hp K f hK hf
    obtain ⟨f, rfl⟩ : ∃ g, f = g + 1 := ⟨f - 1, by omega⟩
    have hpB : ∃ e, pB n B Sh (8 - K.length) p = .inl e := by
      cases hx : pB n B Sh (8 - K.length) p with
      | inl e => exact ⟨e, rfl⟩
      | inr x =>
        cases x with
        | inl Dq => obtain ⟨D, q⟩ := Dq; have := (pB_ok n B Sh hp hSh).1 D q hx; omega
        | inr eq => obtain ⟨e, q⟩ := eq; have := (pB_ok n B Sh hp hSh).2 e q hx; omega
    obtain ⟨e, he⟩ := hpB
    rw [rA_s, he, bnd_l]
    generalize 8 - K.length = k at *
    cases k with
    | zero => rw [pE_0, he]; rfl
    | succ k => rw [pE_s, he]; rfl
  | succ m ih =>
    intro p hm hp K f hK hf
    obtain ⟨f, rfl⟩ : ∃ g, f = g + 1 := ⟨f - 1, by omega⟩
    rw [rA_s]
    cases hx : pB n B Sh (8 - K.length) p with
    | inl e =>
      rw [bnd_l]
      generalize 8 - K.length = k at *
      cases k with
      | zero => rw [pE_0, hx]; rfl
      | succ k => rw [pE_s, hx]; rfl
    | inr x =>
      cases x with
      | inl Dq =>
        obtain ⟨D, q⟩ := Dq
        obtain ⟨_, h2, h3⟩ := (pB_ok n B Sh hp hSh).1 D q hx
        have e1 : pE n B Sh (8 - K.length) p = .inr (D, q) := by
          generalize 8 - K.length = k at *
          cases k with
          | zero => rw [pE_0, hx]; rfl
          | succ k => rw [pE_s, hx]; rfl
        rw [e1, bnd_r, bnd_r]
        exact (aft_mono n B Sh hSh (d := (D, q)) h3 (by show n - q < f; omega)).symm
      | inr eq =>
        obtain ⟨e, q⟩ := eq
        obtain ⟨he, h2, h3, hk⟩ := (pB_ok n B Sh hp hSh).2 e q hx
        have hKl : 8 - K.length = (8 - (K.length + 1)) + 1 := by omega
        have e1 : pE n B Sh (8 - K.length) p = bnd (pE n B Sh (8 - (K.length + 1)) q) (fun d => if e.1 ≤ 8 then opt (4, e.2.1) ((opU e d.1).map (fun D => (D, d.2))) else bnd (pE n B Sh (8 - (K.length + 1)) d.2) (fun d2 => opt (4, e.2.1) ((op2 e.1 d.1 d2.1).map (fun D => (D, d2.2))))) := by
          rw [hKl] at hx ⊢
          rw [pE_s, hx]; rfl
        rw [bnd_r, e1]
        show rA n B Sh f ((e, none) :: K) q = _
        have i1 := ih q (by omega) h3 ((e, none) :: K) f (by show K.length + 1 ≤ 8; omega) (by omega)
        rw [i1]
        show bnd (pE n B Sh (8 - (K.length + 1)) q) _ = _
        cases hy : pE n B Sh (8 - (K.length + 1)) q with
        | inl e' => rfl
        | inr d =>
          obtain ⟨D, r⟩ := d
          obtain ⟨_, g2, g3⟩ := pE_ok n B Sh hSh _ q D r h3 hy
          rw [bnd_r, bnd_r]
          by_cases h8 : e.1 ≤ 8
          · rw [if_pos h8]
            unfold aft
            simp only [pC]
            rw [if_pos h8]
            cases opU e D with
            | none => rfl
            | some D' => exact (aft_mono n B Sh hSh (K := K) (d := (D', r)) g3 (by show n - r < f; omega)).symm
          · rw [if_neg h8]
            have e2 : aft n B Sh f ((e, none) :: K) (D, r) = rA n B Sh f ((e, some D) :: K) r := by
              unfold aft
              simp only [pC]
              rw [if_neg h8]
              rfl
            rw [e2]
            have i2 := ih r (by omega) g3 ((e, some D) :: K) f (by show K.length + 1 ≤ 8; omega) (by omega)
            rw [i2]
            show bnd (pE n B Sh (8 - (K.length + 1)) r) _ = _
            cases hz : pE n B Sh (8 - (K.length + 1)) r with
            | inl e' => rfl
            | inr d2 =>
              obtain ⟨D2, r2⟩ := d2
              obtain ⟨_, k2, k3⟩ := pE_ok n B Sh hSh _ r D2 r2 g3 hz
              rw [bnd_r, bnd_r]
              unfold aft
              simp only [pC]
              rw [if_neg h8]
              cases op2 e.1 D D2 with
              | none => rfl
              | some D' => exact (aft_mono n B Sh hSh (K := K) (d := (D', r2)) k3 (by show n - r2 < f; omega)).symm
/-- a whole text -/
def pT : (Nat × Nat) ⊕ Dw := bnd (pE n B Sh 8 0) (fun d => if n ≤ tS n B d.2 then .inr d.1 else .inl (1, tS n B d.2))
theorem rA_pT (hSh : ∀ k D, Sh k = some D → okD D) {f : Nat} (hf : n < f) : bnd (rA n B Sh f [] 0) (fun d => if n ≤ tS n B d.2 then .inr d.1 else .inl (1, tS n B d.2)) = pT n B Sh := by
  rw [rA_pE n B Sh hSh n 0 (by omega) (Nat.zero_le _) [] f (by decide) (by omega)]
  unfold pT
  show bnd (bnd (pE n B Sh 8 0) _) _ = _
  cases pE n B Sh 8 0 with
  | inl e => rfl
  | inr d => rfl
end PE
