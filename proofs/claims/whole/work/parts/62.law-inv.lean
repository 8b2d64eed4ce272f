/-- the class between two calls -/
def GX (D : Dw) (P : Nat → Nat → Nat) (n : Nat) (B : Nat → Nat) (fk fp : Int32) (Sh : Nat → Option Dw) (S : am_S) (I : am_I) : Prop := XL D.1 D.2.1 D.2.2 I ∧ isDr I 1 5 D.1 D.2.1 P ∧ XJ D.1 D.2.1 D.2.2 P I ∧ tX n B I ∧ fX fk fp I ∧ ShX Sh S I
/-- the reference between two calls -/
def GM (D : Dw) (P : Nat → Nat → Nat) (n : Nat) (B : Nat → Nat) (fk fp : Int32) (Sh : Nat → Option Dw) (I : am_I) : Prop := grD I 0 D ∧ isPM D.1 D.2.1 P I ∧ tM2 n B I ∧ fM2 fk fp I ∧ ShM Sh I
def GO (D : Dw) (P : Nat → Nat → Nat) (n : Nat) (B : Nat → Nat) : Prop := okD D ∧ (∀ i j, nInner D.1 D.2.1 i j = true → P i j ≤ 1) ∧ okB n B
theorem GO.p {D : Dw} {P : Nat → Nat → Nat} {n : Nat} {B : Nat → Nat} (h : GO D P n B) : okM D.1 D.2.1 P := fun i j q => Nat.le_trans (h.2.1 i j q) (by decide)
section GG
variable {D : Dw} {P : Nat → Nat → Nat} {n : Nat} {B : Nat → Nat} {fk fp : Int32} {Sh : Nat → Option Dw} {S : am_S} {I I' : am_I}
theorem XL.kept {w h : Nat} {M : Nat → Nat → Nat} (hx : XL w h M I) (e0 : I' 0 9 = I 0 9) (e1 : I' 1 = I 1) (e2 : I' 2 = I 2) (e7 : I' 7 = I 7) (e8 : I' 8 = I 8) (e9 : I' 9 = I 9) (e10 : I' 10 = I 10) (e11 : I' 11 = I 11) : XL w h M I' :=
  ⟨hx.1.kept e1 e2, hx.2.imp (fun q => e0.trans q) (fun q => ⟨e0.trans q.1, q.2.1.moved e8 e9 e10 e11, by rw [e7]; exact q.2.2⟩)⟩
theorem XJ.kept {w h : Nat} {M : Nat → Nat → Nat} (hx : XJ w h M P I) (e0 : I' 0 10 = I 0 10) (e12 : I' 12 = I 12) (e13 : I' 13 = I 13) (e14 : I' 14 = I 14) : XJ w h M P I' :=
  hx.imp (fun q => e0.trans q) (fun q => ⟨e0.trans q.1, by rw [e12]; exact q.2.1, fun k hk => by rw [e13, e14]; exact q.2.2 k hk⟩)
theorem fX.kept (h : fX fk fp I) (e : ∀ k, k ≠ 0 → I' 16 k = I 16 k) : fX fk fp I' :=
  h.imp (fun q => ⟨(e 1 (by decide)).trans q.1, q.2⟩) (fun q => ⟨(e 1 (by decide)).trans q.1, (e 2 (by decide)).trans q.2.1, (e 3 (by decide)).trans q.2.2⟩)
theorem GX.kept (hs : sk S) (h : GX D P n B fk fp Sh S I) (hb : ∀ b, b < 44 ∨ 62 ≤ b → I' b = I b) : GX D P n B fk fp Sh S I' := by
  obtain ⟨h1, h2, h3, h4, h5, h6⟩ := h
  exact ⟨h1.kept (by rw [hb 0 (by decide)]) (hb 1 (by decide)) (hb 2 (by decide)) (hb 7 (by decide)) (hb 8 (by decide)) (hb 9 (by decide)) (hb 10 (by decide)) (hb 11 (by decide)), h2.kept (hb 1 (by decide)) (hb 5 (by decide)), h3.kept (by rw [hb 0 (by decide)]) (hb 12 (by decide)) (hb 13 (by decide)) (hb 14 (by decide)), h4.kept (hb 16 (by decide)) (hb 17 (by decide)), h5.kept (fun k _ => by rw [hb 16 (by decide)]), h6.moved hs (fun b q => hb b (Or.inr q))⟩
theorem GM.kept (h : GM D P n B fk fp Sh I) (hb : ∀ b, 44 ≤ b → b < 62 → I' b = I b) : GM D P n B fk fp Sh I' := by
  obtain ⟨h1, h2, h3, h4, h5⟩ := h
  have e := fun g => gS.of (I := I) (I' := I') g (hb 45 (by decide) (by decide)) (hb 46 (by decide) (by decide)) (hb 47 (by decide) (by decide))
  exact ⟨h1.same (e 0), fun i j hi hj => by rw [hb 48 (by decide) (by decide)]; exact h2 i j hi hj, h3.kept (by rw [hb 44 (by decide) (by decide)]) (hb 55 (by decide) (by decide)), ⟨by rw [hb 44 (by decide) (by decide)]; exact h4.1, by rw [hb 44 (by decide) (by decide)]; exact h4.2⟩, h5.moved (fun g _ _ => e g)⟩
theorem GX.kw (hs : sk S) (h : GX D P n B fk fp Sh S I) (k : KW D.1 D.2.1 D.2.2 I I') : GX D P n B fk fp Sh S I' := by
  obtain ⟨h1, h2, h3, h4, h5, h6⟩ := h
  obtain ⟨kb, k0, kx⟩ := k
  exact ⟨kx, h2.kept (kb 1 (by decide) (by decide) (by decide) (by decide) (by decide) (by decide)) (kb 5 (by decide) (by decide) (by decide) (by decide) (by decide) (by decide)), h3.kept (k0 10 (by decide)) (kb 12 (by decide) (by decide) (by decide) (by decide) (by decide) (by decide)) (kb 13 (by decide) (by decide) (by decide) (by decide) (by decide) (by decide)) (kb 14 (by decide) (by decide) (by decide) (by decide) (by decide) (by decide)), h4.kept (kb 16 (by decide) (by decide) (by decide) (by decide) (by decide) (by decide)) (kb 17 (by decide) (by decide) (by decide) (by decide) (by decide) (by decide)), h5.kept (fun k _ => by rw [kb 16 (by decide) (by decide) (by decide) (by decide) (by decide) (by decide)]), h6.moved hs (fun b q => kb b (by omega) (by omega) (by omega) (by omega) (by omega) (by omega))⟩
theorem GX.kjw (hs : sk S) (h : GX D P n B fk fp Sh S I) (k : KJW D.1 D.2.1 D.2.2 P I I') : GX D P n B fk fp Sh S I' := by
  obtain ⟨h1, h2, h3, h4, h5, h6⟩ := h
  obtain ⟨kb, k0, kx, kj⟩ := k
  exact ⟨kx, h2.kept (kb 1 (by decide) (by decide)) (kb 5 (by decide) (by decide)), kj, h4.kept (kb 16 (by decide) (by decide)) (kb 17 (by decide) (by decide)), h5.kept (fun k _ => by rw [kb 16 (by decide) (by decide)]), h6.moved hs (fun b q => kb b (by omega) (by omega))⟩
theorem GX.ku {M' : Nat → Nat → Nat} (hs : sk S) (h : GX D P n B fk fp Sh S I) (k : KU D.1 D.2.1 M' I I') : GX (D.1, D.2.1, M') P n B fk fp Sh S I' := by
  obtain ⟨h1, h2, h3, h4, h5, h6⟩ := h
  obtain ⟨kb, k0, kx, k9, k10⟩ := k
  exact ⟨⟨kx, Or.inl k9⟩, h2.kept (kb 1 (by decide) (by decide) (by decide)) (kb 5 (by decide) (by decide) (by decide)), Or.inl k10, h4.kept (kb 16 (by decide) (by decide) (by decide)) (kb 17 (by decide) (by decide) (by decide)), h5.kept (fun k _ => by rw [kb 16 (by decide) (by decide) (by decide)]), h6.moved hs (fun b q => kb b (by omega) (by omega) (by omega))⟩
theorem GX.ktx {n' : Nat} {B' : Nat → Nat} (hs : sk S) (h : GX D P n B fk fp Sh S I) (k : kTX I I') (t : tX n' B' I') : GX D P n' B' fk fp Sh S I' := by
  obtain ⟨h1, h2, h3, h4, h5, h6⟩ := h
  have kb := k.1
  exact ⟨h1.kept (by rw [kb 0 (by decide) (by decide)]) (kb 1 (by decide) (by decide)) (kb 2 (by decide) (by decide)) (kb 7 (by decide) (by decide)) (kb 8 (by decide) (by decide)) (kb 9 (by decide) (by decide)) (kb 10 (by decide) (by decide)) (kb 11 (by decide) (by decide)), h2.kept (kb 1 (by decide) (by decide)) (kb 5 (by decide) (by decide)), h3.kept (by rw [kb 0 (by decide) (by decide)]) (kb 12 (by decide) (by decide)) (kb 13 (by decide) (by decide)) (kb 14 (by decide) (by decide)), t, h5.kept k.2, h6.moved hs (fun b q => kb b (by omega) (by omega))⟩
theorem GM.km (h : GM D P n B fk fp Sh I) (k : KM I I') : GM D P n B fk fp Sh I' := by
  obtain ⟨h1, h2, h3, h4, h5⟩ := h
  have kb := fun b (q : b = 45 ∨ b = 46 ∨ b = 47 ∨ b = 48 ∨ b = 55) => k.1 b (by omega) (by omega) (by omega) (by omega) (by omega)
  have e := fun g => gS.of (I := I) (I' := I') g (kb 45 (by decide)) (kb 46 (by decide)) (kb 47 (by decide))
  exact ⟨h1.same (e 0), fun i j hi hj => by rw [kb 48 (by decide)]; exact h2 i j hi hj, h3.kept (k.2 14 (by decide)) (kb 55 (by decide)), ⟨(k.2 15 (by decide)).trans h4.1, (k.2 16 (by decide)).trans h4.2⟩, h5.moved (fun g _ _ => e g)⟩
theorem GM.kf (h : GM D P n B fk fp Sh I) (k : KF I I') : GM D P n B fk fp Sh I' := by
  obtain ⟨h1, h2, h3, h4, h5⟩ := h
  have kb := fun b (q : b = 45 ∨ b = 46 ∨ b = 47 ∨ b = 48 ∨ b = 55) => k.1 b (by omega) (by omega)
  have e := fun g => gS.of (I := I) (I' := I') g (kb 45 (by decide)) (kb 46 (by decide)) (kb 47 (by decide))
  exact ⟨h1.same (e 0), fun i j hi hj => by rw [kb 48 (by decide)]; exact h2 i j hi hj, h3.kept (k.2 14 (by decide) (by decide) (by decide)) (kb 55 (by decide)), ⟨(k.2 15 (by decide) (by decide) (by decide)).trans h4.1, (k.2 16 (by decide) (by decide) (by decide)).trans h4.2⟩, h5.moved (fun g _ _ => e g)⟩
theorem GM.kfu {M' : Nat → Nat → Nat} (h : GM D P n B fk fp Sh I) (k : KFU D.1 D.2.1 M' I I') : GM (D.1, D.2.1, M') P n B fk fp Sh I' := by
  obtain ⟨h1, h2, h3, h4, h5⟩ := h
  obtain ⟨kb', k4, kg, kx⟩ := k
  have kb := fun b (q : b = 45 ∨ b = 46 ∨ b = 48 ∨ b = 55) => kb' b (by omega) (by omega) (by omega)
  exact ⟨kg, fun i j hi hj => by rw [kb 48 (by decide)]; exact h2 i j hi hj, h3.kept (k4 14 (by decide) (by decide) (by decide)) (kb 55 (by decide)), ⟨(k4 15 (by decide) (by decide) (by decide)).trans h4.1, (k4 16 (by decide) (by decide) (by decide)).trans h4.2⟩, h5.moved (fun g g1 _ => ⟨by rw [kb 45 (by decide)], by rw [kb 46 (by decide)], fun x _ => kx _ (by omega)⟩)⟩
theorem GM.ktm {n' : Nat} {B' : Nat → Nat} (h : GM D P n B fk fp Sh I) (k : kTM I I') (t : tM2 n' B' I') : GM D P n' B' fk fp Sh I' := by
  obtain ⟨h1, h2, h3, h4, h5⟩ := h
  have kb := fun b (q : b = 45 ∨ b = 46 ∨ b = 47 ∨ b = 48) => k.1 b (by omega) (by omega)
  have e := fun g => gS.of (I := I) (I' := I') g (kb 45 (by decide)) (kb 46 (by decide)) (kb 47 (by decide))
  exact ⟨h1.same (e 0), fun i j hi hj => by rw [kb 48 (by decide)]; exact h2 i j hi hj, t, ⟨(k.2 15 (by decide)).trans h4.1, (k.2 16 (by decide)).trans h4.2⟩, h5.moved (fun g _ _ => e g)⟩
theorem GM.gf (h : GM D P n B fk fp Sh I) (k : GF I I') : GM D P n B fk fp Sh I' := by
  obtain ⟨h1, h2, h3, h4, h5⟩ := h
  have kb := fun b (q : b = 44 ∨ b = 48 ∨ b = 55) => k.1 b (by omega) (by omega) (by omega)
  exact ⟨h1.same (k.2 0 (by decide)), fun i j hi hj => by rw [kb 48 (by decide)]; exact h2 i j hi hj, h3.kept (by rw [kb 44 (by decide)]) (kb 55 (by decide)), ⟨by rw [kb 44 (by decide)]; exact h4.1, by rw [kb 44 (by decide)]; exact h4.2⟩, h5.moved (fun g g1 g9 => k.2 g (by omega))⟩
/-- after draw or back -/
theorem GX.dxl {X : (Nat × Nat) ⊕ Dw} {e : Nat × Nat} (hs : sk S) (h : GX D P n B fk fp Sh S I) (k : DX X I I') (hX : X = .inl e) : GX D P 0 B (fkX X) (fpX X) Sh S I' := by
  obtain ⟨h1, h2, h3, h4, h5, h6⟩ := h
  obtain ⟨kb, k0, k160, k161, k162, k163, ⟨e', q1, kk⟩ | ⟨D', q1, _⟩⟩ := k
  · exact ⟨h1.kept (by rw [kk 0 (by decide)]) (kk 1 (by decide)) (kk 2 (by decide)) (kb 7 (by decide)) (kb 8 (by decide)) (kb 9 (by decide)) (kb 10 (by decide)) (kb 11 (by decide)), h2.kept (kk 1 (by decide)) (kk 5 (by decide)), h3.kept (by rw [kk 0 (by decide)]) (kb 12 (by decide)) (kb 13 (by decide)) (kb 14 (by decide)), ⟨k160, fun x hx => absurd hx (Nat.not_lt_zero _)⟩, Or.inr ⟨k161, k162, k163⟩, h6.moved hs (fun b q => kb b (by omega))⟩
  · rw [hX] at q1; exact absurd q1 (by simp)
theorem GX.dxr {X : (Nat × Nat) ⊕ Dw} {D' : Dw} (hs : sk S) (h : GX D P n B fk fp Sh S I) (k : DX X I I') (hX : X = .inr D') : okD D' ∧ GX D' zM 0 B (fkX X) (fpX X) Sh S I' := by
  obtain ⟨h1, h2, h3, h4, h5, h6⟩ := h
  obtain ⟨kb, k0, k160, k161, k162, k163, ⟨e', q1, kk⟩ | ⟨D9, q1, q2, q3, q4, q5, q6⟩⟩ := k
  · rw [hX] at q1; exact absurd q1 (by simp)
  · rw [hX] at q1
    obtain rfl := Sum.inr.inj q1
    exact ⟨q2, ⟨q3, Or.inl q5⟩, q4, Or.inl q6, ⟨k160, fun x hx => absurd hx (Nat.not_lt_zero _)⟩, Or.inr ⟨k161, k162, k163⟩, h6.moved hs (fun b q => kb b (by omega))⟩
theorem GM.mxl {X : (Nat × Nat) ⊕ Dw} {e : Nat × Nat} (h : GM D P n B fk fp Sh I) (k : MX X I I') (hX : X = .inl e) : GM D P 0 B (fkX X) (fpX X) Sh I' := by
  obtain ⟨h1, h2, h3, h4, h5⟩ := h
  obtain ⟨kb, k14, k15, k16, kg, ⟨e', q1, q2, q3⟩ | ⟨D', q1, _⟩⟩ := k
  · exact ⟨h1.same q2, fun i j hi hj => by rw [q3]; exact h2 i j hi hj, ⟨k14, fun x hx => absurd hx (Nat.not_lt_zero _)⟩, ⟨k15, k16⟩, h5.moved kg⟩
  · rw [hX] at q1; exact absurd q1 (by simp)
theorem GM.mxr {X : (Nat × Nat) ⊕ Dw} {D' : Dw} (h : GM D P n B fk fp Sh I) (k : MX X I I') (hX : X = .inr D') : GM D' zM 0 B (fkX X) (fpX X) Sh I' := by
  obtain ⟨h1, h2, h3, h4, h5⟩ := h
  obtain ⟨kb, k14, k15, k16, kg, ⟨e', q1, _⟩ | ⟨D9, q1, q2, q3, q4⟩⟩ := k
  · rw [hX] at q1; exact absurd q1 (by simp)
  · rw [hX] at q1
    obtain rfl := Sum.inr.inj q1
    exact ⟨q3, fun i j hi hj => by rw [q4 _ (by omega)]; congr 1; unfold gv zM; split <;> rfl, ⟨k14, fun x hx => absurd hx (Nat.not_lt_zero _)⟩, ⟨k15, k16⟩, h5.moved kg⟩
theorem GO.z (h : GO D P n B) : GO D P 0 B := ⟨h.1, h.2.1, by have := h.2.2.1; exact ⟨Nat.zero_le _, fun k hk => absurd hk (Nat.not_lt_zero _)⟩⟩
theorem GO.d {D' : Dw} (h : GO D P n B) (hD : okD D') : GO D' zM 0 B := ⟨hD, fun _ _ _ => Nat.zero_le _, h.z.2.2⟩
theorem isPM_up {w h i j : Nat} (w8 : w ≤ 8) (h8 : h ≤ 8) (hp : isPM w h P I) (hin : nInner w h i j = true) (v : Nat) : isPM w h (upM P (i, j) v) (am_up I 48 (289 * 0 + 17 * j + i) (nI v)) := by
  have hb := nIn.mp hin
  intro a c ha hc
  by_cases hk : 289 * 0 + 17 * c + a = 289 * 0 + 17 * j + i
  · have e := cellg_inj (a := c) (c := a) (a' := j) (c' := i) ha (by omega) (by omega)
    rw [hk, am_up_at, e.1, e.2]
    congr 1
    unfold gv
    rw [if_pos hin]
    show v = upM P (i, j) v i j
    unfold upM
    rw [if_pos ⟨rfl, rfl⟩]
  · rw [am_up_k _ _ hk, hp a c ha hc]
    congr 1
    unfold gv upM
    by_cases q : nInner w h a c = true
    · rw [if_pos q, if_pos q, if_neg (fun q9 => hk (by rw [q9.1, q9.2]))]
    · rw [if_neg q, if_neg q]
/-- set -/
theorem GX.set {i j v : Nat} (hs : sk S) (hO : okD D) (h : GX D P n B fk fp Sh S I) (hin : nInner D.1 D.2.1 i j = true) (hI : I' = am_up (am_up (am_up I 2 (8 * j + i / 2) (nI v)) 0 9 (nI 0)) 0 10 (nI 0)) : GX (D.1, D.2.1, upM D.2.2 (i, j) v) P n B fk fp Sh S I' := by
  obtain ⟨h1, h2, h3, h4, h5, h6⟩ := h
  have e2 : I' 2 = am_up I 2 (8 * j + i / 2) (nI v) 2 := by rw [hI, am_up_a _ _ (by decide), am_up_a _ _ (by decide)]
  have kb : ∀ b, b ≠ 0 → b ≠ 2 → I' b = I b := fun b q1 q2 => by rw [hI, am_up_a _ _ q1, am_up_a _ _ q1, am_up_a _ _ q2]
  have q := isDr_up (by decide : (1 : Nat) ≠ 2) hO.1.2 hO.2.1.2 h1.1 hin v
  exact ⟨⟨q.kept (by rw [kb 1 (by decide) (by decide), am_up_a _ _ (by decide)]) e2, Or.inl (by rw [hI, am_up_k _ _ (by decide), am_up_at])⟩, h2.kept (kb 1 (by decide) (by decide)) (kb 5 (by decide) (by decide)), Or.inl (by rw [hI, am_up_at]), h4.kept (kb 16 (by decide) (by decide)) (kb 17 (by decide) (by decide)), h5.kept (fun k _ => by rw [kb 16 (by decide) (by decide)]), h6.moved hs (fun b q => kb b (by omega) (by omega))⟩
theorem GM.set {i j v : Nat} (hO : okD D) (h : GM D P n B fk fp Sh I) (hin : nInner D.1 D.2.1 i j = true) (hI : I' = am_up I 47 (289 * 0 + 17 * j + i) (nI v)) : GM (D.1, D.2.1, upM D.2.2 (i, j) v) P n B fk fp Sh I' := by
  obtain ⟨h1, h2, h3, h4, h5⟩ := h
  have hb := nIn.mp hin
  have w8 := hO.1.2
  have h8 := hO.2.1.2
  have kb : ∀ b, b ≠ 47 → I' b = I b := fun b q1 => by rw [hI, am_up_a _ _ q1]
  refine ⟨by rw [hI]; exact isGr_up hO.1.2 hO.2.1.2 h1 hin v, fun i j hi hj => by rw [kb 48 (by decide)]; exact h2 i j hi hj, h3.kept (by rw [kb 44 (by decide)]) (kb 55 (by decide)), ⟨by rw [kb 44 (by decide)]; exact h4.1, by rw [kb 44 (by decide)]; exact h4.2⟩, h5.moved (fun g g1 _ => ⟨by rw [kb 45 (by decide)], by rw [kb 46 (by decide)], fun x _ => by rw [hI, am_up_k _ _ (by omega)]⟩)⟩
/-- pin -/
theorem GX.pin {i j v : Nat} (hs : sk S) (hO : okD D) (h : GX D P n B fk fp Sh S I) (hin : nInner D.1 D.2.1 i j = true) (hI : I' = am_up (am_up I 5 (8 * j + i / 2) (nI v)) 0 10 (nI 0)) : GX D (upM P (i, j) v) n B fk fp Sh S I' := by
  obtain ⟨h1, h2, h3, h4, h5, h6⟩ := h
  have kb : ∀ b, b ≠ 0 → b ≠ 5 → I' b = I b := fun b q1 q2 => by rw [hI, am_up_a _ _ q1, am_up_a _ _ q2]
  have q := isDr_up (by decide : (1 : Nat) ≠ 5) hO.1.2 hO.2.1.2 h2 hin v
  exact ⟨h1.kept (by rw [hI, am_up_k _ _ (by decide), am_up_a _ _ (by decide)]) (kb 1 (by decide) (by decide)) (kb 2 (by decide) (by decide)) (kb 7 (by decide) (by decide)) (kb 8 (by decide) (by decide)) (kb 9 (by decide) (by decide)) (kb 10 (by decide) (by decide)) (kb 11 (by decide) (by decide)), q.kept (by rw [kb 1 (by decide) (by decide), am_up_a _ _ (by decide)]) (by rw [hI, am_up_a _ _ (by decide)]), Or.inl (by rw [hI, am_up_at]), h4.kept (kb 16 (by decide) (by decide)) (kb 17 (by decide) (by decide)), h5.kept (fun k _ => by rw [kb 16 (by decide) (by decide)]), h6.moved hs (fun b q => kb b (by omega) (by omega))⟩
theorem GM.pin {i j v : Nat} (hO : okD D) (h : GM D P n B fk fp Sh I) (hin : nInner D.1 D.2.1 i j = true) (hI : I' = am_up I 48 (289 * 0 + 17 * j + i) (nI v)) : GM D (upM P (i, j) v) n B fk fp Sh I' := by
  obtain ⟨h1, h2, h3, h4, h5⟩ := h
  have kb : ∀ b, b ≠ 48 → I' b = I b := fun b q1 => by rw [hI, am_up_a _ _ q1]
  have e := fun g => gS.of (I := I) (I' := I') g (kb 45 (by decide)) (kb 46 (by decide)) (kb 47 (by decide))
  exact ⟨h1.same (e 0), by rw [hI]; exact isPM_up hO.1.2 hO.2.1.2 h2 hin v, h3.kept (by rw [kb 44 (by decide)]) (kb 55 (by decide)), ⟨by rw [kb 44 (by decide)]; exact h4.1, by rw [kb 44 (by decide)]; exact h4.2⟩, h5.moved (fun g _ _ => e g)⟩
theorem GO.up {i j v : Nat} (h : GO D P n B) (hv : v ≤ 2) : GO (D.1, D.2.1, upM D.2.2 (i, j) v) P n B := ⟨⟨h.1.1, h.1.2.1, okM_up h.1.2.2 _ hv⟩, h.2⟩
theorem GO.pn {i j v : Nat} (h : GO D P n B) (hv : v ≤ 1) : GO D (upM P (i, j) v) n B := ⟨h.1, fun a c q => by
  unfold upM
  split
  · exact hv
  · exact h.2.1 a c q, h.2.2⟩
def upS (Sh : Nat → Option Dw) (k : Nat) (D : Dw) : Nat → Option Dw := fun x => if x = k then some D else Sh x
theorem upS_ok {k : Nat} (h : ∀ k D, Sh k = some D → okD D) (hO : okD D) : ∀ x E, upS Sh k D x = some E → okD E := fun x E q => by
  unfold upS at q
  split at q
  · rw [← Option.some.inj q]; exact hO
  · exact h x E q
/-- keep -/
theorem GX.keepC {k c : Nat} (hs : sk S) (hO : okD D) (h : GX D P n B fk fp Sh S I) (hk : k < 8) (h6 : S.2.2 6 k = some c) (hD : isDD I' c (c + 1) D) (hb : ∀ b, b ≠ c → b ≠ c + 1 → I' b = I b) : GX D P n B fk fp (upS Sh k D) S I' := by
  have hc := hs.2.2.2.1 k c hk h6
  have h6' := h.2.2.2.2.2
  have g := (⟨h.1, h.2.1, h.2.2.1, h.2.2.2.1, h.2.2.2.2.1, ⟨fun x hx => Or.inl ⟨rfl, rfl⟩, fun _ _ q => absurd q (by simp)⟩⟩ : GX D P n B fk fp (fun _ => none) (S.1, S.2.1, fun _ _ => none) I)
  obtain ⟨a1, a2, a3, a4, a5, -⟩ := h
  have kb := fun b (q : b < 62) => hb b (by omega) (by omega)
  refine ⟨a1.kept (by rw [kb 0 (by decide)]) (kb 1 (by decide)) (kb 2 (by decide)) (kb 7 (by decide)) (kb 8 (by decide)) (kb 9 (by decide)) (kb 10 (by decide)) (kb 11 (by decide)), a2.kept (kb 1 (by decide)) (kb 5 (by decide)), a3.kept (by rw [kb 0 (by decide)]) (kb 12 (by decide)) (kb 13 (by decide)) (kb 14 (by decide)), a4.kept (kb 16 (by decide)) (kb 17 (by decide)), a5.kept (fun k _ => by rw [kb 16 (by decide)]), fun x hx => ?_, upS_ok h6'.2 hO⟩
  by_cases q : x = k
  · subst q
    exact Or.inr ⟨c, D, h6, if_pos rfl, hD⟩
  · rcases h6'.1 x hx with ⟨q1, q2⟩ | ⟨c', E, q1, q2, q3⟩
    · exact Or.inl ⟨q1, (if_neg q).trans q2⟩
    · have hc' := hs.2.2.2.1 x c' hx q1
      have hne : c' ≠ c := fun e => q (hs.2.2.2.2 x k c hx hk (e ▸ q1) h6)
      exact Or.inr ⟨c', E, q1, (if_neg q).trans q2, q3.kept (hb c' hne (by omega)) (hb (c' + 1) (by omega) (by omega))⟩
theorem GX.keepF {k : Nat} (hs : sk S) (hO : okD D) (h : GX D P n B fk fp Sh S I) (hk : k < 8) (h6 : S.2.2 6 k = none) (hD : isDD I' S.1 (S.1 + 1) D) (hb : ∀ b, b < S.1 → I' b = I b) : GX D P n B fk fp (upS Sh k D) (kpS S k) I' := by
  have h62 := hs.1
  have h6' := h.2.2.2.2.2
  obtain ⟨a1, a2, a3, a4, a5, -⟩ := h
  have kb := fun b (q : b < 62) => hb b (by omega)
  refine ⟨a1.kept (by rw [kb 0 (by decide)]) (kb 1 (by decide)) (kb 2 (by decide)) (kb 7 (by decide)) (kb 8 (by decide)) (kb 9 (by decide)) (kb 10 (by decide)) (kb 11 (by decide)), a2.kept (kb 1 (by decide)) (kb 5 (by decide)), a3.kept (by rw [kb 0 (by decide)]) (kb 12 (by decide)) (kb 13 (by decide)) (kb 14 (by decide)), a4.kept (kb 16 (by decide)) (kb 17 (by decide)), a5.kept (fun k _ => by rw [kb 16 (by decide)]), fun x hx => ?_, upS_ok h6'.2 hO⟩
  by_cases q : x = k
  · subst q
    exact Or.inr ⟨S.1, D, kp_6, if_pos rfl, hD⟩
  · have e := kp_r (S := S) (k := k) (a := 6) (x := x) (by omega) (Or.inr q) (by omega)
    rcases h6'.1 x hx with ⟨q1, q2⟩ | ⟨c', E, q1, q2, q3⟩
    · exact Or.inl ⟨e.trans q1, (if_neg q).trans q2⟩
    · have hc' := (hs.2.2.2.1 x c' hx q1).2.2
      exact Or.inr ⟨c', E, e.trans q1, (if_neg q).trans q2, q3.kept (hb c' hc'.1) (hb (c' + 1) hc'.2.2.2.1)⟩
theorem GM.keep {k : Nat} (hO : okD D) (h : GM D P n B fk fp Sh I) (hk : k < 8) (hD : grD I' (1 + k) D) (hg : gfr (fun x => x = 1 + k) I I') : GM D P n B fk fp (upS Sh k D) I' := by
  obtain ⟨h1, h2, h3, h4, h5⟩ := h
  have kb := fun b (q : b = 44 ∨ b = 48 ∨ b = 55) => hg.1 b (by omega) (by omega) (by omega)
  refine ⟨h1.same (hg.2 0 (by omega)), fun i j hi hj => by rw [kb 48 (by decide)]; exact h2 i j hi hj, h3.kept (by rw [kb 44 (by decide)]) (kb 55 (by decide)), ⟨by rw [kb 44 (by decide)]; exact h4.1, by rw [kb 44 (by decide)]; exact h4.2⟩, fun x hx => ?_, upS_ok h5.2 hO⟩
  by_cases q : x = k
  · subst q
    exact Or.inr ⟨D, if_pos rfl, hD⟩
  · have e := hg.2 (1 + x) (by omega)
    rcases h5.1 x hx with ⟨q1, q2⟩ | ⟨E, q1, q2⟩
    · exact Or.inl ⟨e.1.trans q1, (if_neg q).trans q2⟩
    · exact Or.inr ⟨E, (if_neg q).trans q1, q2.same e⟩
end GG
