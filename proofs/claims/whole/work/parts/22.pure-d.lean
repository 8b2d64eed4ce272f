/-! what turning, flipping, laying do to the mirrors -/
def sw (v : Nat) : Nat := if v = 0 then 0 else 3 - v
theorem sw_sw {v : Nat} (h : v ≤ 2) : sw (sw v) = v := by
  rcases (show v = 0 ∨ v = 1 ∨ v = 2 by omega) with rfl | rfl | rfl <;> rfl
theorem sw_le {v : Nat} (h : v ≤ 2) : sw v ≤ 2 := by
  rcases (show v = 0 ∨ v = 1 ∨ v = 2 by omega) with rfl | rfl | rfl <;> decide
theorem sw_n {v : Nat} (h : v ≤ 2) : (if nI v = 0 then nI 0 else nI 3 - nI v) = nI (sw v) := by
  rcases (show v = 0 ∨ v = 1 ∨ v = 2 by omega) with rfl | rfl | rfl <;> decide
theorem sw_n' {v : Nat} (h : v ≤ 2) : (if nI v = 0 then nI v else nI 3 - nI v) = nI (sw v) := by
  rcases (show v = 0 ∨ v = 1 ∨ v = 2 by omega) with rfl | rfl | rfl <;> decide
def tM (h : Nat) (M : Nat → Nat → Nat) : Nat → Nat → Nat := fun i j => sw (M j (2 * h - i))
def fM (w : Nat) (M : Nat → Nat → Nat) : Nat → Nat → Nat := fun i j => M (2 * w - i) j
def layM (i0 j0 w0 h0 : Nat) (M0 M : Nat → Nat → Nat) : Nat → Nat → Nat := fun i j => if i0 ≤ i ∧ j0 ≤ j ∧ nInner w0 h0 (i - i0) (j - j0) = true ∧ M0 (i - i0) (j - j0) ≠ 0 then M0 (i - i0) (j - j0) else M i j
theorem nIn {w h i j : Nat} : nInner w h i j = true ↔ 0 < i ∧ i < 2 * w ∧ 0 < j ∧ j < 2 * h ∧ (i + j) % 2 = 1 := by simp [nInner]
theorem okM_t {w h : Nat} {M : Nat → Nat → Nat} (h0 : okM w h M) : okM h w (tM h M) := by
  intro i j hij
  rw [nIn] at hij
  exact sw_le (h0 _ _ (nIn.mpr (by omega)))
theorem okM_f {w h : Nat} {M : Nat → Nat → Nat} (h0 : okM w h M) : okM w h (fM w M) := by
  intro i j hij
  rw [nIn] at hij
  exact h0 _ _ (nIn.mpr (by omega))
theorem place_inj {i j i' j' : Nat} (hi : i < 16) (hi' : i' < 16) (p : (i + j) % 2 = 1) (p' : (i' + j') % 2 = 1) (e : 8 * j + i / 2 = 8 * j' + i' / 2) : i = i' ∧ j = j' := by
  have h1 : i / 2 < 8 := by omega
  have h2 : i' / 2 < 8 := by omega
  have h3 : j = j' := by omega
  subst h3
  have h4 : i / 2 = i' / 2 := by omega
  omega
theorem place_dec {x i j : Nat} (hi : i < 16) (p : (i + j) % 2 = 1) (e : 8 * j + i / 2 = x) : x / 8 = j ∧ 2 * (x % 8) + (x / 8 + 1) % 2 = i := by
  have h1 : i / 2 < 8 := by omega
  have h2 : x / 8 = j := by omega
  have h3 : x % 8 = i / 2 := by omega
  rw [h2, h3]
  omega
/-! the class's drawings -/
theorem isDr_clr (I : am_I) {a q w h : Nat} (hn : a ≠ q) : isDr (dr_clr I a q w h) a q w h (fun _ _ => 0) := by
  refine ⟨(dr_clr_w I hn).1, (dr_clr_w I hn).2, fun p hp => ?_⟩
  rw [dr_clr_r I hp]
  simp [gv]
theorem isDr_cpy {I : am_I} {a q a0 q0 w h : Nat} {M : Nat → Nat → Nat} (hn : a ≠ q) (hq : q0 ≠ a) (hd : isDr I a0 q0 w h M) : isDr (dr_cpy I a q a0 q0 w h) a q w h M := by
  refine ⟨(dr_cpy_w I hn).1, (dr_cpy_w I hn).2, fun p hp => ?_⟩
  rw [dr_cpy_r I hq hp]
  exact hd.2.2 p hp
theorem isDr.kept {I I' : am_I} {a q w h : Nat} {M : Nat → Nat → Nat} (hd : isDr I a q w h M) (h1 : I' a = I a) (h2 : I' q = I q) : isDr I' a q w h M := ⟨by rw [h1]; exact hd.1, by rw [h1]; exact hd.2.1, fun p hp => by rw [h2]; exact hd.2.2 p hp⟩
theorem isDr.congr {I : am_I} {a q w h : Nat} {M M' : Nat → Nat → Nat} (hd : isDr I a q w h M) (hM : ∀ i j, nInner w h i j = true → M i j = M' i j) : isDr I a q w h M' := by
  refine ⟨hd.1, hd.2.1, fun p hp => ?_⟩
  rw [hd.2.2 p hp]
  congr 1
  unfold gv
  split
  · exact hM _ _ ‹_›
  · rfl
theorem isGr.congr {I : am_I} {g w h : Nat} {M M' : Nat → Nat → Nat} (hd : isGr I g w h M) (hM : ∀ i j, nInner w h i j = true → M i j = M' i j) : isGr I g w h M' := by
  refine ⟨hd.1, hd.2.1, fun i j hi hj => ?_⟩
  rw [hd.2.2 i j hi hj]
  congr 1
  unfold gv
  split
  · exact hM _ _ ‹_›
  · rfl
/-- a drawing made point by point out of another, each point to its own -/
theorem isDr_map {I0 : am_I} {a q w h w' h' : Nat} (hn : a ≠ q) (w8 : w' ≤ 8) (h8 : h' ≤ 8) (φ ψ : Nat × Nat → Nat × Nat) (v : Nat × Nat → Nat) (step : am_I → Nat × Nat → am_I)
    (h1 : ∀ p, nInner w h p.1 p.2 = true → nInner w' h' (φ p).1 (φ p).2 = true ∧ ψ (φ p) = p) (h2 : ∀ p, nInner w' h' p.1 p.2 = true → nInner w h (ψ p).1 (ψ p).2 = true ∧ φ (ψ p) = p)
    (hstep : ∀ (I : am_I) (p : Nat × Nat), nInner w h p.1 p.2 = true → (∀ b, b ≠ q → I b = I0 b) → step I p = am_up I q (8 * (φ p).2 + (φ p).1 / 2) (nI (v p)))
    (hi : isDr I0 a q w' h' (fun _ _ => 0)) : isDr (List.foldl step I0 (pts w h)) a q w' h' (fun i j => v (ψ (i, j))) ∧ ∀ b, b ≠ q → List.foldl step I0 (pts w h) b = I0 b := by
  have F := fold_wr I0 q (pts w h) (fun _ => True) (fun p => 8 * (φ p).2 + (φ p).1 / 2) (fun p => nI (v p)) step (fun I p hp hb _ => ⟨fun _ => hstep I p (pts_mem.mp hp) hb, fun hc => absurd trivial hc⟩)
  have hinj : ∀ p ∈ pts w h, ∀ p' ∈ pts w h, 8 * (φ p).2 + (φ p).1 / 2 = 8 * (φ p').2 + (φ p').1 / 2 → p = p' := by
    intro p hp p' hp' e
    obtain ⟨a1, a2⟩ := h1 p (pts_mem.mp hp)
    obtain ⟨b1, b2⟩ := h1 p' (pts_mem.mp hp')
    rw [nIn] at a1 b1
    have e0 := place_inj (by omega) (by omega) a1.2.2.2.2 b1.2.2.2.2 e
    have e1 : φ p = φ p' := Prod.ext e0.1 e0.2
    rw [← a2, ← b2, e1]
  refine ⟨⟨?_, ?_, fun x hx => ?_⟩, F.1⟩
  · rw [F.1 a hn]; exact hi.1
  · rw [F.1 a hn]; exact hi.2.1
  · by_cases hin : nInner w' h' (2 * (x % 8) + (x / 8 + 1) % 2) (x / 8) = true
    · obtain ⟨c1, c2⟩ := h2 (2 * (x % 8) + (x / 8 + 1) % 2, x / 8) hin
      have hv := F.2.2 (fun p hp p' hp' e => by rw [hinj p hp p' hp' e]; exact ⟨rfl, Iff.rfl⟩) _ (pts_mem.mpr c1) trivial
      rw [c2] at hv
      rw [show 8 * (x / 8) + (2 * (x % 8) + (x / 8 + 1) % 2) / 2 = x by omega] at hv
      rw [hv, gv, if_pos hin]
    · rw [F.2.1 x (fun p hp _ e => ?_), hi.2.2 x hx]
      · simp [gv, hin]
      · obtain ⟨a1, -⟩ := h1 p (pts_mem.mp hp)
        apply hin
        have a2 := nIn.mp a1
        have e0 := place_dec (by omega) a2.2.2.2.2 e
        rw [e0.2, e0.1]
        exact a1
def trM (t w h : Nat) (M : Nat → Nat → Nat) : Nat → Nat → Nat := match t with
  | 0 => M
  | 1 => tM h M
  | 2 => fun i j => M (2 * w - i) (2 * h - j)
  | _ => fun i j => sw (M (2 * w - j) i)
def tfM (t f w h : Nat) (M : Nat → Nat → Nat) : Nat → Nat → Nat := if f = 1 then fM (twid w h t) (trM t w h M) else trM t w h M
set_option maxHeartbeats 1000000 in
theorem isDr_turned {I : am_I} {S : am_S} {a q a0 q0 w h t f : Nat} {M : Nat → Nat → Nat} (hd : am_dr S a q) (hd0 : am_dr S a0 q0) (hne : a0 ≠ a) (hq : q0 ≠ q) (w8 : w ≤ 8) (h8 : h ≤ 8) (ht : t < 4) (hf : f < 2) (hok : okM w h M) (hi : isDr I a0 q0 w h M) :
    isDr (List.foldl (ttS q q0 w h t f) (dr_clr I a q (twid w h t) (thig w h t)) (pts w h)) a q (twid w h t) (thig w h t) (tfM t f w h M) ∧ ∀ b, b ≠ a → b ≠ q → List.foldl (ttS q q0 w h t f) (dr_clr I a q (twid w h t) (thig w h t)) (pts w h) b = I b := by
  have hx := hd0.ne2 hd
  have hdc := isDr_clr I (w := twid w h t) (h := thig w h t) hd.ne
  have w8' : twid w h t ≤ 8 := by unfold twid; split <;> assumption
  have h8' : thig w h t ≤ 8 := by unfold thig; split <;> assumption
  have key := isDr_map (w := w) (h := h) hd.ne w8' h8' (fun p => (tflp w h t f (tcol w h t p.1 p.2), trow w h t p.1 p.2))
    (fun p => match t with
      | 0 => (if f = 1 then 2 * w - p.1 else p.1, p.2)
      | 1 => (p.2, 2 * h - (if f = 1 then 2 * h - p.1 else p.1))
      | 2 => (2 * w - (if f = 1 then 2 * w - p.1 else p.1), 2 * h - p.2)
      | _ => (2 * w - p.2, if f = 1 then 2 * h - p.1 else p.1))
    (fun p => if t % 2 = 1 then sw (M p.1 p.2) else M p.1 p.2) (ttS q q0 w h t f) ?_ ?_ ?_ hdc
  · refine ⟨key.1.congr ?_, fun b h1 h2 => (key.2 b h2).trans (dr_clr_o I h1 h2)⟩
    intro i j hij
    rw [nIn] at hij
    rcases (show t = 0 ∨ t = 1 ∨ t = 2 ∨ t = 3 by omega) with rfl | rfl | rfl | rfl <;> rcases (show f = 0 ∨ f = 1 by omega) with rfl | rfl <;> simp [tfM, trM, fM, tM, twid]
  · intro p hp
    rw [nIn] at hp ⊢
    obtain ⟨i, j⟩ := p
    rcases (show t = 0 ∨ t = 1 ∨ t = 2 ∨ t = 3 by omega) with rfl | rfl | rfl | rfl <;> rcases (show f = 0 ∨ f = 1 by omega) with rfl | rfl <;> simp [tflp, tcol, trow, twid, thig] at hp ⊢ <;> omega
  · intro p hp
    rw [nIn] at hp ⊢
    obtain ⟨i, j⟩ := p
    rcases (show t = 0 ∨ t = 1 ∨ t = 2 ∨ t = 3 by omega) with rfl | rfl | rfl | rfl <;> rcases (show f = 0 ∨ f = 1 by omega) with rfl | rfl <;> simp [tflp, tcol, trow, twid, thig] at hp ⊢ <;> omega
  · intro J p hp hb
    have e : J q0 (8 * p.2 + p.1 / 2) = nI (M p.1 p.2) := by
      rw [hb q0 hq, dr_clr_o I hx.symm hq]
      exact hi.at w8 h8 hp
    unfold ttS
    rw [e]
    congr 1
    unfold tval
    split
    · rw [sw_n' (hok _ _ hp)]
    · rfl
set_option maxHeartbeats 1000000 in
theorem isDr_lay {I : am_I} {S : am_S} {a q a0 q0 w h w0 h0 ri dj : Nat} {M M0 : Nat → Nat → Nat} (hd : am_dr S a q) (hd0 : am_dr S a0 q0) (hq : q0 ≠ q) (w8 : w ≤ 8) (h8 : h ≤ 8) (w08 : w0 ≤ 8) (h08 : h0 ≤ 8) (hri : ri % 2 = 0) (hdj : dj % 2 = 0) (hfw : 2 * w0 + ri ≤ 2 * w) (hfh : 2 * h0 + dj ≤ 2 * h) (hok0 : okM w0 h0 M0) (hi : isDr I a q w h M) (hi0 : isDr I a0 q0 w0 h0 M0) :
    isDr (List.foldl (lyS q q0 ri dj) I (pts w0 h0)) a q w h (layM ri dj w0 h0 M0 M) ∧ ∀ b, b ≠ q → List.foldl (lyS q q0 ri dj) I (pts w0 h0) b = I b := by
  have nz : ∀ v, v ≤ 2 → (nI v = 0 ↔ v = 0) := by
    intro v hv
    rcases (show v = 0 ∨ v = 1 ∨ v = 2 by omega) with rfl | rfl | rfl <;> decide
  have F := fold_wr I q (pts w0 h0) (fun p => M0 p.1 p.2 ≠ 0) (fun p => 8 * (p.2 + dj) + (p.1 + ri) / 2) (fun p => nI (M0 p.1 p.2)) (lyS q q0 ri dj) (fun J p hp hb _ => by
    have hin := pts_mem.mp hp
    have e : J q0 (8 * p.2 + p.1 / 2) = nI (M0 p.1 p.2) := by rw [hb q0 hq]; exact hi0.at w08 h08 hin
    unfold lyS
    rw [e]
    exact ⟨fun hc => if_neg (fun q => hc ((nz _ (hok0 _ _ hin)).mp q)), fun hc => if_pos ((nz _ (hok0 _ _ hin)).mpr (by omega))⟩)
  have hinj : ∀ p ∈ pts w0 h0, ∀ p' ∈ pts w0 h0, 8 * (p.2 + dj) + (p.1 + ri) / 2 = 8 * (p'.2 + dj) + (p'.1 + ri) / 2 → p = p' := by
    intro p hp p' hp' e
    have a1 := pts_mem.mp hp
    have b1 := pts_mem.mp hp'
    rw [nIn] at a1 b1
    have e0 := place_inj (i := p.1 + ri) (i' := p'.1 + ri) (j := p.2 + dj) (j' := p'.2 + dj) (by omega) (by omega) (by omega) (by omega) e
    exact Prod.ext (by omega) (by omega)
  refine ⟨⟨?_, ?_, fun x hx => ?_⟩, F.1⟩
  · rw [F.1 a hd.ne]; exact hi.1
  · rw [F.1 a hd.ne]; exact hi.2.1
  · have hi' := hi.2.2 x hx
    generalize hI : 2 * (x % 8) + (x / 8 + 1) % 2 = i at hi' ⊢
    generalize hJ : x / 8 = j at hi' hI ⊢
    by_cases hin : ri ≤ i ∧ dj ≤ j ∧ nInner w0 h0 (i - ri) (j - dj) = true ∧ M0 (i - ri) (j - dj) ≠ 0
    · have hp := hin.2.2.1
      have hv := F.2.2 (fun p hp p' hp' e => by rw [hinj p hp p' hp' e]; exact ⟨rfl, Iff.rfl⟩) (i - ri, j - dj) (pts_mem.mpr hp) hin.2.2.2
      simp only at hv
      rw [show 8 * (j - dj + dj) + (i - ri + ri) / 2 = x by omega] at hv
      rw [hv]
      rw [nIn] at hp
      rw [gv, if_pos (nIn.mpr (by omega)), layM, if_pos hin]
    · rw [F.2.1 x (fun p hp hc e => ?_), hi']
      · unfold gv
        split
        · rw [layM, if_neg hin]
        · rfl
      · apply hin
        have a1 := pts_mem.mp hp
        have a2 := a1
        rw [nIn] at a2
        have e0 := place_dec (i := p.1 + ri) (j := p.2 + dj) (by omega) (by omega) e
        have e1 : i - ri = p.1 := by omega
        have e2 : j - dj = p.2 := by omega
        rw [e1, e2]
        exact ⟨by omega, by omega, a1, hc⟩
