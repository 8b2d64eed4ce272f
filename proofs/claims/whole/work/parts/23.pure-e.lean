/-! the reference's grids, what their changes do -/
theorem cellg_inj {a c a' c' : Nat} (h : c < 17) (h' : c' < 17) (e : 17 * a + c = 17 * a' + c') : a = a' ∧ c = c' := by
  have h1 : a = a' := by omega
  subst h1
  omega
theorem isGr_pln (I : am_I) (g w h : Nat) : isGr (gr_pln I g w h 289) g w h (fun _ _ => 0) ∧ gfr (fun x => x = g) I (gr_pln I g w h 289) := by
  refine ⟨⟨(gr_pln_w I g w h 289).1, (gr_pln_w I g w h 289).2, fun i j hi hj => ?_⟩, fun c h1 h2 h3 => ?_, fun x hx => ⟨?_, ?_, fun k hk => ?_⟩⟩
  · have e : gr_pln I g w h 289 47 (289 * g + 17 * j + i) = b8 (nI 0) := by
      simp only [gr_pln, va_up, if_true, stP]
      rw [if_pos (by omega)]
    rw [e, b8_n (by omega)]
    simp [gv]
  · simp [gr_pln, va_up, gr_sz, am_up, h1, h2, h3]
  · exact (gr_pln_o I hx).1
  · exact (gr_pln_o I hx).2
  · simp only [gr_pln, va_up, if_true, stP]
    rw [if_neg (by omega)]
    simp [gr_sz, am_up, va_up]
theorem isGr_cpy {I : am_I} {f g w h : Nat} {M : Nat → Nat → Nat} (hok : okM w h M) (hI : isGr I f w h M) : isGr (gr_cpy I f g w h 289) g w h M ∧ gfr (fun x => x = g) I (gr_cpy I f g w h 289) := by
  refine ⟨⟨(gr_cpy_w I f g w h 289).1, (gr_cpy_w I f g w h 289).2, fun i j hi hj => ?_⟩, fun c h1 h2 h3 => ?_, fun x hx => ⟨?_, ?_, fun k hk => ?_⟩⟩
  · have e : gr_cpy I f g w h 289 47 (289 * g + 17 * j + i) = b8 (I 47 (289 * f + 17 * j + i)) := by
      simp only [gr_cpy, va_up, if_true, stP]
      rw [if_pos (by omega), show 289 * f + (289 * g + 17 * j + i - 289 * g) = 289 * f + 17 * j + i by omega]
    rw [e, hI.2.2 i j hi hj, b8_n (gv_le hok i j)]
  · simp [gr_cpy, va_up, gr_sz, am_up, h1, h2, h3]
  · simp [gr_cpy, gr_sz, va_up, am_up, hx]
  · simp [gr_cpy, gr_sz, va_up, am_up, hx]
  · simp only [gr_cpy, va_up, if_true, stP]
    rw [if_neg (by omega)]
    simp [gr_sz, am_up, va_up]
theorem nzN {v : Nat} (hv : v ≤ 2) : nI v = 0 ↔ v = 0 := by
  rcases (show v = 0 ∨ v = 1 ∨ v = 2 by omega) with rfl | rfl | rfl <;> decide
/-- a row of writes into one grid keeps the others -/
theorem gfr_wr {α : Type} {I0 I1 : am_I} {g : Nat} {L : List α} {c : α → Prop} {t : α → Nat} (h1 : ∀ b, b ≠ 47 → I1 b = I0 b) (h2 : ∀ x, (∀ p ∈ L, c p → t p ≠ x) → I1 47 x = I0 47 x) (ht : ∀ p ∈ L, 289 * g ≤ t p ∧ t p < 289 * g + 289) : gfr (fun x => x = g) I0 I1 := by
  refine ⟨fun b _ _ hb => h1 b hb, fun x hx => ⟨by rw [h1 45 (by decide)], by rw [h1 46 (by decide)], fun k hk => h2 _ (fun p hp _ e => ?_)⟩⟩
  have := ht p hp
  omega
set_option maxHeartbeats 1000000 in
theorem isGr_lay {I : am_I} {f g w h w0 h0 i0 j0 : Nat} {M M0 : Nat → Nat → Nat} (hfg : f ≠ g) (w8 : w ≤ 8) (h8 : h ≤ 8) (hri : i0 % 2 = 0) (hdj : j0 % 2 = 0) (hfw : 2 * w0 + i0 ≤ 2 * w) (hfh : 2 * h0 + j0 ≤ 2 * h) (hok0 : okM w0 h0 M0) (hi : isGr I g w h M) (hi0 : isGr I f w0 h0 M0) :
    isGr (List.foldl (lgS f g i0 j0) I (rowsG (2 * w0) (2 * h0) 0)) g w h (layM i0 j0 w0 h0 M0 M) ∧ gfr (fun x => x = g) I (List.foldl (lgS f g i0 j0) I (rowsG (2 * w0) (2 * h0) 0)) := by
  have hmem : ∀ p : Nat × Nat, p ∈ rowsG (2 * w0) (2 * h0) 0 → p.2 ≤ 2 * h0 ∧ p.1 ≤ 2 * w0 := fun p hp => (rowsG_mem.mp hp).2
  have F := fold_wr I 47 (rowsG (2 * w0) (2 * h0) 0) (fun p => gv w0 h0 M0 p.1 p.2 ≠ 0) (fun p => 289 * g + 17 * (p.2 + j0) + (p.1 + i0)) (fun p => nI (gv w0 h0 M0 p.1 p.2)) (lgS f g i0 j0) (fun J p hp hb hs => by
    have hm := hmem p hp
    have e : J 47 (289 * f + 17 * p.2 + p.1) = nI (gv w0 h0 M0 p.1 p.2) := by
      rw [hs _ (fun p' hp' e => by have := hmem p' hp'; omega)]
      exact hi0.2.2 _ _ (by omega) (by omega)
    have hl := gv_le hok0 p.1 p.2
    unfold lgS
    rw [e]
    exact ⟨fun hc => by rw [if_neg (fun q => hc ((nzN hl).mp q)), b8_n hl], fun hc => if_pos ((nzN hl).mpr (by omega))⟩)
  refine ⟨⟨?_, ?_, fun i j hI hJ => ?_⟩, gfr_wr F.1 F.2.1 (fun p hp => by have := hmem p hp; omega)⟩
  · rw [F.1 45 (by decide)]; exact hi.1
  · rw [F.1 46 (by decide)]; exact hi.2.1
  · have hi' := hi.2.2 i j hI hJ
    by_cases hin : i0 ≤ i ∧ j0 ≤ j ∧ nInner w0 h0 (i - i0) (j - j0) = true ∧ M0 (i - i0) (j - j0) ≠ 0
    · have hp := hin.2.2.1
      have hb := nIn.mp hp
      have hg : gv w0 h0 M0 (i - i0) (j - j0) = M0 (i - i0) (j - j0) := if_pos hp
      have hv := F.2.2 (fun p hp p' hp' e => by
        have m1 := hmem p hp
        have m2 := hmem p' hp'
        have e0 := cellg_inj (a := p.2 + j0) (c := p.1 + i0) (a' := p'.2 + j0) (c' := p'.1 + i0) (by omega) (by omega) (by omega)
        have : p = p' := Prod.ext (by omega) (by omega)
        rw [this]; exact ⟨rfl, Iff.rfl⟩) (i - i0, j - j0) (rowsG_mem.mpr (by simp only; omega)) (by simp only; rw [hg]; exact hin.2.2.2)
      simp only at hv
      rw [show 289 * g + 17 * (j - j0 + j0) + (i - i0 + i0) = 289 * g + 17 * j + i by omega] at hv
      rw [hv, hg, gv, if_pos (nIn.mpr (by omega)), layM, if_pos hin]
    · rw [F.2.1 _ (fun p hp hc e => ?_), hi']
      · unfold gv
        split
        · rw [layM, if_neg hin]
        · rfl
      · apply hin
        have m1 := hmem p hp
        have e0 := cellg_inj (a := p.2 + j0) (c := p.1 + i0) (a' := j) (c' := i) (by omega) (by omega) (by omega)
        have e1 : i - i0 = p.1 := by omega
        have e2 : j - j0 = p.2 := by omega
        rw [e1, e2]
        by_cases hn : nInner w0 h0 p.1 p.2 = true
        · exact ⟨by omega, by omega, hn, by rw [gv, if_pos hn] at hc; exact hc⟩
        · exact absurd (if_neg hn) hc
theorem gv_t {w h : Nat} {M : Nat → Nat → Nat} {i j : Nat} (hi : i ≤ 2 * h) (hj : j ≤ 2 * w) : gv h w (tM h M) i j = sw (gv w h M j (2 * h - i)) := by
  unfold gv
  by_cases hn : nInner h w i j = true
  · have hb := nIn.mp hn
    rw [if_pos hn, if_pos (nIn.mpr (by omega))]
    rfl
  · rw [if_neg hn, if_neg (fun q => hn (by have hb := nIn.mp q; exact nIn.mpr (by omega)))]
    rfl
theorem gv_f {w h : Nat} {M : Nat → Nat → Nat} {i j : Nat} (hi : i ≤ 2 * w) : gv w h (fM w M) i j = gv w h M (2 * w - i) j := by
  unfold gv
  by_cases hn : nInner w h i j = true
  · have hb := nIn.mp hn
    rw [if_pos hn, if_pos (nIn.mpr (by omega))]
    rfl
  · rw [if_neg hn, if_neg (fun q => hn (by have hb := nIn.mp q; exact nIn.mpr (by omega)))]
theorem gv_out {w h : Nat} {M : Nat → Nat → Nat} {i j : Nat} (hn : ¬ (i ≤ 2 * w ∧ j ≤ 2 * h)) : gv w h M i j = 0 := by
  unfold gv
  rw [if_neg (fun q => hn (by have hb := nIn.mp q; omega))]
set_option maxHeartbeats 1000000 in
theorem isGr_turn {I : am_I} {g w h : Nat} {M : Nat → Nat → Nat} (hg : g < 19) (w8 : w ≤ 8) (h8 : h ≤ 8) (hok : okM w h M) (hi : isGr I g w h M) :
    isGr (List.foldl (tnS g h) (gr_pln (gr_cpy I g 19 w h 289) g h w 289) (rowsG (2 * w) (2 * h) 0)) g h w (tM h M) ∧ gfr (fun x => x = g ∨ x = 19) I (List.foldl (tnS g h) (gr_pln (gr_cpy I g 19 w h 289) g h w 289) (rowsG (2 * w) (2 * h) 0)) := by
  obtain ⟨c1, c2⟩ := isGr_cpy (g := 19) hok hi
  obtain ⟨d1, d2⟩ := isGr_pln (gr_cpy I g 19 w h 289) g h w
  have c3 := c1.kept d2 (by omega)
  generalize gr_pln (gr_cpy I g 19 w h 289) g h w 289 = I0 at d1 d2 c3 ⊢
  have hmem : ∀ p : Nat × Nat, p ∈ rowsG (2 * w) (2 * h) 0 → p.2 ≤ 2 * h ∧ p.1 ≤ 2 * w := fun p hp => (rowsG_mem.mp hp).2
  have F := fold_wr I0 47 (rowsG (2 * w) (2 * h) 0) (fun _ => True) (fun p => 289 * g + 17 * p.1 + (2 * h - p.2)) (fun p => nI (sw (gv w h M p.1 p.2))) (tnS g h) (fun J p hp hb hs => by
    have hm := hmem p hp
    have e : J 47 (289 * 19 + 17 * p.2 + p.1) = nI (gv w h M p.1 p.2) := by
      rw [hs _ (fun p' hp' e => by have := hmem p' hp'; omega)]
      exact c3.2.2 _ _ (by omega) (by omega)
    have hl := gv_le hok p.1 p.2
    unfold tnS
    rw [e, sw_n hl, b8_n (sw_le hl), b8_n (sw_le hl)]
    exact ⟨fun _ => rfl, fun hc => absurd trivial hc⟩)
  have G := gfr_wr (g := g) F.1 F.2.1 (fun p hp => by have := hmem p hp; omega)
  refine ⟨⟨?_, ?_, fun i j hI hJ => ?_⟩, ((c2.trans d2).trans G).mono (fun x hx => by omega)⟩
  · rw [F.1 45 (by decide)]; exact d1.1
  · rw [F.1 46 (by decide)]; exact d1.2.1
  · by_cases hin : i ≤ 2 * h ∧ j ≤ 2 * w
    · have hv := F.2.2 (fun p hp p' hp' e => by
        have m1 := hmem p hp
        have m2 := hmem p' hp'
        have e0 := cellg_inj (a := p.1) (c := 2 * h - p.2) (a' := p'.1) (c' := 2 * h - p'.2) (by omega) (by omega) (by omega)
        have : p = p' := Prod.ext (by omega) (by omega)
        rw [this]; exact ⟨rfl, Iff.rfl⟩) (j, 2 * h - i) (rowsG_mem.mpr (by simp only; omega)) trivial
      simp only at hv
      rw [show 289 * g + 17 * j + (2 * h - (2 * h - i)) = 289 * g + 17 * j + i by omega] at hv
      rw [hv, gv_t hin.1 hin.2]
    · rw [F.2.1 _ (fun p hp _ e => ?_), d1.2.2 i j hI hJ, gv_out hin, gv_out hin]
      · have m1 := hmem p hp
        have e0 := cellg_inj (a := p.1) (c := 2 * h - p.2) (a' := j) (c' := i) (by omega) (by omega) (by omega)
        omega
set_option maxHeartbeats 1000000 in
theorem isGr_flip {I : am_I} {g w h : Nat} {M : Nat → Nat → Nat} (hg : g < 19) (w8 : w ≤ 8) (h8 : h ≤ 8) (hok : okM w h M) (hi : isGr I g w h M) :
    isGr (List.foldl (fpS g w) (gr_cpy I g 19 w h 289) (rowsG (2 * w) (2 * h) 0)) g w h (fM w M) ∧ gfr (fun x => x = g ∨ x = 19) I (List.foldl (fpS g w) (gr_cpy I g 19 w h 289) (rowsG (2 * w) (2 * h) 0)) := by
  obtain ⟨c1, c2⟩ := isGr_cpy (g := 19) hok hi
  have d1 := hi.kept c2 (by omega)
  generalize gr_cpy I g 19 w h 289 = I0 at c1 c2 d1 ⊢
  have hmem : ∀ p : Nat × Nat, p ∈ rowsG (2 * w) (2 * h) 0 → p.2 ≤ 2 * h ∧ p.1 ≤ 2 * w := fun p hp => (rowsG_mem.mp hp).2
  have F := fold_wr I0 47 (rowsG (2 * w) (2 * h) 0) (fun _ => True) (fun p => 289 * g + 17 * p.2 + (2 * w - p.1)) (fun p => nI (gv w h M p.1 p.2)) (fpS g w) (fun J p hp hb hs => by
    have hm := hmem p hp
    have e : J 47 (289 * 19 + 17 * p.2 + p.1) = nI (gv w h M p.1 p.2) := by
      rw [hs _ (fun p' hp' e => by have := hmem p' hp'; omega)]
      exact c1.2.2 _ _ (by omega) (by omega)
    unfold fpS
    rw [e, b8_n (gv_le hok p.1 p.2)]
    exact ⟨fun _ => rfl, fun hc => absurd trivial hc⟩)
  have G := gfr_wr (g := g) F.1 F.2.1 (fun p hp => by have := hmem p hp; omega)
  refine ⟨⟨?_, ?_, fun i j hI hJ => ?_⟩, (c2.trans G).mono (fun x hx => by omega)⟩
  · rw [F.1 45 (by decide)]; exact d1.1
  · rw [F.1 46 (by decide)]; exact d1.2.1
  · by_cases hin : i ≤ 2 * w ∧ j ≤ 2 * h
    · have hv := F.2.2 (fun p hp p' hp' e => by
        have m1 := hmem p hp
        have m2 := hmem p' hp'
        have e0 := cellg_inj (a := p.2) (c := 2 * w - p.1) (a' := p'.2) (c' := 2 * w - p'.1) (by omega) (by omega) (by omega)
        have : p = p' := Prod.ext (by omega) (by omega)
        rw [this]; exact ⟨rfl, Iff.rfl⟩) (2 * w - i, j) (rowsG_mem.mpr (by simp only; omega)) trivial
      simp only at hv
      rw [show 289 * g + 17 * j + (2 * w - (2 * w - i)) = 289 * g + 17 * j + i by omega] at hv
      rw [hv, gv_f hin.1]
    · rw [F.2.1 _ (fun p hp _ e => ?_), d1.2.2 i j hI hJ, gv_out hin, gv_out hin]
      · have m1 := hmem p hp
        have e0 := cellg_inj (a := p.2) (c := 2 * w - p.1) (a' := j) (c' := i) (by omega) (by omega) (by omega)
        omega
