def gS (I I' : am_I) (g : Nat) : Prop := I' 45 g = I 45 g ∧ I' 46 g = I 46 g ∧ ∀ k, k < 289 → I' 47 (289 * g + k) = I 47 (289 * g + k)
theorem gS.rf {I : am_I} {g : Nat} : gS I I g := ⟨rfl, rfl, fun _ _ => rfl⟩
theorem gS.trans {I I1 I2 : am_I} {g : Nat} (h : gS I I1 g) (k : gS I1 I2 g) : gS I I2 g := ⟨k.1.trans h.1, k.2.1.trans h.2.1, fun x hx => (k.2.2 x hx).trans (h.2.2 x hx)⟩
theorem gS.of {I I' : am_I} (g : Nat) (h1 : I' 45 = I 45) (h2 : I' 46 = I 46) (h3 : I' 47 = I 47) : gS I I' g := ⟨by rw [h1], by rw [h2], fun _ _ => by rw [h3]⟩
theorem grD.same {I I' : am_I} {g : Nat} {D : Dw} (h : grD I g D) (hs : gS I I' g) : grD I' g D := ⟨by rw [hs.1]; exact h.1, by rw [hs.2.1]; exact h.2.1, fun i j hi hj => by
  have q := hs.2.2 (17 * j + i) (by omega)
  rw [← Nat.add_assoc] at q
  rw [q]; exact h.2.2 i j hi hj⟩
theorem grD.up {I : am_I} {g : Nat} {D : Dw} (h : grD I g D) {b k : Nat} (hb : b < 45 ∨ 47 < b) (v : Int32) : grD (am_up I b k v) g D := h.same (gS.of g (am_up_a _ _ (by omega)) (am_up_a _ _ (by omega)) (am_up_a _ _ (by omega)))
/-- what reading a text may change of the reference -/
def FM (I I' : am_I) : Prop := (∀ b, (b < 44 ∨ (47 < b ∧ b < 56) ∨ 59 < b) → I' b = I b) ∧ (∀ k, k < 17 ∨ (21 < k ∧ k ≠ 26) → I' 44 k = I 44 k) ∧ ∀ g, g < 9 → gS I I' g
theorem FM.rf {I : am_I} : FM I I := ⟨fun _ _ => rfl, fun _ _ => rfl, fun _ _ => gS.rf⟩
theorem FM.trans {I I1 I2 : am_I} (h : FM I I1) (g : FM I1 I2) : FM I I2 := ⟨fun b hb => (g.1 b hb).trans (h.1 b hb), fun k hk => (g.2.1 k hk).trans (h.2.1 k hk), fun x hx => (h.2.2 x hx).trans (g.2.2 x hx)⟩
theorem FM.up {I I' : am_I} (h : FM I I') {b k : Nat} (hb : (b = 44 ∧ 17 ≤ k ∧ (k ≤ 21 ∨ k = 26)) ∨ (56 ≤ b ∧ b ≤ 59)) (v : Int32) : FM I (am_up I' b k v) :=
  h.trans ⟨fun c hc => am_up_a _ _ (by omega), fun x hx => by
    by_cases h4 : b = 44
    · subst h4; exact am_up_k _ _ (by omega)
    · rw [am_up_a _ _ (fun q => h4 q.symm)], fun x _ => gS.of x (am_up_a _ _ (by omega)) (am_up_a _ _ (by omega)) (am_up_a _ _ (by omega))⟩
theorem gfr.fm {L : Nat → Prop} {I I' : am_I} (h : gfr L I I') (hL : ∀ g, L g → 9 ≤ g) : FM I I' := ⟨fun b hb => h.1 b (by omega) (by omega) (by omega), fun k _ => by rw [h.1 44 (by decide) (by decide) (by decide)], fun g hg => h.2 g (fun q => by have := hL g q; omega)⟩
theorem GF.fm {I I' : am_I} (h : GF I I') : FM I I' := gfr.fm h (fun g q => by omega)
theorem KT.fm {I I' : am_I} (h : KT I I') : FM I I' := ⟨fun b hb => h.1 b (by omega), fun k hk => h.2 k (by omega), fun g _ => gS.of g (h.1 45 (by decide)) (h.1 46 (by decide)) (h.1 47 (by decide))⟩
theorem FM.tm {n : Nat} {B : Nat → Nat} {I I' : am_I} (h : FM I I') (hT : tM2 n B I) : tM2 n B I' := hT.kept (h.2.1 14 (by decide)) (h.1 55 (by decide))
/-- the stack's first m places stay -/
def stF (m : Nat) (I I' : am_I) : Prop := (∀ u, u < m → I' 56 u = I 56 u ∧ I' 57 u = I 57 u ∧ I' 59 u = I 59 u ∧ ∀ k, k < 3 → I' 58 (3 * u + k) = I 58 (3 * u + k)) ∧ ∀ g, 9 ≤ g → g < 9 + m → gS I I' g
theorem stF.rf {m : Nat} {I : am_I} : stF m I I := ⟨fun _ _ => ⟨rfl, rfl, rfl, fun _ _ => rfl⟩, fun _ _ _ => gS.rf⟩
theorem stF.trans {m : Nat} {I I1 I2 : am_I} (h : stF m I I1) (g : stF m I1 I2) : stF m I I2 := ⟨fun u hu => ⟨(g.1 u hu).1.trans (h.1 u hu).1, (g.1 u hu).2.1.trans (h.1 u hu).2.1, (g.1 u hu).2.2.1.trans (h.1 u hu).2.2.1, fun k hk => ((g.1 u hu).2.2.2 k hk).trans ((h.1 u hu).2.2.2 k hk)⟩, fun x h1 h2 => (h.2 x h1 h2).trans (g.2 x h1 h2)⟩
theorem stF.mono {m m' : Nat} {I I' : am_I} (h : stF m I I') (hm : m' ≤ m) : stF m' I I' := ⟨fun u hu => h.1 u (by omega), fun g h1 h2 => h.2 g h1 (by omega)⟩
theorem stF.up {m : Nat} {I I' : am_I} (h : stF m I I') {b k : Nat} (hb : b = 44 ∨ ((b = 56 ∨ b = 57 ∨ b = 59) ∧ m ≤ k) ∨ (b = 58 ∧ 3 * m ≤ k)) (v : Int32) : stF m I (am_up I' b k v) := by
  have A : ∀ c x, (c ≠ b ∨ x ≠ k) → am_up I' b k v c x = I' c x := fun c x hc => by
    by_cases h1 : c = b
    · subst h1; exact am_up_k _ _ (by omega)
    · rw [am_up_a _ _ h1]
  exact h.trans ⟨fun u hu => ⟨A 56 u (by omega), A 57 u (by omega), A 59 u (by omega), fun x hx => A 58 _ (by omega)⟩, fun g _ _ => gS.of g (am_up_a _ _ (by omega)) (am_up_a _ _ (by omega)) (am_up_a _ _ (by omega))⟩
theorem gfr.st {L : Nat → Prop} {I I' : am_I} {m : Nat} (h : gfr L I I') (hL : ∀ g, L g → 9 + m ≤ g) : stF m I I' := ⟨fun u _ => ⟨by rw [h.1 56 (by decide) (by decide) (by decide)], by rw [h.1 57 (by decide) (by decide) (by decide)], by rw [h.1 59 (by decide) (by decide) (by decide)], fun k _ => by rw [h.1 58 (by decide) (by decide) (by decide)]⟩, fun g _ h2 => h.2 g (fun q => by have := hL g q; omega)⟩
theorem GF.st {I I' : am_I} {m : Nat} (h : GF I I') (hm : m ≤ 9) : stF m I I' := gfr.st h (fun g q => by omega)
theorem KT.st {I I' : am_I} {m : Nat} (h : KT I I') : stF m I I' := ⟨fun u _ => ⟨by rw [h.1 56 (by decide)], by rw [h.1 57 (by decide)], by rw [h.1 59 (by decide)], fun k _ => by rw [h.1 58 (by decide)]⟩, fun g _ _ => gS.of g (h.1 45 (by decide)) (h.1 46 (by decide)) (h.1 47 (by decide))⟩
/-- an open word on the reference's stack -/
def enX (I : am_I) (u : Nat) (e : En) (o : Option Dw) : Prop := okE e ∧ I 56 u = nI e.1 ∧ I 57 u = nI e.2.1 ∧ (e.1 = 5 → I 58 (3 * u) = nI e.2.2.1 ∧ I 58 (3 * u + 1) = nI e.2.2.2.1 ∧ I 58 (3 * u + 2) = nI e.2.2.2.2) ∧ (e.1 = 8 → I 58 (3 * u) = nI e.2.2.1) ∧ ((o = none ∧ I 59 u = nI 0) ∨ ∃ D, o = some D ∧ okD D ∧ I 59 u = nI 1 ∧ grD I (9 + u) D)
theorem enX.moved {I I' : am_I} {u m : Nat} {e : En} {o : Option Dw} (h : enX I u e o) (hF : stF m I I') (hu : u < m) : enX I' u e o := by
  obtain ⟨h1, h2, h3, h4, h5, h6⟩ := h
  obtain ⟨g1, g2, g3, g4⟩ := hF.1 u hu
  have q0 := g4 0 (by decide)
  rw [Nat.add_zero] at q0
  refine ⟨h1, g1.trans h2, g2.trans h3, fun q => ⟨q0.trans (h4 q).1, (g4 1 (by decide)).trans (h4 q).2.1, (g4 2 (by decide)).trans (h4 q).2.2⟩, fun q => q0.trans (h5 q), ?_⟩
  rcases h6 with ⟨a, b⟩ | ⟨D, a, b, c, d⟩
  · exact Or.inl ⟨a, g3.trans b⟩
  · exact Or.inr ⟨D, a, b, g3.trans c, d.same (hF.2 _ (by omega) (by omega))⟩
def stX (I : am_I) : List (En × Option Dw) → Prop
  | [] => True
  | x :: K => enX I K.length x.1 x.2 ∧ stX I K
theorem stX.moved {I I' : am_I} : ∀ {K : List (En × Option Dw)}, stX I K → stF K.length I I' → stX I' K
  | [], _, _ => True.intro
  | x :: K, h, hF => ⟨h.1.moved hF (Nat.lt_succ_self _), stX.moved h.2 (hF.mono (Nat.le_succ _))⟩
/-- the reference's shelves -/
def ShM (Sh : Nat → Option Dw) (I : am_I) : Prop := (∀ k, k < 8 → (I 45 (1 + k) = nI 0 ∧ Sh k = none) ∨ ∃ D, Sh k = some D ∧ grD I (1 + k) D) ∧ ∀ k D, Sh k = some D → okD D
theorem ShM.moved {Sh : Nat → Option Dw} {I I' : am_I} (h : ShM Sh I) (hF : ∀ g, 1 ≤ g → g < 9 → gS I I' g) : ShM Sh I' := ⟨fun k hk => by
  rcases h.1 k hk with ⟨a, b⟩ | ⟨D, a, b⟩
  · exact Or.inl ⟨(hF (1 + k) (by omega) (by omega)).1.trans a, b⟩
  · exact Or.inr ⟨D, a, b.same (hF (1 + k) (by omega) (by omega))⟩, h.2⟩
theorem m_isInN (S : am_S) (I : am_I) {v lo hi : Nat} (h1 : v < 2147483648) (h2 : lo < 2147483648) (h3 : hi < 2147483648) : am_Mt 0 Y_X8_isIn (0, 0) [.int (nI v), .int (nI lo), .int (nI hi)] S I (am_q (some (.int (am_b (decide (lo ≤ v ∧ v ≤ hi))))) S I) := by
  have q := c_X8_isIn S I (nI v) (nI lo) (nI hi)
  rw [z_nI h1, z_nI h2, z_nI h3] at q
  rwa [show decide ((lo : Int) ≤ (v : Int) ∧ (v : Int) ≤ (hi : Int)) = decide (lo ≤ v ∧ v ≤ hi) from decide_eq_decide.mpr (by omega)] at q
theorem cap_in {r lo hi t : Nat} (hc : cap r = t) (hh : hi ≤ 16) : (lo ≤ t ∧ t ≤ hi ↔ lo ≤ r ∧ r ≤ hi) ∧ (t ≤ hi → r = t) := by
  unfold cap at hc
  split at hc <;> omega
theorem pN_err {n : Nat} {B : Nat → Nat} {lo hi p : Nat} {e : Nat × Nat} (h : pN n B lo hi p = .inl e) : 1 ≤ e.1 ∧ e.1 ≤ 2 := by
  unfold pN at h
  split at h
  · split at h
    · exact absurd h (by simp)
    · rw [← Sum.inl.inj h]; exact ⟨Nat.le_of_ble_eq_true rfl, Nat.le_of_ble_eq_true rfl⟩
  · rw [← Sum.inl.inj h]; exact ⟨Nat.le_of_ble_eq_true rfl, Nat.le_of_ble_eq_true rfl⟩
theorem bnd_inl {A C : Type} {x : (Nat × Nat) ⊕ A} {f : A → (Nat × Nat) ⊕ C} {e : Nat × Nat} (h : bnd x f = .inl e) : x = .inl e ∨ ∃ a, x = .inr a ∧ f a = .inl e := by
  rcases x with e' | a
  · exact Or.inl (congrArg Sum.inl (Sum.inl.inj h))
  · exact Or.inr ⟨a, rfl, h⟩
def TKX (S : am_S) (n : Nat) (B : Nat → Nat) (I : am_I) (X : (Nat × Nat) ⊕ (Nat × Nat)) (r : Option Value) (S' : am_S) (I' : am_I) : Prop := S' = S ∧ ((∃ e, X = .inl e ∧ r = some (.int (nI e.1)) ∧ I = I' ∧ I 44 18 = nI e.2) ∨ ∃ v, X = .inr v ∧ r = some (.int (nI 0)) ∧ KT I I' ∧ SN n B v.2 I' ∧ I 44 20 = nI v.1)
theorem TKX.l {S : am_S} {n : Nat} {B : Nat → Nat} {I : am_I} {X : (Nat × Nat) ⊕ (Nat × Nat)} {r : Option Value} {S' : am_S} {I' : am_I} {e : Nat × Nat} (h : TKX S n B I X r S' I') (hX : X = .inl e) : r = some (.int (nI e.1)) ∧ S' = S ∧ I = I' ∧ I 44 18 = nI e.2 := by
  obtain ⟨h1, ⟨e', g1, g2, g3⟩ | ⟨d, g1, _⟩⟩ := h
  · rw [hX] at g1; rw [Sum.inl.inj g1]; exact ⟨g2, h1, g3⟩
  · rw [hX] at g1; exact absurd g1 (by simp)
theorem TKX.r {S : am_S} {n : Nat} {B : Nat → Nat} {I : am_I} {X : (Nat × Nat) ⊕ (Nat × Nat)} {r : Option Value} {S' : am_S} {I' : am_I} {v : Nat × Nat} (h : TKX S n B I X r S' I') (hX : X = .inr v) : r = some (.int (nI 0)) ∧ S' = S ∧ KT I I' ∧ SN n B v.2 I' ∧ I 44 20 = nI v.1 := by
  obtain ⟨h1, ⟨e', g1, _⟩ | ⟨d, g1, g2, g3⟩⟩ := h
  · rw [hX] at g1; exact absurd g1 (by simp)
  · rw [hX] at g1; rw [Sum.inr.inj g1]; exact ⟨g2, h1, g3⟩
def LKX (S : am_S) (I : am_I) (X : (Nat × Nat) ⊕ (Nat × Nat)) (r : Option Value) (S' : am_S) (I' : am_I) : Prop := S' = S ∧ I = I' ∧ ((∃ e, X = .inl e ∧ r = some (.int (nI e.1)) ∧ I 44 18 = nI e.2) ∨ ∃ v, X = .inr v ∧ r = some (.int (nI 0)) ∧ I 44 20 = nI v.1 ∧ I 44 17 = nI v.2)
theorem LKX.l {S : am_S} {I : am_I} {X : (Nat × Nat) ⊕ (Nat × Nat)} {r : Option Value} {S' : am_S} {I' : am_I} {e : Nat × Nat} (h : LKX S I X r S' I') (hX : X = .inl e) : r = some (.int (nI e.1)) ∧ S' = S ∧ I = I' ∧ I 44 18 = nI e.2 := by
  obtain ⟨h1, h2, ⟨e', g1, g2, g3⟩ | ⟨d, g1, _⟩⟩ := h
  · rw [hX] at g1; rw [Sum.inl.inj g1]; exact ⟨g2, h1, h2, g3⟩
  · rw [hX] at g1; exact absurd g1 (by simp)
theorem LKX.r {S : am_S} {I : am_I} {X : (Nat × Nat) ⊕ (Nat × Nat)} {r : Option Value} {S' : am_S} {I' : am_I} {v : Nat × Nat} (h : LKX S I X r S' I') (hX : X = .inr v) : r = some (.int (nI 0)) ∧ S' = S ∧ I = I' ∧ I 44 20 = nI v.1 ∧ I 44 17 = nI v.2 := by
  obtain ⟨h1, h2, ⟨e', g1, _⟩ | ⟨d, g1, g2, g3⟩⟩ := h
  · rw [hX] at g1; exact absurd g1 (by simp)
  · rw [hX] at g1; rw [Sum.inr.inj g1]; exact ⟨g2, h1, h2, g3⟩
set_option maxHeartbeats 1000000 in
set_option maxRecDepth 100000 in
theorem c_X8_take {S : am_S} (hs : sk S) {I : am_I} {n : Nat} {B : Nat → Nat} (hT : tM2 n B I) (hB : okB n B) {p lo hi : Nat} (hp : p ≤ n) (hN : SN n B p I) (hi16 : hi ≤ 16) (lo16 : lo ≤ 16) : am_Mt 3 Y_X8_take (0, 0) [.ref 44, .int (nI lo), .int (nI hi)] S I (TKX S n B I (pN n B lo hi p)) := by
  have htl := tK_le n B (tS n B p)
  have hpE : tE n B (tS n B p) ≤ n := (tE_ge (tS_le hp)).2
  have h200 := hB.1
  by_cases hk : tK n B (tS n B p) = 1
  · obtain ⟨r9, h20, hr4, hcap⟩ := hN.2.2.2 hk
    have hci := cap_in (lo := lo) hcap hi16
    by_cases hr : lo ≤ tN n B (tS n B p) ∧ tN n B (tS n B p) ≤ hi
    · refine am_mt ⟨by decide +kernel, rfl⟩ (Nat.le_of_ble_eq_true rfl) rfl ?_
      refine rn_aload_n dX8_take_0 rfl rfl ?_
      refine rn_getI dX8_take_1 fd_8_157 (sk_l hs 44 (by decide)) (sk_k44 hs) rfl ?_
      refine rn_top (y := nI 1) (by rw [hN.2.1, hk]) ?_
      refine rn_iconst (v := nI 1) dX8_take_4 (by decide) ?_
      refine rn_icmp_eqN (tgt := 10) dX8_take_5 (by decide) (by omega) (by omega) (fun c_5 => ?_) (fun c_5 => ?_)
      · refine rn_aload_n dX8_take_10 rfl rfl ?_
        refine rn_getI dX8_take_11 fd_8_163 (sk_l hs 44 (by decide)) (sk_k44 hs) rfl ?_
        refine rn_top (y := nI r9) (h20) ?_
        refine rn_iload_n dX8_take_14 rfl rfl ?_
        refine rn_iload_n dX8_take_15 rfl rfl ?_
        refine rn_callSq (st := []) dX8_take_16 cf_8_70 (m_isInN S I (by omega) (by omega) (by omega)) (by omega) rfl rfl (Nat.le_of_ble_eq_true rfl) ?_
        refine rn_if_neB (tgt := 24) dX8_take_19 (by decide) (fun c_19 => ?_) (fun c_19 => ?_)
        · refine rn_aload_n dX8_take_24 rfl rfl ?_
          refine rn_callV0 (st := []) dX8_take_25 cf_8_170 (c_X8_nextToken hs hT hB hpE (hN.2.2.1 (by omega))) (by omega) (sk_l hs 44 (by decide)) (sk_k44 hs) rfl rfl (Nat.le_of_ble_eq_true rfl) (fun r1 S1 I1 hq => ?_)
          obtain ⟨rfl, rfl, hK1, hN1⟩ := hq
          refine rn_iconst (v := nI 0) dX8_take_28 (by decide) ?_
          refine rn_ireturn dX8_take_29 rfl (vp_nar_int _) ?_
          exact ⟨rfl, Or.inr ⟨(tN n B (tS n B p), tE n B (tS n B p)), (if_pos hk).trans (if_pos hr), rfl, hK1, hN1, by rw [h20, hci.2 hr.2]⟩⟩
        · exact absurd (hci.1.mp hr) (of_decide_eq_false c_19)
      · exact absurd c_5 (by decide)
    · refine am_mt ⟨by decide +kernel, rfl⟩ (Nat.le_of_ble_eq_true rfl) rfl ?_
      refine rn_aload_n dX8_take_0 rfl rfl ?_
      refine rn_getI dX8_take_1 fd_8_157 (sk_l hs 44 (by decide)) (sk_k44 hs) rfl ?_
      refine rn_top (y := nI 1) (by rw [hN.2.1, hk]) ?_
      refine rn_iconst (v := nI 1) dX8_take_4 (by decide) ?_
      refine rn_icmp_eqN (tgt := 10) dX8_take_5 (by decide) (by omega) (by omega) (fun c_5 => ?_) (fun c_5 => ?_)
      · refine rn_aload_n dX8_take_10 rfl rfl ?_
        refine rn_getI dX8_take_11 fd_8_163 (sk_l hs 44 (by decide)) (sk_k44 hs) rfl ?_
        refine rn_top (y := nI r9) (h20) ?_
        refine rn_iload_n dX8_take_14 rfl rfl ?_
        refine rn_iload_n dX8_take_15 rfl rfl ?_
        refine rn_callSq (st := []) dX8_take_16 cf_8_70 (m_isInN S I (by omega) (by omega) (by omega)) (by omega) rfl rfl (Nat.le_of_ble_eq_true rfl) ?_
        refine rn_if_neB (tgt := 24) dX8_take_19 (by decide) (fun c_19 => ?_) (fun c_19 => ?_)
        · exact absurd (hci.1.mpr (of_decide_eq_true c_19)) hr
        · refine rn_iconst (v := nI 2) dX8_take_22 (by decide) ?_
          refine rn_ireturn dX8_take_23 rfl (vp_nar_int _) ?_
          exact ⟨rfl, Or.inl ⟨(2, tS n B p), (if_pos hk).trans (if_neg hr), rfl, rfl, hN.1⟩⟩
      · exact absurd c_5 (by decide)
  · refine am_mt ⟨by decide +kernel, rfl⟩ (Nat.le_of_ble_eq_true rfl) rfl ?_
    refine rn_aload_n dX8_take_0 rfl rfl ?_
    refine rn_getI dX8_take_1 fd_8_157 (sk_l hs 44 (by decide)) (sk_k44 hs) rfl ?_
    refine rn_top (y := nI (tK n B (tS n B p))) (hN.2.1) ?_
    refine rn_iconst (v := nI 1) dX8_take_4 (by decide) ?_
    refine rn_icmp_eqN (tgt := 10) dX8_take_5 (by decide) (by omega) (by omega) (fun c_5 => ?_) (fun c_5 => ?_)
    · omega
    · refine rn_iconst (v := nI 1) dX8_take_8 (by decide) ?_
      refine rn_ireturn dX8_take_9 rfl (vp_nar_int _) ?_
      exact ⟨rfl, Or.inl ⟨(1, tS n B p), if_neg hk, rfl, rfl, hN.1⟩⟩
set_option maxHeartbeats 1000000 in
set_option maxRecDepth 100000 in
theorem c_X8_takeLast {S : am_S} (hs : sk S) {I : am_I} {n : Nat} {B : Nat → Nat} (hT : tM2 n B I) (hB : okB n B) {p lo hi : Nat} (hp : p ≤ n) (hN : SN n B p I) (hi16 : hi ≤ 16) (lo16 : lo ≤ 16) : am_Mt 3 Y_X8_takeLast (0, 0) [.ref 44, .int (nI lo), .int (nI hi)] S I (LKX S I (pN n B lo hi p)) := by
  have htl := tK_le n B (tS n B p)
  have hpE : tE n B (tS n B p) ≤ n := (tE_ge (tS_le hp)).2
  have h200 := hB.1
  by_cases hk : tK n B (tS n B p) = 1
  · obtain ⟨r9, h20, hr4, hcap⟩ := hN.2.2.2 hk
    have hci := cap_in (lo := lo) hcap hi16
    by_cases hr : lo ≤ tN n B (tS n B p) ∧ tN n B (tS n B p) ≤ hi
    · refine am_mt ⟨by decide +kernel, rfl⟩ (Nat.le_of_ble_eq_true rfl) rfl ?_
      refine rn_aload_n dX8_takeLast_0 rfl rfl ?_
      refine rn_getI dX8_takeLast_1 fd_8_157 (sk_l hs 44 (by decide)) (sk_k44 hs) rfl ?_
      refine rn_top (y := nI 1) (by rw [hN.2.1, hk]) ?_
      refine rn_iconst (v := nI 1) dX8_takeLast_4 (by decide) ?_
      refine rn_icmp_eqN (tgt := 12) dX8_takeLast_5 (by decide) (by omega) (by omega) (fun c_5 => ?_) (fun c_5 => ?_)
      · refine rn_aload_n dX8_takeLast_12 rfl rfl ?_
        refine rn_getI dX8_takeLast_13 fd_8_163 (sk_l hs 44 (by decide)) (sk_k44 hs) rfl ?_
        refine rn_top (y := nI r9) (h20) ?_
        refine rn_iload_n dX8_takeLast_16 rfl rfl ?_
        refine rn_iload_n dX8_takeLast_17 rfl rfl ?_
        refine rn_callSq (st := []) dX8_takeLast_18 cf_8_70 (m_isInN S I (by omega) (by omega) (by omega)) (by omega) rfl rfl (Nat.le_of_ble_eq_true rfl) ?_
        refine rn_if_eqB (tgt := 28) dX8_takeLast_21 (by decide) (fun c_21 => ?_) (fun c_21 => ?_)
        · exact absurd (hci.1.mp hr) (of_decide_eq_false c_21)
        · refine rn_iconst (v := nI 0) dX8_takeLast_24 (by decide) ?_
          refine rn_goto (tgt := 29) dX8_takeLast_25 (by decide) ?_
          refine rn_ireturn dX8_takeLast_29 rfl (vp_nar_int _) ?_
          exact ⟨rfl, rfl, Or.inr ⟨(tN n B (tS n B p), tE n B (tS n B p)), (if_pos hk).trans (if_pos hr), rfl, by rw [h20, hci.2 hr.2], hN.2.2.1 (by omega)⟩⟩
      · exact absurd c_5 (by decide)
    · refine am_mt ⟨by decide +kernel, rfl⟩ (Nat.le_of_ble_eq_true rfl) rfl ?_
      refine rn_aload_n dX8_takeLast_0 rfl rfl ?_
      refine rn_getI dX8_takeLast_1 fd_8_157 (sk_l hs 44 (by decide)) (sk_k44 hs) rfl ?_
      refine rn_top (y := nI 1) (by rw [hN.2.1, hk]) ?_
      refine rn_iconst (v := nI 1) dX8_takeLast_4 (by decide) ?_
      refine rn_icmp_eqN (tgt := 12) dX8_takeLast_5 (by decide) (by omega) (by omega) (fun c_5 => ?_) (fun c_5 => ?_)
      · refine rn_aload_n dX8_takeLast_12 rfl rfl ?_
        refine rn_getI dX8_takeLast_13 fd_8_163 (sk_l hs 44 (by decide)) (sk_k44 hs) rfl ?_
        refine rn_top (y := nI r9) (h20) ?_
        refine rn_iload_n dX8_takeLast_16 rfl rfl ?_
        refine rn_iload_n dX8_takeLast_17 rfl rfl ?_
        refine rn_callSq (st := []) dX8_takeLast_18 cf_8_70 (m_isInN S I (by omega) (by omega) (by omega)) (by omega) rfl rfl (Nat.le_of_ble_eq_true rfl) ?_
        refine rn_if_eqB (tgt := 28) dX8_takeLast_21 (by decide) (fun c_21 => ?_) (fun c_21 => ?_)
        · refine rn_iconst (v := nI 2) dX8_takeLast_28 (by decide) ?_
          refine rn_ireturn dX8_takeLast_29 rfl (vp_nar_int _) ?_
          exact ⟨rfl, rfl, Or.inl ⟨(2, tS n B p), (if_pos hk).trans (if_neg hr), rfl, hN.1⟩⟩
        · exact absurd (hci.1.mpr (of_decide_eq_true c_21)) hr
      · exact absurd c_5 (by decide)
  · refine am_mt ⟨by decide +kernel, rfl⟩ (Nat.le_of_ble_eq_true rfl) rfl ?_
    refine rn_aload_n dX8_takeLast_0 rfl rfl ?_
    refine rn_getI dX8_takeLast_1 fd_8_157 (sk_l hs 44 (by decide)) (sk_k44 hs) rfl ?_
    refine rn_top (y := nI (tK n B (tS n B p))) (hN.2.1) ?_
    refine rn_iconst (v := nI 1) dX8_takeLast_4 (by decide) ?_
    refine rn_icmp_eqN (tgt := 12) dX8_takeLast_5 (by decide) (by omega) (by omega) (fun c_5 => ?_) (fun c_5 => ?_)
    · omega
    · refine rn_iconst (v := nI 1) dX8_takeLast_8 (by decide) ?_
      refine rn_goto (tgt := 29) dX8_takeLast_9 (by decide) ?_
      refine rn_ireturn dX8_takeLast_29 rfl (vp_nar_int _) ?_
      exact ⟨rfl, rfl, Or.inl ⟨(1, tS n B p), if_neg hk, rfl, hN.1⟩⟩
/-- what beginning an E comes to -/
def BX (S : am_S) (n : Nat) (B : Nat → Nat) (m : Nat) (I : am_I) (X : (Nat × Nat) ⊕ ((Dw × Nat) ⊕ (En × Nat))) (r : Option Value) (S' : am_S) (I' : am_I) : Prop := S' = S ∧ FM I I' ∧ stF m I I' ∧ ((∃ e, X = .inl e ∧ r = some (.int (nI e.1)) ∧ I' 44 18 = nI e.2) ∨ (∃ D q, X = .inr (.inl (D, q)) ∧ r = some (.int (nI 0)) ∧ grD I' 18 D ∧ I' 44 26 = nI 1 ∧ I' 44 21 = nI m ∧ I' 44 17 = nI q) ∨ ∃ e q, X = .inr (.inr (e, q)) ∧ r = some (.int (nI 0)) ∧ enX I' m e none ∧ I' 44 26 = nI 0 ∧ I' 44 21 = nI (m + 1) ∧ SN n B q I')
/-- while the numbers of a word are read -/
def BI (n : Nat) (B : Nat → Nat) (m t s q : Nat) (I J : am_I) : Prop := FM I J ∧ stF m I J ∧ SN n B q J ∧ J 44 21 = nI m ∧ J 44 26 = nI 0 ∧ J 56 m = nI t ∧ J 57 m = nI s ∧ J 59 m = nI 0
theorem SN.kept {n : Nat} {B : Nat → Nat} {p : Nat} {I I' : am_I} (h : SN n B p I) (hF : ∀ k, 17 ≤ k → k ≤ 20 → I' 44 k = I 44 k) : SN n B p I' := by
  obtain ⟨h1, h2, h3, h4⟩ := h
  refine ⟨(hF 18 (by decide) (by decide)).trans h1, (hF 19 (by decide) (by decide)).trans h2, fun q => (hF 17 (by decide) (by decide)).trans (h3 q), fun q => ?_⟩
  obtain ⟨r, a, b⟩ := h4 q
  exact ⟨r, (hF 20 (by decide) (by decide)).trans a, b⟩
theorem BI.num {n : Nat} {B : Nat → Nat} {m t s q : Nat} {I J : am_I} (h : BI n B m t s q I J) {k : Nat} (hk : 3 * m ≤ k) (v : Int32) : BI n B m t s q I (am_up J 58 k v) := by
  obtain ⟨h1, h2, h3, h4, h5, h6, h7, h8⟩ := h
  exact ⟨h1.up (Or.inr (by decide)) v, h2.up (Or.inr (Or.inr ⟨rfl, hk⟩)) v, h3.kept (fun x _ _ => by rw [am_up_a _ _ (by decide)]), by rw [am_up_a _ _ (by decide)]; exact h4, by rw [am_up_a _ _ (by decide)]; exact h5, by rw [am_up_a _ _ (by decide)]; exact h6, by rw [am_up_a _ _ (by decide)]; exact h7, by rw [am_up_a _ _ (by decide)]; exact h8⟩
theorem BI.kt {n : Nat} {B : Nat → Nat} {m t s q q' : Nat} {I J J' : am_I} (h : BI n B m t s q I J) (hK : KT J J') (hN : SN n B q' J') : BI n B m t s q' I J' := by
  obtain ⟨h1, h2, h3, h4, h5, h6, h7, h8⟩ := h
  exact ⟨h1.trans hK.fm, h2.trans hK.st, hN, (hK.2 21 (by decide)).trans h4, (hK.2 26 (by decide)).trans h5, by rw [hK.1 56 (by decide)]; exact h6, by rw [hK.1 57 (by decide)]; exact h7, by rw [hK.1 59 (by decide)]; exact h8⟩
theorem BI.opn {n : Nat} {B : Nat → Nat} {m t s q : Nat} {I J : am_I} (h : BI n B m t s q I J) : FM I (am_up J 44 21 (nI (m + 1))) ∧ stF m I (am_up J 44 21 (nI (m + 1))) ∧ SN n B q (am_up J 44 21 (nI (m + 1))) ∧ (am_up J 44 21 (nI (m + 1))) 44 26 = nI 0 := by
  obtain ⟨h1, h2, h3, h4, h5, h6, h7, h8⟩ := h
  exact ⟨h1.up (Or.inl (by decide)) _, h2.up (Or.inl rfl) _, h3.kept (fun x _ _ => am_up_k _ _ (by omega)), by rw [am_up_k _ _ (by decide)]; exact h5⟩
theorem BI.en {n : Nat} {B : Nat → Nat} {m q : Nat} {I J : am_I} {e : En} (h : BI n B m e.1 e.2.1 q I J) (hE : okE e) (h5 : e.1 = 5 → J 58 (3 * m) = nI e.2.2.1 ∧ J 58 (3 * m + 1) = nI e.2.2.2.1 ∧ J 58 (3 * m + 2) = nI e.2.2.2.2) (h8 : e.1 = 8 → J 58 (3 * m) = nI e.2.2.1) : enX (am_up J 44 21 (nI (m + 1))) m e none := by
  obtain ⟨_, _, _, _, _, g6, g7, g8⟩ := h
  refine ⟨hE, by rw [am_up_a _ _ (by decide)]; exact g6, by rw [am_up_a _ _ (by decide)]; exact g7, ?_, ?_, Or.inl ⟨rfl, by rw [am_up_a _ _ (by decide)]; exact g8⟩⟩
  · rw [am_up_a _ _ (by decide)]; exact h5
  · rw [am_up_a _ _ (by decide)]; exact h8
set_option maxHeartbeats 1000000 in
set_option maxRecDepth 100000 in
theorem c_X8_begin {S : am_S} (hs : sk S) {I : am_I} {n : Nat} {B : Nat → Nat} (hT : tM2 n B I) (hB : okB n B) {Sh : Nat → Option Dw} (hS : ShM Sh I) {p m : Nat} (hp : p ≤ n) (hN : SN n B p I) (hm : m ≤ 8) (h21 : I 44 21 = nI m) (h26 : I 44 26 = nI 0) : am_Mt 4 Y_X8_begin (0, 0) [.ref 44] S I (BX S n B m I (pB n B Sh (8 - m) p)) := by
  have htl := tK_le n B (tS n B p)
  have hsn : tS n B p ≤ n := tS_le hp
  have hpE : tE n B (tS n B p) ≤ n := (tE_ge hsn).2
  have h200 := hB.1
  by_cases ht : tK n B (tS n B p) < 3
  · rw [show pB n B Sh (8 - m) p = .inl (1, tS n B p) from if_pos ht]
    refine am_mt ⟨by decide +kernel, rfl⟩ (Nat.le_of_ble_eq_true rfl) rfl ?_
    refine rn_aload_n dX8_begin_0 rfl rfl ?_
    refine rn_getI dX8_begin_1 fd_8_157 (sk_l hs 44 (by decide)) (sk_k44 hs) rfl ?_
    refine rn_top (y := nI (tK n B (tS n B p))) (hN.2.1) ?_
    refine rn_istore_n (ls' := [some (.ref 44), some (.int (nI (tK n B (tS n B p)))), none, none, none, none]) dX8_begin_4 rfl (by decide) rfl rfl ?_
    refine rn_iload_n dX8_begin_5 rfl rfl ?_
    refine rn_iconst (v := nI 3) dX8_begin_6 (by decide) ?_
    refine rn_icmp_geN (tgt := 12) dX8_begin_7 (by decide) (by omega) (by omega) (fun c_7 => ?_) (fun c_7 => ?_)
    · omega
    · refine rn_iconst (v := nI 1) dX8_begin_10 (by decide) ?_
      refine rn_ireturn dX8_begin_11 rfl (vp_nar_int _) ?_
      exact ⟨rfl, FM.rf, stF.rf, Or.inl ⟨_, rfl, rfl, hN.1⟩⟩
  by_cases ht : tK n B (tS n B p) = 3
  · rw [show pB n B Sh (8 - m) p = bnd (pN n B 1 8 (tE n B (tS n B p))) (fun a => bnd (pN n B 1 8 a.2) (fun b => .inr (.inl ((a.1, b.1, zM), b.2)))) by unfold pB; rw [if_neg (by omega), if_pos ht]]
    rcases hXa : pN n B 1 8 (tE n B (tS n B p)) with e | a
    · refine am_mt ⟨by decide +kernel, rfl⟩ (Nat.le_of_ble_eq_true rfl) rfl ?_
      refine rn_aload_n dX8_begin_0 rfl rfl ?_
      refine rn_getI dX8_begin_1 fd_8_157 (sk_l hs 44 (by decide)) (sk_k44 hs) rfl ?_
      refine rn_top (y := nI 3) (by rw [hN.2.1, ht]) ?_
      refine rn_istore_n (ls' := [some (.ref 44), some (.int (nI 3)), none, none, none, none]) dX8_begin_4 rfl (by decide) rfl rfl ?_
      refine rn_iload_n dX8_begin_5 rfl rfl ?_
      refine rn_iconst (v := nI 3) dX8_begin_6 (by decide) ?_
      refine rn_icmp_geN (tgt := 12) dX8_begin_7 (by decide) (by omega) (by omega) (fun c_7 => ?_) (fun c_7 => ?_)
      · refine rn_iload_n dX8_begin_12 rfl rfl ?_
        refine rn_iconst (v := nI 4) dX8_begin_13 (by decide) ?_
        refine rn_icmp_leN (tgt := 28) dX8_begin_14 (by decide) (by omega) (by omega) (fun c_14 => ?_) (fun c_14 => ?_)
        · refine rn_aload_n dX8_begin_28 rfl rfl ?_
          refine rn_getI dX8_begin_29 fd_8_154 (sk_l hs 44 (by decide)) (sk_k44 hs) rfl ?_
          refine rn_top (y := nI (tS n B p)) (hN.1) ?_
          refine rn_istore_n (ls' := [some (.ref 44), some (.int (nI 3)), some (.int (nI (tS n B p))), none, none, none]) dX8_begin_32 rfl (by decide) rfl rfl ?_
          refine rn_aload_n dX8_begin_33 rfl rfl ?_
          refine rn_callV0 (st := []) dX8_begin_34 cf_8_170 (c_X8_nextToken hs hT hB hpE (hN.2.2.1 (by omega))) (by omega) (sk_l hs 44 (by decide)) (sk_k44 hs) rfl rfl (Nat.le_of_ble_eq_true rfl) (fun r1 S1 I1 hq => ?_)
          obtain ⟨rfl, rfl, hK1, hN1⟩ := hq
          refine rn_iload_n dX8_begin_37 rfl rfl ?_
          refine rn_iconst (v := nI 3) dX8_begin_38 (by decide) ?_
          refine rn_icmp_neN (tgt := 100) dX8_begin_39 (by decide) (by omega) (by omega) (fun c_39 => ?_) (fun c_39 => ?_)
          · exact absurd c_39 (by decide)
          · refine rn_aload_n dX8_begin_42 rfl rfl ?_
            refine rn_getI dX8_begin_43 fd_8_163 (sk_l hs 44 (by decide)) (sk_k44 hs) rfl ?_
            refine rn_istore_n (ls' := [some (.ref 44), some (.int (nI 3)), some (.int (nI (tS n B p))), some (.int (I1 44 20)), none, none]) dX8_begin_46 rfl (by decide) rfl rfl ?_
            refine rn_aload_n dX8_begin_47 rfl rfl ?_
            refine rn_iconst (v := nI 1) dX8_begin_48 (by decide) ?_
            refine rn_bipush (v := nI 8) dX8_begin_49 (by decide) ?_
            refine rn_callV0 (st := []) dX8_begin_51 cf_8_176 (c_X8_take hs (hK1.tm hT) hB hpE hN1 (by decide) (by decide)) (by omega) (sk_l hs 44 (by decide)) (sk_k44 hs) rfl rfl (Nat.le_of_ble_eq_true rfl) (fun r1 S1 I2 hq => ?_)
            obtain ⟨rfl, rfl, rfl, hPl⟩ := hq.l hXa
            have hea := pN_err hXa
            refine rn_istore (ls' := [some (.ref 44), some (.int (nI 3)), some (.int (nI (tS n B p))), some (.int (I1 44 20)), some (.int (nI e.1)), none]) dX8_begin_54 (by decide) rfl rfl ?_
            refine rn_aload_n dX8_begin_56 rfl rfl ?_
            refine rn_getI dX8_begin_57 fd_8_163 (sk_l hs 44 (by decide)) (sk_k44 hs) rfl ?_
            refine rn_istore (ls' := [some (.ref 44), some (.int (nI 3)), some (.int (nI (tS n B p))), some (.int (I1 44 20)), some (.int (nI e.1)), some (.int (I1 44 20))]) dX8_begin_60 (by decide) rfl rfl ?_
            refine rn_iload dX8_begin_62 rfl ?_
            refine rn_if_neN (tgt := 76) dX8_begin_64 (by decide) (by omega) (fun c_64 => ?_) (fun c_64 => ?_)
            · refine rn_iload dX8_begin_76 rfl ?_
              refine rn_if_eqN (tgt := 84) dX8_begin_78 (by decide) (by omega) (fun c_78 => ?_) (fun c_78 => ?_)
              · omega
              · refine rn_iload dX8_begin_81 rfl ?_
                refine rn_ireturn dX8_begin_83 rfl (vp_nar_int _) ?_
                exact ⟨rfl, hK1.fm, hK1.st, Or.inl ⟨e, rfl, rfl, hPl⟩⟩
            · omega
        · exact absurd c_14 (by decide)
      · exact absurd c_7 (by decide)
    · rw [bnd_r]
      rcases hXb : pN n B 1 8 a.2 with e | b
      · refine am_mt ⟨by decide +kernel, rfl⟩ (Nat.le_of_ble_eq_true rfl) rfl ?_
        refine rn_aload_n dX8_begin_0 rfl rfl ?_
        refine rn_getI dX8_begin_1 fd_8_157 (sk_l hs 44 (by decide)) (sk_k44 hs) rfl ?_
        refine rn_top (y := nI 3) (by rw [hN.2.1, ht]) ?_
        refine rn_istore_n (ls' := [some (.ref 44), some (.int (nI 3)), none, none, none, none]) dX8_begin_4 rfl (by decide) rfl rfl ?_
        refine rn_iload_n dX8_begin_5 rfl rfl ?_
        refine rn_iconst (v := nI 3) dX8_begin_6 (by decide) ?_
        refine rn_icmp_geN (tgt := 12) dX8_begin_7 (by decide) (by omega) (by omega) (fun c_7 => ?_) (fun c_7 => ?_)
        · refine rn_iload_n dX8_begin_12 rfl rfl ?_
          refine rn_iconst (v := nI 4) dX8_begin_13 (by decide) ?_
          refine rn_icmp_leN (tgt := 28) dX8_begin_14 (by decide) (by omega) (by omega) (fun c_14 => ?_) (fun c_14 => ?_)
          · refine rn_aload_n dX8_begin_28 rfl rfl ?_
            refine rn_getI dX8_begin_29 fd_8_154 (sk_l hs 44 (by decide)) (sk_k44 hs) rfl ?_
            refine rn_top (y := nI (tS n B p)) (hN.1) ?_
            refine rn_istore_n (ls' := [some (.ref 44), some (.int (nI 3)), some (.int (nI (tS n B p))), none, none, none]) dX8_begin_32 rfl (by decide) rfl rfl ?_
            refine rn_aload_n dX8_begin_33 rfl rfl ?_
            refine rn_callV0 (st := []) dX8_begin_34 cf_8_170 (c_X8_nextToken hs hT hB hpE (hN.2.2.1 (by omega))) (by omega) (sk_l hs 44 (by decide)) (sk_k44 hs) rfl rfl (Nat.le_of_ble_eq_true rfl) (fun r1 S1 I1 hq => ?_)
            obtain ⟨rfl, rfl, hK1, hN1⟩ := hq
            refine rn_iload_n dX8_begin_37 rfl rfl ?_
            refine rn_iconst (v := nI 3) dX8_begin_38 (by decide) ?_
            refine rn_icmp_neN (tgt := 100) dX8_begin_39 (by decide) (by omega) (by omega) (fun c_39 => ?_) (fun c_39 => ?_)
            · exact absurd c_39 (by decide)
            · refine rn_aload_n dX8_begin_42 rfl rfl ?_
              refine rn_getI dX8_begin_43 fd_8_163 (sk_l hs 44 (by decide)) (sk_k44 hs) rfl ?_
              refine rn_istore_n (ls' := [some (.ref 44), some (.int (nI 3)), some (.int (nI (tS n B p))), some (.int (I1 44 20)), none, none]) dX8_begin_46 rfl (by decide) rfl rfl ?_
              refine rn_aload_n dX8_begin_47 rfl rfl ?_
              refine rn_iconst (v := nI 1) dX8_begin_48 (by decide) ?_
              refine rn_bipush (v := nI 8) dX8_begin_49 (by decide) ?_
              refine rn_callV0 (st := []) dX8_begin_51 cf_8_176 (c_X8_take hs (hK1.tm hT) hB hpE hN1 (by decide) (by decide)) (by omega) (sk_l hs 44 (by decide)) (sk_k44 hs) rfl rfl (Nat.le_of_ble_eq_true rfl) (fun r1 S1 I2 hq => ?_)
              obtain ⟨rfl, rfl, hK2, hN2, hva⟩ := hq.r hXa
              have hPa := pN_pos n B hpE hXa
              refine rn_istore (ls' := [some (.ref 44), some (.int (nI 3)), some (.int (nI (tS n B p))), some (.int (I1 44 20)), some (.int (nI 0)), none]) dX8_begin_54 (by decide) rfl rfl ?_
              refine rn_aload_n dX8_begin_56 rfl rfl ?_
              refine rn_getI dX8_begin_57 fd_8_163 (sk_l hs 44 (by decide)) (sk_k44 hs) rfl ?_
              refine rn_istore (ls' := [some (.ref 44), some (.int (nI 3)), some (.int (nI (tS n B p))), some (.int (I1 44 20)), some (.int (nI 0)), some (.int (I2 44 20))]) dX8_begin_60 (by decide) rfl rfl ?_
              refine rn_iload dX8_begin_62 rfl ?_
              refine rn_if_neN (tgt := 76) dX8_begin_64 (by decide) (by omega) (fun c_64 => ?_) (fun c_64 => ?_)
              · exact absurd c_64 (by decide)
              · refine rn_aload_n dX8_begin_67 rfl rfl ?_
                refine rn_iconst (v := nI 1) dX8_begin_68 (by decide) ?_
                refine rn_bipush (v := nI 8) dX8_begin_69 (by decide) ?_
                refine rn_callV0 (st := []) dX8_begin_71 cf_8_179 (c_X8_takeLast hs (hK2.tm (hK1.tm hT)) hB hPa.1.2 hN2 (by decide) (by decide)) (by omega) (sk_l hs 44 (by decide)) (sk_k44 hs) rfl rfl (Nat.le_of_ble_eq_true rfl) (fun r1 S1 I3 hq => ?_)
                obtain ⟨rfl, rfl, rfl, hPl⟩ := hq.l hXb
                have hea := pN_err hXb
                refine rn_istore (ls' := [some (.ref 44), some (.int (nI 3)), some (.int (nI (tS n B p))), some (.int (I1 44 20)), some (.int (nI e.1)), some (.int (I2 44 20))]) dX8_begin_74 (by decide) rfl rfl ?_
                refine rn_iload dX8_begin_76 rfl ?_
                refine rn_if_eqN (tgt := 84) dX8_begin_78 (by decide) (by omega) (fun c_78 => ?_) (fun c_78 => ?_)
                · omega
                · refine rn_iload dX8_begin_81 rfl ?_
                  refine rn_ireturn dX8_begin_83 rfl (vp_nar_int _) ?_
                  exact ⟨rfl, hK1.fm.trans hK2.fm, hK1.st.trans hK2.st, Or.inl ⟨e, rfl, rfl, hPl⟩⟩
          · exact absurd c_14 (by decide)
        · exact absurd c_7 (by decide)
      · refine am_mt ⟨by decide +kernel, rfl⟩ (Nat.le_of_ble_eq_true rfl) rfl ?_
        refine rn_aload_n dX8_begin_0 rfl rfl ?_
        refine rn_getI dX8_begin_1 fd_8_157 (sk_l hs 44 (by decide)) (sk_k44 hs) rfl ?_
        refine rn_top (y := nI 3) (by rw [hN.2.1, ht]) ?_
        refine rn_istore_n (ls' := [some (.ref 44), some (.int (nI 3)), none, none, none, none]) dX8_begin_4 rfl (by decide) rfl rfl ?_
        refine rn_iload_n dX8_begin_5 rfl rfl ?_
        refine rn_iconst (v := nI 3) dX8_begin_6 (by decide) ?_
        refine rn_icmp_geN (tgt := 12) dX8_begin_7 (by decide) (by omega) (by omega) (fun c_7 => ?_) (fun c_7 => ?_)
        · refine rn_iload_n dX8_begin_12 rfl rfl ?_
          refine rn_iconst (v := nI 4) dX8_begin_13 (by decide) ?_
          refine rn_icmp_leN (tgt := 28) dX8_begin_14 (by decide) (by omega) (by omega) (fun c_14 => ?_) (fun c_14 => ?_)
          · refine rn_aload_n dX8_begin_28 rfl rfl ?_
            refine rn_getI dX8_begin_29 fd_8_154 (sk_l hs 44 (by decide)) (sk_k44 hs) rfl ?_
            refine rn_top (y := nI (tS n B p)) (hN.1) ?_
            refine rn_istore_n (ls' := [some (.ref 44), some (.int (nI 3)), some (.int (nI (tS n B p))), none, none, none]) dX8_begin_32 rfl (by decide) rfl rfl ?_
            refine rn_aload_n dX8_begin_33 rfl rfl ?_
            refine rn_callV0 (st := []) dX8_begin_34 cf_8_170 (c_X8_nextToken hs hT hB hpE (hN.2.2.1 (by omega))) (by omega) (sk_l hs 44 (by decide)) (sk_k44 hs) rfl rfl (Nat.le_of_ble_eq_true rfl) (fun r1 S1 I1 hq => ?_)
            obtain ⟨rfl, rfl, hK1, hN1⟩ := hq
            refine rn_iload_n dX8_begin_37 rfl rfl ?_
            refine rn_iconst (v := nI 3) dX8_begin_38 (by decide) ?_
            refine rn_icmp_neN (tgt := 100) dX8_begin_39 (by decide) (by omega) (by omega) (fun c_39 => ?_) (fun c_39 => ?_)
            · exact absurd c_39 (by decide)
            · refine rn_aload_n dX8_begin_42 rfl rfl ?_
              refine rn_getI dX8_begin_43 fd_8_163 (sk_l hs 44 (by decide)) (sk_k44 hs) rfl ?_
              refine rn_istore_n (ls' := [some (.ref 44), some (.int (nI 3)), some (.int (nI (tS n B p))), some (.int (I1 44 20)), none, none]) dX8_begin_46 rfl (by decide) rfl rfl ?_
              refine rn_aload_n dX8_begin_47 rfl rfl ?_
              refine rn_iconst (v := nI 1) dX8_begin_48 (by decide) ?_
              refine rn_bipush (v := nI 8) dX8_begin_49 (by decide) ?_
              refine rn_callV0 (st := []) dX8_begin_51 cf_8_176 (c_X8_take hs (hK1.tm hT) hB hpE hN1 (by decide) (by decide)) (by omega) (sk_l hs 44 (by decide)) (sk_k44 hs) rfl rfl (Nat.le_of_ble_eq_true rfl) (fun r1 S1 I2 hq => ?_)
              obtain ⟨rfl, rfl, hK2, hN2, hva⟩ := hq.r hXa
              have hPa := pN_pos n B hpE hXa
              refine rn_istore (ls' := [some (.ref 44), some (.int (nI 3)), some (.int (nI (tS n B p))), some (.int (I1 44 20)), some (.int (nI 0)), none]) dX8_begin_54 (by decide) rfl rfl ?_
              refine rn_aload_n dX8_begin_56 rfl rfl ?_
              refine rn_getI dX8_begin_57 fd_8_163 (sk_l hs 44 (by decide)) (sk_k44 hs) rfl ?_
              refine rn_istore (ls' := [some (.ref 44), some (.int (nI 3)), some (.int (nI (tS n B p))), some (.int (I1 44 20)), some (.int (nI 0)), some (.int (I2 44 20))]) dX8_begin_60 (by decide) rfl rfl ?_
              refine rn_iload dX8_begin_62 rfl ?_
              refine rn_if_neN (tgt := 76) dX8_begin_64 (by decide) (by omega) (fun c_64 => ?_) (fun c_64 => ?_)
              · exact absurd c_64 (by decide)
              · refine rn_aload_n dX8_begin_67 rfl rfl ?_
                refine rn_iconst (v := nI 1) dX8_begin_68 (by decide) ?_
                refine rn_bipush (v := nI 8) dX8_begin_69 (by decide) ?_
                refine rn_callV0 (st := []) dX8_begin_71 cf_8_179 (c_X8_takeLast hs (hK2.tm (hK1.tm hT)) hB hPa.1.2 hN2 (by decide) (by decide)) (by omega) (sk_l hs 44 (by decide)) (sk_k44 hs) rfl rfl (Nat.le_of_ble_eq_true rfl) (fun r1 S1 I3 hq => ?_)
                obtain ⟨rfl, rfl, rfl, hvb, h17b⟩ := hq.r hXb
                refine rn_istore (ls' := [some (.ref 44), some (.int (nI 3)), some (.int (nI (tS n B p))), some (.int (I1 44 20)), some (.int (nI 0)), some (.int (I2 44 20))]) dX8_begin_74 (by decide) rfl rfl ?_
                refine rn_iload dX8_begin_76 rfl ?_
                refine rn_if_eqN (tgt := 84) dX8_begin_78 (by decide) (by omega) (fun c_78 => ?_) (fun c_78 => ?_)
                · refine rn_aload_n dX8_begin_84 rfl rfl ?_
                  refine rn_bipush (v := nI 18) dX8_begin_85 (by decide) ?_
                  refine rn_iload_n dX8_begin_87 rfl rfl ?_
                  refine rn_top (y := nI a.1) (hva) ?_
                  refine rn_iload dX8_begin_88 rfl ?_
                  refine rn_top (y := nI b.1) (hvb) ?_
                  refine rn_callV0 (st := []) dX8_begin_90 cf_8_132 (m_plainD hs (g := 18) (by decide)) (by omega) (sk_l hs 44 (by decide)) (sk_k44 hs) rfl rfl (Nat.le_of_ble_eq_true rfl) (fun r1 S1 I4 hq => ?_)
                  obtain ⟨rfl, rfl, hD4, hF4⟩ := hq
                  refine rn_aload_n dX8_begin_93 rfl rfl ?_
                  refine rn_iconst (v := nI 1) dX8_begin_94 (by decide) ?_
                  refine rn_putI dX8_begin_95 fd_8_182 (sk_l hs 44 (by decide)) (sk_k44 hs) rfl rfl (by decide) (by decide) ?_
                  refine rn_iconst (v := nI 0) dX8_begin_98 (by decide) ?_
                  refine rn_ireturn dX8_begin_99 rfl (vp_nar_int _) ?_
                  have e44 : I4 44 = I2 44 := hF4.1 44 (by decide) (by decide) (by decide)
                  refine ⟨rfl, ((hK1.fm.trans hK2.fm).trans (GF.fm (GF.rf.s18 hF4))).up (Or.inl (by decide)) _, ((hK1.st.trans hK2.st).trans (GF.st (GF.rf.s18 hF4) (by omega))).up (Or.inl rfl) _, Or.inr (Or.inl ⟨_, _, rfl, rfl, hD4.up (Or.inl (by decide)) _, by rw [am_up_at], ?_, ?_⟩)⟩
                  · rw [am_up_k _ _ (by decide), e44, hK2.2 21 (by decide), hK1.2 21 (by decide)]; exact h21
                  · rw [am_up_k _ _ (by decide), e44]; exact h17b
                · exact absurd c_78 (by decide)
          · exact absurd c_14 (by decide)
        · exact absurd c_7 (by decide)
  by_cases ht4 : tK n B (tS n B p) = 4
  · rw [show pB n B Sh (8 - m) p = bnd (pN n B 0 7 (tE n B (tS n B p))) (fun a => match Sh a.1 with
      | none => .inl (2, tS n B (tE n B (tS n B p)))
      | some D => .inr (.inl (D, a.2))) by unfold pB; rw [if_neg (by omega), if_neg ht, if_pos ht4]; first | rfl | (congr 1; funext a; cases Sh a.1 <;> rfl)]
    have htl2 := tK_le n B (tS n B (tE n B (tS n B p)))
    by_cases hk : tK n B (tS n B (tE n B (tS n B p))) = 1
    · by_cases hr : 0 ≤ tN n B (tS n B (tE n B (tS n B p))) ∧ tN n B (tS n B (tE n B (tS n B p))) ≤ 7
      · rw [show pN n B 0 7 (tE n B (tS n B p)) = .inr (tN n B (tS n B (tE n B (tS n B p))), tE n B (tS n B (tE n B (tS n B p)))) from (if_pos hk).trans (if_pos hr), bnd_r]
        rcases hSD : Sh (tN n B (tS n B (tE n B (tS n B p)))) with _ | D
        · refine am_mt ⟨by decide +kernel, rfl⟩ (Nat.le_of_ble_eq_true rfl) rfl ?_
          refine rn_aload_n dX8_begin_0 rfl rfl ?_
          refine rn_getI dX8_begin_1 fd_8_157 (sk_l hs 44 (by decide)) (sk_k44 hs) rfl ?_
          refine rn_top (y := nI 4) (by rw [hN.2.1, ht4]) ?_
          refine rn_istore_n (ls' := [some (.ref 44), some (.int (nI 4)), none, none, none, none]) dX8_begin_4 rfl (by decide) rfl rfl ?_
          refine rn_iload_n dX8_begin_5 rfl rfl ?_
          refine rn_iconst (v := nI 3) dX8_begin_6 (by decide) ?_
          refine rn_icmp_geN (tgt := 12) dX8_begin_7 (by decide) (by omega) (by omega) (fun c_7 => ?_) (fun c_7 => ?_)
          · refine rn_iload_n dX8_begin_12 rfl rfl ?_
            refine rn_iconst (v := nI 4) dX8_begin_13 (by decide) ?_
            refine rn_icmp_leN (tgt := 28) dX8_begin_14 (by decide) (by omega) (by omega) (fun c_14 => ?_) (fun c_14 => ?_)
            · refine rn_aload_n dX8_begin_28 rfl rfl ?_
              refine rn_getI dX8_begin_29 fd_8_154 (sk_l hs 44 (by decide)) (sk_k44 hs) rfl ?_
              refine rn_top (y := nI (tS n B p)) (hN.1) ?_
              refine rn_istore_n (ls' := [some (.ref 44), some (.int (nI 4)), some (.int (nI (tS n B p))), none, none, none]) dX8_begin_32 rfl (by decide) rfl rfl ?_
              refine rn_aload_n dX8_begin_33 rfl rfl ?_
              refine rn_callV0 (st := []) dX8_begin_34 cf_8_170 (c_X8_nextToken hs hT hB hpE (hN.2.2.1 (by omega))) (by omega) (sk_l hs 44 (by decide)) (sk_k44 hs) rfl rfl (Nat.le_of_ble_eq_true rfl) (fun r1 S1 I1 hq => ?_)
              obtain ⟨rfl, rfl, hK1, hN1⟩ := hq
              refine rn_iload_n dX8_begin_37 rfl rfl ?_
              refine rn_iconst (v := nI 3) dX8_begin_38 (by decide) ?_
              refine rn_icmp_neN (tgt := 100) dX8_begin_39 (by decide) (by omega) (by omega) (fun c_39 => ?_) (fun c_39 => ?_)
              · refine rn_iload_n dX8_begin_100 rfl rfl ?_
                refine rn_iconst (v := nI 4) dX8_begin_101 (by decide) ?_
                refine rn_icmp_neN (tgt := 163) dX8_begin_102 (by decide) (by omega) (by omega) (fun c_102 => ?_) (fun c_102 => ?_)
                · exact absurd c_102 (by decide)
                · obtain ⟨r9, h20, hr4, hcap⟩ := hN1.2.2.2 hk
                  have hci := cap_in (lo := 0) (hi := 7) hcap (by decide)
                  have er9 := hci.2 hr.2
                  rw [← er9] at hSD
                  have hg9 : I1 45 (1 + r9) = nI 0 := by
                    rcases hS.1 r9 (by omega) with ⟨q1, _⟩ | ⟨D9, q1, _⟩
                    · rw [hK1.1 45 (by decide)]; exact q1
                    · rw [hSD] at q1; exact absurd q1 (by simp)
                  refine rn_aload_n dX8_begin_105 rfl rfl ?_
                  refine rn_getI dX8_begin_106 fd_8_157 (sk_l hs 44 (by decide)) (sk_k44 hs) rfl ?_
                  refine rn_top (y := nI 1) (by rw [hN1.2.1, hk]) ?_
                  refine rn_iconst (v := nI 1) dX8_begin_109 (by decide) ?_
                  refine rn_icmp_eqN (tgt := 115) dX8_begin_110 (by decide) (by omega) (by omega) (fun c_110 => ?_) (fun c_110 => ?_)
                  · refine rn_aload_n dX8_begin_115 rfl rfl ?_
                    refine rn_getI dX8_begin_116 fd_8_163 (sk_l hs 44 (by decide)) (sk_k44 hs) rfl ?_
                    refine rn_top (y := nI r9) (h20) ?_
                    refine rn_iconst (v := nI 0) dX8_begin_119 (by decide) ?_
                    refine rn_bipush (v := nI 7) dX8_begin_120 (by decide) ?_
                    refine rn_callSq (st := []) dX8_begin_122 cf_8_70 (m_isInN _ _ (by omega) (by omega) (by omega)) (by omega) rfl rfl (Nat.le_of_ble_eq_true rfl) ?_
                    refine rn_if_eqB (tgt := 142) dX8_begin_125 (by decide) (fun c_125 => ?_) (fun c_125 => ?_)
                    · exact absurd (hci.1.mp hr) (of_decide_eq_false c_125)
                    · refine rn_aload_n dX8_begin_128 rfl rfl ?_
                      refine rn_getR (r := 45) dX8_begin_129 fd_8_7 (sk_l hs 44 (by decide)) (sk_k44 hs) rfl (sk_r44_0 hs) ?_
                      refine rn_iconst (v := nI 1) dX8_begin_132 (by decide) ?_
                      refine rn_aload_n dX8_begin_133 rfl rfl ?_
                      refine rn_getI dX8_begin_134 fd_8_163 (sk_l hs 44 (by decide)) (sk_k44 hs) rfl ?_
                      refine rn_top (y := nI r9) (h20) ?_
                      refine rn_iadd dX8_begin_137 ?_
                      refine rn_top (nI_add _ _) ?_
                      refine rn_ialoadN dX8_begin_138 (sk_l hs 45 (by decide)) (sk_k45 hs) (by omega) (by omega) ?_
                      refine rn_top (y := nI 0) (hg9) ?_
                      refine rn_if_neN (tgt := 144) dX8_begin_139 (by decide) (by omega) (fun c_139 => ?_) (fun c_139 => ?_)
                      · exact absurd c_139 (by decide)
                      · refine rn_iconst (v := nI 2) dX8_begin_142 (by decide) ?_
                        refine rn_ireturn dX8_begin_143 rfl (vp_nar_int _) ?_
                        exact ⟨rfl, hK1.fm, hK1.st, Or.inl ⟨_, rfl, rfl, hN1.1⟩⟩
                  · exact absurd c_110 (by decide)
              · exact absurd c_39 (by decide)
            · exact absurd c_14 (by decide)
          · exact absurd c_7 (by decide)
        · refine am_mt ⟨by decide +kernel, rfl⟩ (Nat.le_of_ble_eq_true rfl) rfl ?_
          refine rn_aload_n dX8_begin_0 rfl rfl ?_
          refine rn_getI dX8_begin_1 fd_8_157 (sk_l hs 44 (by decide)) (sk_k44 hs) rfl ?_
          refine rn_top (y := nI 4) (by rw [hN.2.1, ht4]) ?_
          refine rn_istore_n (ls' := [some (.ref 44), some (.int (nI 4)), none, none, none, none]) dX8_begin_4 rfl (by decide) rfl rfl ?_
          refine rn_iload_n dX8_begin_5 rfl rfl ?_
          refine rn_iconst (v := nI 3) dX8_begin_6 (by decide) ?_
          refine rn_icmp_geN (tgt := 12) dX8_begin_7 (by decide) (by omega) (by omega) (fun c_7 => ?_) (fun c_7 => ?_)
          · refine rn_iload_n dX8_begin_12 rfl rfl ?_
            refine rn_iconst (v := nI 4) dX8_begin_13 (by decide) ?_
            refine rn_icmp_leN (tgt := 28) dX8_begin_14 (by decide) (by omega) (by omega) (fun c_14 => ?_) (fun c_14 => ?_)
            · refine rn_aload_n dX8_begin_28 rfl rfl ?_
              refine rn_getI dX8_begin_29 fd_8_154 (sk_l hs 44 (by decide)) (sk_k44 hs) rfl ?_
              refine rn_top (y := nI (tS n B p)) (hN.1) ?_
              refine rn_istore_n (ls' := [some (.ref 44), some (.int (nI 4)), some (.int (nI (tS n B p))), none, none, none]) dX8_begin_32 rfl (by decide) rfl rfl ?_
              refine rn_aload_n dX8_begin_33 rfl rfl ?_
              refine rn_callV0 (st := []) dX8_begin_34 cf_8_170 (c_X8_nextToken hs hT hB hpE (hN.2.2.1 (by omega))) (by omega) (sk_l hs 44 (by decide)) (sk_k44 hs) rfl rfl (Nat.le_of_ble_eq_true rfl) (fun r1 S1 I1 hq => ?_)
              obtain ⟨rfl, rfl, hK1, hN1⟩ := hq
              refine rn_iload_n dX8_begin_37 rfl rfl ?_
              refine rn_iconst (v := nI 3) dX8_begin_38 (by decide) ?_
              refine rn_icmp_neN (tgt := 100) dX8_begin_39 (by decide) (by omega) (by omega) (fun c_39 => ?_) (fun c_39 => ?_)
              · refine rn_iload_n dX8_begin_100 rfl rfl ?_
                refine rn_iconst (v := nI 4) dX8_begin_101 (by decide) ?_
                refine rn_icmp_neN (tgt := 163) dX8_begin_102 (by decide) (by omega) (by omega) (fun c_102 => ?_) (fun c_102 => ?_)
                · exact absurd c_102 (by decide)
                · obtain ⟨r9, h20, hr4, hcap⟩ := hN1.2.2.2 hk
                  have hci := cap_in (lo := 0) (hi := 7) hcap (by decide)
                  have er9 := hci.2 hr.2
                  rw [← er9] at hSD
                  have hoD := hS.2 _ _ hSD
                  have hgD : grD I (1 + r9) D := by
                    rcases hS.1 r9 (by omega) with ⟨_, q1⟩ | ⟨D9, q1, q2⟩
                    · rw [hSD] at q1; exact absurd q1 (by simp)
                    · rw [hSD] at q1; rw [Option.some.inj q1]; exact q2
                  have hw9 : I1 45 (1 + r9) = nI D.1 := by rw [hK1.1 45 (by decide)]; exact hgD.1
                  have hw1 := hoD.1.1
                  have hw8 := hoD.1.2
                  refine rn_aload_n dX8_begin_105 rfl rfl ?_
                  refine rn_getI dX8_begin_106 fd_8_157 (sk_l hs 44 (by decide)) (sk_k44 hs) rfl ?_
                  refine rn_top (y := nI 1) (by rw [hN1.2.1, hk]) ?_
                  refine rn_iconst (v := nI 1) dX8_begin_109 (by decide) ?_
                  refine rn_icmp_eqN (tgt := 115) dX8_begin_110 (by decide) (by omega) (by omega) (fun c_110 => ?_) (fun c_110 => ?_)
                  · refine rn_aload_n dX8_begin_115 rfl rfl ?_
                    refine rn_getI dX8_begin_116 fd_8_163 (sk_l hs 44 (by decide)) (sk_k44 hs) rfl ?_
                    refine rn_top (y := nI r9) (h20) ?_
                    refine rn_iconst (v := nI 0) dX8_begin_119 (by decide) ?_
                    refine rn_bipush (v := nI 7) dX8_begin_120 (by decide) ?_
                    refine rn_callSq (st := []) dX8_begin_122 cf_8_70 (m_isInN _ _ (by omega) (by omega) (by omega)) (by omega) rfl rfl (Nat.le_of_ble_eq_true rfl) ?_
                    refine rn_if_eqB (tgt := 142) dX8_begin_125 (by decide) (fun c_125 => ?_) (fun c_125 => ?_)
                    · exact absurd (hci.1.mp hr) (of_decide_eq_false c_125)
                    · refine rn_aload_n dX8_begin_128 rfl rfl ?_
                      refine rn_getR (r := 45) dX8_begin_129 fd_8_7 (sk_l hs 44 (by decide)) (sk_k44 hs) rfl (sk_r44_0 hs) ?_
                      refine rn_iconst (v := nI 1) dX8_begin_132 (by decide) ?_
                      refine rn_aload_n dX8_begin_133 rfl rfl ?_
                      refine rn_getI dX8_begin_134 fd_8_163 (sk_l hs 44 (by decide)) (sk_k44 hs) rfl ?_
                      refine rn_top (y := nI r9) (h20) ?_
                      refine rn_iadd dX8_begin_137 ?_
                      refine rn_top (nI_add _ _) ?_
                      refine rn_ialoadN dX8_begin_138 (sk_l hs 45 (by decide)) (sk_k45 hs) (by omega) (by omega) ?_
                      refine rn_top (y := nI D.1) (hw9) ?_
                      refine rn_if_neN (tgt := 144) dX8_begin_139 (by decide) (by omega) (fun c_139 => ?_) (fun c_139 => ?_)
                      · refine rn_aload_n dX8_begin_144 rfl rfl ?_
                        refine rn_iconst (v := nI 1) dX8_begin_145 (by decide) ?_
                        refine rn_aload_n dX8_begin_146 rfl rfl ?_
                        refine rn_getI dX8_begin_147 fd_8_163 (sk_l hs 44 (by decide)) (sk_k44 hs) rfl ?_
                        refine rn_top (y := nI r9) (h20) ?_
                        refine rn_iadd dX8_begin_150 ?_
                        refine rn_top (nI_add _ _) ?_
                        refine rn_bipush (v := nI 18) dX8_begin_151 (by decide) ?_
                        refine rn_callV0 (st := []) dX8_begin_153 cf_8_128 (m_copyD hs (f := 1 + r9) (g := 18) (by omega) (by decide) (by omega) (hS.2 _ _ hSD) (hgD.same (hK1.fm.2.2 (1 + r9) (by omega)))) (by omega) (sk_l hs 44 (by decide)) (sk_k44 hs) rfl rfl (Nat.le_of_ble_eq_true rfl) (fun r1 S1 I2 hq => ?_)
                        obtain ⟨rfl, rfl, hD2, hF2⟩ := hq
                        refine rn_aload_n dX8_begin_156 rfl rfl ?_
                        refine rn_iconst (v := nI 1) dX8_begin_157 (by decide) ?_
                        refine rn_putI dX8_begin_158 fd_8_182 (sk_l hs 44 (by decide)) (sk_k44 hs) rfl rfl (by decide) (by decide) ?_
                        refine rn_iconst (v := nI 0) dX8_begin_161 (by decide) ?_
                        refine rn_ireturn dX8_begin_162 rfl (vp_nar_int _) ?_
                        have e44 : I2 44 = I1 44 := hF2.1 44 (by decide) (by decide) (by decide)
                        refine ⟨rfl, (hK1.fm.trans (GF.fm (GF.rf.s18 hF2))).up (Or.inl (by decide)) _, (hK1.st.trans (GF.st (GF.rf.s18 hF2) (by omega))).up (Or.inl rfl) _, Or.inr (Or.inl ⟨D, _, rfl, rfl, hD2.up (Or.inl (by decide)) _, by rw [am_up_at], ?_, ?_⟩)⟩
                        · rw [am_up_k _ _ (by decide), e44, hK1.2 21 (by decide)]; exact h21
                        · rw [am_up_k _ _ (by decide), e44]; exact hN1.2.2.1 (by omega)
                      · omega
                  · exact absurd c_110 (by decide)
              · exact absurd c_39 (by decide)
            · exact absurd c_14 (by decide)
          · exact absurd c_7 (by decide)
      · rw [show pN n B 0 7 (tE n B (tS n B p)) = .inl (2, tS n B (tE n B (tS n B p))) from (if_pos hk).trans (if_neg hr), bnd_l]
        refine am_mt ⟨by decide +kernel, rfl⟩ (Nat.le_of_ble_eq_true rfl) rfl ?_
        refine rn_aload_n dX8_begin_0 rfl rfl ?_
        refine rn_getI dX8_begin_1 fd_8_157 (sk_l hs 44 (by decide)) (sk_k44 hs) rfl ?_
        refine rn_top (y := nI 4) (by rw [hN.2.1, ht4]) ?_
        refine rn_istore_n (ls' := [some (.ref 44), some (.int (nI 4)), none, none, none, none]) dX8_begin_4 rfl (by decide) rfl rfl ?_
        refine rn_iload_n dX8_begin_5 rfl rfl ?_
        refine rn_iconst (v := nI 3) dX8_begin_6 (by decide) ?_
        refine rn_icmp_geN (tgt := 12) dX8_begin_7 (by decide) (by omega) (by omega) (fun c_7 => ?_) (fun c_7 => ?_)
        · refine rn_iload_n dX8_begin_12 rfl rfl ?_
          refine rn_iconst (v := nI 4) dX8_begin_13 (by decide) ?_
          refine rn_icmp_leN (tgt := 28) dX8_begin_14 (by decide) (by omega) (by omega) (fun c_14 => ?_) (fun c_14 => ?_)
          · refine rn_aload_n dX8_begin_28 rfl rfl ?_
            refine rn_getI dX8_begin_29 fd_8_154 (sk_l hs 44 (by decide)) (sk_k44 hs) rfl ?_
            refine rn_top (y := nI (tS n B p)) (hN.1) ?_
            refine rn_istore_n (ls' := [some (.ref 44), some (.int (nI 4)), some (.int (nI (tS n B p))), none, none, none]) dX8_begin_32 rfl (by decide) rfl rfl ?_
            refine rn_aload_n dX8_begin_33 rfl rfl ?_
            refine rn_callV0 (st := []) dX8_begin_34 cf_8_170 (c_X8_nextToken hs hT hB hpE (hN.2.2.1 (by omega))) (by omega) (sk_l hs 44 (by decide)) (sk_k44 hs) rfl rfl (Nat.le_of_ble_eq_true rfl) (fun r1 S1 I1 hq => ?_)
            obtain ⟨rfl, rfl, hK1, hN1⟩ := hq
            refine rn_iload_n dX8_begin_37 rfl rfl ?_
            refine rn_iconst (v := nI 3) dX8_begin_38 (by decide) ?_
            refine rn_icmp_neN (tgt := 100) dX8_begin_39 (by decide) (by omega) (by omega) (fun c_39 => ?_) (fun c_39 => ?_)
            · refine rn_iload_n dX8_begin_100 rfl rfl ?_
              refine rn_iconst (v := nI 4) dX8_begin_101 (by decide) ?_
              refine rn_icmp_neN (tgt := 163) dX8_begin_102 (by decide) (by omega) (by omega) (fun c_102 => ?_) (fun c_102 => ?_)
              · exact absurd c_102 (by decide)
              · obtain ⟨r9, h20, hr4, hcap⟩ := hN1.2.2.2 hk
                have hci := cap_in (lo := 0) (hi := 7) hcap (by decide)
                refine rn_aload_n dX8_begin_105 rfl rfl ?_
                refine rn_getI dX8_begin_106 fd_8_157 (sk_l hs 44 (by decide)) (sk_k44 hs) rfl ?_
                refine rn_top (y := nI 1) (by rw [hN1.2.1, hk]) ?_
                refine rn_iconst (v := nI 1) dX8_begin_109 (by decide) ?_
                refine rn_icmp_eqN (tgt := 115) dX8_begin_110 (by decide) (by omega) (by omega) (fun c_110 => ?_) (fun c_110 => ?_)
                · refine rn_aload_n dX8_begin_115 rfl rfl ?_
                  refine rn_getI dX8_begin_116 fd_8_163 (sk_l hs 44 (by decide)) (sk_k44 hs) rfl ?_
                  refine rn_top (y := nI r9) (h20) ?_
                  refine rn_iconst (v := nI 0) dX8_begin_119 (by decide) ?_
                  refine rn_bipush (v := nI 7) dX8_begin_120 (by decide) ?_
                  refine rn_callSq (st := []) dX8_begin_122 cf_8_70 (m_isInN _ _ (by omega) (by omega) (by omega)) (by omega) rfl rfl (Nat.le_of_ble_eq_true rfl) ?_
                  refine rn_if_eqB (tgt := 142) dX8_begin_125 (by decide) (fun c_125 => ?_) (fun c_125 => ?_)
                  · refine rn_iconst (v := nI 2) dX8_begin_142 (by decide) ?_
                    refine rn_ireturn dX8_begin_143 rfl (vp_nar_int _) ?_
                    exact ⟨rfl, hK1.fm, hK1.st, Or.inl ⟨_, rfl, rfl, hN1.1⟩⟩
                  · exact absurd (hci.1.mpr (of_decide_eq_true c_125)) hr
                · exact absurd c_110 (by decide)
            · exact absurd c_39 (by decide)
          · exact absurd c_14 (by decide)
        · exact absurd c_7 (by decide)
    · rw [show pN n B 0 7 (tE n B (tS n B p)) = .inl (1, tS n B (tE n B (tS n B p))) from if_neg hk, bnd_l]
      refine am_mt ⟨by decide +kernel, rfl⟩ (Nat.le_of_ble_eq_true rfl) rfl ?_
      refine rn_aload_n dX8_begin_0 rfl rfl ?_
      refine rn_getI dX8_begin_1 fd_8_157 (sk_l hs 44 (by decide)) (sk_k44 hs) rfl ?_
      refine rn_top (y := nI 4) (by rw [hN.2.1, ht4]) ?_
      refine rn_istore_n (ls' := [some (.ref 44), some (.int (nI 4)), none, none, none, none]) dX8_begin_4 rfl (by decide) rfl rfl ?_
      refine rn_iload_n dX8_begin_5 rfl rfl ?_
      refine rn_iconst (v := nI 3) dX8_begin_6 (by decide) ?_
      refine rn_icmp_geN (tgt := 12) dX8_begin_7 (by decide) (by omega) (by omega) (fun c_7 => ?_) (fun c_7 => ?_)
      · refine rn_iload_n dX8_begin_12 rfl rfl ?_
        refine rn_iconst (v := nI 4) dX8_begin_13 (by decide) ?_
        refine rn_icmp_leN (tgt := 28) dX8_begin_14 (by decide) (by omega) (by omega) (fun c_14 => ?_) (fun c_14 => ?_)
        · refine rn_aload_n dX8_begin_28 rfl rfl ?_
          refine rn_getI dX8_begin_29 fd_8_154 (sk_l hs 44 (by decide)) (sk_k44 hs) rfl ?_
          refine rn_top (y := nI (tS n B p)) (hN.1) ?_
          refine rn_istore_n (ls' := [some (.ref 44), some (.int (nI 4)), some (.int (nI (tS n B p))), none, none, none]) dX8_begin_32 rfl (by decide) rfl rfl ?_
          refine rn_aload_n dX8_begin_33 rfl rfl ?_
          refine rn_callV0 (st := []) dX8_begin_34 cf_8_170 (c_X8_nextToken hs hT hB hpE (hN.2.2.1 (by omega))) (by omega) (sk_l hs 44 (by decide)) (sk_k44 hs) rfl rfl (Nat.le_of_ble_eq_true rfl) (fun r1 S1 I1 hq => ?_)
          obtain ⟨rfl, rfl, hK1, hN1⟩ := hq
          refine rn_iload_n dX8_begin_37 rfl rfl ?_
          refine rn_iconst (v := nI 3) dX8_begin_38 (by decide) ?_
          refine rn_icmp_neN (tgt := 100) dX8_begin_39 (by decide) (by omega) (by omega) (fun c_39 => ?_) (fun c_39 => ?_)
          · refine rn_iload_n dX8_begin_100 rfl rfl ?_
            refine rn_iconst (v := nI 4) dX8_begin_101 (by decide) ?_
            refine rn_icmp_neN (tgt := 163) dX8_begin_102 (by decide) (by omega) (by omega) (fun c_102 => ?_) (fun c_102 => ?_)
            · exact absurd c_102 (by decide)
            · refine rn_aload_n dX8_begin_105 rfl rfl ?_
              refine rn_getI dX8_begin_106 fd_8_157 (sk_l hs 44 (by decide)) (sk_k44 hs) rfl ?_
              refine rn_top (y := nI (tK n B (tS n B (tE n B (tS n B p))))) (hN1.2.1) ?_
              refine rn_iconst (v := nI 1) dX8_begin_109 (by decide) ?_
              refine rn_icmp_eqN (tgt := 115) dX8_begin_110 (by decide) (by omega) (by omega) (fun c_110 => ?_) (fun c_110 => ?_)
              · omega
              · refine rn_iconst (v := nI 1) dX8_begin_113 (by decide) ?_
                refine rn_ireturn dX8_begin_114 rfl (vp_nar_int _) ?_
                exact ⟨rfl, hK1.fm, hK1.st, Or.inl ⟨_, rfl, rfl, hN1.1⟩⟩
          · exact absurd c_39 (by decide)
        · exact absurd c_14 (by decide)
      · exact absurd c_7 (by decide)
  by_cases hm8 : m = 8
  · rw [show pB n B Sh (8 - m) p = .inl (3, tS n B p) by unfold pB; rw [if_neg (by omega), if_neg ht, if_neg ht4, if_pos (by omega)]]
    refine am_mt ⟨by decide +kernel, rfl⟩ (Nat.le_of_ble_eq_true rfl) rfl ?_
    refine rn_aload_n dX8_begin_0 rfl rfl ?_
    refine rn_getI dX8_begin_1 fd_8_157 (sk_l hs 44 (by decide)) (sk_k44 hs) rfl ?_
    refine rn_top (y := nI (tK n B (tS n B p))) (hN.2.1) ?_
    refine rn_istore_n (ls' := [some (.ref 44), some (.int (nI (tK n B (tS n B p)))), none, none, none, none]) dX8_begin_4 rfl (by decide) rfl rfl ?_
    refine rn_iload_n dX8_begin_5 rfl rfl ?_
    refine rn_iconst (v := nI 3) dX8_begin_6 (by decide) ?_
    refine rn_icmp_geN (tgt := 12) dX8_begin_7 (by decide) (by omega) (by omega) (fun c_7 => ?_) (fun c_7 => ?_)
    · refine rn_iload_n dX8_begin_12 rfl rfl ?_
      refine rn_iconst (v := nI 4) dX8_begin_13 (by decide) ?_
      refine rn_icmp_leN (tgt := 28) dX8_begin_14 (by decide) (by omega) (by omega) (fun c_14 => ?_) (fun c_14 => ?_)
      · omega
      · refine rn_aload_n dX8_begin_17 rfl rfl ?_
        refine rn_getI dX8_begin_18 fd_8_173 (sk_l hs 44 (by decide)) (sk_k44 hs) rfl ?_
        refine rn_top (y := nI 8) (by rw [h21, hm8]) ?_
        refine rn_bipush (v := nI 8) dX8_begin_21 (by decide) ?_
        refine rn_icmp_neN (tgt := 28) dX8_begin_23 (by decide) (by omega) (by omega) (fun c_23 => ?_) (fun c_23 => ?_)
        · exact absurd c_23 (by decide)
        · refine rn_iconst (v := nI 3) dX8_begin_26 (by decide) ?_
          refine rn_ireturn dX8_begin_27 rfl (vp_nar_int _) ?_
          exact ⟨rfl, FM.rf, stF.rf, Or.inl ⟨_, rfl, rfl, hN.1⟩⟩
    · omega
  have hm7 : m < 8 := by omega
  by_cases ht5 : tK n B (tS n B p) = 5
  · rw [show pB n B Sh (8 - m) p = bnd (pN n B 0 16 (tE n B (tS n B p))) (fun a => bnd (pN n B 0 16 a.2) (fun b => bnd (pN n B 0 2 b.2) (fun c => .inr (.inr ((5, tS n B p, a.1, b.1, c.1), c.2))))) by unfold pB; rw [if_neg (by omega), if_neg ht, if_neg ht4, if_neg (by omega), if_pos ht5]]
    have L5 : ∀ J : am_I, BI n B m 5 (tS n B p) (tE n B (tS n B p)) I J → am_Rn 4 Y_X8_begin (0, 0) 217 [some (.ref 44), some (.int (nI 5)), some (.int (nI (tS n B p))), some (.int (nI 3)), some (.int (nI 0)), none] [] S J (BX S n B m I (bnd (pN n B 0 16 (tE n B (tS n B p))) (fun a => bnd (pN n B 0 16 a.2) (fun b => bnd (pN n B 0 2 b.2) (fun c => .inr (.inr ((5, tS n B p, a.1, b.1, c.1), c.2))))))) := by
      intro J hb0
      rcases hXa : pN n B 0 16 (tE n B (tS n B p)) with e | a
      · refine rn_iload dX8_begin_217 rfl ?_
        refine rn_iload_n dX8_begin_219 rfl rfl ?_
        refine rn_icmp_geN (tgt := 295) dX8_begin_220 (by decide) (by omega) (by omega) (fun c_220 => ?_) (fun c_220 => ?_)
        · exact absurd c_220 (by decide)
        · refine rn_aload_n dX8_begin_223 rfl rfl ?_
          refine rn_getR (r := 58) dX8_begin_224 fd_8_58 (sk_l hs 44 (by decide)) (sk_k44 hs) rfl (sk_r44_24 hs) ?_
          refine rn_iconst (v := nI 3) dX8_begin_227 (by decide) ?_
          refine rn_aload_n dX8_begin_228 rfl rfl ?_
          refine rn_getI dX8_begin_229 fd_8_173 (sk_l hs 44 (by decide)) (sk_k44 hs) rfl ?_
          refine rn_top (y := nI m) (hb0.2.2.2.1) ?_
          refine rn_imul dX8_begin_232 ?_
          refine rn_top (pk_mul _ _) ?_
          refine rn_iload dX8_begin_233 rfl ?_
          refine rn_iadd dX8_begin_235 ?_
          refine rn_top (nI_add _ _) ?_
          refine rn_aload_n dX8_begin_236 rfl rfl ?_
          refine rn_getI dX8_begin_237 fd_8_163 (sk_l hs 44 (by decide)) (sk_k44 hs) rfl ?_
          refine rn_iastoreN dX8_begin_240 (sk_l hs 58 (by decide)) (sk_k58 hs) (by omega) (by omega) ?_
          obtain ⟨J1, hJ1⟩ : ∃ J9 : am_I, J9 = am_up J 58 ((3 * m) + 0) (J 44 20) := ⟨_, rfl⟩
          refine rn_I hJ1.symm ?_
          have hb1 : BI n B m 5 (tS n B p) (tE n B (tS n B p)) I J1 := by rw [hJ1]; exact hb0.num (by omega) _
          have hg1 : J1 44 20 = J 44 20 := by rw [hJ1, am_up_a _ _ (by decide)]
          have hv1 : J1 58 (3 * m + 0) = J1 44 20 := by rw [hg1, hJ1, am_up_at]
          have ho1 : ∀ x, x ≠ 3 * m + 0 → J1 58 x = J 58 x := fun x hx => by rw [hJ1, am_up_k _ _ hx]
          refine rn_aload_n dX8_begin_241 rfl rfl ?_
          refine rn_iload_n dX8_begin_242 rfl rfl ?_
          refine rn_bipush (v := nI 8) dX8_begin_243 (by decide) ?_
          refine rn_icmp_neN (tgt := 252) dX8_begin_245 (by decide) (by omega) (by omega) (fun c_245 => ?_) (fun c_245 => ?_)
          · refine rn_iconst (v := nI 0) dX8_begin_252 (by decide) ?_
            refine rn_iload_n dX8_begin_253 rfl rfl ?_
            refine rn_bipush (v := nI 8) dX8_begin_254 (by decide) ?_
            refine rn_icmp_neN (tgt := 264) dX8_begin_256 (by decide) (by omega) (by omega) (fun c_256 => ?_) (fun c_256 => ?_)
            · refine rn_iload dX8_begin_264 rfl ?_
              refine rn_iconst (v := nI 2) dX8_begin_266 (by decide) ?_
              refine rn_icmp_geN (tgt := 275) dX8_begin_267 (by decide) (by omega) (by omega) (fun c_267 => ?_) (fun c_267 => ?_)
              · exact absurd c_267 (by decide)
              · refine rn_bipush (v := nI 16) dX8_begin_270 (by decide) ?_
                refine rn_goto (tgt := 276) dX8_begin_272 (by decide) ?_
                refine rn_callV0 (st := []) dX8_begin_276 cf_8_176 (c_X8_take hs (hb1.1.tm hT) hB hpE hb1.2.2.1 (lo := 0) (hi := 16) (by decide) (by decide)) (by omega) (sk_l hs 44 (by decide)) (sk_k44 hs) rfl rfl (Nat.le_of_ble_eq_true rfl) (fun r1 S1 K1 hq => ?_)
                obtain ⟨rfl, rfl, rfl, hPl⟩ := hq.l hXa
                have hea := pN_err hXa
                refine rn_istore (ls' := [some (.ref 44), some (.int (nI 5)), some (.int (nI (tS n B p))), some (.int (nI 3)), some (.int (nI 0)), some (.int (nI e.1))]) dX8_begin_279 (by decide) rfl rfl ?_
                refine rn_iload dX8_begin_281 rfl ?_
                refine rn_if_eqN (tgt := 289) dX8_begin_283 (by decide) (by omega) (fun c_283 => ?_) (fun c_283 => ?_)
                · omega
                · refine rn_iload dX8_begin_286 rfl ?_
                  refine rn_ireturn dX8_begin_288 rfl (vp_nar_int _) ?_
                  exact ⟨rfl, hb1.1, hb1.2.1, Or.inl ⟨e, rfl, rfl, hPl⟩⟩
            · exact absurd c_256 (by decide)
          · exact absurd c_245 (by decide)
      rw [bnd_r]
      rcases hXb : pN n B 0 16 (a.2) with e | b
      · refine rn_iload dX8_begin_217 rfl ?_
        refine rn_iload_n dX8_begin_219 rfl rfl ?_
        refine rn_icmp_geN (tgt := 295) dX8_begin_220 (by decide) (by omega) (by omega) (fun c_220 => ?_) (fun c_220 => ?_)
        · exact absurd c_220 (by decide)
        · refine rn_aload_n dX8_begin_223 rfl rfl ?_
          refine rn_getR (r := 58) dX8_begin_224 fd_8_58 (sk_l hs 44 (by decide)) (sk_k44 hs) rfl (sk_r44_24 hs) ?_
          refine rn_iconst (v := nI 3) dX8_begin_227 (by decide) ?_
          refine rn_aload_n dX8_begin_228 rfl rfl ?_
          refine rn_getI dX8_begin_229 fd_8_173 (sk_l hs 44 (by decide)) (sk_k44 hs) rfl ?_
          refine rn_top (y := nI m) (hb0.2.2.2.1) ?_
          refine rn_imul dX8_begin_232 ?_
          refine rn_top (pk_mul _ _) ?_
          refine rn_iload dX8_begin_233 rfl ?_
          refine rn_iadd dX8_begin_235 ?_
          refine rn_top (nI_add _ _) ?_
          refine rn_aload_n dX8_begin_236 rfl rfl ?_
          refine rn_getI dX8_begin_237 fd_8_163 (sk_l hs 44 (by decide)) (sk_k44 hs) rfl ?_
          refine rn_iastoreN dX8_begin_240 (sk_l hs 58 (by decide)) (sk_k58 hs) (by omega) (by omega) ?_
          obtain ⟨J1, hJ1⟩ : ∃ J9 : am_I, J9 = am_up J 58 ((3 * m) + 0) (J 44 20) := ⟨_, rfl⟩
          refine rn_I hJ1.symm ?_
          have hb1 : BI n B m 5 (tS n B p) (tE n B (tS n B p)) I J1 := by rw [hJ1]; exact hb0.num (by omega) _
          have hg1 : J1 44 20 = J 44 20 := by rw [hJ1, am_up_a _ _ (by decide)]
          have hv1 : J1 58 (3 * m + 0) = J1 44 20 := by rw [hg1, hJ1, am_up_at]
          have ho1 : ∀ x, x ≠ 3 * m + 0 → J1 58 x = J 58 x := fun x hx => by rw [hJ1, am_up_k _ _ hx]
          refine rn_aload_n dX8_begin_241 rfl rfl ?_
          refine rn_iload_n dX8_begin_242 rfl rfl ?_
          refine rn_bipush (v := nI 8) dX8_begin_243 (by decide) ?_
          refine rn_icmp_neN (tgt := 252) dX8_begin_245 (by decide) (by omega) (by omega) (fun c_245 => ?_) (fun c_245 => ?_)
          · refine rn_iconst (v := nI 0) dX8_begin_252 (by decide) ?_
            refine rn_iload_n dX8_begin_253 rfl rfl ?_
            refine rn_bipush (v := nI 8) dX8_begin_254 (by decide) ?_
            refine rn_icmp_neN (tgt := 264) dX8_begin_256 (by decide) (by omega) (by omega) (fun c_256 => ?_) (fun c_256 => ?_)
            · refine rn_iload dX8_begin_264 rfl ?_
              refine rn_iconst (v := nI 2) dX8_begin_266 (by decide) ?_
              refine rn_icmp_geN (tgt := 275) dX8_begin_267 (by decide) (by omega) (by omega) (fun c_267 => ?_) (fun c_267 => ?_)
              · exact absurd c_267 (by decide)
              · refine rn_bipush (v := nI 16) dX8_begin_270 (by decide) ?_
                refine rn_goto (tgt := 276) dX8_begin_272 (by decide) ?_
                refine rn_callV0 (st := []) dX8_begin_276 cf_8_176 (c_X8_take hs (hb1.1.tm hT) hB hpE hb1.2.2.1 (lo := 0) (hi := 16) (by decide) (by decide)) (by omega) (sk_l hs 44 (by decide)) (sk_k44 hs) rfl rfl (Nat.le_of_ble_eq_true rfl) (fun r1 S1 K1 hq => ?_)
                obtain ⟨rfl, rfl, hK1, hN1, hva1⟩ := hq.r hXa
                have hPa := pN_pos n B hpE hXa
                have hc1 := hb1.kt hK1 hN1
                refine rn_istore (ls' := [some (.ref 44), some (.int (nI 5)), some (.int (nI (tS n B p))), some (.int (nI 3)), some (.int (nI 0)), some (.int (nI 0))]) dX8_begin_279 (by decide) rfl rfl ?_
                refine rn_iload dX8_begin_281 rfl ?_
                refine rn_if_eqN (tgt := 289) dX8_begin_283 (by decide) (by omega) (fun c_283 => ?_) (fun c_283 => ?_)
                · refine rn_iinc (v := nI 1) (ls' := [some (.ref 44), some (.int (nI 5)), some (.int (nI (tS n B p))), some (.int (nI 3)), some (.int (nI 1)), some (.int (nI 0))]) dX8_begin_289 rfl (nI_add _ 1) (by decide) rfl rfl ?_
                  refine rn_goto (tgt := 217) dX8_begin_292 (by decide) ?_
                  refine rn_iload dX8_begin_217 rfl ?_
                  refine rn_iload_n dX8_begin_219 rfl rfl ?_
                  refine rn_icmp_geN (tgt := 295) dX8_begin_220 (by decide) (by omega) (by omega) (fun c_220 => ?_) (fun c_220 => ?_)
                  · exact absurd c_220 (by decide)
                  · refine rn_aload_n dX8_begin_223 rfl rfl ?_
                    refine rn_getR (r := 58) dX8_begin_224 fd_8_58 (sk_l hs 44 (by decide)) (sk_k44 hs) rfl (sk_r44_24 hs) ?_
                    refine rn_iconst (v := nI 3) dX8_begin_227 (by decide) ?_
                    refine rn_aload_n dX8_begin_228 rfl rfl ?_
                    refine rn_getI dX8_begin_229 fd_8_173 (sk_l hs 44 (by decide)) (sk_k44 hs) rfl ?_
                    refine rn_top (y := nI m) (hc1.2.2.2.1) ?_
                    refine rn_imul dX8_begin_232 ?_
                    refine rn_top (pk_mul _ _) ?_
                    refine rn_iload dX8_begin_233 rfl ?_
                    refine rn_iadd dX8_begin_235 ?_
                    refine rn_top (nI_add _ _) ?_
                    refine rn_aload_n dX8_begin_236 rfl rfl ?_
                    refine rn_getI dX8_begin_237 fd_8_163 (sk_l hs 44 (by decide)) (sk_k44 hs) rfl ?_
                    refine rn_iastoreN dX8_begin_240 (sk_l hs 58 (by decide)) (sk_k58 hs) (by omega) (by omega) ?_
                    obtain ⟨J2, hJ2⟩ : ∃ J9 : am_I, J9 = am_up K1 58 ((3 * m) + 1) (K1 44 20) := ⟨_, rfl⟩
                    refine rn_I hJ2.symm ?_
                    have hb2 : BI n B m 5 (tS n B p) (a.2) I J2 := by rw [hJ2]; exact hc1.num (by omega) _
                    have hg2 : J2 44 20 = K1 44 20 := by rw [hJ2, am_up_a _ _ (by decide)]
                    have hv2 : J2 58 (3 * m + 1) = J2 44 20 := by rw [hg2, hJ2, am_up_at]
                    have ho2 : ∀ x, x ≠ 3 * m + 1 → J2 58 x = K1 58 x := fun x hx => by rw [hJ2, am_up_k _ _ hx]
                    refine rn_aload_n dX8_begin_241 rfl rfl ?_
                    refine rn_iload_n dX8_begin_242 rfl rfl ?_
                    refine rn_bipush (v := nI 8) dX8_begin_243 (by decide) ?_
                    refine rn_icmp_neN (tgt := 252) dX8_begin_245 (by decide) (by omega) (by omega) (fun c_245 => ?_) (fun c_245 => ?_)
                    · refine rn_iconst (v := nI 0) dX8_begin_252 (by decide) ?_
                      refine rn_iload_n dX8_begin_253 rfl rfl ?_
                      refine rn_bipush (v := nI 8) dX8_begin_254 (by decide) ?_
                      refine rn_icmp_neN (tgt := 264) dX8_begin_256 (by decide) (by omega) (by omega) (fun c_256 => ?_) (fun c_256 => ?_)
                      · refine rn_iload dX8_begin_264 rfl ?_
                        refine rn_iconst (v := nI 2) dX8_begin_266 (by decide) ?_
                        refine rn_icmp_geN (tgt := 275) dX8_begin_267 (by decide) (by omega) (by omega) (fun c_267 => ?_) (fun c_267 => ?_)
                        · exact absurd c_267 (by decide)
                        · refine rn_bipush (v := nI 16) dX8_begin_270 (by decide) ?_
                          refine rn_goto (tgt := 276) dX8_begin_272 (by decide) ?_
                          refine rn_callV0 (st := []) dX8_begin_276 cf_8_176 (c_X8_take hs (hb2.1.tm hT) hB hPa.1.2 hb2.2.2.1 (lo := 0) (hi := 16) (by decide) (by decide)) (by omega) (sk_l hs 44 (by decide)) (sk_k44 hs) rfl rfl (Nat.le_of_ble_eq_true rfl) (fun r1 S1 K2 hq => ?_)
                          obtain ⟨rfl, rfl, rfl, hPl⟩ := hq.l hXb
                          have hea := pN_err hXb
                          refine rn_istore (ls' := [some (.ref 44), some (.int (nI 5)), some (.int (nI (tS n B p))), some (.int (nI 3)), some (.int (nI 1)), some (.int (nI e.1))]) dX8_begin_279 (by decide) rfl rfl ?_
                          refine rn_iload dX8_begin_281 rfl ?_
                          refine rn_if_eqN (tgt := 289) dX8_begin_283 (by decide) (by omega) (fun c_283 => ?_) (fun c_283 => ?_)
                          · omega
                          · refine rn_iload dX8_begin_286 rfl ?_
                            refine rn_ireturn dX8_begin_288 rfl (vp_nar_int _) ?_
                            exact ⟨rfl, hb2.1, hb2.2.1, Or.inl ⟨e, rfl, rfl, hPl⟩⟩
                      · exact absurd c_256 (by decide)
                    · exact absurd c_245 (by decide)
                · exact absurd c_283 (by decide)
            · exact absurd c_256 (by decide)
          · exact absurd c_245 (by decide)
      rw [bnd_r]
      rcases hXc : pN n B 0 2 (b.2) with e | c
      · refine rn_iload dX8_begin_217 rfl ?_
        refine rn_iload_n dX8_begin_219 rfl rfl ?_
        refine rn_icmp_geN (tgt := 295) dX8_begin_220 (by decide) (by omega) (by omega) (fun c_220 => ?_) (fun c_220 => ?_)
        · exact absurd c_220 (by decide)
        · refine rn_aload_n dX8_begin_223 rfl rfl ?_
          refine rn_getR (r := 58) dX8_begin_224 fd_8_58 (sk_l hs 44 (by decide)) (sk_k44 hs) rfl (sk_r44_24 hs) ?_
          refine rn_iconst (v := nI 3) dX8_begin_227 (by decide) ?_
          refine rn_aload_n dX8_begin_228 rfl rfl ?_
          refine rn_getI dX8_begin_229 fd_8_173 (sk_l hs 44 (by decide)) (sk_k44 hs) rfl ?_
          refine rn_top (y := nI m) (hb0.2.2.2.1) ?_
          refine rn_imul dX8_begin_232 ?_
          refine rn_top (pk_mul _ _) ?_
          refine rn_iload dX8_begin_233 rfl ?_
          refine rn_iadd dX8_begin_235 ?_
          refine rn_top (nI_add _ _) ?_
          refine rn_aload_n dX8_begin_236 rfl rfl ?_
          refine rn_getI dX8_begin_237 fd_8_163 (sk_l hs 44 (by decide)) (sk_k44 hs) rfl ?_
          refine rn_iastoreN dX8_begin_240 (sk_l hs 58 (by decide)) (sk_k58 hs) (by omega) (by omega) ?_
          obtain ⟨J1, hJ1⟩ : ∃ J9 : am_I, J9 = am_up J 58 ((3 * m) + 0) (J 44 20) := ⟨_, rfl⟩
          refine rn_I hJ1.symm ?_
          have hb1 : BI n B m 5 (tS n B p) (tE n B (tS n B p)) I J1 := by rw [hJ1]; exact hb0.num (by omega) _
          have hg1 : J1 44 20 = J 44 20 := by rw [hJ1, am_up_a _ _ (by decide)]
          have hv1 : J1 58 (3 * m + 0) = J1 44 20 := by rw [hg1, hJ1, am_up_at]
          have ho1 : ∀ x, x ≠ 3 * m + 0 → J1 58 x = J 58 x := fun x hx => by rw [hJ1, am_up_k _ _ hx]
          refine rn_aload_n dX8_begin_241 rfl rfl ?_
          refine rn_iload_n dX8_begin_242 rfl rfl ?_
          refine rn_bipush (v := nI 8) dX8_begin_243 (by decide) ?_
          refine rn_icmp_neN (tgt := 252) dX8_begin_245 (by decide) (by omega) (by omega) (fun c_245 => ?_) (fun c_245 => ?_)
          · refine rn_iconst (v := nI 0) dX8_begin_252 (by decide) ?_
            refine rn_iload_n dX8_begin_253 rfl rfl ?_
            refine rn_bipush (v := nI 8) dX8_begin_254 (by decide) ?_
            refine rn_icmp_neN (tgt := 264) dX8_begin_256 (by decide) (by omega) (by omega) (fun c_256 => ?_) (fun c_256 => ?_)
            · refine rn_iload dX8_begin_264 rfl ?_
              refine rn_iconst (v := nI 2) dX8_begin_266 (by decide) ?_
              refine rn_icmp_geN (tgt := 275) dX8_begin_267 (by decide) (by omega) (by omega) (fun c_267 => ?_) (fun c_267 => ?_)
              · exact absurd c_267 (by decide)
              · refine rn_bipush (v := nI 16) dX8_begin_270 (by decide) ?_
                refine rn_goto (tgt := 276) dX8_begin_272 (by decide) ?_
                refine rn_callV0 (st := []) dX8_begin_276 cf_8_176 (c_X8_take hs (hb1.1.tm hT) hB hpE hb1.2.2.1 (lo := 0) (hi := 16) (by decide) (by decide)) (by omega) (sk_l hs 44 (by decide)) (sk_k44 hs) rfl rfl (Nat.le_of_ble_eq_true rfl) (fun r1 S1 K1 hq => ?_)
                obtain ⟨rfl, rfl, hK1, hN1, hva1⟩ := hq.r hXa
                have hPa := pN_pos n B hpE hXa
                have hc1 := hb1.kt hK1 hN1
                refine rn_istore (ls' := [some (.ref 44), some (.int (nI 5)), some (.int (nI (tS n B p))), some (.int (nI 3)), some (.int (nI 0)), some (.int (nI 0))]) dX8_begin_279 (by decide) rfl rfl ?_
                refine rn_iload dX8_begin_281 rfl ?_
                refine rn_if_eqN (tgt := 289) dX8_begin_283 (by decide) (by omega) (fun c_283 => ?_) (fun c_283 => ?_)
                · refine rn_iinc (v := nI 1) (ls' := [some (.ref 44), some (.int (nI 5)), some (.int (nI (tS n B p))), some (.int (nI 3)), some (.int (nI 1)), some (.int (nI 0))]) dX8_begin_289 rfl (nI_add _ 1) (by decide) rfl rfl ?_
                  refine rn_goto (tgt := 217) dX8_begin_292 (by decide) ?_
                  refine rn_iload dX8_begin_217 rfl ?_
                  refine rn_iload_n dX8_begin_219 rfl rfl ?_
                  refine rn_icmp_geN (tgt := 295) dX8_begin_220 (by decide) (by omega) (by omega) (fun c_220 => ?_) (fun c_220 => ?_)
                  · exact absurd c_220 (by decide)
                  · refine rn_aload_n dX8_begin_223 rfl rfl ?_
                    refine rn_getR (r := 58) dX8_begin_224 fd_8_58 (sk_l hs 44 (by decide)) (sk_k44 hs) rfl (sk_r44_24 hs) ?_
                    refine rn_iconst (v := nI 3) dX8_begin_227 (by decide) ?_
                    refine rn_aload_n dX8_begin_228 rfl rfl ?_
                    refine rn_getI dX8_begin_229 fd_8_173 (sk_l hs 44 (by decide)) (sk_k44 hs) rfl ?_
                    refine rn_top (y := nI m) (hc1.2.2.2.1) ?_
                    refine rn_imul dX8_begin_232 ?_
                    refine rn_top (pk_mul _ _) ?_
                    refine rn_iload dX8_begin_233 rfl ?_
                    refine rn_iadd dX8_begin_235 ?_
                    refine rn_top (nI_add _ _) ?_
                    refine rn_aload_n dX8_begin_236 rfl rfl ?_
                    refine rn_getI dX8_begin_237 fd_8_163 (sk_l hs 44 (by decide)) (sk_k44 hs) rfl ?_
                    refine rn_iastoreN dX8_begin_240 (sk_l hs 58 (by decide)) (sk_k58 hs) (by omega) (by omega) ?_
                    obtain ⟨J2, hJ2⟩ : ∃ J9 : am_I, J9 = am_up K1 58 ((3 * m) + 1) (K1 44 20) := ⟨_, rfl⟩
                    refine rn_I hJ2.symm ?_
                    have hb2 : BI n B m 5 (tS n B p) (a.2) I J2 := by rw [hJ2]; exact hc1.num (by omega) _
                    have hg2 : J2 44 20 = K1 44 20 := by rw [hJ2, am_up_a _ _ (by decide)]
                    have hv2 : J2 58 (3 * m + 1) = J2 44 20 := by rw [hg2, hJ2, am_up_at]
                    have ho2 : ∀ x, x ≠ 3 * m + 1 → J2 58 x = K1 58 x := fun x hx => by rw [hJ2, am_up_k _ _ hx]
                    refine rn_aload_n dX8_begin_241 rfl rfl ?_
                    refine rn_iload_n dX8_begin_242 rfl rfl ?_
                    refine rn_bipush (v := nI 8) dX8_begin_243 (by decide) ?_
                    refine rn_icmp_neN (tgt := 252) dX8_begin_245 (by decide) (by omega) (by omega) (fun c_245 => ?_) (fun c_245 => ?_)
                    · refine rn_iconst (v := nI 0) dX8_begin_252 (by decide) ?_
                      refine rn_iload_n dX8_begin_253 rfl rfl ?_
                      refine rn_bipush (v := nI 8) dX8_begin_254 (by decide) ?_
                      refine rn_icmp_neN (tgt := 264) dX8_begin_256 (by decide) (by omega) (by omega) (fun c_256 => ?_) (fun c_256 => ?_)
                      · refine rn_iload dX8_begin_264 rfl ?_
                        refine rn_iconst (v := nI 2) dX8_begin_266 (by decide) ?_
                        refine rn_icmp_geN (tgt := 275) dX8_begin_267 (by decide) (by omega) (by omega) (fun c_267 => ?_) (fun c_267 => ?_)
                        · exact absurd c_267 (by decide)
                        · refine rn_bipush (v := nI 16) dX8_begin_270 (by decide) ?_
                          refine rn_goto (tgt := 276) dX8_begin_272 (by decide) ?_
                          refine rn_callV0 (st := []) dX8_begin_276 cf_8_176 (c_X8_take hs (hb2.1.tm hT) hB hPa.1.2 hb2.2.2.1 (lo := 0) (hi := 16) (by decide) (by decide)) (by omega) (sk_l hs 44 (by decide)) (sk_k44 hs) rfl rfl (Nat.le_of_ble_eq_true rfl) (fun r1 S1 K2 hq => ?_)
                          obtain ⟨rfl, rfl, hK2, hN2, hva2⟩ := hq.r hXb
                          have hPb := pN_pos n B hPa.1.2 hXb
                          have hc2 := hb2.kt hK2 hN2
                          refine rn_istore (ls' := [some (.ref 44), some (.int (nI 5)), some (.int (nI (tS n B p))), some (.int (nI 3)), some (.int (nI 1)), some (.int (nI 0))]) dX8_begin_279 (by decide) rfl rfl ?_
                          refine rn_iload dX8_begin_281 rfl ?_
                          refine rn_if_eqN (tgt := 289) dX8_begin_283 (by decide) (by omega) (fun c_283 => ?_) (fun c_283 => ?_)
                          · refine rn_iinc (v := nI 2) (ls' := [some (.ref 44), some (.int (nI 5)), some (.int (nI (tS n B p))), some (.int (nI 3)), some (.int (nI 2)), some (.int (nI 0))]) dX8_begin_289 rfl (nI_add _ 1) (by decide) rfl rfl ?_
                            refine rn_goto (tgt := 217) dX8_begin_292 (by decide) ?_
                            refine rn_iload dX8_begin_217 rfl ?_
                            refine rn_iload_n dX8_begin_219 rfl rfl ?_
                            refine rn_icmp_geN (tgt := 295) dX8_begin_220 (by decide) (by omega) (by omega) (fun c_220 => ?_) (fun c_220 => ?_)
                            · exact absurd c_220 (by decide)
                            · refine rn_aload_n dX8_begin_223 rfl rfl ?_
                              refine rn_getR (r := 58) dX8_begin_224 fd_8_58 (sk_l hs 44 (by decide)) (sk_k44 hs) rfl (sk_r44_24 hs) ?_
                              refine rn_iconst (v := nI 3) dX8_begin_227 (by decide) ?_
                              refine rn_aload_n dX8_begin_228 rfl rfl ?_
                              refine rn_getI dX8_begin_229 fd_8_173 (sk_l hs 44 (by decide)) (sk_k44 hs) rfl ?_
                              refine rn_top (y := nI m) (hc2.2.2.2.1) ?_
                              refine rn_imul dX8_begin_232 ?_
                              refine rn_top (pk_mul _ _) ?_
                              refine rn_iload dX8_begin_233 rfl ?_
                              refine rn_iadd dX8_begin_235 ?_
                              refine rn_top (nI_add _ _) ?_
                              refine rn_aload_n dX8_begin_236 rfl rfl ?_
                              refine rn_getI dX8_begin_237 fd_8_163 (sk_l hs 44 (by decide)) (sk_k44 hs) rfl ?_
                              refine rn_iastoreN dX8_begin_240 (sk_l hs 58 (by decide)) (sk_k58 hs) (by omega) (by omega) ?_
                              obtain ⟨J3, hJ3⟩ : ∃ J9 : am_I, J9 = am_up K2 58 ((3 * m) + 2) (K2 44 20) := ⟨_, rfl⟩
                              refine rn_I hJ3.symm ?_
                              have hb3 : BI n B m 5 (tS n B p) (b.2) I J3 := by rw [hJ3]; exact hc2.num (by omega) _
                              have hg3 : J3 44 20 = K2 44 20 := by rw [hJ3, am_up_a _ _ (by decide)]
                              have hv3 : J3 58 (3 * m + 2) = J3 44 20 := by rw [hg3, hJ3, am_up_at]
                              have ho3 : ∀ x, x ≠ 3 * m + 2 → J3 58 x = K2 58 x := fun x hx => by rw [hJ3, am_up_k _ _ hx]
                              refine rn_aload_n dX8_begin_241 rfl rfl ?_
                              refine rn_iload_n dX8_begin_242 rfl rfl ?_
                              refine rn_bipush (v := nI 8) dX8_begin_243 (by decide) ?_
                              refine rn_icmp_neN (tgt := 252) dX8_begin_245 (by decide) (by omega) (by omega) (fun c_245 => ?_) (fun c_245 => ?_)
                              · refine rn_iconst (v := nI 0) dX8_begin_252 (by decide) ?_
                                refine rn_iload_n dX8_begin_253 rfl rfl ?_
                                refine rn_bipush (v := nI 8) dX8_begin_254 (by decide) ?_
                                refine rn_icmp_neN (tgt := 264) dX8_begin_256 (by decide) (by omega) (by omega) (fun c_256 => ?_) (fun c_256 => ?_)
                                · refine rn_iload dX8_begin_264 rfl ?_
                                  refine rn_iconst (v := nI 2) dX8_begin_266 (by decide) ?_
                                  refine rn_icmp_geN (tgt := 275) dX8_begin_267 (by decide) (by omega) (by omega) (fun c_267 => ?_) (fun c_267 => ?_)
                                  · refine rn_iconst (v := nI 2) dX8_begin_275 (by decide) ?_
                                    refine rn_callV0 (st := []) dX8_begin_276 cf_8_176 (c_X8_take hs (hb3.1.tm hT) hB hPb.1.2 hb3.2.2.1 (lo := 0) (hi := 2) (by decide) (by decide)) (by omega) (sk_l hs 44 (by decide)) (sk_k44 hs) rfl rfl (Nat.le_of_ble_eq_true rfl) (fun r1 S1 K3 hq => ?_)
                                    obtain ⟨rfl, rfl, rfl, hPl⟩ := hq.l hXc
                                    have hea := pN_err hXc
                                    refine rn_istore (ls' := [some (.ref 44), some (.int (nI 5)), some (.int (nI (tS n B p))), some (.int (nI 3)), some (.int (nI 2)), some (.int (nI e.1))]) dX8_begin_279 (by decide) rfl rfl ?_
                                    refine rn_iload dX8_begin_281 rfl ?_
                                    refine rn_if_eqN (tgt := 289) dX8_begin_283 (by decide) (by omega) (fun c_283 => ?_) (fun c_283 => ?_)
                                    · omega
                                    · refine rn_iload dX8_begin_286 rfl ?_
                                      refine rn_ireturn dX8_begin_288 rfl (vp_nar_int _) ?_
                                      exact ⟨rfl, hb3.1, hb3.2.1, Or.inl ⟨e, rfl, rfl, hPl⟩⟩
                                  · exact absurd c_267 (by decide)
                                · exact absurd c_256 (by decide)
                              · exact absurd c_245 (by decide)
                          · exact absurd c_283 (by decide)
                      · exact absurd c_256 (by decide)
                    · exact absurd c_245 (by decide)
                · exact absurd c_283 (by decide)
            · exact absurd c_256 (by decide)
          · exact absurd c_245 (by decide)
      rw [bnd_r]
      refine rn_iload dX8_begin_217 rfl ?_
      refine rn_iload_n dX8_begin_219 rfl rfl ?_
      refine rn_icmp_geN (tgt := 295) dX8_begin_220 (by decide) (by omega) (by omega) (fun c_220 => ?_) (fun c_220 => ?_)
      · exact absurd c_220 (by decide)
      · refine rn_aload_n dX8_begin_223 rfl rfl ?_
        refine rn_getR (r := 58) dX8_begin_224 fd_8_58 (sk_l hs 44 (by decide)) (sk_k44 hs) rfl (sk_r44_24 hs) ?_
        refine rn_iconst (v := nI 3) dX8_begin_227 (by decide) ?_
        refine rn_aload_n dX8_begin_228 rfl rfl ?_
        refine rn_getI dX8_begin_229 fd_8_173 (sk_l hs 44 (by decide)) (sk_k44 hs) rfl ?_
        refine rn_top (y := nI m) (hb0.2.2.2.1) ?_
        refine rn_imul dX8_begin_232 ?_
        refine rn_top (pk_mul _ _) ?_
        refine rn_iload dX8_begin_233 rfl ?_
        refine rn_iadd dX8_begin_235 ?_
        refine rn_top (nI_add _ _) ?_
        refine rn_aload_n dX8_begin_236 rfl rfl ?_
        refine rn_getI dX8_begin_237 fd_8_163 (sk_l hs 44 (by decide)) (sk_k44 hs) rfl ?_
        refine rn_iastoreN dX8_begin_240 (sk_l hs 58 (by decide)) (sk_k58 hs) (by omega) (by omega) ?_
        obtain ⟨J1, hJ1⟩ : ∃ J9 : am_I, J9 = am_up J 58 ((3 * m) + 0) (J 44 20) := ⟨_, rfl⟩
        refine rn_I hJ1.symm ?_
        have hb1 : BI n B m 5 (tS n B p) (tE n B (tS n B p)) I J1 := by rw [hJ1]; exact hb0.num (by omega) _
        have hg1 : J1 44 20 = J 44 20 := by rw [hJ1, am_up_a _ _ (by decide)]
        have hv1 : J1 58 (3 * m + 0) = J1 44 20 := by rw [hg1, hJ1, am_up_at]
        have ho1 : ∀ x, x ≠ 3 * m + 0 → J1 58 x = J 58 x := fun x hx => by rw [hJ1, am_up_k _ _ hx]
        refine rn_aload_n dX8_begin_241 rfl rfl ?_
        refine rn_iload_n dX8_begin_242 rfl rfl ?_
        refine rn_bipush (v := nI 8) dX8_begin_243 (by decide) ?_
        refine rn_icmp_neN (tgt := 252) dX8_begin_245 (by decide) (by omega) (by omega) (fun c_245 => ?_) (fun c_245 => ?_)
        · refine rn_iconst (v := nI 0) dX8_begin_252 (by decide) ?_
          refine rn_iload_n dX8_begin_253 rfl rfl ?_
          refine rn_bipush (v := nI 8) dX8_begin_254 (by decide) ?_
          refine rn_icmp_neN (tgt := 264) dX8_begin_256 (by decide) (by omega) (by omega) (fun c_256 => ?_) (fun c_256 => ?_)
          · refine rn_iload dX8_begin_264 rfl ?_
            refine rn_iconst (v := nI 2) dX8_begin_266 (by decide) ?_
            refine rn_icmp_geN (tgt := 275) dX8_begin_267 (by decide) (by omega) (by omega) (fun c_267 => ?_) (fun c_267 => ?_)
            · exact absurd c_267 (by decide)
            · refine rn_bipush (v := nI 16) dX8_begin_270 (by decide) ?_
              refine rn_goto (tgt := 276) dX8_begin_272 (by decide) ?_
              refine rn_callV0 (st := []) dX8_begin_276 cf_8_176 (c_X8_take hs (hb1.1.tm hT) hB hpE hb1.2.2.1 (lo := 0) (hi := 16) (by decide) (by decide)) (by omega) (sk_l hs 44 (by decide)) (sk_k44 hs) rfl rfl (Nat.le_of_ble_eq_true rfl) (fun r1 S1 K1 hq => ?_)
              obtain ⟨rfl, rfl, hK1, hN1, hva1⟩ := hq.r hXa
              have hPa := pN_pos n B hpE hXa
              have hc1 := hb1.kt hK1 hN1
              refine rn_istore (ls' := [some (.ref 44), some (.int (nI 5)), some (.int (nI (tS n B p))), some (.int (nI 3)), some (.int (nI 0)), some (.int (nI 0))]) dX8_begin_279 (by decide) rfl rfl ?_
              refine rn_iload dX8_begin_281 rfl ?_
              refine rn_if_eqN (tgt := 289) dX8_begin_283 (by decide) (by omega) (fun c_283 => ?_) (fun c_283 => ?_)
              · refine rn_iinc (v := nI 1) (ls' := [some (.ref 44), some (.int (nI 5)), some (.int (nI (tS n B p))), some (.int (nI 3)), some (.int (nI 1)), some (.int (nI 0))]) dX8_begin_289 rfl (nI_add _ 1) (by decide) rfl rfl ?_
                refine rn_goto (tgt := 217) dX8_begin_292 (by decide) ?_
                refine rn_iload dX8_begin_217 rfl ?_
                refine rn_iload_n dX8_begin_219 rfl rfl ?_
                refine rn_icmp_geN (tgt := 295) dX8_begin_220 (by decide) (by omega) (by omega) (fun c_220 => ?_) (fun c_220 => ?_)
                · exact absurd c_220 (by decide)
                · refine rn_aload_n dX8_begin_223 rfl rfl ?_
                  refine rn_getR (r := 58) dX8_begin_224 fd_8_58 (sk_l hs 44 (by decide)) (sk_k44 hs) rfl (sk_r44_24 hs) ?_
                  refine rn_iconst (v := nI 3) dX8_begin_227 (by decide) ?_
                  refine rn_aload_n dX8_begin_228 rfl rfl ?_
                  refine rn_getI dX8_begin_229 fd_8_173 (sk_l hs 44 (by decide)) (sk_k44 hs) rfl ?_
                  refine rn_top (y := nI m) (hc1.2.2.2.1) ?_
                  refine rn_imul dX8_begin_232 ?_
                  refine rn_top (pk_mul _ _) ?_
                  refine rn_iload dX8_begin_233 rfl ?_
                  refine rn_iadd dX8_begin_235 ?_
                  refine rn_top (nI_add _ _) ?_
                  refine rn_aload_n dX8_begin_236 rfl rfl ?_
                  refine rn_getI dX8_begin_237 fd_8_163 (sk_l hs 44 (by decide)) (sk_k44 hs) rfl ?_
                  refine rn_iastoreN dX8_begin_240 (sk_l hs 58 (by decide)) (sk_k58 hs) (by omega) (by omega) ?_
                  obtain ⟨J2, hJ2⟩ : ∃ J9 : am_I, J9 = am_up K1 58 ((3 * m) + 1) (K1 44 20) := ⟨_, rfl⟩
                  refine rn_I hJ2.symm ?_
                  have hb2 : BI n B m 5 (tS n B p) (a.2) I J2 := by rw [hJ2]; exact hc1.num (by omega) _
                  have hg2 : J2 44 20 = K1 44 20 := by rw [hJ2, am_up_a _ _ (by decide)]
                  have hv2 : J2 58 (3 * m + 1) = J2 44 20 := by rw [hg2, hJ2, am_up_at]
                  have ho2 : ∀ x, x ≠ 3 * m + 1 → J2 58 x = K1 58 x := fun x hx => by rw [hJ2, am_up_k _ _ hx]
                  refine rn_aload_n dX8_begin_241 rfl rfl ?_
                  refine rn_iload_n dX8_begin_242 rfl rfl ?_
                  refine rn_bipush (v := nI 8) dX8_begin_243 (by decide) ?_
                  refine rn_icmp_neN (tgt := 252) dX8_begin_245 (by decide) (by omega) (by omega) (fun c_245 => ?_) (fun c_245 => ?_)
                  · refine rn_iconst (v := nI 0) dX8_begin_252 (by decide) ?_
                    refine rn_iload_n dX8_begin_253 rfl rfl ?_
                    refine rn_bipush (v := nI 8) dX8_begin_254 (by decide) ?_
                    refine rn_icmp_neN (tgt := 264) dX8_begin_256 (by decide) (by omega) (by omega) (fun c_256 => ?_) (fun c_256 => ?_)
                    · refine rn_iload dX8_begin_264 rfl ?_
                      refine rn_iconst (v := nI 2) dX8_begin_266 (by decide) ?_
                      refine rn_icmp_geN (tgt := 275) dX8_begin_267 (by decide) (by omega) (by omega) (fun c_267 => ?_) (fun c_267 => ?_)
                      · exact absurd c_267 (by decide)
                      · refine rn_bipush (v := nI 16) dX8_begin_270 (by decide) ?_
                        refine rn_goto (tgt := 276) dX8_begin_272 (by decide) ?_
                        refine rn_callV0 (st := []) dX8_begin_276 cf_8_176 (c_X8_take hs (hb2.1.tm hT) hB hPa.1.2 hb2.2.2.1 (lo := 0) (hi := 16) (by decide) (by decide)) (by omega) (sk_l hs 44 (by decide)) (sk_k44 hs) rfl rfl (Nat.le_of_ble_eq_true rfl) (fun r1 S1 K2 hq => ?_)
                        obtain ⟨rfl, rfl, hK2, hN2, hva2⟩ := hq.r hXb
                        have hPb := pN_pos n B hPa.1.2 hXb
                        have hc2 := hb2.kt hK2 hN2
                        refine rn_istore (ls' := [some (.ref 44), some (.int (nI 5)), some (.int (nI (tS n B p))), some (.int (nI 3)), some (.int (nI 1)), some (.int (nI 0))]) dX8_begin_279 (by decide) rfl rfl ?_
                        refine rn_iload dX8_begin_281 rfl ?_
                        refine rn_if_eqN (tgt := 289) dX8_begin_283 (by decide) (by omega) (fun c_283 => ?_) (fun c_283 => ?_)
                        · refine rn_iinc (v := nI 2) (ls' := [some (.ref 44), some (.int (nI 5)), some (.int (nI (tS n B p))), some (.int (nI 3)), some (.int (nI 2)), some (.int (nI 0))]) dX8_begin_289 rfl (nI_add _ 1) (by decide) rfl rfl ?_
                          refine rn_goto (tgt := 217) dX8_begin_292 (by decide) ?_
                          refine rn_iload dX8_begin_217 rfl ?_
                          refine rn_iload_n dX8_begin_219 rfl rfl ?_
                          refine rn_icmp_geN (tgt := 295) dX8_begin_220 (by decide) (by omega) (by omega) (fun c_220 => ?_) (fun c_220 => ?_)
                          · exact absurd c_220 (by decide)
                          · refine rn_aload_n dX8_begin_223 rfl rfl ?_
                            refine rn_getR (r := 58) dX8_begin_224 fd_8_58 (sk_l hs 44 (by decide)) (sk_k44 hs) rfl (sk_r44_24 hs) ?_
                            refine rn_iconst (v := nI 3) dX8_begin_227 (by decide) ?_
                            refine rn_aload_n dX8_begin_228 rfl rfl ?_
                            refine rn_getI dX8_begin_229 fd_8_173 (sk_l hs 44 (by decide)) (sk_k44 hs) rfl ?_
                            refine rn_top (y := nI m) (hc2.2.2.2.1) ?_
                            refine rn_imul dX8_begin_232 ?_
                            refine rn_top (pk_mul _ _) ?_
                            refine rn_iload dX8_begin_233 rfl ?_
                            refine rn_iadd dX8_begin_235 ?_
                            refine rn_top (nI_add _ _) ?_
                            refine rn_aload_n dX8_begin_236 rfl rfl ?_
                            refine rn_getI dX8_begin_237 fd_8_163 (sk_l hs 44 (by decide)) (sk_k44 hs) rfl ?_
                            refine rn_iastoreN dX8_begin_240 (sk_l hs 58 (by decide)) (sk_k58 hs) (by omega) (by omega) ?_
                            obtain ⟨J3, hJ3⟩ : ∃ J9 : am_I, J9 = am_up K2 58 ((3 * m) + 2) (K2 44 20) := ⟨_, rfl⟩
                            refine rn_I hJ3.symm ?_
                            have hb3 : BI n B m 5 (tS n B p) (b.2) I J3 := by rw [hJ3]; exact hc2.num (by omega) _
                            have hg3 : J3 44 20 = K2 44 20 := by rw [hJ3, am_up_a _ _ (by decide)]
                            have hv3 : J3 58 (3 * m + 2) = J3 44 20 := by rw [hg3, hJ3, am_up_at]
                            have ho3 : ∀ x, x ≠ 3 * m + 2 → J3 58 x = K2 58 x := fun x hx => by rw [hJ3, am_up_k _ _ hx]
                            refine rn_aload_n dX8_begin_241 rfl rfl ?_
                            refine rn_iload_n dX8_begin_242 rfl rfl ?_
                            refine rn_bipush (v := nI 8) dX8_begin_243 (by decide) ?_
                            refine rn_icmp_neN (tgt := 252) dX8_begin_245 (by decide) (by omega) (by omega) (fun c_245 => ?_) (fun c_245 => ?_)
                            · refine rn_iconst (v := nI 0) dX8_begin_252 (by decide) ?_
                              refine rn_iload_n dX8_begin_253 rfl rfl ?_
                              refine rn_bipush (v := nI 8) dX8_begin_254 (by decide) ?_
                              refine rn_icmp_neN (tgt := 264) dX8_begin_256 (by decide) (by omega) (by omega) (fun c_256 => ?_) (fun c_256 => ?_)
                              · refine rn_iload dX8_begin_264 rfl ?_
                                refine rn_iconst (v := nI 2) dX8_begin_266 (by decide) ?_
                                refine rn_icmp_geN (tgt := 275) dX8_begin_267 (by decide) (by omega) (by omega) (fun c_267 => ?_) (fun c_267 => ?_)
                                · refine rn_iconst (v := nI 2) dX8_begin_275 (by decide) ?_
                                  refine rn_callV0 (st := []) dX8_begin_276 cf_8_176 (c_X8_take hs (hb3.1.tm hT) hB hPb.1.2 hb3.2.2.1 (lo := 0) (hi := 2) (by decide) (by decide)) (by omega) (sk_l hs 44 (by decide)) (sk_k44 hs) rfl rfl (Nat.le_of_ble_eq_true rfl) (fun r1 S1 K3 hq => ?_)
                                  obtain ⟨rfl, rfl, hK3, hN3, hva3⟩ := hq.r hXc
                                  have hPc := pN_pos n B hPb.1.2 hXc
                                  have hc3 := hb3.kt hK3 hN3
                                  refine rn_istore (ls' := [some (.ref 44), some (.int (nI 5)), some (.int (nI (tS n B p))), some (.int (nI 3)), some (.int (nI 2)), some (.int (nI 0))]) dX8_begin_279 (by decide) rfl rfl ?_
                                  refine rn_iload dX8_begin_281 rfl ?_
                                  refine rn_if_eqN (tgt := 289) dX8_begin_283 (by decide) (by omega) (fun c_283 => ?_) (fun c_283 => ?_)
                                  · refine rn_iinc (v := nI 3) (ls' := [some (.ref 44), some (.int (nI 5)), some (.int (nI (tS n B p))), some (.int (nI 3)), some (.int (nI 3)), some (.int (nI 0))]) dX8_begin_289 rfl (nI_add _ 1) (by decide) rfl rfl ?_
                                    refine rn_goto (tgt := 217) dX8_begin_292 (by decide) ?_
                                    refine rn_iload dX8_begin_217 rfl ?_
                                    refine rn_iload_n dX8_begin_219 rfl rfl ?_
                                    refine rn_icmp_geN (tgt := 295) dX8_begin_220 (by decide) (by omega) (by omega) (fun c_220 => ?_) (fun c_220 => ?_)
                                    · refine rn_aload_n dX8_begin_295 rfl rfl ?_
                                      refine rn_dup dX8_begin_296 rfl ?_
                                      refine rn_getI dX8_begin_297 fd_8_173 (sk_l hs 44 (by decide)) (sk_k44 hs) rfl ?_
                                      refine rn_top (y := nI m) (hc3.2.2.2.1) ?_
                                      refine rn_iconst (v := nI 1) dX8_begin_300 (by decide) ?_
                                      refine rn_iadd dX8_begin_301 ?_
                                      refine rn_top (nI_add _ _) ?_
                                      refine rn_putI dX8_begin_302 fd_8_173 (sk_l hs 44 (by decide)) (sk_k44 hs) rfl rfl (vp_nar_int _) rfl ?_
                                      refine rn_iconst (v := nI 0) dX8_begin_305 (by decide) ?_
                                      refine rn_ireturn dX8_begin_306 rfl (vp_nar_int _) ?_
                                      have q58 : K3 58 = J3 58 := hK3.1 58 (by decide)
                                      have q57 : K2 58 = J2 58 := hK2.1 58 (by decide)
                                      have q56 : K1 58 = J1 58 := hK1.1 58 (by decide)
                                      have hbb := hc3.opn
                                      exact ⟨rfl, hbb.1, hbb.2.1, Or.inr (Or.inr ⟨_, _, rfl, rfl, BI.en (e := (5, tS n B p, a.1, b.1, c.1)) hc3 ⟨⟨Nat.le_refl 5, Nat.le_of_ble_eq_true rfl⟩, fun _ => ⟨hPa.2.2, hPb.2.2, hPc.2.2⟩, fun q9 => absurd q9 (by simp)⟩ (fun _ => ⟨by rw [q58, ho3 _ (by omega), q57, ho2 _ (by omega), q56]; exact hv1.trans hva1, by rw [q58, ho3 _ (by omega), q57]; exact hv2.trans hva2, by rw [q58]; exact hv3.trans hva3⟩) (fun q9 => absurd q9 (by simp)), hbb.2.2.2, by rw [am_up_at], hbb.2.2.1⟩)⟩
                                    · exact absurd c_220 (by decide)
                                  · exact absurd c_283 (by decide)
                                · exact absurd c_267 (by decide)
                              · exact absurd c_256 (by decide)
                            · exact absurd c_245 (by decide)
                        · exact absurd c_283 (by decide)
                    · exact absurd c_256 (by decide)
                  · exact absurd c_245 (by decide)
              · exact absurd c_283 (by decide)
          · exact absurd c_256 (by decide)
        · exact absurd c_245 (by decide)
    refine am_mt ⟨by decide +kernel, rfl⟩ (Nat.le_of_ble_eq_true rfl) rfl ?_
    refine rn_aload_n dX8_begin_0 rfl rfl ?_
    refine rn_getI dX8_begin_1 fd_8_157 (sk_l hs 44 (by decide)) (sk_k44 hs) rfl ?_
    refine rn_top (y := nI 5) (by rw [hN.2.1, ht5]) ?_
    refine rn_istore_n (ls' := [some (.ref 44), some (.int (nI 5)), none, none, none, none]) dX8_begin_4 rfl (by decide) rfl rfl ?_
    refine rn_iload_n dX8_begin_5 rfl rfl ?_
    refine rn_iconst (v := nI 3) dX8_begin_6 (by decide) ?_
    refine rn_icmp_geN (tgt := 12) dX8_begin_7 (by decide) (by omega) (by omega) (fun c_7 => ?_) (fun c_7 => ?_)
    · refine rn_iload_n dX8_begin_12 rfl rfl ?_
      refine rn_iconst (v := nI 4) dX8_begin_13 (by decide) ?_
      refine rn_icmp_leN (tgt := 28) dX8_begin_14 (by decide) (by omega) (by omega) (fun c_14 => ?_) (fun c_14 => ?_)
      · exact absurd c_14 (by decide)
      · refine rn_aload_n dX8_begin_17 rfl rfl ?_
        refine rn_getI dX8_begin_18 fd_8_173 (sk_l hs 44 (by decide)) (sk_k44 hs) rfl ?_
        refine rn_top (y := nI m) (h21) ?_
        refine rn_bipush (v := nI 8) dX8_begin_21 (by decide) ?_
        refine rn_icmp_neN (tgt := 28) dX8_begin_23 (by decide) (by omega) (by omega) (fun c_23 => ?_) (fun c_23 => ?_)
        · refine rn_aload_n dX8_begin_28 rfl rfl ?_
          refine rn_getI dX8_begin_29 fd_8_154 (sk_l hs 44 (by decide)) (sk_k44 hs) rfl ?_
          refine rn_top (y := nI (tS n B p)) (hN.1) ?_
          refine rn_istore_n (ls' := [some (.ref 44), some (.int (nI 5)), some (.int (nI (tS n B p))), none, none, none]) dX8_begin_32 rfl (by decide) rfl rfl ?_
          refine rn_aload_n dX8_begin_33 rfl rfl ?_
          refine rn_callV0 (st := []) dX8_begin_34 cf_8_170 (c_X8_nextToken hs hT hB hpE (hN.2.2.1 (by omega))) (by omega) (sk_l hs 44 (by decide)) (sk_k44 hs) rfl rfl (Nat.le_of_ble_eq_true rfl) (fun r1 S1 I1 hq => ?_)
          obtain ⟨rfl, rfl, hK1, hN1⟩ := hq
          refine rn_iload_n dX8_begin_37 rfl rfl ?_
          refine rn_iconst (v := nI 3) dX8_begin_38 (by decide) ?_
          refine rn_icmp_neN (tgt := 100) dX8_begin_39 (by decide) (by omega) (by omega) (fun c_39 => ?_) (fun c_39 => ?_)
          · refine rn_iload_n dX8_begin_100 rfl rfl ?_
            refine rn_iconst (v := nI 4) dX8_begin_101 (by decide) ?_
            refine rn_icmp_neN (tgt := 163) dX8_begin_102 (by decide) (by omega) (by omega) (fun c_102 => ?_) (fun c_102 => ?_)
            · refine rn_aload_n dX8_begin_163 rfl rfl ?_
              refine rn_getR (r := 56) dX8_begin_164 fd_8_52 (sk_l hs 44 (by decide)) (sk_k44 hs) rfl (sk_r44_22 hs) ?_
              refine rn_aload_n dX8_begin_167 rfl rfl ?_
              refine rn_getI dX8_begin_168 fd_8_173 (sk_l hs 44 (by decide)) (sk_k44 hs) rfl ?_
              refine rn_top (y := nI m) ((hK1.2 21 (by decide)).trans h21) ?_
              refine rn_iload_n dX8_begin_171 rfl rfl ?_
              refine rn_iastoreN dX8_begin_172 (sk_l hs 56 (by decide)) (sk_k56 hs) (by omega) (by omega) ?_
              refine rn_aload_n dX8_begin_173 rfl rfl ?_
              refine rn_getR (r := 57) dX8_begin_174 fd_8_55 (sk_l hs 44 (by decide)) (sk_k44 hs) rfl (sk_r44_23 hs) ?_
              refine rn_aload_n dX8_begin_177 rfl rfl ?_
              refine rn_getI dX8_begin_178 fd_8_173 (sk_l hs 44 (by decide)) (sk_k44 hs) rfl ?_
              refine rn_top (y := nI m) (by have h9 := (hK1.2 21 (by decide)).trans h21; simp [am_up, va_up, h9]) ?_
              refine rn_iload_n dX8_begin_181 rfl rfl ?_
              refine rn_iastoreN dX8_begin_182 (sk_l hs 57 (by decide)) (sk_k57 hs) (by omega) (by omega) ?_
              refine rn_aload_n dX8_begin_183 rfl rfl ?_
              refine rn_getR (r := 59) dX8_begin_184 fd_8_61 (sk_l hs 44 (by decide)) (sk_k44 hs) rfl (sk_r44_25 hs) ?_
              refine rn_aload_n dX8_begin_187 rfl rfl ?_
              refine rn_getI dX8_begin_188 fd_8_173 (sk_l hs 44 (by decide)) (sk_k44 hs) rfl ?_
              refine rn_top (y := nI m) (by have h9 := (hK1.2 21 (by decide)).trans h21; simp [am_up, va_up, h9]) ?_
              refine rn_iconst (v := nI 0) dX8_begin_191 (by decide) ?_
              refine rn_zastoreN dX8_begin_192 (sk_l hs 59 (by decide)) (sk_k59 hs) (by omega) (by omega) (by decide) ?_
              refine rn_iload_n dX8_begin_193 rfl rfl ?_
              refine rn_iconst (v := nI 5) dX8_begin_194 (by decide) ?_
              refine rn_icmp_neN (tgt := 202) dX8_begin_195 (by decide) (by omega) (by omega) (fun c_195 => ?_) (fun c_195 => ?_)
              · exact absurd c_195 (by decide)
              · refine rn_iconst (v := nI 3) dX8_begin_198 (by decide) ?_
                refine rn_goto (tgt := 213) dX8_begin_199 (by decide) ?_
                refine rn_istore_n (ls' := [some (.ref 44), some (.int (nI 5)), some (.int (nI (tS n B p))), some (.int (nI 3)), none, none]) dX8_begin_213 rfl (by decide) rfl rfl ?_
                refine rn_iconst (v := nI 0) dX8_begin_214 (by decide) ?_
                refine rn_istore (ls' := [some (.ref 44), some (.int (nI 5)), some (.int (nI (tS n B p))), some (.int (nI 3)), some (.int (nI 0)), none]) dX8_begin_215 (by decide) rfl rfl ?_
                have hb0 : BI n B m (5) (tS n B p) (tE n B (tS n B p)) I (am_up (am_up (am_up I1 56 m (nI (5))) 57 m (nI (tS n B p))) 59 m (nI 0)) := ⟨((hK1.fm.up (Or.inr (by decide)) _).up (Or.inr (by decide)) _).up (Or.inr (by decide)) _, ((hK1.st.up (Or.inr (Or.inl ⟨by decide, Nat.le_refl _⟩)) _).up (Or.inr (Or.inl ⟨by decide, Nat.le_refl _⟩)) _).up (Or.inr (Or.inl ⟨by decide, Nat.le_refl _⟩)) _, hN1.kept (fun x _ _ => by rw [am_up_a _ _ (by decide), am_up_a _ _ (by decide), am_up_a _ _ (by decide)]), by rw [am_up_a _ _ (by decide), am_up_a _ _ (by decide), am_up_a _ _ (by decide), hK1.2 21 (by decide)]; exact h21, by rw [am_up_a _ _ (by decide), am_up_a _ _ (by decide), am_up_a _ _ (by decide), hK1.2 26 (by decide)]; exact h26, by rw [am_up_a _ _ (by decide), am_up_a _ _ (by decide), am_up_at], by rw [am_up_a _ _ (by decide), am_up_at], by rw [am_up_at]⟩
                exact L5 _ hb0
            · exact absurd c_102 (by decide)
          · exact absurd c_39 (by decide)
        · omega
    · exact absurd c_7 (by decide)
  by_cases ht8 : tK n B (tS n B p) = 8
  · rw [show pB n B Sh (8 - m) p = bnd (pN n B 1 8 (tE n B (tS n B p))) (fun a => .inr (.inr ((8, tS n B p, a.1, 0, 0), a.2))) by unfold pB; rw [if_neg (by omega), if_neg ht, if_neg ht4, if_neg (by omega), if_neg ht5, if_pos ht8]]
    have L8 : ∀ J : am_I, BI n B m 8 (tS n B p) (tE n B (tS n B p)) I J → am_Rn 4 Y_X8_begin (0, 0) 217 [some (.ref 44), some (.int (nI 8)), some (.int (nI (tS n B p))), some (.int (nI 1)), some (.int (nI 0)), none] [] S J (BX S n B m I (bnd (pN n B 1 8 (tE n B (tS n B p))) (fun a => .inr (.inr ((8, tS n B p, a.1, 0, 0), a.2))))) := by
      intro J hb0
      rcases hXa : pN n B 1 8 (tE n B (tS n B p)) with e | a
      · refine rn_iload dX8_begin_217 rfl ?_
        refine rn_iload_n dX8_begin_219 rfl rfl ?_
        refine rn_icmp_geN (tgt := 295) dX8_begin_220 (by decide) (by omega) (by omega) (fun c_220 => ?_) (fun c_220 => ?_)
        · exact absurd c_220 (by decide)
        · refine rn_aload_n dX8_begin_223 rfl rfl ?_
          refine rn_getR (r := 58) dX8_begin_224 fd_8_58 (sk_l hs 44 (by decide)) (sk_k44 hs) rfl (sk_r44_24 hs) ?_
          refine rn_iconst (v := nI 3) dX8_begin_227 (by decide) ?_
          refine rn_aload_n dX8_begin_228 rfl rfl ?_
          refine rn_getI dX8_begin_229 fd_8_173 (sk_l hs 44 (by decide)) (sk_k44 hs) rfl ?_
          refine rn_top (y := nI m) (hb0.2.2.2.1) ?_
          refine rn_imul dX8_begin_232 ?_
          refine rn_top (pk_mul _ _) ?_
          refine rn_iload dX8_begin_233 rfl ?_
          refine rn_iadd dX8_begin_235 ?_
          refine rn_top (nI_add _ _) ?_
          refine rn_aload_n dX8_begin_236 rfl rfl ?_
          refine rn_getI dX8_begin_237 fd_8_163 (sk_l hs 44 (by decide)) (sk_k44 hs) rfl ?_
          refine rn_iastoreN dX8_begin_240 (sk_l hs 58 (by decide)) (sk_k58 hs) (by omega) (by omega) ?_
          obtain ⟨J1, hJ1⟩ : ∃ J9 : am_I, J9 = am_up J 58 ((3 * m) + 0) (J 44 20) := ⟨_, rfl⟩
          refine rn_I hJ1.symm ?_
          have hb1 : BI n B m 8 (tS n B p) (tE n B (tS n B p)) I J1 := by rw [hJ1]; exact hb0.num (by omega) _
          have hg1 : J1 44 20 = J 44 20 := by rw [hJ1, am_up_a _ _ (by decide)]
          have hv1 : J1 58 (3 * m + 0) = J1 44 20 := by rw [hg1, hJ1, am_up_at]
          have ho1 : ∀ x, x ≠ 3 * m + 0 → J1 58 x = J 58 x := fun x hx => by rw [hJ1, am_up_k _ _ hx]
          refine rn_aload_n dX8_begin_241 rfl rfl ?_
          refine rn_iload_n dX8_begin_242 rfl rfl ?_
          refine rn_bipush (v := nI 8) dX8_begin_243 (by decide) ?_
          refine rn_icmp_neN (tgt := 252) dX8_begin_245 (by decide) (by omega) (by omega) (fun c_245 => ?_) (fun c_245 => ?_)
          · exact absurd c_245 (by decide)
          · refine rn_iconst (v := nI 1) dX8_begin_248 (by decide) ?_
            refine rn_goto (tgt := 253) dX8_begin_249 (by decide) ?_
            refine rn_iload_n dX8_begin_253 rfl rfl ?_
            refine rn_bipush (v := nI 8) dX8_begin_254 (by decide) ?_
            refine rn_icmp_neN (tgt := 264) dX8_begin_256 (by decide) (by omega) (by omega) (fun c_256 => ?_) (fun c_256 => ?_)
            · exact absurd c_256 (by decide)
            · refine rn_bipush (v := nI 8) dX8_begin_259 (by decide) ?_
              refine rn_goto (tgt := 276) dX8_begin_261 (by decide) ?_
              refine rn_callV0 (st := []) dX8_begin_276 cf_8_176 (c_X8_take hs (hb1.1.tm hT) hB hpE hb1.2.2.1 (lo := 1) (hi := 8) (by decide) (by decide)) (by omega) (sk_l hs 44 (by decide)) (sk_k44 hs) rfl rfl (Nat.le_of_ble_eq_true rfl) (fun r1 S1 K1 hq => ?_)
              obtain ⟨rfl, rfl, rfl, hPl⟩ := hq.l hXa
              have hea := pN_err hXa
              refine rn_istore (ls' := [some (.ref 44), some (.int (nI 8)), some (.int (nI (tS n B p))), some (.int (nI 1)), some (.int (nI 0)), some (.int (nI e.1))]) dX8_begin_279 (by decide) rfl rfl ?_
              refine rn_iload dX8_begin_281 rfl ?_
              refine rn_if_eqN (tgt := 289) dX8_begin_283 (by decide) (by omega) (fun c_283 => ?_) (fun c_283 => ?_)
              · omega
              · refine rn_iload dX8_begin_286 rfl ?_
                refine rn_ireturn dX8_begin_288 rfl (vp_nar_int _) ?_
                exact ⟨rfl, hb1.1, hb1.2.1, Or.inl ⟨e, rfl, rfl, hPl⟩⟩
      rw [bnd_r]
      refine rn_iload dX8_begin_217 rfl ?_
      refine rn_iload_n dX8_begin_219 rfl rfl ?_
      refine rn_icmp_geN (tgt := 295) dX8_begin_220 (by decide) (by omega) (by omega) (fun c_220 => ?_) (fun c_220 => ?_)
      · exact absurd c_220 (by decide)
      · refine rn_aload_n dX8_begin_223 rfl rfl ?_
        refine rn_getR (r := 58) dX8_begin_224 fd_8_58 (sk_l hs 44 (by decide)) (sk_k44 hs) rfl (sk_r44_24 hs) ?_
        refine rn_iconst (v := nI 3) dX8_begin_227 (by decide) ?_
        refine rn_aload_n dX8_begin_228 rfl rfl ?_
        refine rn_getI dX8_begin_229 fd_8_173 (sk_l hs 44 (by decide)) (sk_k44 hs) rfl ?_
        refine rn_top (y := nI m) (hb0.2.2.2.1) ?_
        refine rn_imul dX8_begin_232 ?_
        refine rn_top (pk_mul _ _) ?_
        refine rn_iload dX8_begin_233 rfl ?_
        refine rn_iadd dX8_begin_235 ?_
        refine rn_top (nI_add _ _) ?_
        refine rn_aload_n dX8_begin_236 rfl rfl ?_
        refine rn_getI dX8_begin_237 fd_8_163 (sk_l hs 44 (by decide)) (sk_k44 hs) rfl ?_
        refine rn_iastoreN dX8_begin_240 (sk_l hs 58 (by decide)) (sk_k58 hs) (by omega) (by omega) ?_
        obtain ⟨J1, hJ1⟩ : ∃ J9 : am_I, J9 = am_up J 58 ((3 * m) + 0) (J 44 20) := ⟨_, rfl⟩
        refine rn_I hJ1.symm ?_
        have hb1 : BI n B m 8 (tS n B p) (tE n B (tS n B p)) I J1 := by rw [hJ1]; exact hb0.num (by omega) _
        have hg1 : J1 44 20 = J 44 20 := by rw [hJ1, am_up_a _ _ (by decide)]
        have hv1 : J1 58 (3 * m + 0) = J1 44 20 := by rw [hg1, hJ1, am_up_at]
        have ho1 : ∀ x, x ≠ 3 * m + 0 → J1 58 x = J 58 x := fun x hx => by rw [hJ1, am_up_k _ _ hx]
        refine rn_aload_n dX8_begin_241 rfl rfl ?_
        refine rn_iload_n dX8_begin_242 rfl rfl ?_
        refine rn_bipush (v := nI 8) dX8_begin_243 (by decide) ?_
        refine rn_icmp_neN (tgt := 252) dX8_begin_245 (by decide) (by omega) (by omega) (fun c_245 => ?_) (fun c_245 => ?_)
        · exact absurd c_245 (by decide)
        · refine rn_iconst (v := nI 1) dX8_begin_248 (by decide) ?_
          refine rn_goto (tgt := 253) dX8_begin_249 (by decide) ?_
          refine rn_iload_n dX8_begin_253 rfl rfl ?_
          refine rn_bipush (v := nI 8) dX8_begin_254 (by decide) ?_
          refine rn_icmp_neN (tgt := 264) dX8_begin_256 (by decide) (by omega) (by omega) (fun c_256 => ?_) (fun c_256 => ?_)
          · exact absurd c_256 (by decide)
          · refine rn_bipush (v := nI 8) dX8_begin_259 (by decide) ?_
            refine rn_goto (tgt := 276) dX8_begin_261 (by decide) ?_
            refine rn_callV0 (st := []) dX8_begin_276 cf_8_176 (c_X8_take hs (hb1.1.tm hT) hB hpE hb1.2.2.1 (lo := 1) (hi := 8) (by decide) (by decide)) (by omega) (sk_l hs 44 (by decide)) (sk_k44 hs) rfl rfl (Nat.le_of_ble_eq_true rfl) (fun r1 S1 K1 hq => ?_)
            obtain ⟨rfl, rfl, hK1, hN1, hva1⟩ := hq.r hXa
            have hPa := pN_pos n B hpE hXa
            have hc1 := hb1.kt hK1 hN1
            refine rn_istore (ls' := [some (.ref 44), some (.int (nI 8)), some (.int (nI (tS n B p))), some (.int (nI 1)), some (.int (nI 0)), some (.int (nI 0))]) dX8_begin_279 (by decide) rfl rfl ?_
            refine rn_iload dX8_begin_281 rfl ?_
            refine rn_if_eqN (tgt := 289) dX8_begin_283 (by decide) (by omega) (fun c_283 => ?_) (fun c_283 => ?_)
            · refine rn_iinc (v := nI 1) (ls' := [some (.ref 44), some (.int (nI 8)), some (.int (nI (tS n B p))), some (.int (nI 1)), some (.int (nI 1)), some (.int (nI 0))]) dX8_begin_289 rfl (nI_add _ 1) (by decide) rfl rfl ?_
              refine rn_goto (tgt := 217) dX8_begin_292 (by decide) ?_
              refine rn_iload dX8_begin_217 rfl ?_
              refine rn_iload_n dX8_begin_219 rfl rfl ?_
              refine rn_icmp_geN (tgt := 295) dX8_begin_220 (by decide) (by omega) (by omega) (fun c_220 => ?_) (fun c_220 => ?_)
              · refine rn_aload_n dX8_begin_295 rfl rfl ?_
                refine rn_dup dX8_begin_296 rfl ?_
                refine rn_getI dX8_begin_297 fd_8_173 (sk_l hs 44 (by decide)) (sk_k44 hs) rfl ?_
                refine rn_top (y := nI m) (hc1.2.2.2.1) ?_
                refine rn_iconst (v := nI 1) dX8_begin_300 (by decide) ?_
                refine rn_iadd dX8_begin_301 ?_
                refine rn_top (nI_add _ _) ?_
                refine rn_putI dX8_begin_302 fd_8_173 (sk_l hs 44 (by decide)) (sk_k44 hs) rfl rfl (vp_nar_int _) rfl ?_
                refine rn_iconst (v := nI 0) dX8_begin_305 (by decide) ?_
                refine rn_ireturn dX8_begin_306 rfl (vp_nar_int _) ?_
                have q56 : K1 58 = J1 58 := hK1.1 58 (by decide)
                have hbb := hc1.opn
                exact ⟨rfl, hbb.1, hbb.2.1, Or.inr (Or.inr ⟨_, _, rfl, rfl, BI.en (e := (8, tS n B p, a.1, 0, 0)) hc1 ⟨⟨Nat.le_of_ble_eq_true rfl, Nat.le_of_ble_eq_true rfl⟩, fun q9 => absurd q9 (by simp), fun _ => hPa.2⟩ (fun q9 => absurd q9 (by simp)) (fun _ => by rw [q56]; exact hv1.trans hva1), hbb.2.2.2, by rw [am_up_at], hbb.2.2.1⟩)⟩
              · exact absurd c_220 (by decide)
            · exact absurd c_283 (by decide)
    refine am_mt ⟨by decide +kernel, rfl⟩ (Nat.le_of_ble_eq_true rfl) rfl ?_
    refine rn_aload_n dX8_begin_0 rfl rfl ?_
    refine rn_getI dX8_begin_1 fd_8_157 (sk_l hs 44 (by decide)) (sk_k44 hs) rfl ?_
    refine rn_top (y := nI 8) (by rw [hN.2.1, ht8]) ?_
    refine rn_istore_n (ls' := [some (.ref 44), some (.int (nI 8)), none, none, none, none]) dX8_begin_4 rfl (by decide) rfl rfl ?_
    refine rn_iload_n dX8_begin_5 rfl rfl ?_
    refine rn_iconst (v := nI 3) dX8_begin_6 (by decide) ?_
    refine rn_icmp_geN (tgt := 12) dX8_begin_7 (by decide) (by omega) (by omega) (fun c_7 => ?_) (fun c_7 => ?_)
    · refine rn_iload_n dX8_begin_12 rfl rfl ?_
      refine rn_iconst (v := nI 4) dX8_begin_13 (by decide) ?_
      refine rn_icmp_leN (tgt := 28) dX8_begin_14 (by decide) (by omega) (by omega) (fun c_14 => ?_) (fun c_14 => ?_)
      · exact absurd c_14 (by decide)
      · refine rn_aload_n dX8_begin_17 rfl rfl ?_
        refine rn_getI dX8_begin_18 fd_8_173 (sk_l hs 44 (by decide)) (sk_k44 hs) rfl ?_
        refine rn_top (y := nI m) (h21) ?_
        refine rn_bipush (v := nI 8) dX8_begin_21 (by decide) ?_
        refine rn_icmp_neN (tgt := 28) dX8_begin_23 (by decide) (by omega) (by omega) (fun c_23 => ?_) (fun c_23 => ?_)
        · refine rn_aload_n dX8_begin_28 rfl rfl ?_
          refine rn_getI dX8_begin_29 fd_8_154 (sk_l hs 44 (by decide)) (sk_k44 hs) rfl ?_
          refine rn_top (y := nI (tS n B p)) (hN.1) ?_
          refine rn_istore_n (ls' := [some (.ref 44), some (.int (nI 8)), some (.int (nI (tS n B p))), none, none, none]) dX8_begin_32 rfl (by decide) rfl rfl ?_
          refine rn_aload_n dX8_begin_33 rfl rfl ?_
          refine rn_callV0 (st := []) dX8_begin_34 cf_8_170 (c_X8_nextToken hs hT hB hpE (hN.2.2.1 (by omega))) (by omega) (sk_l hs 44 (by decide)) (sk_k44 hs) rfl rfl (Nat.le_of_ble_eq_true rfl) (fun r1 S1 I1 hq => ?_)
          obtain ⟨rfl, rfl, hK1, hN1⟩ := hq
          refine rn_iload_n dX8_begin_37 rfl rfl ?_
          refine rn_iconst (v := nI 3) dX8_begin_38 (by decide) ?_
          refine rn_icmp_neN (tgt := 100) dX8_begin_39 (by decide) (by omega) (by omega) (fun c_39 => ?_) (fun c_39 => ?_)
          · refine rn_iload_n dX8_begin_100 rfl rfl ?_
            refine rn_iconst (v := nI 4) dX8_begin_101 (by decide) ?_
            refine rn_icmp_neN (tgt := 163) dX8_begin_102 (by decide) (by omega) (by omega) (fun c_102 => ?_) (fun c_102 => ?_)
            · refine rn_aload_n dX8_begin_163 rfl rfl ?_
              refine rn_getR (r := 56) dX8_begin_164 fd_8_52 (sk_l hs 44 (by decide)) (sk_k44 hs) rfl (sk_r44_22 hs) ?_
              refine rn_aload_n dX8_begin_167 rfl rfl ?_
              refine rn_getI dX8_begin_168 fd_8_173 (sk_l hs 44 (by decide)) (sk_k44 hs) rfl ?_
              refine rn_top (y := nI m) ((hK1.2 21 (by decide)).trans h21) ?_
              refine rn_iload_n dX8_begin_171 rfl rfl ?_
              refine rn_iastoreN dX8_begin_172 (sk_l hs 56 (by decide)) (sk_k56 hs) (by omega) (by omega) ?_
              refine rn_aload_n dX8_begin_173 rfl rfl ?_
              refine rn_getR (r := 57) dX8_begin_174 fd_8_55 (sk_l hs 44 (by decide)) (sk_k44 hs) rfl (sk_r44_23 hs) ?_
              refine rn_aload_n dX8_begin_177 rfl rfl ?_
              refine rn_getI dX8_begin_178 fd_8_173 (sk_l hs 44 (by decide)) (sk_k44 hs) rfl ?_
              refine rn_top (y := nI m) (by have h9 := (hK1.2 21 (by decide)).trans h21; simp [am_up, va_up, h9]) ?_
              refine rn_iload_n dX8_begin_181 rfl rfl ?_
              refine rn_iastoreN dX8_begin_182 (sk_l hs 57 (by decide)) (sk_k57 hs) (by omega) (by omega) ?_
              refine rn_aload_n dX8_begin_183 rfl rfl ?_
              refine rn_getR (r := 59) dX8_begin_184 fd_8_61 (sk_l hs 44 (by decide)) (sk_k44 hs) rfl (sk_r44_25 hs) ?_
              refine rn_aload_n dX8_begin_187 rfl rfl ?_
              refine rn_getI dX8_begin_188 fd_8_173 (sk_l hs 44 (by decide)) (sk_k44 hs) rfl ?_
              refine rn_top (y := nI m) (by have h9 := (hK1.2 21 (by decide)).trans h21; simp [am_up, va_up, h9]) ?_
              refine rn_iconst (v := nI 0) dX8_begin_191 (by decide) ?_
              refine rn_zastoreN dX8_begin_192 (sk_l hs 59 (by decide)) (sk_k59 hs) (by omega) (by omega) (by decide) ?_
              refine rn_iload_n dX8_begin_193 rfl rfl ?_
              refine rn_iconst (v := nI 5) dX8_begin_194 (by decide) ?_
              refine rn_icmp_neN (tgt := 202) dX8_begin_195 (by decide) (by omega) (by omega) (fun c_195 => ?_) (fun c_195 => ?_)
              · refine rn_iload_n dX8_begin_202 rfl rfl ?_
                refine rn_bipush (v := nI 8) dX8_begin_203 (by decide) ?_
                refine rn_icmp_neN (tgt := 212) dX8_begin_205 (by decide) (by omega) (by omega) (fun c_205 => ?_) (fun c_205 => ?_)
                · exact absurd c_205 (by decide)
                · refine rn_iconst (v := nI 1) dX8_begin_208 (by decide) ?_
                  refine rn_goto (tgt := 213) dX8_begin_209 (by decide) ?_
                  refine rn_istore_n (ls' := [some (.ref 44), some (.int (nI 8)), some (.int (nI (tS n B p))), some (.int (nI 1)), none, none]) dX8_begin_213 rfl (by decide) rfl rfl ?_
                  refine rn_iconst (v := nI 0) dX8_begin_214 (by decide) ?_
                  refine rn_istore (ls' := [some (.ref 44), some (.int (nI 8)), some (.int (nI (tS n B p))), some (.int (nI 1)), some (.int (nI 0)), none]) dX8_begin_215 (by decide) rfl rfl ?_
                  have hb0 : BI n B m (8) (tS n B p) (tE n B (tS n B p)) I (am_up (am_up (am_up I1 56 m (nI (8))) 57 m (nI (tS n B p))) 59 m (nI 0)) := ⟨((hK1.fm.up (Or.inr (by decide)) _).up (Or.inr (by decide)) _).up (Or.inr (by decide)) _, ((hK1.st.up (Or.inr (Or.inl ⟨by decide, Nat.le_refl _⟩)) _).up (Or.inr (Or.inl ⟨by decide, Nat.le_refl _⟩)) _).up (Or.inr (Or.inl ⟨by decide, Nat.le_refl _⟩)) _, hN1.kept (fun x _ _ => by rw [am_up_a _ _ (by decide), am_up_a _ _ (by decide), am_up_a _ _ (by decide)]), by rw [am_up_a _ _ (by decide), am_up_a _ _ (by decide), am_up_a _ _ (by decide), hK1.2 21 (by decide)]; exact h21, by rw [am_up_a _ _ (by decide), am_up_a _ _ (by decide), am_up_a _ _ (by decide), hK1.2 26 (by decide)]; exact h26, by rw [am_up_a _ _ (by decide), am_up_a _ _ (by decide), am_up_at], by rw [am_up_a _ _ (by decide), am_up_at], by rw [am_up_at]⟩
                  exact L8 _ hb0
              · exact absurd c_195 (by decide)
            · exact absurd c_102 (by decide)
          · exact absurd c_39 (by decide)
        · omega
    · exact absurd c_7 (by decide)
  rw [show pB n B Sh (8 - m) p = .inr (.inr ((tK n B (tS n B p), tS n B p, 0, 0, 0), tE n B (tS n B p))) by unfold pB; rw [if_neg (by omega), if_neg ht, if_neg ht4, if_neg (by omega), if_neg ht5, if_neg ht8]]
  refine am_mt ⟨by decide +kernel, rfl⟩ (Nat.le_of_ble_eq_true rfl) rfl ?_
  refine rn_aload_n dX8_begin_0 rfl rfl ?_
  refine rn_getI dX8_begin_1 fd_8_157 (sk_l hs 44 (by decide)) (sk_k44 hs) rfl ?_
  refine rn_top (y := nI (tK n B (tS n B p))) (hN.2.1) ?_
  refine rn_istore_n (ls' := [some (.ref 44), some (.int (nI (tK n B (tS n B p)))), none, none, none, none]) dX8_begin_4 rfl (by decide) rfl rfl ?_
  refine rn_iload_n dX8_begin_5 rfl rfl ?_
  refine rn_iconst (v := nI 3) dX8_begin_6 (by decide) ?_
  refine rn_icmp_geN (tgt := 12) dX8_begin_7 (by decide) (by omega) (by omega) (fun c_7 => ?_) (fun c_7 => ?_)
  · refine rn_iload_n dX8_begin_12 rfl rfl ?_
    refine rn_iconst (v := nI 4) dX8_begin_13 (by decide) ?_
    refine rn_icmp_leN (tgt := 28) dX8_begin_14 (by decide) (by omega) (by omega) (fun c_14 => ?_) (fun c_14 => ?_)
    · omega
    · refine rn_aload_n dX8_begin_17 rfl rfl ?_
      refine rn_getI dX8_begin_18 fd_8_173 (sk_l hs 44 (by decide)) (sk_k44 hs) rfl ?_
      refine rn_top (y := nI m) (h21) ?_
      refine rn_bipush (v := nI 8) dX8_begin_21 (by decide) ?_
      refine rn_icmp_neN (tgt := 28) dX8_begin_23 (by decide) (by omega) (by omega) (fun c_23 => ?_) (fun c_23 => ?_)
      · refine rn_aload_n dX8_begin_28 rfl rfl ?_
        refine rn_getI dX8_begin_29 fd_8_154 (sk_l hs 44 (by decide)) (sk_k44 hs) rfl ?_
        refine rn_top (y := nI (tS n B p)) (hN.1) ?_
        refine rn_istore_n (ls' := [some (.ref 44), some (.int (nI (tK n B (tS n B p)))), some (.int (nI (tS n B p))), none, none, none]) dX8_begin_32 rfl (by decide) rfl rfl ?_
        refine rn_aload_n dX8_begin_33 rfl rfl ?_
        refine rn_callV0 (st := []) dX8_begin_34 cf_8_170 (c_X8_nextToken hs hT hB hpE (hN.2.2.1 (by omega))) (by omega) (sk_l hs 44 (by decide)) (sk_k44 hs) rfl rfl (Nat.le_of_ble_eq_true rfl) (fun r1 S1 I1 hq => ?_)
        obtain ⟨rfl, rfl, hK1, hN1⟩ := hq
        refine rn_iload_n dX8_begin_37 rfl rfl ?_
        refine rn_iconst (v := nI 3) dX8_begin_38 (by decide) ?_
        refine rn_icmp_neN (tgt := 100) dX8_begin_39 (by decide) (by omega) (by omega) (fun c_39 => ?_) (fun c_39 => ?_)
        · refine rn_iload_n dX8_begin_100 rfl rfl ?_
          refine rn_iconst (v := nI 4) dX8_begin_101 (by decide) ?_
          refine rn_icmp_neN (tgt := 163) dX8_begin_102 (by decide) (by omega) (by omega) (fun c_102 => ?_) (fun c_102 => ?_)
          · refine rn_aload_n dX8_begin_163 rfl rfl ?_
            refine rn_getR (r := 56) dX8_begin_164 fd_8_52 (sk_l hs 44 (by decide)) (sk_k44 hs) rfl (sk_r44_22 hs) ?_
            refine rn_aload_n dX8_begin_167 rfl rfl ?_
            refine rn_getI dX8_begin_168 fd_8_173 (sk_l hs 44 (by decide)) (sk_k44 hs) rfl ?_
            refine rn_top (y := nI m) ((hK1.2 21 (by decide)).trans h21) ?_
            refine rn_iload_n dX8_begin_171 rfl rfl ?_
            refine rn_iastoreN dX8_begin_172 (sk_l hs 56 (by decide)) (sk_k56 hs) (by omega) (by omega) ?_
            refine rn_aload_n dX8_begin_173 rfl rfl ?_
            refine rn_getR (r := 57) dX8_begin_174 fd_8_55 (sk_l hs 44 (by decide)) (sk_k44 hs) rfl (sk_r44_23 hs) ?_
            refine rn_aload_n dX8_begin_177 rfl rfl ?_
            refine rn_getI dX8_begin_178 fd_8_173 (sk_l hs 44 (by decide)) (sk_k44 hs) rfl ?_
            refine rn_top (y := nI m) (by have h9 := (hK1.2 21 (by decide)).trans h21; simp [am_up, va_up, h9]) ?_
            refine rn_iload_n dX8_begin_181 rfl rfl ?_
            refine rn_iastoreN dX8_begin_182 (sk_l hs 57 (by decide)) (sk_k57 hs) (by omega) (by omega) ?_
            refine rn_aload_n dX8_begin_183 rfl rfl ?_
            refine rn_getR (r := 59) dX8_begin_184 fd_8_61 (sk_l hs 44 (by decide)) (sk_k44 hs) rfl (sk_r44_25 hs) ?_
            refine rn_aload_n dX8_begin_187 rfl rfl ?_
            refine rn_getI dX8_begin_188 fd_8_173 (sk_l hs 44 (by decide)) (sk_k44 hs) rfl ?_
            refine rn_top (y := nI m) (by have h9 := (hK1.2 21 (by decide)).trans h21; simp [am_up, va_up, h9]) ?_
            refine rn_iconst (v := nI 0) dX8_begin_191 (by decide) ?_
            refine rn_zastoreN dX8_begin_192 (sk_l hs 59 (by decide)) (sk_k59 hs) (by omega) (by omega) (by decide) ?_
            refine rn_iload_n dX8_begin_193 rfl rfl ?_
            refine rn_iconst (v := nI 5) dX8_begin_194 (by decide) ?_
            refine rn_icmp_neN (tgt := 202) dX8_begin_195 (by decide) (by omega) (by omega) (fun c_195 => ?_) (fun c_195 => ?_)
            · refine rn_iload_n dX8_begin_202 rfl rfl ?_
              refine rn_bipush (v := nI 8) dX8_begin_203 (by decide) ?_
              refine rn_icmp_neN (tgt := 212) dX8_begin_205 (by decide) (by omega) (by omega) (fun c_205 => ?_) (fun c_205 => ?_)
              · refine rn_iconst (v := nI 0) dX8_begin_212 (by decide) ?_
                refine rn_istore_n (ls' := [some (.ref 44), some (.int (nI (tK n B (tS n B p)))), some (.int (nI (tS n B p))), some (.int (nI 0)), none, none]) dX8_begin_213 rfl (by decide) rfl rfl ?_
                refine rn_iconst (v := nI 0) dX8_begin_214 (by decide) ?_
                refine rn_istore (ls' := [some (.ref 44), some (.int (nI (tK n B (tS n B p)))), some (.int (nI (tS n B p))), some (.int (nI 0)), some (.int (nI 0)), none]) dX8_begin_215 (by decide) rfl rfl ?_
                refine rn_iload dX8_begin_217 rfl ?_
                refine rn_iload_n dX8_begin_219 rfl rfl ?_
                refine rn_icmp_geN (tgt := 295) dX8_begin_220 (by decide) (by omega) (by omega) (fun c_220 => ?_) (fun c_220 => ?_)
                · have hb0 : BI n B m (tK n B (tS n B p)) (tS n B p) (tE n B (tS n B p)) I (am_up (am_up (am_up I1 56 m (nI (tK n B (tS n B p)))) 57 m (nI (tS n B p))) 59 m (nI 0)) := ⟨((hK1.fm.up (Or.inr (by decide)) _).up (Or.inr (by decide)) _).up (Or.inr (by decide)) _, ((hK1.st.up (Or.inr (Or.inl ⟨by decide, Nat.le_refl _⟩)) _).up (Or.inr (Or.inl ⟨by decide, Nat.le_refl _⟩)) _).up (Or.inr (Or.inl ⟨by decide, Nat.le_refl _⟩)) _, hN1.kept (fun x _ _ => by rw [am_up_a _ _ (by decide), am_up_a _ _ (by decide), am_up_a _ _ (by decide)]), by rw [am_up_a _ _ (by decide), am_up_a _ _ (by decide), am_up_a _ _ (by decide), hK1.2 21 (by decide)]; exact h21, by rw [am_up_a _ _ (by decide), am_up_a _ _ (by decide), am_up_a _ _ (by decide), hK1.2 26 (by decide)]; exact h26, by rw [am_up_a _ _ (by decide), am_up_a _ _ (by decide), am_up_at], by rw [am_up_a _ _ (by decide), am_up_at], by rw [am_up_at]⟩
                  have hbb := hb0.opn
                  refine rn_aload_n dX8_begin_295 rfl rfl ?_
                  refine rn_dup dX8_begin_296 rfl ?_
                  refine rn_getI dX8_begin_297 fd_8_173 (sk_l hs 44 (by decide)) (sk_k44 hs) rfl ?_
                  refine rn_top (y := nI m) (by have h9 := (hK1.2 21 (by decide)).trans h21; simp [am_up, va_up, h9]) ?_
                  refine rn_iconst (v := nI 1) dX8_begin_300 (by decide) ?_
                  refine rn_iadd dX8_begin_301 ?_
                  refine rn_top (nI_add _ _) ?_
                  refine rn_putI dX8_begin_302 fd_8_173 (sk_l hs 44 (by decide)) (sk_k44 hs) rfl rfl (vp_nar_int _) rfl ?_
                  refine rn_iconst (v := nI 0) dX8_begin_305 (by decide) ?_
                  refine rn_ireturn dX8_begin_306 rfl (vp_nar_int _) ?_
                  exact ⟨rfl, hbb.1, hbb.2.1, Or.inr (Or.inr ⟨_, _, rfl, rfl, BI.en (e := (tK n B (tS n B p), tS n B p, 0, 0, 0)) hb0 ⟨⟨by show 5 ≤ tK n B (tS n B p); omega, htl⟩, fun q9 => absurd q9 ht5, fun q9 => absurd q9 ht8⟩ (fun q9 => absurd q9 ht5) (fun q9 => absurd q9 ht8), hbb.2.2.2, by rw [am_up_at], hbb.2.2.1⟩)⟩
                · exact absurd c_220 (by decide)
              · omega
            · omega
          · omega
        · omega
      · omega
  · omega
