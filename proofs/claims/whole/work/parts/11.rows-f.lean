section AMF
variable {d : Nat} {Y : am_Y} {b : Nat × Nat} {pc : Nat} {ls : List (Option Value)} {st : List Value} {S : am_S} {I : am_I} {Q : Option Value → am_S → am_I → Prop}
/-- the top under another spelling -/
theorem rn_top {x y : Int32} (h : x = y) (k : am_Rn d Y b pc ls (.int y :: st) S I Q) : am_Rn d Y b pc ls (.int x :: st) S I Q := h ▸ k
theorem rn_topv {x y : Value} (h : x = y) (k : am_Rn d Y b pc ls (y :: st) S I Q) : am_Rn d Y b pc ls (x :: st) S I Q := h ▸ k
theorem rn_I {I' : am_I} (h : I = I') (k : am_Rn d Y b pc ls st S I' Q) : am_Rn d Y b pc ls st S I Q := h ▸ k
/-- fewer known places -/
theorem rn_ls {ls' : List (Option Value)} (hl : ls'.length = ls.length) (hs : ∀ (i : Nat) (v : Value), ls'[i]? = some (some v) → ls[i]? = some (some v)) (k : am_Rn d Y b pc ls' st S I Q) : am_Rn d Y b pc ls st S I Q := by
  intro g p l e R s m args below meth c H locs cells slots mc ms cl C L
  exact k g p l e R s m args below meth c H locs cells slots mc ms cl C (L.sub hl hs)
/-- another end -/
theorem rn_imp {Q' : Option Value → am_S → am_I → Prop} (h : ∀ r S' I', Q' r S' I' → Q r S' I') (k : am_Rn d Y b pc ls st S I Q') : am_Rn d Y b pc ls st S I Q := by
  intro g p l e R s m args below meth c H locs cells slots mc ms cl C L T hT X
  obtain ⟨t, h1, o, h2, h3, ⟨⟨r, S', I', q1, q2, q3⟩, q4⟩, h5⟩ := k g p l e R s m args below meth c H locs cells slots mc ms cl C L T hT X
  exact ⟨t, h1, o, h2, h3, ⟨⟨r, S', I', q1, h r S' I' q2, q3⟩, q4⟩, h5⟩
theorem rn_icmp_eqN {x y : Nat} {off : Int} {tgt : Nat} (hdg : decode Y.2.2.1 pc = .ok (.if_icmp .eq off, 3)) (ht : (pc : Int) + off = (tgt : Int)) (hx : x < 2 ^ 31) (hy : y < 2 ^ 31) (kt : x = y → am_Rn d Y b tgt ls st S I Q) (kf : x ≠ y → am_Rn d Y b (pc + 3) ls st S I Q) : am_Rn d Y b pc ls (.int (nI y) :: .int (nI x) :: st) S I Q :=
  rn_icmp_eq hdg ht (fun h => kt ((nI_eq hx hy).mp h)) (fun h => kf (fun q => h ((nI_eq hx hy).mpr q)))
theorem rn_icmp_neN {x y : Nat} {off : Int} {tgt : Nat} (hdg : decode Y.2.2.1 pc = .ok (.if_icmp .ne off, 3)) (ht : (pc : Int) + off = (tgt : Int)) (hx : x < 2 ^ 31) (hy : y < 2 ^ 31) (kt : x ≠ y → am_Rn d Y b tgt ls st S I Q) (kf : x = y → am_Rn d Y b (pc + 3) ls st S I Q) : am_Rn d Y b pc ls (.int (nI y) :: .int (nI x) :: st) S I Q :=
  rn_icmp_ne hdg ht (fun h => kt (fun q => h ((nI_eq hx hy).mpr q))) (fun h => kf ((nI_eq hx hy).mp h))
theorem rn_icmp_ltN {x y : Nat} {off : Int} {tgt : Nat} (hdg : decode Y.2.2.1 pc = .ok (.if_icmp .lt off, 3)) (ht : (pc : Int) + off = (tgt : Int)) (hx : x < 2 ^ 31) (hy : y < 2 ^ 31) (kt : x < y → am_Rn d Y b tgt ls st S I Q) (kf : y ≤ x → am_Rn d Y b (pc + 3) ls st S I Q) : am_Rn d Y b pc ls (.int (nI y) :: .int (nI x) :: st) S I Q :=
  rn_icmp_lt hdg ht (fun h => kt ((nI_ltI hx hy).mp h)) (fun h => kf (Nat.not_lt.mp fun q => h ((nI_ltI hx hy).mpr q)))
theorem rn_icmp_geN {x y : Nat} {off : Int} {tgt : Nat} (hdg : decode Y.2.2.1 pc = .ok (.if_icmp .ge off, 3)) (ht : (pc : Int) + off = (tgt : Int)) (hx : x < 2 ^ 31) (hy : y < 2 ^ 31) (kt : y ≤ x → am_Rn d Y b tgt ls st S I Q) (kf : x < y → am_Rn d Y b (pc + 3) ls st S I Q) : am_Rn d Y b pc ls (.int (nI y) :: .int (nI x) :: st) S I Q :=
  rn_icmp_ge hdg ht (fun h => kt ((nI_leI hy hx).mp h)) (fun h => kf (Nat.not_le.mp fun q => h ((nI_leI hy hx).mpr q)))
theorem rn_icmp_gtN {x y : Nat} {off : Int} {tgt : Nat} (hdg : decode Y.2.2.1 pc = .ok (.if_icmp .gt off, 3)) (ht : (pc : Int) + off = (tgt : Int)) (hx : x < 2 ^ 31) (hy : y < 2 ^ 31) (kt : y < x → am_Rn d Y b tgt ls st S I Q) (kf : x ≤ y → am_Rn d Y b (pc + 3) ls st S I Q) : am_Rn d Y b pc ls (.int (nI y) :: .int (nI x) :: st) S I Q :=
  rn_icmp_gt hdg ht (fun h => kt ((nI_ltI hy hx).mp h)) (fun h => kf (Nat.not_lt.mp fun q => h ((nI_ltI hy hx).mpr q)))
theorem rn_icmp_leN {x y : Nat} {off : Int} {tgt : Nat} (hdg : decode Y.2.2.1 pc = .ok (.if_icmp .le off, 3)) (ht : (pc : Int) + off = (tgt : Int)) (hx : x < 2 ^ 31) (hy : y < 2 ^ 31) (kt : x ≤ y → am_Rn d Y b tgt ls st S I Q) (kf : y < x → am_Rn d Y b (pc + 3) ls st S I Q) : am_Rn d Y b pc ls (.int (nI y) :: .int (nI x) :: st) S I Q :=
  rn_icmp_le hdg ht (fun h => kt ((nI_leI hx hy).mp h)) (fun h => kf (Nat.not_le.mp fun q => h ((nI_leI hx hy).mpr q)))
theorem rn_if_eqN {x : Nat} {off : Int} {tgt : Nat} (hdg : decode Y.2.2.1 pc = .ok (.ifCond .eq off, 3)) (ht : (pc : Int) + off = (tgt : Int)) (hx : x < 2 ^ 31) (kt : x = 0 → am_Rn d Y b tgt ls st S I Q) (kf : x ≠ 0 → am_Rn d Y b (pc + 3) ls st S I Q) : am_Rn d Y b pc ls (.int (nI x) :: st) S I Q :=
  rn_if_eq hdg ht (fun h => kt ((nI_eq hx (by decide)).mp (h.trans nI_0.symm))) (fun h => kf (fun q => h (by rw [q]; exact nI_0)))
theorem rn_if_neN {x : Nat} {off : Int} {tgt : Nat} (hdg : decode Y.2.2.1 pc = .ok (.ifCond .ne off, 3)) (ht : (pc : Int) + off = (tgt : Int)) (hx : x < 2 ^ 31) (kt : x ≠ 0 → am_Rn d Y b tgt ls st S I Q) (kf : x = 0 → am_Rn d Y b (pc + 3) ls st S I Q) : am_Rn d Y b pc ls (.int (nI x) :: st) S I Q :=
  rn_if_ne hdg ht (fun h => kt (fun q => h (by rw [q]; exact nI_0))) (fun h => kf ((nI_eq hx (by decide)).mp (h.trans nI_0.symm)))
theorem rn_if_ltN {x : Nat} {off : Int} (hdg : decode Y.2.2.1 pc = .ok (.ifCond .lt off, 3)) (hx : x < 2 ^ 31) {tgt : Nat} (ht : (pc : Int) + off = (tgt : Int)) (kf : am_Rn d Y b (pc + 3) ls st S I Q) : am_Rn d Y b pc ls (.int (nI x) :: st) S I Q :=
  rn_if_lt hdg ht (fun h => absurd h (nI_pos hx)) (fun _ => kf)
theorem rn_if_geN {x : Nat} {off : Int} {tgt : Nat} (hdg : decode Y.2.2.1 pc = .ok (.ifCond .ge off, 3)) (ht : (pc : Int) + off = (tgt : Int)) (hx : x < 2 ^ 31) (kt : am_Rn d Y b tgt ls st S I Q) : am_Rn d Y b pc ls (.int (nI x) :: st) S I Q :=
  rn_if_ge hdg ht (fun _ => kt) (fun h => absurd (nI_pos' hx) h)
theorem rn_if_leN {x : Nat} {off : Int} {tgt : Nat} (hdg : decode Y.2.2.1 pc = .ok (.ifCond .le off, 3)) (ht : (pc : Int) + off = (tgt : Int)) (hx : x < 2 ^ 31) (kt : x = 0 → am_Rn d Y b tgt ls st S I Q) (kf : 0 < x → am_Rn d Y b (pc + 3) ls st S I Q) : am_Rn d Y b pc ls (.int (nI x) :: st) S I Q :=
  rn_if_le hdg ht (fun h => kt (by rw [← nI_0, nI_leI hx (by decide)] at h; omega)) (fun h => kf (by rw [← nI_0, nI_leI hx (by decide)] at h; omega))
theorem rn_if_gtN {x : Nat} {off : Int} {tgt : Nat} (hdg : decode Y.2.2.1 pc = .ok (.ifCond .gt off, 3)) (ht : (pc : Int) + off = (tgt : Int)) (hx : x < 2 ^ 31) (kt : 0 < x → am_Rn d Y b tgt ls st S I Q) (kf : x = 0 → am_Rn d Y b (pc + 3) ls st S I Q) : am_Rn d Y b pc ls (.int (nI x) :: st) S I Q :=
  rn_if_gt hdg ht (fun h => kt (by rw [← nI_0, nI_ltI (by decide) hx] at h; omega)) (fun h => kf (by rw [← nI_0, nI_ltI (by decide) hx] at h; omega))
theorem rn_ialoadN {a n e : Nat} (hdg : decode Y.2.2.1 pc = .ok (.iaload, 1)) (ha : a < S.1) (hk : S.2.1 a = .inl (0, n)) (hn : n < 2 ^ 31) (he : e < n) (kk : am_Rn d Y b (pc + 1) ls (.int (I a e) :: st) S I Q) : am_Rn d Y b pc ls (.int (nI e) :: .ref a :: st) S I Q :=
  rn_iaload hdg ha hk (vp_in_nI he hn) (by rw [nI_clamp (Nat.lt_trans he hn)]; exact kk)
theorem rn_baloadN {a t n e : Nat} (hdg : decode Y.2.2.1 pc = .ok (.baload, 1)) (ha : a < S.1) (hk : S.2.1 a = .inl (t, n)) (ht : t = 1 ∨ t = 2) (hn : n < 2 ^ 31) (he : e < n) (kk : am_Rn d Y b (pc + 1) ls (.int (I a e) :: st) S I Q) : am_Rn d Y b pc ls (.int (nI e) :: .ref a :: st) S I Q :=
  rn_baload hdg ha hk ht (vp_in_nI he hn) (by rw [nI_clamp (Nat.lt_trans he hn)]; exact kk)
theorem rn_iastoreN {a n e : Nat} {x : Int32} (hdg : decode Y.2.2.1 pc = .ok (.iastore, 1)) (ha : a < S.1) (hk : S.2.1 a = .inl (0, n)) (hn : n < 2 ^ 31) (he : e < n) (kk : am_Rn d Y b (pc + 1) ls st S (am_up I a e x) Q) : am_Rn d Y b pc ls (.int x :: .int (nI e) :: .ref a :: st) S I Q :=
  rn_iastore hdg ha hk (vp_in_nI he hn) (by rw [nI_clamp (Nat.lt_trans he hn)]; exact kk)
theorem rn_bastoreN {a n e : Nat} {x : Int32} (hdg : decode Y.2.2.1 pc = .ok (.bastore, 1)) (ha : a < S.1) (hk : S.2.1 a = .inl (1, n)) (hn : n < 2 ^ 31) (he : e < n) (kk : am_Rn d Y b (pc + 1) ls st S (am_up I a e x.toInt8.toInt32) Q) : am_Rn d Y b pc ls (.int x :: .int (nI e) :: .ref a :: st) S I Q :=
  rn_bastore hdg ha hk (vp_in_nI he hn) (by rw [nI_clamp (Nat.lt_trans he hn)]; exact kk)
theorem rn_zastoreN {a n e : Nat} {x : Int32} (hdg : decode Y.2.2.1 pc = .ok (.bastore, 1)) (ha : a < S.1) (hk : S.2.1 a = .inl (2, n)) (hn : n < 2 ^ 31) (he : e < n) (hx : narrow .boolean (.int x) = .int x) (kk : am_Rn d Y b (pc + 1) ls st S (am_up I a e x) Q) : am_Rn d Y b pc ls (.int x :: .int (nI e) :: .ref a :: st) S I Q :=
  rn_zastore hdg ha hk (vp_in_nI he hn) hx (by rw [nI_clamp (Nat.lt_trans he hn)]; exact kk)
theorem rn_aaloadN {a n e : Nat} (hdg : decode Y.2.2.1 pc = .ok (.aaload, 1)) (ha : a < S.1) (hk : S.2.1 a = .inr (.inl n)) (hn : n < 2 ^ 31) (he : e < n) (kk : am_Rn d Y b (pc + 1) ls (va_rf (S.2.2 a e) :: st) S I Q) : am_Rn d Y b pc ls (.int (nI e) :: .ref a :: st) S I Q :=
  rn_aaload hdg ha hk (vp_in_nI he hn) (by rw [nI_clamp (Nat.lt_trans he hn)]; exact kk)
/-- a truth as the machine has it -/
def am_b (c : Bool) : Int32 := if c = true then 1 else 0
theorem am_b_t {c : Bool} (h : c = true) : am_b c = 1 := by simp [am_b, h]
theorem am_b_f {c : Bool} (h : c = false) : am_b c = 0 := by simp [am_b, h]
theorem am_b_n (c : Bool) : narrow .boolean (.int (am_b c)) = .int (am_b c) := by cases c <;> decide
theorem am_b_fit (c : Bool) : fits .boolean (.int (am_b c)) = true := by cases c <;> decide
theorem am_b_0 {c : Bool} : am_b c = 0 ↔ c = false := by cases c <;> simp [am_b] <;> decide
theorem am_b_1 {c : Bool} : ¬ am_b c = 0 ↔ c = true := by cases c <;> simp [am_b] <;> decide
theorem rn_if_eqB {c : Bool} {off : Int} {tgt : Nat} (hdg : decode Y.2.2.1 pc = .ok (.ifCond .eq off, 3)) (ht : (pc : Int) + off = (tgt : Int)) (kt : c = false → am_Rn d Y b tgt ls st S I Q) (kf : c = true → am_Rn d Y b (pc + 3) ls st S I Q) : am_Rn d Y b pc ls (.int (am_b c) :: st) S I Q :=
  rn_if_eq hdg ht (fun h => kt (am_b_0.mp h)) (fun h => kf (am_b_1.mp h))
theorem rn_if_neB {c : Bool} {off : Int} {tgt : Nat} (hdg : decode Y.2.2.1 pc = .ok (.ifCond .ne off, 3)) (ht : (pc : Int) + off = (tgt : Int)) (kt : c = true → am_Rn d Y b tgt ls st S I Q) (kf : c = false → am_Rn d Y b (pc + 3) ls st S I Q) : am_Rn d Y b pc ls (.int (am_b c) :: st) S I Q :=
  rn_if_ne hdg ht (fun h => kt (am_b_1.mp h)) (fun h => kf (am_b_0.mp h))
end AMF
section AMG2
variable {d : Nat} {Y : am_Y} {b : Nat × Nat} {pc : Nat} {ls : List (Option Value)} {st : List Value} {S S0 : am_S} {I I0 : am_I} {Q : Option Value → am_S → am_I → Prop} {Z : am_Y} {d' n i a : Nat} {as stk : List Value} {Q' : Option Value → am_S → am_I → Prop} {r0 : Option Value}
/-- the answer and the world behind, told outright -/
def am_q (r0 : Option Value) (S0 : am_S) (I0 : am_I) : Option Value → am_S → am_I → Prop := fun r S' I' => r = r0 ∧ S' = S0 ∧ I' = I0
theorem rn_callSq (hdg : decode Y.2.2.1 pc = .ok (.invokestatic i, 3)) (hc : am_cS Y.2.1 i Z n) (hM : am_Mt d' Z (0, 0) as S I (am_q r0 S0 I0)) (hd : d' < d) (hn : as.length = n) (hs : as.reverse ++ st = stk) (hr : (st.map fun v => v.category).sum ≤ 8) (kk : am_Rn d Y b (pc + 3) ls (r0.toList ++ st) S0 I0 Q) : am_Rn d Y b pc ls stk S I Q :=
  rn_callS hdg hc hM hd ⟨Nat.zero_le _, Nat.zero_le _⟩ hn hs hr (fun r S' I' h => by obtain ⟨rfl, rfl, rfl⟩ := h; exact kk)
theorem rn_callSNq (hdg : decode Y.2.2.1 pc = .ok (.invokestatic i, 3)) (hc : am_cSN Y.2.1 i Z n) (hM : am_Mt d' Z (0, 0) as S I (am_q r0 S0 I0)) (hd : d' < d) (hn : as.length = n) (hs : as.reverse ++ st = stk) (hr : (st.map fun v => v.category).sum ≤ 8) (kk : am_Rn d Y b (pc + 3) ls (r0.toList ++ st) S0 I0 Q) : am_Rn d Y b pc ls stk S I Q :=
  rn_callSN hdg hc hM hd ⟨Nat.zero_le _, Nat.zero_le _⟩ hn hs hr (fun r S' I' h => by obtain ⟨rfl, rfl, rfl⟩ := h; exact kk)
theorem rn_callVq (hdg : decode Y.2.2.1 pc = .ok (.invokevirtual i, 3)) (hc : am_cV Y.2.1 i Z n) (hM : am_Mt d' Z (0, 0) (.ref a :: as) S I (am_q r0 S0 I0)) (hd : d' < d) (ha : a < S.1) (hk : S.2.1 a = .inr (.inr Z.2.1)) (hn : as.length = n) (hs : as.reverse ++ .ref a :: st = stk) (hr : (st.map fun v => v.category).sum ≤ 8) (kk : am_Rn d Y b (pc + 3) ls (r0.toList ++ st) S0 I0 Q) : am_Rn d Y b pc ls stk S I Q :=
  rn_callV hdg hc hM hd ⟨Nat.zero_le _, Nat.zero_le _⟩ ha hk hn hs hr (fun r S' I' h => by obtain ⟨rfl, rfl, rfl⟩ := h; exact kk)
theorem rn_callTq {j : Nat} (hj : j < 9) (hdg : decode Y.2.2.1 pc = .ok (.invokevirtual i, 3)) (hc : am_cT Y.2.1 i Z n) (hM : am_Mt d' Z (0, 0) (.ref (am_B + j) :: as) S I (am_q r0 S0 I0)) (hd : d' < d) (hn : as.length = n) (hs : as.reverse ++ .ref (am_B + j) :: st = stk) (hr : (st.map fun v => v.category).sum ≤ 8) (kk : am_Rn d Y b (pc + 3) ls (r0.toList ++ st) S0 I0 Q) : am_Rn d Y b pc ls stk S I Q :=
  rn_callT hj hdg hc hM hd ⟨Nat.zero_le _, Nat.zero_le _⟩ hn hs hr (fun r S' I' h => by obtain ⟨rfl, rfl, rfl⟩ := h; exact kk)
theorem rn_callV0 (hdg : decode Y.2.2.1 pc = .ok (.invokevirtual i, 3)) (hc : am_cV Y.2.1 i Z n) (hM : am_Mt d' Z (0, 0) (.ref a :: as) S I Q') (hd : d' < d) (ha : a < S.1) (hk : S.2.1 a = .inr (.inr Z.2.1)) (hn : as.length = n) (hs : as.reverse ++ .ref a :: st = stk) (hr : (st.map fun v => v.category).sum ≤ 8) (kk : ∀ r S' I', Q' r S' I' → am_Rn d Y b (pc + 3) ls (r.toList ++ st) S' I' Q) : am_Rn d Y b pc ls stk S I Q :=
  rn_callV hdg hc hM hd ⟨Nat.zero_le _, Nat.zero_le _⟩ ha hk hn hs hr kk
theorem am_Mt.imp {Y : am_Y} {d : Nat} {Q Q' : Option Value → am_S → am_I → Prop} {b : Nat × Nat} (h : am_Mt d Y b as S I Q) (hQ : Q = Q') : am_Mt d Y b as S I Q' := hQ ▸ h
end AMG2
