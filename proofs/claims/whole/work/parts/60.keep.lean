/-- the world with one more shelf in use -/
def kpS (S : am_S) (k : Nat) : am_S := (S.1 + 2, va_up (va_up S.2.1 S.1 (.inr (.inr 0))) (S.1 + 1) (.inl (0, 128)), am_up (am_up (va_up (va_up S.2.2 S.1 (fun _ => none)) (S.1 + 1) (fun _ => none)) S.1 2 (some (S.1 + 1))) 6 k (some S.1))
section KP
variable {S : am_S} {k : Nat}
theorem kp_k {a : Nat} (h : a < S.1) : (kpS S k).2.1 a = S.2.1 a := by
  show (if a = S.1 + 1 then _ else if a = S.1 then _ else S.2.1 a) = _
  rw [if_neg (by omega), if_neg (by omega)]
theorem kp_r {a x : Nat} (h : a < S.1) (h6 : a ≠ 6 ∨ x ≠ k) (hS : 6 < S.1) : (kpS S k).2.2 a x = S.2.2 a x := by
  show am_up (am_up (va_up (va_up S.2.2 S.1 (fun _ => none)) (S.1 + 1) (fun _ => none)) S.1 2 (some (S.1 + 1))) 6 k (some S.1) a x = _
  have e : am_up (am_up (va_up (va_up S.2.2 S.1 (fun _ => none)) (S.1 + 1) (fun _ => none)) S.1 2 (some (S.1 + 1))) 6 k (some S.1) a x = am_up (va_up (va_up S.2.2 S.1 (fun _ => none)) (S.1 + 1) (fun _ => none)) S.1 2 (some (S.1 + 1)) a x := by
    by_cases q : a = 6
    · subst q; exact am_up_k _ _ (by omega)
    · rw [am_up_a _ _ q]
  rw [e, am_up_a _ _ (by omega)]
  show (if a = S.1 + 1 then _ else if a = S.1 then _ else S.2.2 a) x = _
  rw [if_neg (by omega), if_neg (by omega)]
theorem kp_6 : (kpS S k).2.2 6 k = some S.1 := by
  show am_up (am_up (va_up (va_up S.2.2 S.1 (fun _ => none)) (S.1 + 1) (fun _ => none)) S.1 2 (some (S.1 + 1))) 6 k (some S.1) 6 k = _
  rw [am_up_at]
theorem kp_dr (h : 6 < S.1) : am_dr (kpS S k) S.1 (S.1 + 1) := by
  refine ⟨by show S.1 < S.1 + 2; omega, ?_, ?_, by show S.1 + 1 < S.1 + 2; omega, ?_⟩
  · show (if S.1 = S.1 + 1 then _ else if S.1 = S.1 then _ else _) = _
    rw [if_neg (by omega), if_pos rfl]
  · show am_up (am_up _ S.1 2 (some (S.1 + 1))) 6 k (some S.1) S.1 2 = _
    rw [am_up_a _ _ (by omega), am_up_at]
  · show (if S.1 + 1 = S.1 + 1 then _ else _) = _
    rw [if_pos rfl]
theorem kp_drO {a q : Nat} (h : am_dr S a q) (h6 : a ≠ 6) (hS : 6 < S.1) : am_dr (kpS S k) a q := ⟨by have := h.1; show a < S.1 + 2; omega, (kp_k h.1).trans h.2.1, (kp_r h.1 (Or.inl h6) hS).trans h.2.2.1, by have := h.2.2.2.1; show q < S.1 + 2; omega, (kp_k h.2.2.2.1).trans h.2.2.2.2⟩
theorem kp_sk (hs : sk S) (he : S.1 % 2 = 0) (hk : k < 8) (h6 : S.2.2 6 k = none) : sk (kpS S k) := by
  have h62 := hs.1
  refine ⟨by show 62 ≤ S.1 + 2; omega, fun a ha => (kp_k (by omega)).trans (hs.2.1 a ha), fun a x ha h => (kp_r (by omega) (Or.inl h) (by omega)).trans (hs.2.2.1 a x ha h), fun x c hx h => ?_, fun x x' c hx hx' h h' => ?_⟩
  · by_cases q : x = k
    · subst q
      rw [kp_6] at h
      obtain rfl := Option.some.inj h
      exact ⟨h62, he, kp_dr (by omega)⟩
    · rw [kp_r (by omega) (Or.inr q) (by omega)] at h
      obtain ⟨a1, a2, a3⟩ := hs.2.2.2.1 x c hx h
      exact ⟨a1, a2, kp_drO a3 (by omega) (by omega)⟩
  · have no : ∀ x, x < 8 → x ≠ k → (kpS S k).2.2 6 x = some c → c < S.1 := fun x hx q h => by
      rw [kp_r (by omega) (Or.inr q) (by omega)] at h
      exact (hs.2.2.2.1 x c hx h).2.2.1
    by_cases q : x = k
    · by_cases q' : x' = k
      · rw [q, q']
      · subst q
        rw [kp_6] at h
        have := no x' hx' q' h'
        rw [← Option.some.inj h] at this
        omega
    · by_cases q' : x' = k
      · subst q'
        rw [kp_6] at h'
        have := no x hx q h
        rw [← Option.some.inj h'] at this
        omega
      · rw [kp_r (by omega) (Or.inr q) (by omega)] at h
        rw [kp_r (by omega) (Or.inr q') (by omega)] at h'
        exact hs.2.2.2.2 x x' c hx hx' h h'
end KP
set_option maxHeartbeats 1000000 in
set_option maxRecDepth 100000 in
theorem c_X7_keep_n {S : am_S} {I : am_I} {x : Int32} (hn : ¬ (0 ≤ x.toInt ∧ x.toInt ≤ 7)) : am_Mt 3 Y_X7_keep (2, 131) [.ref 0, .int x] S I (am_q (some (.int (nI 0))) S I) := by
  refine am_mt ⟨by decide +kernel, rfl⟩ (Nat.le_of_ble_eq_true rfl) rfl ?_
  refine rn_iload_n dX7_keep_0 rfl rfl ?_
  refine rn_if_lt (tgt := 10) dX7_keep_1 (by decide) (fun c_1 => ?_) (fun c_1 => ?_)
  · refine rn_iconst (v := nI 0) dX7_keep_10 (by decide) ?_
    refine rn_ireturn dX7_keep_11 rfl (by decide) ?_
    exact ⟨rfl, rfl, rfl⟩
  · refine rn_iload_n dX7_keep_4 rfl rfl ?_
    refine rn_bipush (v := nI 8) dX7_keep_5 (by decide) ?_
    refine rn_icmp_lt (tgt := 12) dX7_keep_7 (by decide) (fun c_7 => ?_) (fun c_7 => ?_)
    · exact absurd (by simp only [z_lt, z_0, show (nI 8).toInt = 8 by decide] at *; omega) hn
    · refine rn_iconst (v := nI 0) dX7_keep_10 (by decide) ?_
      refine rn_ireturn dX7_keep_11 rfl (by decide) ?_
      exact ⟨rfl, rfl, rfl⟩
set_option maxHeartbeats 1000000 in
set_option maxRecDepth 100000 in
theorem c_X7_keep_c {S : am_S} (hs : sk S) {I : am_I} {D : Dw} (hD : isDD I 1 2 D) {k c : Nat} (hk : k < 8) (h6 : S.2.2 6 k = some c) : am_Mt 3 Y_X7_keep (2, 131) [.ref 0, .int (nI k)] S I (fun r S' I' => r = some (.int (nI 1)) ∧ S' = S ∧ isDD I' c (c + 1) D ∧ ∀ b, b ≠ c → b ≠ c + 1 → I' b = I b) := by
  have hdc := (sh_ne hs hk h6).2.2
  have hc62 := (sh_ne hs hk h6).1
  refine am_mt ⟨by decide +kernel, rfl⟩ (Nat.le_of_ble_eq_true rfl) rfl ?_
  refine rn_iload_n dX7_keep_0 rfl rfl ?_
  refine rn_if_ltN (tgt := 10) dX7_keep_1 (by omega) (by decide) ?_
  refine rn_iload_n dX7_keep_4 rfl rfl ?_
  refine rn_bipush (v := nI 8) dX7_keep_5 (by decide) ?_
  refine rn_icmp_ltN (tgt := 12) dX7_keep_7 (by decide) (by omega) (by omega) (fun c_7 => ?_) (fun c_7 => ?_)
  · refine rn_aload_n dX7_keep_12 rfl rfl ?_
    refine rn_getR (r := 6) dX7_keep_13 fd_7_36 (sk_l hs 0 (by decide)) (sk_k0 hs) rfl (sk_r0_3 hs) ?_
    refine rn_iload_n dX7_keep_16 rfl rfl ?_
    refine rn_aaloadN dX7_keep_17 (sk_l hs 6 (by decide)) (sk_k6 hs) (by omega) (by omega) ?_
    refine rn_topv (y := .ref c) (by rw [h6]; rfl) ?_
    refine rn_ifnonnull (tgt := 34) dX7_keep_18 (by decide) ?_
    refine rn_aload_n dX7_keep_34 rfl rfl ?_
    refine rn_getR (r := 6) dX7_keep_35 fd_7_36 (sk_l hs 0 (by decide)) (sk_k0 hs) rfl (sk_r0_3 hs) ?_
    refine rn_iload_n dX7_keep_38 rfl rfl ?_
    refine rn_aaloadN dX7_keep_39 (sk_l hs 6 (by decide)) (sk_k6 hs) (by omega) (by omega) ?_
    refine rn_topv (y := .ref c) (by rw [h6]; rfl) ?_
    refine rn_aload_n dX7_keep_40 rfl rfl ?_
    refine rn_getR (r := 1) dX7_keep_41 fd_7_10 (sk_l hs 0 (by decide)) (sk_k0 hs) rfl (sk_r0_0 hs) ?_
    refine rn_callV0 (st := []) dX7_keep_44 cf_7_194 (c_copyD hdc (sk_d1 hs) (by omega) hD) (by decide) hdc.1 hdc.2.1 rfl rfl (Nat.le_of_ble_eq_true rfl) (fun r1 S1 I1 hq => ?_)
    obtain ⟨rfl, rfl, hD1, hF1⟩ := hq
    refine rn_iconst (v := nI 1) dX7_keep_47 (by decide) ?_
    refine rn_ireturn dX7_keep_48 rfl (by decide) ?_
    exact ⟨rfl, rfl, hD1, hF1⟩
  · omega
set_option maxHeartbeats 1000000 in
set_option maxRecDepth 100000 in
theorem c_X7_keep_f {S : am_S} (hs : sk S) {I : am_I} {D : Dw} (hD : isDD I 1 2 D) (he : S.1 % 2 = 0) (hB : S.1 + 2 < am_B) {k : Nat} (hk : k < 8) (h6 : S.2.2 6 k = none) : am_Mt 3 Y_X7_keep (2, 131) [.ref 0, .int (nI k)] S I (fun r S' I' => r = some (.int (nI 1)) ∧ S' = kpS S k ∧ isDD I' S.1 (S.1 + 1) D ∧ ∀ b, b < S.1 → I' b = I b) := by
  have h62 := hs.1
  have hs3 := kp_sk hs he hk h6
  have hd3 := kp_dr (S := S) (k := k) (by omega)
  have K34 : ∀ I3 : am_I, (∀ b, b < S.1 → I3 b = I b) → am_Rn 3 Y_X7_keep (0, 0) 34 [some (.ref 0), some (.int (nI k))] [] (kpS S k) I3 (fun r S' I' => r = some (.int (nI 1)) ∧ S' = kpS S k ∧ isDD I' S.1 (S.1 + 1) D ∧ ∀ b, b < S.1 → I' b = I b) := by
    intro I3 hI3
    refine rn_aload_n dX7_keep_34 rfl rfl ?_
    refine rn_getR (r := 6) dX7_keep_35 fd_7_36 (sk_l hs3 0 (by decide)) (sk_k0 hs3) rfl (sk_r0_3 hs3) ?_
    refine rn_iload_n dX7_keep_38 rfl rfl ?_
    refine rn_aaloadN dX7_keep_39 (sk_l hs3 6 (by decide)) (sk_k6 hs3) (by omega) (by omega) ?_
    refine rn_topv (y := .ref S.1) (by rw [kp_6]; rfl) ?_
    refine rn_aload_n dX7_keep_40 rfl rfl ?_
    refine rn_getR (r := 1) dX7_keep_41 fd_7_10 (sk_l hs3 0 (by decide)) (sk_k0 hs3) rfl (sk_r0_0 hs3) ?_
    refine rn_callV0 (st := []) dX7_keep_44 cf_7_194 (c_copyD hd3 (sk_d1 hs3) (by omega) (hD.kept (hI3 1 (by omega)) (hI3 2 (by omega)))) (by decide) hd3.1 hd3.2.1 rfl rfl (Nat.le_of_ble_eq_true rfl) (fun r1 S1 I4 hq => ?_)
    obtain ⟨rfl, rfl, hD4, hF4⟩ := hq
    refine rn_iconst (v := nI 1) dX7_keep_47 (by decide) ?_
    refine rn_ireturn dX7_keep_48 rfl (by decide) ?_
    exact ⟨rfl, rfl, hD4, fun b hb => (hF4 b (by omega) (by omega)).trans (hI3 b hb)⟩
  refine am_mt ⟨by decide +kernel, rfl⟩ (Nat.le_of_ble_eq_true rfl) rfl ?_
  refine rn_iload_n dX7_keep_0 rfl rfl ?_
  refine rn_if_ltN (tgt := 10) dX7_keep_1 (by omega) (by decide) ?_
  refine rn_iload_n dX7_keep_4 rfl rfl ?_
  refine rn_bipush (v := nI 8) dX7_keep_5 (by decide) ?_
  refine rn_icmp_ltN (tgt := 12) dX7_keep_7 (by decide) (by omega) (by omega) (fun c_7 => ?_) (fun c_7 => ?_)
  · refine rn_aload_n dX7_keep_12 rfl rfl ?_
    refine rn_getR (r := 6) dX7_keep_13 fd_7_36 (sk_l hs 0 (by decide)) (sk_k0 hs) rfl (sk_r0_3 hs) ?_
    refine rn_iload_n dX7_keep_16 rfl rfl ?_
    refine rn_aaloadN dX7_keep_17 (sk_l hs 6 (by decide)) (sk_k6 hs) (by omega) (by omega) ?_
    refine rn_topv (y := .null) (by rw [h6]; rfl) ?_
    refine rn_ifnonnullN dX7_keep_18 ?_
    refine rn_aload_n dX7_keep_21 rfl rfl ?_
    refine rn_getR (r := 6) dX7_keep_22 fd_7_36 (sk_l hs 0 (by decide)) (sk_k0 hs) rfl (sk_r0_3 hs) ?_
    refine rn_iload_n dX7_keep_25 rfl rfl ?_
    refine rn_newC (n := S.1) (b' := (1, 128)) dX7_keep_26 (by decide) nw_7_7 rfl rfl rfl (by omega) ⟨by decide, by decide⟩ rfl ?_
    refine rn_dup dX7_keep_29 rfl ?_
    refine rn_callIN (b' := (1, 128)) (st := [.ref S.1, .int (nI k), .ref 6]) dX7_keep_30 cf_7_9 (c_X0_init (S := (S.1 + 1, va_up S.2.1 S.1 (.inr (.inr 0)), va_up S.2.2 S.1 (fun _ => none))) (a := S.1) (by show S.1 < S.1 + 1; omega) (by show (if S.1 = S.1 then _ else _) = _; rw [if_pos rfl]) (by show S.1 + 1 < am_B; omega)) (by decide) ⟨by decide, by decide⟩ rfl rfl (Nat.le_of_ble_eq_true rfl) (fun r1 S1 I1 hq => ?_)
    obtain ⟨rfl, rfl, hI1⟩ := hq
    refine rn_b (b' := (0, 0)) rfl ?_
    refine rn_aastoreC (n := 8) (e := k) (S' := kpS S k) dX7_keep_33 (by show 6 < S.1 + 1 + 1; omega) (kp_k (S := S) (k := k) (a := 6) (by omega) |>.trans (sk_k6 hs)) (by show S.1 < S.1 + 1 + 1; omega) (kp_dr (S := S) (k := k) (by omega)).2.1 (by decide) hk rfl ?_
    exact K34 I1 (fun b hb => by rw [hI1]; unfold drI; rw [va_up_o _ _ (by show b ≠ S.1 + 1; omega), am_up_a _ _ (by omega), am_up_a _ _ (by omega), va_up_o _ _ (by omega)])
  · omega
