section MK
variable {d : Nat} {Y : am_Y} {b : Nat × Nat} {pc : Nat} {ls : List (Option Value)} {st : List Value} {S : am_S} {I : am_I} {Q : Option Value → am_S → am_I → Prop}
theorem rn_b {b' : Nat × Nat} (h : b = b') (k : am_Rn d Y b' pc ls st S I Q) : am_Rn d Y b pc ls st S I Q := h ▸ k
theorem rn_newC {i c n : Nat} {S' : am_S} {I' : am_I} {b' : Nat × Nat} (hdg : decode Y.2.2.1 pc = .ok (.new i, 3)) (hc : c < 9) (hw : Cond.classLink (am_R Y.2.1) i (am_R c) ∈ am_gw ∧ Cond.instantiable (am_R c) (am_n c) ∈ am_gw ∧ Cond.initialized (am_R c) ∈ am_gw) (hn : S.1 = n) (hS : S' = (n + 1, va_up S.2.1 n (.inr (.inr c)), va_up S.2.2 n (fun _ => none))) (hI : I' = va_up I n (fun _ => 0)) (hB1 : n < am_B) (hb : 1 ≤ b.1 ∧ am_n c ≤ b.2) (hb' : b' = (b.1 - 1, b.2 - am_n c))
    (kk : am_Rn d Y b' (pc + 3) ls (.ref n :: st) S' I' Q) : am_Rn d Y b pc ls st S I Q := by
  subst hn hS hI hb'
  exact rn_new hdg hc hw hB1 hb kk
theorem rn_newarrC {t N n : Nat} {x : Int32} {S' : am_S} {I' : am_I} {b' : Nat × Nat} (ht : t < 3) (hdg : decode Y.2.2.1 pc = .ok (.newarray (am_at3 t), 2)) (hw : Cond.arrayClass (newarray.typeOf (am_at3 t)) ∈ am_gw) (hx : ¬ x < 0) (hN : x.toNatClampNeg = N) (hs : N ≤ 100000) (hn : S.1 = n) (hS : S' = (n + 1, va_up S.2.1 n (.inl (t, N)), va_up S.2.2 n (fun _ => none))) (hI : I' = va_up I n (fun _ => 0)) (hB1 : n < am_B) (hb : 1 ≤ b.1 ∧ N ≤ b.2) (hb' : b' = (b.1 - 1, b.2 - N))
    (kk : am_Rn d Y b' (pc + 2) ls (.ref n :: st) S' I' Q) : am_Rn d Y b pc ls (.int x :: st) S I Q := by
  subst hn hS hI hb'
  exact rn_newarray ht hdg hw hx hN hs hB1 hb kk
theorem rn_anewC {i N n : Nat} {x : Int32} {S' : am_S} {I' : am_I} {b' : Nat × Nat} (hdg : decode Y.2.2.1 pc = .ok (.anewarray i, 3)) (hw : Cond.classLink (am_R Y.2.1) i RX0 ∈ am_gw) (hx : ¬ x < 0) (hN : x.toNatClampNeg = N) (hs : N ≤ 100000) (hn : S.1 = n) (hS : S' = (n + 1, va_up S.2.1 n (.inr (.inl N)), va_up S.2.2 n (fun _ => none))) (hI : I' = va_up I n (fun _ => 0)) (hB1 : n < am_B) (hb : 1 ≤ b.1 ∧ N ≤ b.2) (hb' : b' = (b.1 - 1, b.2 - N))
    (kk : am_Rn d Y b' (pc + 3) ls (.ref n :: st) S' I' Q) : am_Rn d Y b pc ls (.int x :: st) S I Q := by
  subst hn hS hI hb'
  exact rn_anewarray hdg hw hx hN hs hB1 hb kk
theorem rn_putRC {i a c k r : Nat} {S' : am_S} (hdg : decode Y.2.2.1 pc = .ok (.putfield i, 3)) (hf : am_fd Y.2.1 i c k) (ha : a < S.1) (hk : S.2.1 a = .inr (.inr c)) (hfin : (am_T c k).2.2.2 = false ∨ (Y.1.name = "<init>" ∧ c = Y.2.1)) (ht : am_isR (am_ty c k) = true) (hS : S' = (S.1, S.2.1, am_up S.2.2 a k (some r)))
    (kk : am_Rn d Y b (pc + 3) ls st S' I Q) : am_Rn d Y b pc ls (.ref r :: .ref a :: st) S I Q := by
  subst hS
  exact rn_putR hdg hf ha hk hfin ht kk
theorem rn_aastoreC {a n v e : Nat} {S' : am_S} (hdg : decode Y.2.2.1 pc = .ok (.aastore, 1)) (ha : a < S.1) (hk : S.2.1 a = .inr (.inl n)) (hv : v < S.1) (hkv : S.2.1 v = .inr (.inr 0)) (hn : n < 2 ^ 31) (he : e < n) (hS : S' = (S.1, S.2.1, am_up S.2.2 a e (some v)))
    (kk : am_Rn d Y b (pc + 1) ls st S' I Q) : am_Rn d Y b pc ls (.ref v :: .int (nI e) :: .ref a :: st) S I Q := by
  subst hS
  exact rn_aastore hdg ha hk hv hkv (vp_in_nI he hn) (by rw [nI_clamp (Nat.lt_trans he hn)]; exact kk)
end MK
def drS (S : am_S) (a : Nat) : am_S := (S.1 + 1, va_up S.2.1 S.1 (.inl (0, 128)), am_up (va_up S.2.2 S.1 (fun _ => none)) a 2 (some S.1))
def drI (I : am_I) (a q : Nat) : am_I := va_up (am_up (am_up I a 0 (nI 1)) a 1 (nI 1)) q (fun _ => 0)
set_option maxHeartbeats 1000000 in
set_option maxRecDepth 100000 in
theorem c_X0_init {S : am_S} {I : am_I} {a : Nat} (ha : a < S.1) (hk : S.2.1 a = .inr (.inr 0)) (hB : S.1 < am_B) : am_Mt 1 Y_X0_init (1, 128) [.ref a] S I (am_q none (drS S a) (drI I a S.1)) := by
  refine am_mt ⟨by decide +kernel, rfl⟩ (Nat.le_of_ble_eq_true rfl) rfl ?_
  refine rn_aload_n dX0_init_0 rfl rfl ?_
  refine rn_objInit dX0_init_1 oi_0_3 (by decide) (Nat.le_of_ble_eq_true rfl) ?_
  refine rn_aload_n dX0_init_4 rfl rfl ?_
  refine rn_iconst (v := nI 1) dX0_init_5 (by decide) ?_
  refine rn_putI dX0_init_6 fd_0_9 ha hk rfl rfl (vp_nar_int _) rfl ?_
  refine rn_aload_n dX0_init_9 rfl rfl ?_
  refine rn_iconst (v := nI 1) dX0_init_10 (by decide) ?_
  refine rn_putI dX0_init_11 fd_0_15 ha hk rfl rfl (vp_nar_int _) rfl ?_
  refine rn_aload_n dX0_init_14 rfl rfl ?_
  refine rn_sipush (v := nI 128) dX0_init_15 (by decide) ?_
  refine rn_newarrC (t := 0) (N := 128) (n := S.1) (b' := (0, 0)) (by decide) dX0_init_18 ac_0 (by decide) (by decide) (by decide) rfl rfl rfl hB ⟨by decide, by decide⟩ rfl ?_
  refine rn_putRC (S' := drS S a) dX0_init_20 fd_0_18 (Nat.lt_succ_of_lt ha) (by show (if a = S.1 then _ else S.2.1 a) = _; rw [if_neg (by omega)]; exact hk) (Or.inr ⟨rfl, rfl⟩) rfl rfl ?_
  refine rn_return dX0_init_23 rfl ?_
  exact ⟨rfl, rfl, rfl⟩
def clamp (x : Int32) : Nat := if x.toInt < 1 then 1 else if 8 < x.toInt then 8 else x.toInt.toNat
theorem clamp_ok (x : Int32) : 1 ≤ clamp x ∧ clamp x ≤ 8 := by unfold clamp; (repeat' split) <;> omega
theorem cl_1 {x : Int32} (h : ¬ nI 1 ≤ x) : clamp x = 1 := by rw [z_le, z_nI (by decide)] at h; exact if_pos (by omega)
theorem cl_8 {x : Int32} (h : ¬ x ≤ nI 8) : clamp x = 8 := by rw [z_le, z_nI (by decide)] at h; unfold clamp; rw [if_neg (by omega), if_pos (by omega)]
theorem cl_m {x : Int32} (h1 : nI 1 ≤ x) (h8 : x ≤ nI 8) : x = nI (clamp x) := by
  rw [z_le, z_nI (by decide)] at h1 h8
  unfold clamp
  rw [if_neg (by omega), if_neg (by omega)]
  exact z_nat (by omega)
theorem cl_mm (x : Int32) : (if nI 8 < (if x < nI 1 then nI 1 else x) then nI 8 else (if x < nI 1 then nI 1 else x)) = nI (clamp x) := by
  by_cases h1 : nI 1 ≤ x
  · have h2 : ¬ x < nI 1 := by rw [z_lt]; rw [z_le] at h1; omega
    rw [if_neg h2]
    by_cases h8 : x ≤ nI 8
    · rw [if_neg (by rw [z_lt]; rw [z_le] at h8; omega)]; exact cl_m h1 h8
    · rw [if_pos (by rw [z_lt]; rw [z_le] at h8; omega), cl_8 h8]
  · have h2 : x < nI 1 := by rw [z_lt]; rw [z_le] at h1; omega
    rw [if_pos h2, cl_1 h1, if_neg (by decide)]
def tzS (S : am_S) : Prop := ∀ a k, 30 ≤ k → S.2.2 a k = none
theorem tn_new {n c : Nat} {K : Nat → am_Kd} {S : am_S} (h : tzS S) : tzS (n, K, va_up S.2.2 c (fun _ => none)) := fun a k hk => by
  show va_up S.2.2 c (fun _ => none) a k = none
  unfold va_up
  split
  · rfl
  · exact h a k hk
theorem tn_put {n : Nat} {K : Nat → am_Kd} {S : am_S} (h : tzS S) {a k r : Nat} (hk : k < 30) : tzS (n, K, am_up S.2.2 a k (some r)) := fun a' k' hk' => by
  show am_up S.2.2 a k (some r) a' k' = none
  by_cases q : a' = a
  · subst q; rw [am_up_k _ _ (by omega)]; exact h _ _ hk'
  · rw [am_up_a _ _ q]; exact h _ _ hk'
theorem tn_dr {S : am_S} (h : tzS S) (a : Nat) : tzS (drS S a) := tn_put (S := (S.1 + 1, va_up S.2.1 S.1 (.inl (0, 128)), va_up S.2.2 S.1 (fun _ => none))) (tn_new (K := va_up S.2.1 S.1 (.inl (0, 128))) (n := S.1 + 1) h) (by decide)
theorem rn_S {d : Nat} {Y : am_Y} {b : Nat × Nat} {pc : Nat} {ls : List (Option Value)} {st : List Value} {S : am_S} {I : am_I} {Q : Option Value → am_S → am_I → Prop} {S' : am_S} (h : S = S') (k : am_Rn d Y b pc ls st S' I Q) : am_Rn d Y b pc ls st S I Q := h ▸ k
def cs_0 : am_S := (0, fun _ => .inr (.inl 0), fun _ _ => none)
theorem tn_0 : tzS cs_0 := fun _ _ _ => rfl
def cs_1 : am_S := (0 + 1, va_up cs_0.2.1 0 (.inr (.inr 7)), va_up cs_0.2.2 0 (fun _ => none))
theorem tn_1 : tzS cs_1 := tn_new tn_0
/-- the class's numbers once it is made -/
def CI7 (w h : Nat) (I : am_I) : Prop := isDr I 1 2 w h zM ∧ isDr I 1 5 w h zM ∧ I 0 9 = nI 0 ∧ I 0 10 = nI 0 ∧ I 16 0 = nI 0 ∧ I 16 1 = nI 0
def cs_2 : am_S := (1 + 1, va_up cs_1.2.1 1 (.inr (.inr 0)), va_up cs_1.2.2 1 (fun _ => none))
theorem tn_2 : tzS cs_2 := tn_new tn_1
def cs_3 : am_S := (2 + 1, va_up cs_2.2.1 2 (.inl (0, 128)), am_up (va_up cs_2.2.2 2 (fun _ => none)) 1 2 (some 2))
theorem tn_3 : tzS cs_3 := tn_dr tn_2 1
def cs_4 : am_S := (cs_3.1, cs_3.2.1, am_up cs_3.2.2 0 0 (some 1))
theorem tn_4 : tzS cs_4 := tn_put tn_3 (by decide)
def cs_5 : am_S := (3 + 1, va_up cs_4.2.1 3 (.inr (.inr 0)), va_up cs_4.2.2 3 (fun _ => none))
theorem tn_5 : tzS cs_5 := tn_new tn_4
def cs_6 : am_S := (4 + 1, va_up cs_5.2.1 4 (.inl (0, 128)), am_up (va_up cs_5.2.2 4 (fun _ => none)) 3 2 (some 4))
theorem tn_6 : tzS cs_6 := tn_dr tn_5 3
def cs_7 : am_S := (cs_6.1, cs_6.2.1, am_up cs_6.2.2 0 1 (some 3))
theorem tn_7 : tzS cs_7 := tn_put tn_6 (by decide)
def cs_8 : am_S := (5 + 1, va_up cs_7.2.1 5 (.inl (0, 128)), va_up cs_7.2.2 5 (fun _ => none))
theorem tn_8 : tzS cs_8 := tn_new tn_7
def cs_9 : am_S := (cs_8.1, cs_8.2.1, am_up cs_8.2.2 0 2 (some 5))
theorem tn_9 : tzS cs_9 := tn_put tn_8 (by decide)
def cs_10 : am_S := (6 + 1, va_up cs_9.2.1 6 (.inr (.inl 8)), va_up cs_9.2.2 6 (fun _ => none))
theorem tn_10 : tzS cs_10 := tn_new tn_9
def cs_11 : am_S := (cs_10.1, cs_10.2.1, am_up cs_10.2.2 0 3 (some 6))
theorem tn_11 : tzS cs_11 := tn_put tn_10 (by decide)
def cs_12 : am_S := (7 + 1, va_up cs_11.2.1 7 (.inr (.inr 2)), va_up cs_11.2.2 7 (fun _ => none))
theorem tn_12 : tzS cs_12 := tn_new tn_11
def cs_13 : am_S := (8 + 1, va_up cs_12.2.1 8 (.inl (0, 256)), va_up cs_12.2.2 8 (fun _ => none))
theorem tn_13 : tzS cs_13 := tn_new tn_12
def cs_14 : am_S := (cs_13.1, cs_13.2.1, am_up cs_13.2.2 7 1 (some 8))
theorem tn_14 : tzS cs_14 := tn_put tn_13 (by decide)
def cs_15 : am_S := (9 + 1, va_up cs_14.2.1 9 (.inl (0, 256)), va_up cs_14.2.2 9 (fun _ => none))
theorem tn_15 : tzS cs_15 := tn_new tn_14
def cs_16 : am_S := (cs_15.1, cs_15.2.1, am_up cs_15.2.2 7 2 (some 9))
theorem tn_16 : tzS cs_16 := tn_put tn_15 (by decide)
def cs_17 : am_S := (10 + 1, va_up cs_16.2.1 10 (.inl (0, 256)), va_up cs_16.2.2 10 (fun _ => none))
theorem tn_17 : tzS cs_17 := tn_new tn_16
def cs_18 : am_S := (cs_17.1, cs_17.2.1, am_up cs_17.2.2 7 3 (some 10))
theorem tn_18 : tzS cs_18 := tn_put tn_17 (by decide)
def cs_19 : am_S := (11 + 1, va_up cs_18.2.1 11 (.inl (0, 257)), va_up cs_18.2.2 11 (fun _ => none))
theorem tn_19 : tzS cs_19 := tn_new tn_18
def cs_20 : am_S := (cs_19.1, cs_19.2.1, am_up cs_19.2.2 7 4 (some 11))
theorem tn_20 : tzS cs_20 := tn_put tn_19 (by decide)
set_option maxHeartbeats 1000000 in
set_option maxRecDepth 100000 in
theorem c_X2_init {I : am_I} : am_Mt 1 Y_X2_init (4, 1025) [.ref 7] cs_12 I (am_q none cs_20 (va_up (va_up (va_up (va_up (I) 8 (fun _ => 0)) 9 (fun _ => 0)) 10 (fun _ => 0)) 11 (fun _ => 0))) := by
  refine am_mt ⟨by decide +kernel, rfl⟩ (Nat.le_of_ble_eq_true rfl) rfl ?_
  refine rn_aload_n dX2_init_0 rfl rfl ?_
  refine rn_objInit dX2_init_1 oi_2_3 (by decide) (Nat.le_of_ble_eq_true rfl) ?_
  refine rn_aload_n dX2_init_4 rfl rfl ?_
  refine rn_sipush (v := nI 256) dX2_init_5 (by decide) ?_
  refine rn_newarrC (t := 0) (N := 256) (n := 8) (S' := cs_13) (b' := (3, 769)) (by decide) dX2_init_8 ac_0 (by decide) (by decide) (by decide) rfl rfl rfl (by decide) ⟨by decide, by decide⟩ rfl ?_
  refine rn_putRC (S' := cs_14) dX2_init_10 fd_2_9 (by decide) rfl (Or.inr ⟨rfl, rfl⟩) rfl rfl ?_
  refine rn_aload_n dX2_init_13 rfl rfl ?_
  refine rn_sipush (v := nI 256) dX2_init_14 (by decide) ?_
  refine rn_newarrC (t := 0) (N := 256) (n := 9) (S' := cs_15) (b' := (2, 513)) (by decide) dX2_init_17 ac_0 (by decide) (by decide) (by decide) rfl rfl rfl (by decide) ⟨by decide, by decide⟩ rfl ?_
  refine rn_putRC (S' := cs_16) dX2_init_19 fd_2_15 (by decide) rfl (Or.inr ⟨rfl, rfl⟩) rfl rfl ?_
  refine rn_aload_n dX2_init_22 rfl rfl ?_
  refine rn_sipush (v := nI 256) dX2_init_23 (by decide) ?_
  refine rn_newarrC (t := 0) (N := 256) (n := 10) (S' := cs_17) (b' := (1, 257)) (by decide) dX2_init_26 ac_0 (by decide) (by decide) (by decide) rfl rfl rfl (by decide) ⟨by decide, by decide⟩ rfl ?_
  refine rn_putRC (S' := cs_18) dX2_init_28 fd_2_18 (by decide) rfl (Or.inr ⟨rfl, rfl⟩) rfl rfl ?_
  refine rn_aload_n dX2_init_31 rfl rfl ?_
  refine rn_sipush (v := nI 257) dX2_init_32 (by decide) ?_
  refine rn_newarrC (t := 0) (N := 257) (n := 11) (S' := cs_19) (b' := (0, 0)) (by decide) dX2_init_35 ac_0 (by decide) (by decide) (by decide) rfl rfl rfl (by decide) ⟨by decide, by decide⟩ rfl ?_
  refine rn_putRC (S' := cs_20) dX2_init_37 fd_2_21 (by decide) rfl (Or.inr ⟨rfl, rfl⟩) rfl rfl ?_
  refine rn_return dX2_init_40 rfl ?_
  exact ⟨rfl, rfl, rfl⟩
def cs_21 : am_S := (cs_20.1, cs_20.2.1, am_up cs_20.2.2 0 4 (some 7))
theorem tn_21 : tzS cs_21 := tn_put tn_20 (by decide)
def cs_22 : am_S := (12 + 1, va_up cs_21.2.1 12 (.inr (.inr 1)), va_up cs_21.2.2 12 (fun _ => none))
theorem tn_22 : tzS cs_22 := tn_new tn_21
def cs_23 : am_S := (13 + 1, va_up cs_22.2.1 13 (.inl (0, 128)), va_up cs_22.2.2 13 (fun _ => none))
theorem tn_23 : tzS cs_23 := tn_new tn_22
def cs_24 : am_S := (cs_23.1, cs_23.2.1, am_up cs_23.2.2 12 1 (some 13))
theorem tn_24 : tzS cs_24 := tn_put tn_23 (by decide)
def cs_25 : am_S := (14 + 1, va_up cs_24.2.1 14 (.inl (0, 128)), va_up cs_24.2.2 14 (fun _ => none))
theorem tn_25 : tzS cs_25 := tn_new tn_24
def cs_26 : am_S := (cs_25.1, cs_25.2.1, am_up cs_25.2.2 12 2 (some 14))
theorem tn_26 : tzS cs_26 := tn_put tn_25 (by decide)
def cs_27 : am_S := (15 + 1, va_up cs_26.2.1 15 (.inl (0, 256)), va_up cs_26.2.2 15 (fun _ => none))
theorem tn_27 : tzS cs_27 := tn_new tn_26
def cs_28 : am_S := (cs_27.1, cs_27.2.1, am_up cs_27.2.2 12 3 (some 15))
theorem tn_28 : tzS cs_28 := tn_put tn_27 (by decide)
set_option maxHeartbeats 1000000 in
set_option maxRecDepth 100000 in
theorem c_X1_init {I : am_I} : am_Mt 1 Y_X1_init (3, 512) [.ref 12] cs_22 I (am_q none cs_28 (va_up (va_up (va_up (I) 13 (fun _ => 0)) 14 (fun _ => 0)) 15 (fun _ => 0))) := by
  refine am_mt ⟨by decide +kernel, rfl⟩ (Nat.le_of_ble_eq_true rfl) rfl ?_
  refine rn_aload_n dX1_init_0 rfl rfl ?_
  refine rn_objInit dX1_init_1 oi_1_3 (by decide) (Nat.le_of_ble_eq_true rfl) ?_
  refine rn_aload_n dX1_init_4 rfl rfl ?_
  refine rn_sipush (v := nI 128) dX1_init_5 (by decide) ?_
  refine rn_newarrC (t := 0) (N := 128) (n := 13) (S' := cs_23) (b' := (2, 384)) (by decide) dX1_init_8 ac_0 (by decide) (by decide) (by decide) rfl rfl rfl (by decide) ⟨by decide, by decide⟩ rfl ?_
  refine rn_putRC (S' := cs_24) dX1_init_10 fd_1_9 (by decide) rfl (Or.inr ⟨rfl, rfl⟩) rfl rfl ?_
  refine rn_aload_n dX1_init_13 rfl rfl ?_
  refine rn_sipush (v := nI 128) dX1_init_14 (by decide) ?_
  refine rn_newarrC (t := 0) (N := 128) (n := 14) (S' := cs_25) (b' := (1, 256)) (by decide) dX1_init_17 ac_0 (by decide) (by decide) (by decide) rfl rfl rfl (by decide) ⟨by decide, by decide⟩ rfl ?_
  refine rn_putRC (S' := cs_26) dX1_init_19 fd_1_15 (by decide) rfl (Or.inr ⟨rfl, rfl⟩) rfl rfl ?_
  refine rn_aload_n dX1_init_22 rfl rfl ?_
  refine rn_sipush (v := nI 256) dX1_init_23 (by decide) ?_
  refine rn_newarrC (t := 0) (N := 256) (n := 15) (S' := cs_27) (b' := (0, 0)) (by decide) dX1_init_26 ac_0 (by decide) (by decide) (by decide) rfl rfl rfl (by decide) ⟨by decide, by decide⟩ rfl ?_
  refine rn_putRC (S' := cs_28) dX1_init_28 fd_1_18 (by decide) rfl (Or.inr ⟨rfl, rfl⟩) rfl rfl ?_
  refine rn_return dX1_init_31 rfl ?_
  exact ⟨rfl, rfl, rfl⟩
def cs_29 : am_S := (cs_28.1, cs_28.2.1, am_up cs_28.2.2 0 5 (some 12))
theorem tn_29 : tzS cs_29 := tn_put tn_28 (by decide)
def cs_30 : am_S := (16 + 1, va_up cs_29.2.1 16 (.inr (.inr 3)), va_up cs_29.2.2 16 (fun _ => none))
theorem tn_30 : tzS cs_30 := tn_new tn_29
def cs_31 : am_S := (17 + 1, va_up cs_30.2.1 17 (.inl (0, 200)), va_up cs_30.2.2 17 (fun _ => none))
theorem tn_31 : tzS cs_31 := tn_new tn_30
def cs_32 : am_S := (cs_31.1, cs_31.2.1, am_up cs_31.2.2 16 4 (some 17))
theorem tn_32 : tzS cs_32 := tn_put tn_31 (by decide)
set_option maxHeartbeats 1000000 in
set_option maxRecDepth 100000 in
theorem c_X3_init {I : am_I} : am_Mt 1 Y_X3_init (1, 200) [.ref 16] cs_30 I (am_q none cs_32 (va_up (am_up I 16 3 (-1)) 17 (fun _ => 0))) := by
  refine am_mt ⟨by decide +kernel, rfl⟩ (Nat.le_of_ble_eq_true rfl) rfl ?_
  refine rn_aload_n dX3_init_0 rfl rfl ?_
  refine rn_objInit dX3_init_1 oi_3_3 (by decide) (Nat.le_of_ble_eq_true rfl) ?_
  refine rn_aload_n dX3_init_4 rfl rfl ?_
  refine rn_iconst (v := (-1)) dX3_init_5 (by decide) ?_
  refine rn_putI dX3_init_6 fd_3_9 (by decide) rfl rfl rfl (vp_nar_int _) rfl ?_
  refine rn_aload_n dX3_init_9 rfl rfl ?_
  refine rn_sipush (v := nI 200) dX3_init_10 (by decide) ?_
  refine rn_newarrC (t := 0) (N := 200) (n := 17) (S' := cs_31) (b' := (0, 0)) (by decide) dX3_init_13 ac_0 (by decide) (by decide) (by decide) rfl rfl rfl (by decide) ⟨by decide, by decide⟩ rfl ?_
  refine rn_putRC (S' := cs_32) dX3_init_15 fd_3_15 (by decide) rfl (Or.inr ⟨rfl, rfl⟩) rfl rfl ?_
  refine rn_return dX3_init_18 rfl ?_
  exact ⟨rfl, rfl, rfl⟩
def cs_33 : am_S := (cs_32.1, cs_32.2.1, am_up cs_32.2.2 0 6 (some 16))
theorem tn_33 : tzS cs_33 := tn_put tn_32 (by decide)
def cs_34 : am_S := (18 + 1, va_up cs_33.2.1 18 (.inr (.inr 4)), va_up cs_33.2.2 18 (fun _ => none))
theorem tn_34 : tzS cs_34 := tn_new tn_33
def cs_35 : am_S := (cs_34.1, cs_34.2.1, am_up cs_34.2.2 18 0 (some 16))
theorem tn_35 : tzS cs_35 := tn_put tn_34 (by decide)
def cs_36 : am_S := (cs_35.1, cs_35.2.1, am_up cs_35.2.2 18 2 (some 6))
theorem tn_36 : tzS cs_36 := tn_put tn_35 (by decide)
def cs_37 : am_S := (19 + 1, va_up cs_36.2.1 19 (.inr (.inr 5)), va_up cs_36.2.2 19 (fun _ => none))
theorem tn_37 : tzS cs_37 := tn_new tn_36
def cs_38 : am_S := (cs_37.1, cs_37.2.1, am_up cs_37.2.2 19 3 (some 16))
theorem tn_38 : tzS cs_38 := tn_put tn_37 (by decide)
set_option maxHeartbeats 1000000 in
set_option maxRecDepth 100000 in
theorem c_X5_init {I : am_I} : am_Mt 1 Y_X5_init (0, 0) [.ref 19, .ref 16] cs_37 I (am_q none cs_38 (I)) := by
  refine am_mt ⟨by decide +kernel, rfl⟩ (Nat.le_of_ble_eq_true rfl) rfl ?_
  refine rn_aload_n dX5_init_0 rfl rfl ?_
  refine rn_objInit dX5_init_1 oi_5_3 (by decide) (Nat.le_of_ble_eq_true rfl) ?_
  refine rn_aload_n dX5_init_4 rfl rfl ?_
  refine rn_aload_n dX5_init_5 rfl rfl ?_
  refine rn_putRC (S' := cs_38) dX5_init_6 fd_5_9 (by decide) rfl (Or.inr ⟨rfl, rfl⟩) rfl rfl ?_
  refine rn_return dX5_init_9 rfl ?_
  exact ⟨rfl, rfl, rfl⟩
def cs_39 : am_S := (cs_38.1, cs_38.2.1, am_up cs_38.2.2 18 1 (some 19))
theorem tn_39 : tzS cs_39 := tn_put tn_38 (by decide)
def cs_40 : am_S := (20 + 1, va_up cs_39.2.1 20 (.inr (.inl 9)), va_up cs_39.2.2 20 (fun _ => none))
theorem tn_40 : tzS cs_40 := tn_new tn_39
def cs_41 : am_S := (cs_40.1, cs_40.2.1, am_up cs_40.2.2 18 3 (some 20))
theorem tn_41 : tzS cs_41 := tn_put tn_40 (by decide)
def cs_42 : am_S := (21 + 1, va_up cs_41.2.1 21 (.inr (.inr 0)), va_up cs_41.2.2 21 (fun _ => none))
theorem tn_42 : tzS cs_42 := tn_new tn_41
def cs_43 : am_S := (22 + 1, va_up cs_42.2.1 22 (.inl (0, 128)), am_up (va_up cs_42.2.2 22 (fun _ => none)) 21 2 (some 22))
theorem tn_43 : tzS cs_43 := tn_dr tn_42 21
def cs_44 : am_S := (cs_43.1, cs_43.2.1, am_up cs_43.2.2 20 0 (some 21))
theorem tn_44 : tzS cs_44 := tn_put tn_43 (by decide)
def cs_45 : am_S := (23 + 1, va_up cs_44.2.1 23 (.inr (.inr 0)), va_up cs_44.2.2 23 (fun _ => none))
theorem tn_45 : tzS cs_45 := tn_new tn_44
def cs_46 : am_S := (24 + 1, va_up cs_45.2.1 24 (.inl (0, 128)), am_up (va_up cs_45.2.2 24 (fun _ => none)) 23 2 (some 24))
theorem tn_46 : tzS cs_46 := tn_dr tn_45 23
def cs_47 : am_S := (cs_46.1, cs_46.2.1, am_up cs_46.2.2 20 1 (some 23))
theorem tn_47 : tzS cs_47 := tn_put tn_46 (by decide)
def cs_48 : am_S := (25 + 1, va_up cs_47.2.1 25 (.inr (.inr 0)), va_up cs_47.2.2 25 (fun _ => none))
theorem tn_48 : tzS cs_48 := tn_new tn_47
def cs_49 : am_S := (26 + 1, va_up cs_48.2.1 26 (.inl (0, 128)), am_up (va_up cs_48.2.2 26 (fun _ => none)) 25 2 (some 26))
theorem tn_49 : tzS cs_49 := tn_dr tn_48 25
def cs_50 : am_S := (cs_49.1, cs_49.2.1, am_up cs_49.2.2 20 2 (some 25))
theorem tn_50 : tzS cs_50 := tn_put tn_49 (by decide)
def cs_51 : am_S := (27 + 1, va_up cs_50.2.1 27 (.inr (.inr 0)), va_up cs_50.2.2 27 (fun _ => none))
theorem tn_51 : tzS cs_51 := tn_new tn_50
def cs_52 : am_S := (28 + 1, va_up cs_51.2.1 28 (.inl (0, 128)), am_up (va_up cs_51.2.2 28 (fun _ => none)) 27 2 (some 28))
theorem tn_52 : tzS cs_52 := tn_dr tn_51 27
def cs_53 : am_S := (cs_52.1, cs_52.2.1, am_up cs_52.2.2 20 3 (some 27))
theorem tn_53 : tzS cs_53 := tn_put tn_52 (by decide)
def cs_54 : am_S := (29 + 1, va_up cs_53.2.1 29 (.inr (.inr 0)), va_up cs_53.2.2 29 (fun _ => none))
theorem tn_54 : tzS cs_54 := tn_new tn_53
def cs_55 : am_S := (30 + 1, va_up cs_54.2.1 30 (.inl (0, 128)), am_up (va_up cs_54.2.2 30 (fun _ => none)) 29 2 (some 30))
theorem tn_55 : tzS cs_55 := tn_dr tn_54 29
def cs_56 : am_S := (cs_55.1, cs_55.2.1, am_up cs_55.2.2 20 4 (some 29))
theorem tn_56 : tzS cs_56 := tn_put tn_55 (by decide)
def cs_57 : am_S := (31 + 1, va_up cs_56.2.1 31 (.inr (.inr 0)), va_up cs_56.2.2 31 (fun _ => none))
theorem tn_57 : tzS cs_57 := tn_new tn_56
def cs_58 : am_S := (32 + 1, va_up cs_57.2.1 32 (.inl (0, 128)), am_up (va_up cs_57.2.2 32 (fun _ => none)) 31 2 (some 32))
theorem tn_58 : tzS cs_58 := tn_dr tn_57 31
def cs_59 : am_S := (cs_58.1, cs_58.2.1, am_up cs_58.2.2 20 5 (some 31))
theorem tn_59 : tzS cs_59 := tn_put tn_58 (by decide)
def cs_60 : am_S := (33 + 1, va_up cs_59.2.1 33 (.inr (.inr 0)), va_up cs_59.2.2 33 (fun _ => none))
theorem tn_60 : tzS cs_60 := tn_new tn_59
def cs_61 : am_S := (34 + 1, va_up cs_60.2.1 34 (.inl (0, 128)), am_up (va_up cs_60.2.2 34 (fun _ => none)) 33 2 (some 34))
theorem tn_61 : tzS cs_61 := tn_dr tn_60 33
def cs_62 : am_S := (cs_61.1, cs_61.2.1, am_up cs_61.2.2 20 6 (some 33))
theorem tn_62 : tzS cs_62 := tn_put tn_61 (by decide)
def cs_63 : am_S := (35 + 1, va_up cs_62.2.1 35 (.inr (.inr 0)), va_up cs_62.2.2 35 (fun _ => none))
theorem tn_63 : tzS cs_63 := tn_new tn_62
def cs_64 : am_S := (36 + 1, va_up cs_63.2.1 36 (.inl (0, 128)), am_up (va_up cs_63.2.2 36 (fun _ => none)) 35 2 (some 36))
theorem tn_64 : tzS cs_64 := tn_dr tn_63 35
def cs_65 : am_S := (cs_64.1, cs_64.2.1, am_up cs_64.2.2 20 7 (some 35))
theorem tn_65 : tzS cs_65 := tn_put tn_64 (by decide)
def cs_66 : am_S := (37 + 1, va_up cs_65.2.1 37 (.inr (.inr 0)), va_up cs_65.2.2 37 (fun _ => none))
theorem tn_66 : tzS cs_66 := tn_new tn_65
def cs_67 : am_S := (38 + 1, va_up cs_66.2.1 38 (.inl (0, 128)), am_up (va_up cs_66.2.2 38 (fun _ => none)) 37 2 (some 38))
theorem tn_67 : tzS cs_67 := tn_dr tn_66 37
def cs_68 : am_S := (cs_67.1, cs_67.2.1, am_up cs_67.2.2 20 8 (some 37))
theorem tn_68 : tzS cs_68 := tn_put tn_67 (by decide)
def cs_69 : am_S := (39 + 1, va_up cs_68.2.1 39 (.inr (.inr 0)), va_up cs_68.2.2 39 (fun _ => none))
theorem tn_69 : tzS cs_69 := tn_new tn_68
def cs_70 : am_S := (40 + 1, va_up cs_69.2.1 40 (.inl (0, 128)), am_up (va_up cs_69.2.2 40 (fun _ => none)) 39 2 (some 40))
theorem tn_70 : tzS cs_70 := tn_dr tn_69 39
def cs_71 : am_S := (cs_70.1, cs_70.2.1, am_up cs_70.2.2 18 4 (some 39))
theorem tn_71 : tzS cs_71 := tn_put tn_70 (by decide)
set_option maxHeartbeats 1000000 in
set_option maxRecDepth 100000 in
theorem c_X4_init {I : am_I} : am_Mt 2 Y_X4_init (22, 1324) [.ref 18, .ref 16, .ref 6] cs_34 I (am_q none cs_71 (drI (va_up (drI (va_up (drI (va_up (drI (va_up (drI (va_up (drI (va_up (drI (va_up (drI (va_up (drI (va_up (drI (va_up (va_up (va_up (I) 19 (fun _ => 0)) 20 (fun _ => 0)) 21 (fun _ => 0)) 21 22) 23 (fun _ => 0)) 23 24) 25 (fun _ => 0)) 25 26) 27 (fun _ => 0)) 27 28) 29 (fun _ => 0)) 29 30) 31 (fun _ => 0)) 31 32) 33 (fun _ => 0)) 33 34) 35 (fun _ => 0)) 35 36) 37 (fun _ => 0)) 37 38) 39 (fun _ => 0)) 39 40)) := by
  refine am_mt ⟨by decide +kernel, rfl⟩ (Nat.le_of_ble_eq_true rfl) rfl ?_
  refine rn_aload_n dX4_init_0 rfl rfl ?_
  refine rn_objInit dX4_init_1 oi_4_3 (by decide) (Nat.le_of_ble_eq_true rfl) ?_
  refine rn_aload_n dX4_init_4 rfl rfl ?_
  refine rn_aload_n dX4_init_5 rfl rfl ?_
  refine rn_putRC (S' := cs_35) dX4_init_6 fd_4_9 (by decide) rfl (Or.inr ⟨rfl, rfl⟩) rfl rfl ?_
  refine rn_aload_n dX4_init_9 rfl rfl ?_
  refine rn_aload_n dX4_init_10 rfl rfl ?_
  refine rn_putRC (S' := cs_36) dX4_init_11 fd_4_15 (by decide) rfl (Or.inr ⟨rfl, rfl⟩) rfl rfl ?_
  refine rn_aload_n dX4_init_14 rfl rfl ?_
  refine rn_newC (n := 19) (S' := cs_37) (b' := (21, 1319)) dX4_init_15 (by decide) nw_4_19 rfl rfl rfl (by decide) ⟨by decide, by decide⟩ rfl ?_
  refine rn_dup dX4_init_18 rfl ?_
  refine rn_aload_n dX4_init_19 rfl rfl ?_
  refine rn_callI (b' := (0, 0)) (st := [.ref 19, .ref 18]) dX4_init_20 cf_4_21 (c_X5_init) (by decide) ⟨by decide, by decide⟩ rfl rfl (Nat.le_of_ble_eq_true rfl) (fun r1 S1 I1 hq => ?_)
  obtain ⟨rfl, rfl, rfl⟩ := hq
  refine rn_b (b' := (21, 1319)) rfl ?_
  refine rn_putRC (S' := cs_39) dX4_init_23 fd_4_24 (by decide) rfl (Or.inr ⟨rfl, rfl⟩) rfl rfl ?_
  refine rn_aload_n dX4_init_26 rfl rfl ?_
  refine rn_bipush (v := nI 9) dX4_init_27 (by decide) ?_
  refine rn_anewC (N := 9) (n := 20) (S' := cs_40) (b' := (20, 1310)) dX4_init_29 na_4_28 (by decide) (by decide) (by decide) rfl rfl rfl (by decide) ⟨by decide, by decide⟩ rfl ?_
  refine rn_putRC (S' := cs_41) dX4_init_32 fd_4_30 (by decide) rfl (Or.inr ⟨rfl, rfl⟩) rfl rfl ?_
  refine rn_iconst (v := nI 0) dX4_init_35 (by decide) ?_
  refine rn_istore_n (ls' := [some (.ref 18), some (.ref 16), some (.ref 6), some (.int (nI 0))]) dX4_init_36 rfl (by decide) rfl rfl ?_
  refine rn_iload_n dX4_init_37 rfl rfl ?_
  refine rn_aload_n dX4_init_38 rfl rfl ?_
  refine rn_getR (r := 20) dX4_init_39 fd_4_30 (by decide) rfl rfl rfl ?_
  refine rn_alenq dX4_init_42 (by decide) rfl ?_
  refine rn_icmp_geN (tgt := 65) dX4_init_43 (by decide) (by omega) (by omega) (fun c_43 => ?_) (fun c_43 => ?_)
  · exact absurd c_43 (by decide)
  · refine rn_aload_n dX4_init_46 rfl rfl ?_
    refine rn_getR (r := 20) dX4_init_47 fd_4_30 (by decide) rfl rfl rfl ?_
    refine rn_iload_n dX4_init_50 rfl rfl ?_
    refine rn_newC (n := 21) (S' := cs_42) (b' := (19, 1307)) dX4_init_51 (by decide) nw_4_28 rfl rfl rfl (by decide) ⟨by decide, by decide⟩ rfl ?_
    refine rn_dup dX4_init_54 rfl ?_
    refine rn_callIN (b' := (1, 128)) (st := [.ref 21, .int (nI 0), .ref 20]) dX4_init_55 cf_4_33 (c_X0_init (by decide) rfl (by decide)) (by decide) ⟨by decide, by decide⟩ rfl rfl (Nat.le_of_ble_eq_true rfl) (fun r1 S1 I1 hq => ?_)
    obtain ⟨rfl, rfl, rfl⟩ := hq
    refine rn_S (S' := cs_43) rfl ?_
    refine rn_b (b' := (18, 1179)) rfl ?_
    refine rn_aastoreC (S' := cs_44) dX4_init_58 (by decide) rfl (by decide) rfl (by decide) (by decide) rfl ?_
    refine rn_iinc (v := nI 1) (ls' := [some (.ref 18), some (.ref 16), some (.ref 6), some (.int (nI 1))]) dX4_init_59 rfl (nI_add _ 1) (by decide) rfl rfl ?_
    refine rn_goto (tgt := 37) dX4_init_62 (by decide) ?_
    refine rn_iload_n dX4_init_37 rfl rfl ?_
    refine rn_aload_n dX4_init_38 rfl rfl ?_
    refine rn_getR (r := 20) dX4_init_39 fd_4_30 (by decide) rfl rfl rfl ?_
    refine rn_alenq dX4_init_42 (by decide) rfl ?_
    refine rn_icmp_geN (tgt := 65) dX4_init_43 (by decide) (by omega) (by omega) (fun c_43 => ?_) (fun c_43 => ?_)
    · exact absurd c_43 (by decide)
    · refine rn_aload_n dX4_init_46 rfl rfl ?_
      refine rn_getR (r := 20) dX4_init_47 fd_4_30 (by decide) rfl rfl rfl ?_
      refine rn_iload_n dX4_init_50 rfl rfl ?_
      refine rn_newC (n := 23) (S' := cs_45) (b' := (17, 1176)) dX4_init_51 (by decide) nw_4_28 rfl rfl rfl (by decide) ⟨by decide, by decide⟩ rfl ?_
      refine rn_dup dX4_init_54 rfl ?_
      refine rn_callIN (b' := (1, 128)) (st := [.ref 23, .int (nI 1), .ref 20]) dX4_init_55 cf_4_33 (c_X0_init (by decide) rfl (by decide)) (by decide) ⟨by decide, by decide⟩ rfl rfl (Nat.le_of_ble_eq_true rfl) (fun r1 S1 I1 hq => ?_)
      obtain ⟨rfl, rfl, rfl⟩ := hq
      refine rn_S (S' := cs_46) rfl ?_
      refine rn_b (b' := (16, 1048)) rfl ?_
      refine rn_aastoreC (S' := cs_47) dX4_init_58 (by decide) rfl (by decide) rfl (by decide) (by decide) rfl ?_
      refine rn_iinc (v := nI 2) (ls' := [some (.ref 18), some (.ref 16), some (.ref 6), some (.int (nI 2))]) dX4_init_59 rfl (nI_add _ 1) (by decide) rfl rfl ?_
      refine rn_goto (tgt := 37) dX4_init_62 (by decide) ?_
      refine rn_iload_n dX4_init_37 rfl rfl ?_
      refine rn_aload_n dX4_init_38 rfl rfl ?_
      refine rn_getR (r := 20) dX4_init_39 fd_4_30 (by decide) rfl rfl rfl ?_
      refine rn_alenq dX4_init_42 (by decide) rfl ?_
      refine rn_icmp_geN (tgt := 65) dX4_init_43 (by decide) (by omega) (by omega) (fun c_43 => ?_) (fun c_43 => ?_)
      · exact absurd c_43 (by decide)
      · refine rn_aload_n dX4_init_46 rfl rfl ?_
        refine rn_getR (r := 20) dX4_init_47 fd_4_30 (by decide) rfl rfl rfl ?_
        refine rn_iload_n dX4_init_50 rfl rfl ?_
        refine rn_newC (n := 25) (S' := cs_48) (b' := (15, 1045)) dX4_init_51 (by decide) nw_4_28 rfl rfl rfl (by decide) ⟨by decide, by decide⟩ rfl ?_
        refine rn_dup dX4_init_54 rfl ?_
        refine rn_callIN (b' := (1, 128)) (st := [.ref 25, .int (nI 2), .ref 20]) dX4_init_55 cf_4_33 (c_X0_init (by decide) rfl (by decide)) (by decide) ⟨by decide, by decide⟩ rfl rfl (Nat.le_of_ble_eq_true rfl) (fun r1 S1 I1 hq => ?_)
        obtain ⟨rfl, rfl, rfl⟩ := hq
        refine rn_S (S' := cs_49) rfl ?_
        refine rn_b (b' := (14, 917)) rfl ?_
        refine rn_aastoreC (S' := cs_50) dX4_init_58 (by decide) rfl (by decide) rfl (by decide) (by decide) rfl ?_
        refine rn_iinc (v := nI 3) (ls' := [some (.ref 18), some (.ref 16), some (.ref 6), some (.int (nI 3))]) dX4_init_59 rfl (nI_add _ 1) (by decide) rfl rfl ?_
        refine rn_goto (tgt := 37) dX4_init_62 (by decide) ?_
        refine rn_iload_n dX4_init_37 rfl rfl ?_
        refine rn_aload_n dX4_init_38 rfl rfl ?_
        refine rn_getR (r := 20) dX4_init_39 fd_4_30 (by decide) rfl rfl rfl ?_
        refine rn_alenq dX4_init_42 (by decide) rfl ?_
        refine rn_icmp_geN (tgt := 65) dX4_init_43 (by decide) (by omega) (by omega) (fun c_43 => ?_) (fun c_43 => ?_)
        · exact absurd c_43 (by decide)
        · refine rn_aload_n dX4_init_46 rfl rfl ?_
          refine rn_getR (r := 20) dX4_init_47 fd_4_30 (by decide) rfl rfl rfl ?_
          refine rn_iload_n dX4_init_50 rfl rfl ?_
          refine rn_newC (n := 27) (S' := cs_51) (b' := (13, 914)) dX4_init_51 (by decide) nw_4_28 rfl rfl rfl (by decide) ⟨by decide, by decide⟩ rfl ?_
          refine rn_dup dX4_init_54 rfl ?_
          refine rn_callIN (b' := (1, 128)) (st := [.ref 27, .int (nI 3), .ref 20]) dX4_init_55 cf_4_33 (c_X0_init (by decide) rfl (by decide)) (by decide) ⟨by decide, by decide⟩ rfl rfl (Nat.le_of_ble_eq_true rfl) (fun r1 S1 I1 hq => ?_)
          obtain ⟨rfl, rfl, rfl⟩ := hq
          refine rn_S (S' := cs_52) rfl ?_
          refine rn_b (b' := (12, 786)) rfl ?_
          refine rn_aastoreC (S' := cs_53) dX4_init_58 (by decide) rfl (by decide) rfl (by decide) (by decide) rfl ?_
          refine rn_iinc (v := nI 4) (ls' := [some (.ref 18), some (.ref 16), some (.ref 6), some (.int (nI 4))]) dX4_init_59 rfl (nI_add _ 1) (by decide) rfl rfl ?_
          refine rn_goto (tgt := 37) dX4_init_62 (by decide) ?_
          refine rn_iload_n dX4_init_37 rfl rfl ?_
          refine rn_aload_n dX4_init_38 rfl rfl ?_
          refine rn_getR (r := 20) dX4_init_39 fd_4_30 (by decide) rfl rfl rfl ?_
          refine rn_alenq dX4_init_42 (by decide) rfl ?_
          refine rn_icmp_geN (tgt := 65) dX4_init_43 (by decide) (by omega) (by omega) (fun c_43 => ?_) (fun c_43 => ?_)
          · exact absurd c_43 (by decide)
          · refine rn_aload_n dX4_init_46 rfl rfl ?_
            refine rn_getR (r := 20) dX4_init_47 fd_4_30 (by decide) rfl rfl rfl ?_
            refine rn_iload_n dX4_init_50 rfl rfl ?_
            refine rn_newC (n := 29) (S' := cs_54) (b' := (11, 783)) dX4_init_51 (by decide) nw_4_28 rfl rfl rfl (by decide) ⟨by decide, by decide⟩ rfl ?_
            refine rn_dup dX4_init_54 rfl ?_
            refine rn_callIN (b' := (1, 128)) (st := [.ref 29, .int (nI 4), .ref 20]) dX4_init_55 cf_4_33 (c_X0_init (by decide) rfl (by decide)) (by decide) ⟨by decide, by decide⟩ rfl rfl (Nat.le_of_ble_eq_true rfl) (fun r1 S1 I1 hq => ?_)
            obtain ⟨rfl, rfl, rfl⟩ := hq
            refine rn_S (S' := cs_55) rfl ?_
            refine rn_b (b' := (10, 655)) rfl ?_
            refine rn_aastoreC (S' := cs_56) dX4_init_58 (by decide) rfl (by decide) rfl (by decide) (by decide) rfl ?_
            refine rn_iinc (v := nI 5) (ls' := [some (.ref 18), some (.ref 16), some (.ref 6), some (.int (nI 5))]) dX4_init_59 rfl (nI_add _ 1) (by decide) rfl rfl ?_
            refine rn_goto (tgt := 37) dX4_init_62 (by decide) ?_
            refine rn_iload_n dX4_init_37 rfl rfl ?_
            refine rn_aload_n dX4_init_38 rfl rfl ?_
            refine rn_getR (r := 20) dX4_init_39 fd_4_30 (by decide) rfl rfl rfl ?_
            refine rn_alenq dX4_init_42 (by decide) rfl ?_
            refine rn_icmp_geN (tgt := 65) dX4_init_43 (by decide) (by omega) (by omega) (fun c_43 => ?_) (fun c_43 => ?_)
            · exact absurd c_43 (by decide)
            · refine rn_aload_n dX4_init_46 rfl rfl ?_
              refine rn_getR (r := 20) dX4_init_47 fd_4_30 (by decide) rfl rfl rfl ?_
              refine rn_iload_n dX4_init_50 rfl rfl ?_
              refine rn_newC (n := 31) (S' := cs_57) (b' := (9, 652)) dX4_init_51 (by decide) nw_4_28 rfl rfl rfl (by decide) ⟨by decide, by decide⟩ rfl ?_
              refine rn_dup dX4_init_54 rfl ?_
              refine rn_callIN (b' := (1, 128)) (st := [.ref 31, .int (nI 5), .ref 20]) dX4_init_55 cf_4_33 (c_X0_init (by decide) rfl (by decide)) (by decide) ⟨by decide, by decide⟩ rfl rfl (Nat.le_of_ble_eq_true rfl) (fun r1 S1 I1 hq => ?_)
              obtain ⟨rfl, rfl, rfl⟩ := hq
              refine rn_S (S' := cs_58) rfl ?_
              refine rn_b (b' := (8, 524)) rfl ?_
              refine rn_aastoreC (S' := cs_59) dX4_init_58 (by decide) rfl (by decide) rfl (by decide) (by decide) rfl ?_
              refine rn_iinc (v := nI 6) (ls' := [some (.ref 18), some (.ref 16), some (.ref 6), some (.int (nI 6))]) dX4_init_59 rfl (nI_add _ 1) (by decide) rfl rfl ?_
              refine rn_goto (tgt := 37) dX4_init_62 (by decide) ?_
              refine rn_iload_n dX4_init_37 rfl rfl ?_
              refine rn_aload_n dX4_init_38 rfl rfl ?_
              refine rn_getR (r := 20) dX4_init_39 fd_4_30 (by decide) rfl rfl rfl ?_
              refine rn_alenq dX4_init_42 (by decide) rfl ?_
              refine rn_icmp_geN (tgt := 65) dX4_init_43 (by decide) (by omega) (by omega) (fun c_43 => ?_) (fun c_43 => ?_)
              · exact absurd c_43 (by decide)
              · refine rn_aload_n dX4_init_46 rfl rfl ?_
                refine rn_getR (r := 20) dX4_init_47 fd_4_30 (by decide) rfl rfl rfl ?_
                refine rn_iload_n dX4_init_50 rfl rfl ?_
                refine rn_newC (n := 33) (S' := cs_60) (b' := (7, 521)) dX4_init_51 (by decide) nw_4_28 rfl rfl rfl (by decide) ⟨by decide, by decide⟩ rfl ?_
                refine rn_dup dX4_init_54 rfl ?_
                refine rn_callIN (b' := (1, 128)) (st := [.ref 33, .int (nI 6), .ref 20]) dX4_init_55 cf_4_33 (c_X0_init (by decide) rfl (by decide)) (by decide) ⟨by decide, by decide⟩ rfl rfl (Nat.le_of_ble_eq_true rfl) (fun r1 S1 I1 hq => ?_)
                obtain ⟨rfl, rfl, rfl⟩ := hq
                refine rn_S (S' := cs_61) rfl ?_
                refine rn_b (b' := (6, 393)) rfl ?_
                refine rn_aastoreC (S' := cs_62) dX4_init_58 (by decide) rfl (by decide) rfl (by decide) (by decide) rfl ?_
                refine rn_iinc (v := nI 7) (ls' := [some (.ref 18), some (.ref 16), some (.ref 6), some (.int (nI 7))]) dX4_init_59 rfl (nI_add _ 1) (by decide) rfl rfl ?_
                refine rn_goto (tgt := 37) dX4_init_62 (by decide) ?_
                refine rn_iload_n dX4_init_37 rfl rfl ?_
                refine rn_aload_n dX4_init_38 rfl rfl ?_
                refine rn_getR (r := 20) dX4_init_39 fd_4_30 (by decide) rfl rfl rfl ?_
                refine rn_alenq dX4_init_42 (by decide) rfl ?_
                refine rn_icmp_geN (tgt := 65) dX4_init_43 (by decide) (by omega) (by omega) (fun c_43 => ?_) (fun c_43 => ?_)
                · exact absurd c_43 (by decide)
                · refine rn_aload_n dX4_init_46 rfl rfl ?_
                  refine rn_getR (r := 20) dX4_init_47 fd_4_30 (by decide) rfl rfl rfl ?_
                  refine rn_iload_n dX4_init_50 rfl rfl ?_
                  refine rn_newC (n := 35) (S' := cs_63) (b' := (5, 390)) dX4_init_51 (by decide) nw_4_28 rfl rfl rfl (by decide) ⟨by decide, by decide⟩ rfl ?_
                  refine rn_dup dX4_init_54 rfl ?_
                  refine rn_callIN (b' := (1, 128)) (st := [.ref 35, .int (nI 7), .ref 20]) dX4_init_55 cf_4_33 (c_X0_init (by decide) rfl (by decide)) (by decide) ⟨by decide, by decide⟩ rfl rfl (Nat.le_of_ble_eq_true rfl) (fun r1 S1 I1 hq => ?_)
                  obtain ⟨rfl, rfl, rfl⟩ := hq
                  refine rn_S (S' := cs_64) rfl ?_
                  refine rn_b (b' := (4, 262)) rfl ?_
                  refine rn_aastoreC (S' := cs_65) dX4_init_58 (by decide) rfl (by decide) rfl (by decide) (by decide) rfl ?_
                  refine rn_iinc (v := nI 8) (ls' := [some (.ref 18), some (.ref 16), some (.ref 6), some (.int (nI 8))]) dX4_init_59 rfl (nI_add _ 1) (by decide) rfl rfl ?_
                  refine rn_goto (tgt := 37) dX4_init_62 (by decide) ?_
                  refine rn_iload_n dX4_init_37 rfl rfl ?_
                  refine rn_aload_n dX4_init_38 rfl rfl ?_
                  refine rn_getR (r := 20) dX4_init_39 fd_4_30 (by decide) rfl rfl rfl ?_
                  refine rn_alenq dX4_init_42 (by decide) rfl ?_
                  refine rn_icmp_geN (tgt := 65) dX4_init_43 (by decide) (by omega) (by omega) (fun c_43 => ?_) (fun c_43 => ?_)
                  · exact absurd c_43 (by decide)
                  · refine rn_aload_n dX4_init_46 rfl rfl ?_
                    refine rn_getR (r := 20) dX4_init_47 fd_4_30 (by decide) rfl rfl rfl ?_
                    refine rn_iload_n dX4_init_50 rfl rfl ?_
                    refine rn_newC (n := 37) (S' := cs_66) (b' := (3, 259)) dX4_init_51 (by decide) nw_4_28 rfl rfl rfl (by decide) ⟨by decide, by decide⟩ rfl ?_
                    refine rn_dup dX4_init_54 rfl ?_
                    refine rn_callIN (b' := (1, 128)) (st := [.ref 37, .int (nI 8), .ref 20]) dX4_init_55 cf_4_33 (c_X0_init (by decide) rfl (by decide)) (by decide) ⟨by decide, by decide⟩ rfl rfl (Nat.le_of_ble_eq_true rfl) (fun r1 S1 I1 hq => ?_)
                    obtain ⟨rfl, rfl, rfl⟩ := hq
                    refine rn_S (S' := cs_67) rfl ?_
                    refine rn_b (b' := (2, 131)) rfl ?_
                    refine rn_aastoreC (S' := cs_68) dX4_init_58 (by decide) rfl (by decide) rfl (by decide) (by decide) rfl ?_
                    refine rn_iinc (v := nI 9) (ls' := [some (.ref 18), some (.ref 16), some (.ref 6), some (.int (nI 9))]) dX4_init_59 rfl (nI_add _ 1) (by decide) rfl rfl ?_
                    refine rn_goto (tgt := 37) dX4_init_62 (by decide) ?_
                    refine rn_iload_n dX4_init_37 rfl rfl ?_
                    refine rn_aload_n dX4_init_38 rfl rfl ?_
                    refine rn_getR (r := 20) dX4_init_39 fd_4_30 (by decide) rfl rfl rfl ?_
                    refine rn_alenq dX4_init_42 (by decide) rfl ?_
                    refine rn_icmp_geN (tgt := 65) dX4_init_43 (by decide) (by omega) (by omega) (fun c_43 => ?_) (fun c_43 => ?_)
                    · refine rn_aload_n dX4_init_65 rfl rfl ?_
                      refine rn_newC (n := 39) (S' := cs_69) (b' := (1, 128)) dX4_init_66 (by decide) nw_4_28 rfl rfl rfl (by decide) ⟨by decide, by decide⟩ rfl ?_
                      refine rn_dup dX4_init_69 rfl ?_
                      refine rn_callIN (b' := (1, 128)) (st := [.ref 39, .ref 18]) dX4_init_70 cf_4_33 (c_X0_init (by decide) rfl (by decide)) (by decide) ⟨by decide, by decide⟩ rfl rfl (Nat.le_of_ble_eq_true rfl) (fun r1 S1 I1 hq => ?_)
                      obtain ⟨rfl, rfl, rfl⟩ := hq
                      refine rn_S (S' := cs_70) rfl ?_
                      refine rn_b (b' := (0, 0)) rfl ?_
                      refine rn_putRC (S' := cs_71) dX4_init_73 fd_4_34 (by decide) rfl (Or.inr ⟨rfl, rfl⟩) rfl rfl ?_
                      refine rn_return dX4_init_76 rfl ?_
                      exact ⟨rfl, rfl, rfl⟩
                    · exact absurd c_43 (by decide)
def cs_72 : am_S := (cs_71.1, cs_71.2.1, am_up cs_71.2.2 0 7 (some 18))
theorem tn_72 : tzS cs_72 := tn_put tn_71 (by decide)
def cs_73 : am_S := (41 + 1, va_up cs_72.2.1 41 (.inr (.inr 6)), va_up cs_72.2.2 41 (fun _ => none))
theorem tn_73 : tzS cs_73 := tn_new tn_72
def cs_74 : am_S := (42 + 1, va_up cs_73.2.1 42 (.inl (0, 256)), va_up cs_73.2.2 42 (fun _ => none))
theorem tn_74 : tzS cs_74 := tn_new tn_73
def cs_75 : am_S := (cs_74.1, cs_74.2.1, am_up cs_74.2.2 41 2 (some 42))
theorem tn_75 : tzS cs_75 := tn_put tn_74 (by decide)
def cs_76 : am_S := (43 + 1, va_up cs_75.2.1 43 (.inl (0, 128)), va_up cs_75.2.2 43 (fun _ => none))
theorem tn_76 : tzS cs_76 := tn_new tn_75
def cs_77 : am_S := (cs_76.1, cs_76.2.1, am_up cs_76.2.2 41 3 (some 43))
theorem tn_77 : tzS cs_77 := tn_put tn_76 (by decide)
def cs_78 : am_S := (cs_77.1, cs_77.2.1, am_up cs_77.2.2 41 1 (some 16))
theorem tn_78 : tzS cs_78 := tn_put tn_77 (by decide)
set_option maxHeartbeats 1000000 in
set_option maxRecDepth 100000 in
theorem c_X6_init {I : am_I} : am_Mt 1 Y_X6_init (2, 384) [.ref 41, .ref 16] cs_73 I (am_q none cs_78 (va_up (va_up (I) 42 (fun _ => 0)) 43 (fun _ => 0))) := by
  refine am_mt ⟨by decide +kernel, rfl⟩ (Nat.le_of_ble_eq_true rfl) rfl ?_
  refine rn_aload_n dX6_init_0 rfl rfl ?_
  refine rn_objInit dX6_init_1 oi_6_3 (by decide) (Nat.le_of_ble_eq_true rfl) ?_
  refine rn_aload_n dX6_init_4 rfl rfl ?_
  refine rn_sipush (v := nI 256) dX6_init_5 (by decide) ?_
  refine rn_newarrC (t := 0) (N := 256) (n := 42) (S' := cs_74) (b' := (1, 128)) (by decide) dX6_init_8 ac_0 (by decide) (by decide) (by decide) rfl rfl rfl (by decide) ⟨by decide, by decide⟩ rfl ?_
  refine rn_putRC (S' := cs_75) dX6_init_10 fd_6_9 (by decide) rfl (Or.inr ⟨rfl, rfl⟩) rfl rfl ?_
  refine rn_aload_n dX6_init_13 rfl rfl ?_
  refine rn_sipush (v := nI 128) dX6_init_14 (by decide) ?_
  refine rn_newarrC (t := 0) (N := 128) (n := 43) (S' := cs_76) (b' := (0, 0)) (by decide) dX6_init_17 ac_0 (by decide) (by decide) (by decide) rfl rfl rfl (by decide) ⟨by decide, by decide⟩ rfl ?_
  refine rn_putRC (S' := cs_77) dX6_init_19 fd_6_15 (by decide) rfl (Or.inr ⟨rfl, rfl⟩) rfl rfl ?_
  refine rn_aload_n dX6_init_22 rfl rfl ?_
  refine rn_aload_n dX6_init_23 rfl rfl ?_
  refine rn_putRC (S' := cs_78) dX6_init_24 fd_6_18 (by decide) rfl (Or.inr ⟨rfl, rfl⟩) rfl rfl ?_
  refine rn_return dX6_init_27 rfl ?_
  exact ⟨rfl, rfl, rfl⟩
def cs_79 : am_S := (cs_78.1, cs_78.2.1, am_up cs_78.2.2 0 8 (some 41))
theorem tn_79 : tzS cs_79 := tn_put tn_78 (by decide)
set_option maxHeartbeats 1000000 in
set_option maxRecDepth 100000 in
theorem c_X7_init {I : am_I} (x y : Int32) : am_Mt 4 Y_X7_init (43, 3868) [.ref 0, .int x, .int y] cs_1 I (fun r S' I' => r = none ∧ S' = cs_79 ∧ CI7 (clamp x) (clamp y) I') := by
  refine am_mt ⟨by decide +kernel, rfl⟩ (Nat.le_of_ble_eq_true rfl) rfl ?_
  refine rn_aload_n dX7_init_0 rfl rfl ?_
  refine rn_objInit dX7_init_1 oi_7_1 (by decide) (Nat.le_of_ble_eq_true rfl) ?_
  refine rn_aload_n dX7_init_4 rfl rfl ?_
  refine rn_newC (n := 1) (S' := cs_2) (b' := (42, 3865)) dX7_init_5 (by decide) nw_7_7 rfl rfl rfl (by decide) ⟨by decide, by decide⟩ rfl ?_
  refine rn_dup dX7_init_8 rfl ?_
  refine rn_callIN (b' := (1, 128)) (st := [.ref 1, .ref 0]) dX7_init_9 cf_7_9 (c_X0_init (by decide) rfl (by decide)) (by decide) ⟨by decide, by decide⟩ rfl rfl (Nat.le_of_ble_eq_true rfl) (fun r1 S1 I1 hq => ?_)
  obtain ⟨rfl, rfl, rfl⟩ := hq
  refine rn_S (S' := cs_3) rfl ?_
  refine rn_b (b' := (41, 3737)) rfl ?_
  refine rn_putRC (S' := cs_4) dX7_init_12 fd_7_10 (by decide) rfl (Or.inr ⟨rfl, rfl⟩) rfl rfl ?_
  refine rn_aload_n dX7_init_15 rfl rfl ?_
  refine rn_getR (r := 1) dX7_init_16 fd_7_10 (by decide) rfl rfl rfl ?_
  refine rn_iload_n dX7_init_19 rfl rfl ?_
  refine rn_iconst (v := nI 1) dX7_init_20 (by decide) ?_
  refine rn_max dX7_init_21 ma_7_16 (by decide) (Nat.le_of_ble_eq_true rfl) ?_
  refine rn_bipush (v := nI 8) dX7_init_24 (by decide) ?_
  refine rn_min dX7_init_26 ma_7_22 (by decide) (Nat.le_of_ble_eq_true rfl) ?_
  refine rn_top (y := nI (clamp x)) (cl_mm x) ?_
  refine rn_iload_n dX7_init_29 rfl rfl ?_
  refine rn_iconst (v := nI 1) dX7_init_30 (by decide) ?_
  refine rn_max dX7_init_31 ma_7_16 (by decide) (Nat.le_of_ble_eq_true rfl) ?_
  refine rn_bipush (v := nI 8) dX7_init_34 (by decide) ?_
  refine rn_min dX7_init_36 ma_7_22 (by decide) (Nat.le_of_ble_eq_true rfl) ?_
  refine rn_top (y := nI (clamp y)) (cl_mm y) ?_
  refine rn_callVq (st := []) dX7_init_39 cf_7_25 (c_X0_clear (a := 1) (q := 2) ⟨by decide, rfl, rfl, by decide, rfl⟩ (clamp_ok x).1 (clamp_ok x).2 (clamp_ok y).1 (clamp_ok y).2) (by decide) (by decide) rfl rfl rfl (Nat.le_of_ble_eq_true rfl) ?_
  refine rn_aload_n dX7_init_42 rfl rfl ?_
  refine rn_newC (n := 3) (S' := cs_5) (b' := (40, 3734)) dX7_init_43 (by decide) nw_7_7 rfl rfl rfl (by decide) ⟨by decide, by decide⟩ rfl ?_
  refine rn_dup dX7_init_46 rfl ?_
  refine rn_callIN (b' := (1, 128)) (st := [.ref 3, .ref 0]) dX7_init_47 cf_7_9 (c_X0_init (by decide) rfl (by decide)) (by decide) ⟨by decide, by decide⟩ rfl rfl (Nat.le_of_ble_eq_true rfl) (fun r1 S1 I1 hq => ?_)
  obtain ⟨rfl, rfl, rfl⟩ := hq
  refine rn_S (S' := cs_6) rfl ?_
  refine rn_b (b' := (39, 3606)) rfl ?_
  refine rn_putRC (S' := cs_7) dX7_init_50 fd_7_29 (by decide) rfl (Or.inr ⟨rfl, rfl⟩) rfl rfl ?_
  refine rn_aload_n dX7_init_53 rfl rfl ?_
  refine rn_sipush (v := nI 128) dX7_init_54 (by decide) ?_
  refine rn_newarrC (t := 0) (N := 128) (n := 5) (S' := cs_8) (b' := (38, 3478)) (by decide) dX7_init_57 ac_0 (by decide) (by decide) (by decide) rfl rfl rfl (by decide) ⟨by decide, by decide⟩ rfl ?_
  refine rn_putRC (S' := cs_9) dX7_init_59 fd_7_32 (by decide) rfl (Or.inr ⟨rfl, rfl⟩) rfl rfl ?_
  refine rn_aload_n dX7_init_62 rfl rfl ?_
  refine rn_bipush (v := nI 8) dX7_init_63 (by decide) ?_
  refine rn_anewC (N := 8) (n := 6) (S' := cs_10) (b' := (37, 3470)) dX7_init_65 na_7_7 (by decide) (by decide) (by decide) rfl rfl rfl (by decide) ⟨by decide, by decide⟩ rfl ?_
  refine rn_putRC (S' := cs_11) dX7_init_68 fd_7_36 (by decide) rfl (Or.inr ⟨rfl, rfl⟩) rfl rfl ?_
  refine rn_aload_n dX7_init_71 rfl rfl ?_
  refine rn_newC (n := 7) (S' := cs_12) (b' := (36, 3465)) dX7_init_72 (by decide) nw_7_40 rfl rfl rfl (by decide) ⟨by decide, by decide⟩ rfl ?_
  refine rn_dup dX7_init_75 rfl ?_
  refine rn_callIN (b' := (4, 1025)) (st := [.ref 7, .ref 0]) dX7_init_76 cf_7_42 (c_X2_init) (by decide) ⟨by decide, by decide⟩ rfl rfl (Nat.le_of_ble_eq_true rfl) (fun r1 S1 I1 hq => ?_)
  obtain ⟨rfl, rfl, rfl⟩ := hq
  refine rn_b (b' := (32, 2440)) rfl ?_
  refine rn_putRC (S' := cs_21) dX7_init_79 fd_7_43 (by decide) rfl (Or.inr ⟨rfl, rfl⟩) rfl rfl ?_
  refine rn_aload_n dX7_init_82 rfl rfl ?_
  refine rn_newC (n := 12) (S' := cs_22) (b' := (31, 2436)) dX7_init_83 (by decide) nw_7_47 rfl rfl rfl (by decide) ⟨by decide, by decide⟩ rfl ?_
  refine rn_dup dX7_init_86 rfl ?_
  refine rn_callIN (b' := (3, 512)) (st := [.ref 12, .ref 0]) dX7_init_87 cf_7_49 (c_X1_init) (by decide) ⟨by decide, by decide⟩ rfl rfl (Nat.le_of_ble_eq_true rfl) (fun r1 S1 I1 hq => ?_)
  obtain ⟨rfl, rfl, rfl⟩ := hq
  refine rn_b (b' := (28, 1924)) rfl ?_
  refine rn_putRC (S' := cs_29) dX7_init_90 fd_7_50 (by decide) rfl (Or.inr ⟨rfl, rfl⟩) rfl rfl ?_
  refine rn_aload_n dX7_init_93 rfl rfl ?_
  refine rn_newC (n := 16) (S' := cs_30) (b' := (27, 1919)) dX7_init_94 (by decide) nw_7_54 rfl rfl rfl (by decide) ⟨by decide, by decide⟩ rfl ?_
  refine rn_dup dX7_init_97 rfl ?_
  refine rn_callIN (b' := (1, 200)) (st := [.ref 16, .ref 0]) dX7_init_98 cf_7_56 (c_X3_init) (by decide) ⟨by decide, by decide⟩ rfl rfl (Nat.le_of_ble_eq_true rfl) (fun r1 S1 I1 hq => ?_)
  obtain ⟨rfl, rfl, rfl⟩ := hq
  refine rn_b (b' := (26, 1719)) rfl ?_
  refine rn_putRC (S' := cs_33) dX7_init_101 fd_7_57 (by decide) rfl (Or.inr ⟨rfl, rfl⟩) rfl rfl ?_
  refine rn_aload_n dX7_init_104 rfl rfl ?_
  refine rn_newC (n := 18) (S' := cs_34) (b' := (25, 1714)) dX7_init_105 (by decide) nw_7_61 rfl rfl rfl (by decide) ⟨by decide, by decide⟩ rfl ?_
  refine rn_dup dX7_init_108 rfl ?_
  refine rn_aload_n dX7_init_109 rfl rfl ?_
  refine rn_getR (r := 16) dX7_init_110 fd_7_57 (by decide) rfl rfl rfl ?_
  refine rn_aload_n dX7_init_113 rfl rfl ?_
  refine rn_getR (r := 6) dX7_init_114 fd_7_36 (by decide) rfl rfl rfl ?_
  refine rn_callI (b' := (22, 1324)) (st := [.ref 18, .ref 0]) dX7_init_117 cf_7_63 (c_X4_init) (by decide) ⟨by decide, by decide⟩ rfl rfl (Nat.le_of_ble_eq_true rfl) (fun r1 S1 I1 hq => ?_)
  obtain ⟨rfl, rfl, rfl⟩ := hq
  refine rn_b (b' := (3, 390)) rfl ?_
  refine rn_putRC (S' := cs_72) dX7_init_120 fd_7_66 (by decide) rfl (Or.inr ⟨rfl, rfl⟩) rfl rfl ?_
  refine rn_aload_n dX7_init_123 rfl rfl ?_
  refine rn_newC (n := 41) (S' := cs_73) (b' := (2, 384)) dX7_init_124 (by decide) nw_7_70 rfl rfl rfl (by decide) ⟨by decide, by decide⟩ rfl ?_
  refine rn_dup dX7_init_127 rfl ?_
  refine rn_aload_n dX7_init_128 rfl rfl ?_
  refine rn_getR (r := 16) dX7_init_129 fd_7_57 (by decide) rfl rfl rfl ?_
  refine rn_callI (b' := (2, 384)) (st := [.ref 41, .ref 0]) dX7_init_132 cf_7_72 (c_X6_init) (by decide) ⟨by decide, by decide⟩ rfl rfl (Nat.le_of_ble_eq_true rfl) (fun r1 S1 I1 hq => ?_)
  obtain ⟨rfl, rfl, rfl⟩ := hq
  refine rn_b (b' := (0, 0)) rfl ?_
  refine rn_putRC (S' := cs_79) dX7_init_135 fd_7_75 (by decide) rfl (Or.inr ⟨rfl, rfl⟩) rfl rfl ?_
  refine rn_aload_n dX7_init_138 rfl rfl ?_
  refine rn_iconst (v := nI 0) dX7_init_139 (by decide) ?_
  refine rn_putI dX7_init_140 fd_7_79 (by decide) rfl rfl rfl (by decide) (by decide) ?_
  refine rn_aload_n dX7_init_143 rfl rfl ?_
  refine rn_iconst (v := nI 0) dX7_init_144 (by decide) ?_
  refine rn_putI dX7_init_145 fd_7_83 (by decide) rfl rfl rfl (by decide) (by decide) ?_
  refine rn_return dX7_init_148 rfl ?_
  refine ⟨rfl, rfl, ⟨rfl, rfl, fun p hp => ?_⟩, ⟨rfl, rfl, fun p hp => ?_⟩, rfl, rfl, rfl, rfl⟩
  · show (if p < 128 then nI 0 else _) = _
    rw [if_pos hp]; congr 1; unfold gv zM; split <;> rfl
  · show nI 0 = _
    congr 1; unfold gv zM; split <;> rfl
def cs_80 : am_S := (44 + 1, va_up cs_79.2.1 44 (.inr (.inr 8)), va_up cs_79.2.2 44 (fun _ => none))
theorem tn_80 : tzS cs_80 := tn_new tn_79
/-- the reference's numbers once it is made -/
def MI8 (w h : Nat) (I : am_I) : Prop := isGr I 0 w h zM ∧ isPM w h zM I ∧ I 44 14 = nI 0 ∧ I 44 15 = -1 ∧ I 44 16 = -1 ∧ ∀ k, k < 8 → I 45 (1 + k) = nI 0
def cs_81 : am_S := (45 + 1, va_up cs_80.2.1 45 (.inl (0, 20)), va_up cs_80.2.2 45 (fun _ => none))
theorem tn_81 : tzS cs_81 := tn_new tn_80
def cs_82 : am_S := (cs_81.1, cs_81.2.1, am_up cs_81.2.2 44 0 (some 45))
theorem tn_82 : tzS cs_82 := tn_put tn_81 (by decide)
def cs_83 : am_S := (46 + 1, va_up cs_82.2.1 46 (.inl (0, 20)), va_up cs_82.2.2 46 (fun _ => none))
theorem tn_83 : tzS cs_83 := tn_new tn_82
def cs_84 : am_S := (cs_83.1, cs_83.2.1, am_up cs_83.2.2 44 1 (some 46))
theorem tn_84 : tzS cs_84 := tn_put tn_83 (by decide)
def cs_85 : am_S := (47 + 1, va_up cs_84.2.1 47 (.inl (1, 5780)), va_up cs_84.2.2 47 (fun _ => none))
theorem tn_85 : tzS cs_85 := tn_new tn_84
def cs_86 : am_S := (cs_85.1, cs_85.2.1, am_up cs_85.2.2 44 2 (some 47))
theorem tn_86 : tzS cs_86 := tn_put tn_85 (by decide)
def cs_87 : am_S := (48 + 1, va_up cs_86.2.1 48 (.inl (2, 289)), va_up cs_86.2.2 48 (fun _ => none))
theorem tn_87 : tzS cs_87 := tn_new tn_86
def cs_88 : am_S := (cs_87.1, cs_87.2.1, am_up cs_87.2.2 44 3 (some 48))
theorem tn_88 : tzS cs_88 := tn_put tn_87 (by decide)
def cs_89 : am_S := (49 + 1, va_up cs_88.2.1 49 (.inl (0, 256)), va_up cs_88.2.2 49 (fun _ => none))
theorem tn_89 : tzS cs_89 := tn_new tn_88
def cs_90 : am_S := (cs_89.1, cs_89.2.1, am_up cs_89.2.2 44 5 (some 49))
theorem tn_90 : tzS cs_90 := tn_put tn_89 (by decide)
def cs_91 : am_S := (50 + 1, va_up cs_90.2.1 50 (.inl (0, 256)), va_up cs_90.2.2 50 (fun _ => none))
theorem tn_91 : tzS cs_91 := tn_new tn_90
def cs_92 : am_S := (cs_91.1, cs_91.2.1, am_up cs_91.2.2 44 6 (some 50))
theorem tn_92 : tzS cs_92 := tn_put tn_91 (by decide)
def cs_93 : am_S := (51 + 1, va_up cs_92.2.1 51 (.inl (0, 256)), va_up cs_92.2.2 51 (fun _ => none))
theorem tn_93 : tzS cs_93 := tn_new tn_92
def cs_94 : am_S := (cs_93.1, cs_93.2.1, am_up cs_93.2.2 44 7 (some 51))
theorem tn_94 : tzS cs_94 := tn_put tn_93 (by decide)
def cs_95 : am_S := (52 + 1, va_up cs_94.2.1 52 (.inl (0, 257)), va_up cs_94.2.2 52 (fun _ => none))
theorem tn_95 : tzS cs_95 := tn_new tn_94
def cs_96 : am_S := (cs_95.1, cs_95.2.1, am_up cs_95.2.2 44 8 (some 52))
theorem tn_96 : tzS cs_96 := tn_put tn_95 (by decide)
def cs_97 : am_S := (53 + 1, va_up cs_96.2.1 53 (.inl (0, 256)), va_up cs_96.2.2 53 (fun _ => none))
theorem tn_97 : tzS cs_97 := tn_new tn_96
def cs_98 : am_S := (cs_97.1, cs_97.2.1, am_up cs_97.2.2 44 9 (some 53))
theorem tn_98 : tzS cs_98 := tn_put tn_97 (by decide)
def cs_99 : am_S := (54 + 1, va_up cs_98.2.1 54 (.inl (0, 256)), va_up cs_98.2.2 54 (fun _ => none))
theorem tn_99 : tzS cs_99 := tn_new tn_98
def cs_100 : am_S := (cs_99.1, cs_99.2.1, am_up cs_99.2.2 44 12 (some 54))
theorem tn_100 : tzS cs_100 := tn_put tn_99 (by decide)
def cs_101 : am_S := (55 + 1, va_up cs_100.2.1 55 (.inl (0, 200)), va_up cs_100.2.2 55 (fun _ => none))
theorem tn_101 : tzS cs_101 := tn_new tn_100
def cs_102 : am_S := (cs_101.1, cs_101.2.1, am_up cs_101.2.2 44 13 (some 55))
theorem tn_102 : tzS cs_102 := tn_put tn_101 (by decide)
def cs_103 : am_S := (56 + 1, va_up cs_102.2.1 56 (.inl (0, 8)), va_up cs_102.2.2 56 (fun _ => none))
theorem tn_103 : tzS cs_103 := tn_new tn_102
def cs_104 : am_S := (cs_103.1, cs_103.2.1, am_up cs_103.2.2 44 22 (some 56))
theorem tn_104 : tzS cs_104 := tn_put tn_103 (by decide)
def cs_105 : am_S := (57 + 1, va_up cs_104.2.1 57 (.inl (0, 8)), va_up cs_104.2.2 57 (fun _ => none))
theorem tn_105 : tzS cs_105 := tn_new tn_104
def cs_106 : am_S := (cs_105.1, cs_105.2.1, am_up cs_105.2.2 44 23 (some 57))
theorem tn_106 : tzS cs_106 := tn_put tn_105 (by decide)
def cs_107 : am_S := (58 + 1, va_up cs_106.2.1 58 (.inl (0, 24)), va_up cs_106.2.2 58 (fun _ => none))
theorem tn_107 : tzS cs_107 := tn_new tn_106
def cs_108 : am_S := (cs_107.1, cs_107.2.1, am_up cs_107.2.2 44 24 (some 58))
theorem tn_108 : tzS cs_108 := tn_put tn_107 (by decide)
def cs_109 : am_S := (59 + 1, va_up cs_108.2.1 59 (.inl (2, 8)), va_up cs_108.2.2 59 (fun _ => none))
theorem tn_109 : tzS cs_109 := tn_new tn_108
def cs_110 : am_S := (cs_109.1, cs_109.2.1, am_up cs_109.2.2 44 25 (some 59))
theorem tn_110 : tzS cs_110 := tn_put tn_109 (by decide)
def cs_111 : am_S := (60 + 1, va_up cs_110.2.1 60 (.inl (2, 256)), va_up cs_110.2.2 60 (fun _ => none))
theorem tn_111 : tzS cs_111 := tn_new tn_110
def cs_112 : am_S := (cs_111.1, cs_111.2.1, am_up cs_111.2.2 44 27 (some 60))
theorem tn_112 : tzS cs_112 := tn_put tn_111 (by decide)
def cs_113 : am_S := (61 + 1, va_up cs_112.2.1 61 (.inl (2, 289)), va_up cs_112.2.2 61 (fun _ => none))
theorem tn_113 : tzS cs_113 := tn_new tn_112
def cs_114 : am_S := (cs_113.1, cs_113.2.1, am_up cs_113.2.2 44 28 (some 61))
theorem tn_114 : tzS cs_114 := tn_put tn_113 (by decide)
set_option maxHeartbeats 1000000 in
set_option maxRecDepth 100000 in
theorem c_X8_init {I : am_I} (x y : Int32) (h44 : I 44 14 = nI 0) : am_Mt 1 Y_X8_init (17, 8439) [.ref 44, .int x, .int y] cs_80 I (fun r S' I' => r = none ∧ S' = cs_114 ∧ MI8 (clamp x) (clamp y) I' ∧ ∀ b, b < 44 → I' b = I b) := by
  refine am_mt ⟨by decide +kernel, rfl⟩ (Nat.le_of_ble_eq_true rfl) rfl ?_
  refine rn_aload_n dX8_init_0 rfl rfl ?_
  refine rn_objInit dX8_init_1 oi_8_1 (by decide) (Nat.le_of_ble_eq_true rfl) ?_
  refine rn_aload_n dX8_init_4 rfl rfl ?_
  refine rn_bipush (v := nI 20) dX8_init_5 (by decide) ?_
  refine rn_newarrC (t := 0) (N := 20) (n := 45) (S' := cs_81) (b' := (16, 8419)) (by decide) dX8_init_7 ac_0 (by decide) (by decide) (by decide) rfl rfl rfl (by decide) ⟨by decide, by decide⟩ rfl ?_
  refine rn_putRC (S' := cs_82) dX8_init_9 fd_8_7 (by decide) rfl (Or.inr ⟨rfl, rfl⟩) rfl rfl ?_
  refine rn_aload_n dX8_init_12 rfl rfl ?_
  refine rn_bipush (v := nI 20) dX8_init_13 (by decide) ?_
  refine rn_newarrC (t := 0) (N := 20) (n := 46) (S' := cs_83) (b' := (15, 8399)) (by decide) dX8_init_15 ac_0 (by decide) (by decide) (by decide) rfl rfl rfl (by decide) ⟨by decide, by decide⟩ rfl ?_
  refine rn_putRC (S' := cs_84) dX8_init_17 fd_8_13 (by decide) rfl (Or.inr ⟨rfl, rfl⟩) rfl rfl ?_
  refine rn_aload_n dX8_init_20 rfl rfl ?_
  refine rn_sipush (v := nI 5780) dX8_init_21 (by decide) ?_
  refine rn_newarrC (t := 1) (N := 5780) (n := 47) (S' := cs_85) (b' := (14, 2619)) (by decide) dX8_init_24 ac_1 (by decide) (by decide) (by decide) rfl rfl rfl (by decide) ⟨by decide, by decide⟩ rfl ?_
  refine rn_putRC (S' := cs_86) dX8_init_26 fd_8_16 (by decide) rfl (Or.inr ⟨rfl, rfl⟩) rfl rfl ?_
  refine rn_aload_n dX8_init_29 rfl rfl ?_
  refine rn_sipush (v := nI 289) dX8_init_30 (by decide) ?_
  refine rn_newarrC (t := 2) (N := 289) (n := 48) (S' := cs_87) (b' := (13, 2330)) (by decide) dX8_init_33 ac_2 (by decide) (by decide) (by decide) rfl rfl rfl (by decide) ⟨by decide, by decide⟩ rfl ?_
  refine rn_putRC (S' := cs_88) dX8_init_35 fd_8_20 (by decide) rfl (Or.inr ⟨rfl, rfl⟩) rfl rfl ?_
  refine rn_aload_n dX8_init_38 rfl rfl ?_
  refine rn_sipush (v := nI 256) dX8_init_39 (by decide) ?_
  refine rn_newarrC (t := 0) (N := 256) (n := 49) (S' := cs_89) (b' := (12, 2074)) (by decide) dX8_init_42 ac_0 (by decide) (by decide) (by decide) rfl rfl rfl (by decide) ⟨by decide, by decide⟩ rfl ?_
  refine rn_putRC (S' := cs_90) dX8_init_44 fd_8_24 (by decide) rfl (Or.inr ⟨rfl, rfl⟩) rfl rfl ?_
  refine rn_aload_n dX8_init_47 rfl rfl ?_
  refine rn_sipush (v := nI 256) dX8_init_48 (by decide) ?_
  refine rn_newarrC (t := 0) (N := 256) (n := 50) (S' := cs_91) (b' := (11, 1818)) (by decide) dX8_init_51 ac_0 (by decide) (by decide) (by decide) rfl rfl rfl (by decide) ⟨by decide, by decide⟩ rfl ?_
  refine rn_putRC (S' := cs_92) dX8_init_53 fd_8_27 (by decide) rfl (Or.inr ⟨rfl, rfl⟩) rfl rfl ?_
  refine rn_aload_n dX8_init_56 rfl rfl ?_
  refine rn_sipush (v := nI 256) dX8_init_57 (by decide) ?_
  refine rn_newarrC (t := 0) (N := 256) (n := 51) (S' := cs_93) (b' := (10, 1562)) (by decide) dX8_init_60 ac_0 (by decide) (by decide) (by decide) rfl rfl rfl (by decide) ⟨by decide, by decide⟩ rfl ?_
  refine rn_putRC (S' := cs_94) dX8_init_62 fd_8_30 (by decide) rfl (Or.inr ⟨rfl, rfl⟩) rfl rfl ?_
  refine rn_aload_n dX8_init_65 rfl rfl ?_
  refine rn_sipush (v := nI 257) dX8_init_66 (by decide) ?_
  refine rn_newarrC (t := 0) (N := 257) (n := 52) (S' := cs_95) (b' := (9, 1305)) (by decide) dX8_init_69 ac_0 (by decide) (by decide) (by decide) rfl rfl rfl (by decide) ⟨by decide, by decide⟩ rfl ?_
  refine rn_putRC (S' := cs_96) dX8_init_71 fd_8_33 (by decide) rfl (Or.inr ⟨rfl, rfl⟩) rfl rfl ?_
  refine rn_aload_n dX8_init_74 rfl rfl ?_
  refine rn_sipush (v := nI 256) dX8_init_75 (by decide) ?_
  refine rn_newarrC (t := 0) (N := 256) (n := 53) (S' := cs_97) (b' := (8, 1049)) (by decide) dX8_init_78 ac_0 (by decide) (by decide) (by decide) rfl rfl rfl (by decide) ⟨by decide, by decide⟩ rfl ?_
  refine rn_putRC (S' := cs_98) dX8_init_80 fd_8_36 (by decide) rfl (Or.inr ⟨rfl, rfl⟩) rfl rfl ?_
  refine rn_aload_n dX8_init_83 rfl rfl ?_
  refine rn_sipush (v := nI 256) dX8_init_84 (by decide) ?_
  refine rn_newarrC (t := 0) (N := 256) (n := 54) (S' := cs_99) (b' := (7, 793)) (by decide) dX8_init_87 ac_0 (by decide) (by decide) (by decide) rfl rfl rfl (by decide) ⟨by decide, by decide⟩ rfl ?_
  refine rn_putRC (S' := cs_100) dX8_init_89 fd_8_39 (by decide) rfl (Or.inr ⟨rfl, rfl⟩) rfl rfl ?_
  refine rn_aload_n dX8_init_92 rfl rfl ?_
  refine rn_sipush (v := nI 200) dX8_init_93 (by decide) ?_
  refine rn_newarrC (t := 0) (N := 200) (n := 55) (S' := cs_101) (b' := (6, 593)) (by decide) dX8_init_96 ac_0 (by decide) (by decide) (by decide) rfl rfl rfl (by decide) ⟨by decide, by decide⟩ rfl ?_
  refine rn_putRC (S' := cs_102) dX8_init_98 fd_8_42 (by decide) rfl (Or.inr ⟨rfl, rfl⟩) rfl rfl ?_
  refine rn_aload_n dX8_init_101 rfl rfl ?_
  refine rn_iconst (v := (-1)) dX8_init_102 (by decide) ?_
  refine rn_putI dX8_init_103 fd_8_45 (by decide) rfl rfl rfl (vp_nar_int _) rfl ?_
  refine rn_aload_n dX8_init_106 rfl rfl ?_
  refine rn_iconst (v := (-1)) dX8_init_107 (by decide) ?_
  refine rn_putI dX8_init_108 fd_8_49 (by decide) rfl rfl rfl (vp_nar_int _) rfl ?_
  refine rn_aload_n dX8_init_111 rfl rfl ?_
  refine rn_bipush (v := nI 8) dX8_init_112 (by decide) ?_
  refine rn_newarrC (t := 0) (N := 8) (n := 56) (S' := cs_103) (b' := (5, 585)) (by decide) dX8_init_114 ac_0 (by decide) (by decide) (by decide) rfl rfl rfl (by decide) ⟨by decide, by decide⟩ rfl ?_
  refine rn_putRC (S' := cs_104) dX8_init_116 fd_8_52 (by decide) rfl (Or.inr ⟨rfl, rfl⟩) rfl rfl ?_
  refine rn_aload_n dX8_init_119 rfl rfl ?_
  refine rn_bipush (v := nI 8) dX8_init_120 (by decide) ?_
  refine rn_newarrC (t := 0) (N := 8) (n := 57) (S' := cs_105) (b' := (4, 577)) (by decide) dX8_init_122 ac_0 (by decide) (by decide) (by decide) rfl rfl rfl (by decide) ⟨by decide, by decide⟩ rfl ?_
  refine rn_putRC (S' := cs_106) dX8_init_124 fd_8_55 (by decide) rfl (Or.inr ⟨rfl, rfl⟩) rfl rfl ?_
  refine rn_aload_n dX8_init_127 rfl rfl ?_
  refine rn_bipush (v := nI 24) dX8_init_128 (by decide) ?_
  refine rn_newarrC (t := 0) (N := 24) (n := 58) (S' := cs_107) (b' := (3, 553)) (by decide) dX8_init_130 ac_0 (by decide) (by decide) (by decide) rfl rfl rfl (by decide) ⟨by decide, by decide⟩ rfl ?_
  refine rn_putRC (S' := cs_108) dX8_init_132 fd_8_58 (by decide) rfl (Or.inr ⟨rfl, rfl⟩) rfl rfl ?_
  refine rn_aload_n dX8_init_135 rfl rfl ?_
  refine rn_bipush (v := nI 8) dX8_init_136 (by decide) ?_
  refine rn_newarrC (t := 2) (N := 8) (n := 59) (S' := cs_109) (b' := (2, 545)) (by decide) dX8_init_138 ac_2 (by decide) (by decide) (by decide) rfl rfl rfl (by decide) ⟨by decide, by decide⟩ rfl ?_
  refine rn_putRC (S' := cs_110) dX8_init_140 fd_8_61 (by decide) rfl (Or.inr ⟨rfl, rfl⟩) rfl rfl ?_
  refine rn_aload_n dX8_init_143 rfl rfl ?_
  refine rn_sipush (v := nI 256) dX8_init_144 (by decide) ?_
  refine rn_newarrC (t := 2) (N := 256) (n := 60) (S' := cs_111) (b' := (1, 289)) (by decide) dX8_init_147 ac_2 (by decide) (by decide) (by decide) rfl rfl rfl (by decide) ⟨by decide, by decide⟩ rfl ?_
  refine rn_putRC (S' := cs_112) dX8_init_149 fd_8_64 (by decide) rfl (Or.inr ⟨rfl, rfl⟩) rfl rfl ?_
  refine rn_aload_n dX8_init_152 rfl rfl ?_
  refine rn_sipush (v := nI 289) dX8_init_153 (by decide) ?_
  refine rn_newarrC (t := 2) (N := 289) (n := 61) (S' := cs_113) (b' := (0, 0)) (by decide) dX8_init_156 ac_2 (by decide) (by decide) (by decide) rfl rfl rfl (by decide) ⟨by decide, by decide⟩ rfl ?_
  refine rn_putRC (S' := cs_114) dX8_init_158 fd_8_67 (by decide) rfl (Or.inr ⟨rfl, rfl⟩) rfl rfl ?_
  refine rn_aload_n dX8_init_161 rfl rfl ?_
  refine rn_getR (r := 45) dX8_init_162 fd_8_7 (by decide) rfl rfl rfl ?_
  refine rn_iconst (v := nI 0) dX8_init_165 (by decide) ?_
  refine rn_iload_n dX8_init_166 rfl rfl ?_
  refine rn_iconst (v := nI 1) dX8_init_167 (by decide) ?_
  refine rn_icmp_ge (tgt := 175) dX8_init_168 (by decide) (fun c_168 => ?_) (fun c_168 => ?_)
  · refine rn_iload_n dX8_init_175 rfl rfl ?_
    refine rn_bipush (v := nI 8) dX8_init_176 (by decide) ?_
    refine rn_icmp_le (tgt := 186) dX8_init_178 (by decide) (fun c_178 => ?_) (fun c_178 => ?_)
    · refine rn_iload_n dX8_init_186 rfl rfl ?_
      refine rn_iastoreN dX8_init_187 (by decide) rfl (by omega) (by omega) ?_
      refine rn_I (I' := am_up _ 45 0 (nI (clamp x))) (congrArg (am_up _ 45 0) (by first | exact (congrArg nI (cl_1 c_168)).symm | exact (congrArg nI (cl_8 c_178)).symm | exact cl_m c_168 c_178)) ?_
      refine rn_aload_n dX8_init_188 rfl rfl ?_
      refine rn_getR (r := 46) dX8_init_189 fd_8_13 (by decide) rfl rfl rfl ?_
      refine rn_iconst (v := nI 0) dX8_init_192 (by decide) ?_
      refine rn_iload_n dX8_init_193 rfl rfl ?_
      refine rn_iconst (v := nI 1) dX8_init_194 (by decide) ?_
      refine rn_icmp_ge (tgt := 202) dX8_init_195 (by decide) (fun c_195 => ?_) (fun c_195 => ?_)
      · refine rn_iload_n dX8_init_202 rfl rfl ?_
        refine rn_bipush (v := nI 8) dX8_init_203 (by decide) ?_
        refine rn_icmp_le (tgt := 213) dX8_init_205 (by decide) (fun c_205 => ?_) (fun c_205 => ?_)
        · refine rn_iload_n dX8_init_213 rfl rfl ?_
          refine rn_iastoreN dX8_init_214 (by decide) rfl (by omega) (by omega) ?_
          refine rn_I (I' := am_up _ 46 0 (nI (clamp y))) (congrArg (am_up _ 46 0) (by first | exact (congrArg nI (cl_1 c_195)).symm | exact (congrArg nI (cl_8 c_205)).symm | exact cl_m c_195 c_205)) ?_
          refine rn_return dX8_init_215 rfl ?_
          refine ⟨rfl, rfl, ⟨⟨rfl, rfl, fun i j hi hj => ?_⟩, fun i j hi hj => ?_, h44, rfl, rfl, fun k hk => ?_⟩, fun b hb => ?_⟩
          · show nI 0 = _
            congr 1; unfold gv zM; split <;> rfl
          · show nI 0 = _
            congr 1; unfold gv zM; split <;> rfl
          · rcases (show k = 0 ∨ k = 1 ∨ k = 2 ∨ k = 3 ∨ k = 4 ∨ k = 5 ∨ k = 6 ∨ k = 7 by omega) with rfl | rfl | rfl | rfl | rfl | rfl | rfl | rfl <;> rfl
          · rw [am_up_a _ _ (by omega), am_up_a _ _ (by omega)]; repeat (first | rw [va_up_o _ _ (by omega)] | rw [am_up_a _ _ (by omega)])
        · refine rn_bipush (v := nI 8) dX8_init_208 (by decide) ?_
          refine rn_goto (tgt := 214) dX8_init_210 (by decide) ?_
          refine rn_iastoreN dX8_init_214 (by decide) rfl (by omega) (by omega) ?_
          refine rn_I (I' := am_up _ 46 0 (nI (clamp y))) (congrArg (am_up _ 46 0) (by first | exact (congrArg nI (cl_1 c_195)).symm | exact (congrArg nI (cl_8 c_205)).symm | exact cl_m c_195 c_205)) ?_
          refine rn_return dX8_init_215 rfl ?_
          refine ⟨rfl, rfl, ⟨⟨rfl, rfl, fun i j hi hj => ?_⟩, fun i j hi hj => ?_, h44, rfl, rfl, fun k hk => ?_⟩, fun b hb => ?_⟩
          · show nI 0 = _
            congr 1; unfold gv zM; split <;> rfl
          · show nI 0 = _
            congr 1; unfold gv zM; split <;> rfl
          · rcases (show k = 0 ∨ k = 1 ∨ k = 2 ∨ k = 3 ∨ k = 4 ∨ k = 5 ∨ k = 6 ∨ k = 7 by omega) with rfl | rfl | rfl | rfl | rfl | rfl | rfl | rfl <;> rfl
          · rw [am_up_a _ _ (by omega), am_up_a _ _ (by omega)]; repeat (first | rw [va_up_o _ _ (by omega)] | rw [am_up_a _ _ (by omega)])
      · refine rn_iconst (v := nI 1) dX8_init_198 (by decide) ?_
        refine rn_goto (tgt := 214) dX8_init_199 (by decide) ?_
        refine rn_iastoreN dX8_init_214 (by decide) rfl (by omega) (by omega) ?_
        refine rn_I (I' := am_up _ 46 0 (nI (clamp y))) (congrArg (am_up _ 46 0) (by first | exact (congrArg nI (cl_1 c_195)).symm | exact (congrArg nI (cl_8 c_205)).symm | exact cl_m c_195 c_205)) ?_
        refine rn_return dX8_init_215 rfl ?_
        refine ⟨rfl, rfl, ⟨⟨rfl, rfl, fun i j hi hj => ?_⟩, fun i j hi hj => ?_, h44, rfl, rfl, fun k hk => ?_⟩, fun b hb => ?_⟩
        · show nI 0 = _
          congr 1; unfold gv zM; split <;> rfl
        · show nI 0 = _
          congr 1; unfold gv zM; split <;> rfl
        · rcases (show k = 0 ∨ k = 1 ∨ k = 2 ∨ k = 3 ∨ k = 4 ∨ k = 5 ∨ k = 6 ∨ k = 7 by omega) with rfl | rfl | rfl | rfl | rfl | rfl | rfl | rfl <;> rfl
        · rw [am_up_a _ _ (by omega), am_up_a _ _ (by omega)]; repeat (first | rw [va_up_o _ _ (by omega)] | rw [am_up_a _ _ (by omega)])
    · refine rn_bipush (v := nI 8) dX8_init_181 (by decide) ?_
      refine rn_goto (tgt := 187) dX8_init_183 (by decide) ?_
      refine rn_iastoreN dX8_init_187 (by decide) rfl (by omega) (by omega) ?_
      refine rn_I (I' := am_up _ 45 0 (nI (clamp x))) (congrArg (am_up _ 45 0) (by first | exact (congrArg nI (cl_1 c_168)).symm | exact (congrArg nI (cl_8 c_178)).symm | exact cl_m c_168 c_178)) ?_
      refine rn_aload_n dX8_init_188 rfl rfl ?_
      refine rn_getR (r := 46) dX8_init_189 fd_8_13 (by decide) rfl rfl rfl ?_
      refine rn_iconst (v := nI 0) dX8_init_192 (by decide) ?_
      refine rn_iload_n dX8_init_193 rfl rfl ?_
      refine rn_iconst (v := nI 1) dX8_init_194 (by decide) ?_
      refine rn_icmp_ge (tgt := 202) dX8_init_195 (by decide) (fun c_195 => ?_) (fun c_195 => ?_)
      · refine rn_iload_n dX8_init_202 rfl rfl ?_
        refine rn_bipush (v := nI 8) dX8_init_203 (by decide) ?_
        refine rn_icmp_le (tgt := 213) dX8_init_205 (by decide) (fun c_205 => ?_) (fun c_205 => ?_)
        · refine rn_iload_n dX8_init_213 rfl rfl ?_
          refine rn_iastoreN dX8_init_214 (by decide) rfl (by omega) (by omega) ?_
          refine rn_I (I' := am_up _ 46 0 (nI (clamp y))) (congrArg (am_up _ 46 0) (by first | exact (congrArg nI (cl_1 c_195)).symm | exact (congrArg nI (cl_8 c_205)).symm | exact cl_m c_195 c_205)) ?_
          refine rn_return dX8_init_215 rfl ?_
          refine ⟨rfl, rfl, ⟨⟨rfl, rfl, fun i j hi hj => ?_⟩, fun i j hi hj => ?_, h44, rfl, rfl, fun k hk => ?_⟩, fun b hb => ?_⟩
          · show nI 0 = _
            congr 1; unfold gv zM; split <;> rfl
          · show nI 0 = _
            congr 1; unfold gv zM; split <;> rfl
          · rcases (show k = 0 ∨ k = 1 ∨ k = 2 ∨ k = 3 ∨ k = 4 ∨ k = 5 ∨ k = 6 ∨ k = 7 by omega) with rfl | rfl | rfl | rfl | rfl | rfl | rfl | rfl <;> rfl
          · rw [am_up_a _ _ (by omega), am_up_a _ _ (by omega)]; repeat (first | rw [va_up_o _ _ (by omega)] | rw [am_up_a _ _ (by omega)])
        · refine rn_bipush (v := nI 8) dX8_init_208 (by decide) ?_
          refine rn_goto (tgt := 214) dX8_init_210 (by decide) ?_
          refine rn_iastoreN dX8_init_214 (by decide) rfl (by omega) (by omega) ?_
          refine rn_I (I' := am_up _ 46 0 (nI (clamp y))) (congrArg (am_up _ 46 0) (by first | exact (congrArg nI (cl_1 c_195)).symm | exact (congrArg nI (cl_8 c_205)).symm | exact cl_m c_195 c_205)) ?_
          refine rn_return dX8_init_215 rfl ?_
          refine ⟨rfl, rfl, ⟨⟨rfl, rfl, fun i j hi hj => ?_⟩, fun i j hi hj => ?_, h44, rfl, rfl, fun k hk => ?_⟩, fun b hb => ?_⟩
          · show nI 0 = _
            congr 1; unfold gv zM; split <;> rfl
          · show nI 0 = _
            congr 1; unfold gv zM; split <;> rfl
          · rcases (show k = 0 ∨ k = 1 ∨ k = 2 ∨ k = 3 ∨ k = 4 ∨ k = 5 ∨ k = 6 ∨ k = 7 by omega) with rfl | rfl | rfl | rfl | rfl | rfl | rfl | rfl <;> rfl
          · rw [am_up_a _ _ (by omega), am_up_a _ _ (by omega)]; repeat (first | rw [va_up_o _ _ (by omega)] | rw [am_up_a _ _ (by omega)])
      · refine rn_iconst (v := nI 1) dX8_init_198 (by decide) ?_
        refine rn_goto (tgt := 214) dX8_init_199 (by decide) ?_
        refine rn_iastoreN dX8_init_214 (by decide) rfl (by omega) (by omega) ?_
        refine rn_I (I' := am_up _ 46 0 (nI (clamp y))) (congrArg (am_up _ 46 0) (by first | exact (congrArg nI (cl_1 c_195)).symm | exact (congrArg nI (cl_8 c_205)).symm | exact cl_m c_195 c_205)) ?_
        refine rn_return dX8_init_215 rfl ?_
        refine ⟨rfl, rfl, ⟨⟨rfl, rfl, fun i j hi hj => ?_⟩, fun i j hi hj => ?_, h44, rfl, rfl, fun k hk => ?_⟩, fun b hb => ?_⟩
        · show nI 0 = _
          congr 1; unfold gv zM; split <;> rfl
        · show nI 0 = _
          congr 1; unfold gv zM; split <;> rfl
        · rcases (show k = 0 ∨ k = 1 ∨ k = 2 ∨ k = 3 ∨ k = 4 ∨ k = 5 ∨ k = 6 ∨ k = 7 by omega) with rfl | rfl | rfl | rfl | rfl | rfl | rfl | rfl <;> rfl
        · rw [am_up_a _ _ (by omega), am_up_a _ _ (by omega)]; repeat (first | rw [va_up_o _ _ (by omega)] | rw [am_up_a _ _ (by omega)])
  · refine rn_iconst (v := nI 1) dX8_init_171 (by decide) ?_
    refine rn_goto (tgt := 187) dX8_init_172 (by decide) ?_
    refine rn_iastoreN dX8_init_187 (by decide) rfl (by omega) (by omega) ?_
    refine rn_I (I' := am_up _ 45 0 (nI (clamp x))) (congrArg (am_up _ 45 0) (by first | exact (congrArg nI (cl_1 c_168)).symm | exact (congrArg nI (cl_8 c_178)).symm | exact cl_m c_168 c_178)) ?_
    refine rn_aload_n dX8_init_188 rfl rfl ?_
    refine rn_getR (r := 46) dX8_init_189 fd_8_13 (by decide) rfl rfl rfl ?_
    refine rn_iconst (v := nI 0) dX8_init_192 (by decide) ?_
    refine rn_iload_n dX8_init_193 rfl rfl ?_
    refine rn_iconst (v := nI 1) dX8_init_194 (by decide) ?_
    refine rn_icmp_ge (tgt := 202) dX8_init_195 (by decide) (fun c_195 => ?_) (fun c_195 => ?_)
    · refine rn_iload_n dX8_init_202 rfl rfl ?_
      refine rn_bipush (v := nI 8) dX8_init_203 (by decide) ?_
      refine rn_icmp_le (tgt := 213) dX8_init_205 (by decide) (fun c_205 => ?_) (fun c_205 => ?_)
      · refine rn_iload_n dX8_init_213 rfl rfl ?_
        refine rn_iastoreN dX8_init_214 (by decide) rfl (by omega) (by omega) ?_
        refine rn_I (I' := am_up _ 46 0 (nI (clamp y))) (congrArg (am_up _ 46 0) (by first | exact (congrArg nI (cl_1 c_195)).symm | exact (congrArg nI (cl_8 c_205)).symm | exact cl_m c_195 c_205)) ?_
        refine rn_return dX8_init_215 rfl ?_
        refine ⟨rfl, rfl, ⟨⟨rfl, rfl, fun i j hi hj => ?_⟩, fun i j hi hj => ?_, h44, rfl, rfl, fun k hk => ?_⟩, fun b hb => ?_⟩
        · show nI 0 = _
          congr 1; unfold gv zM; split <;> rfl
        · show nI 0 = _
          congr 1; unfold gv zM; split <;> rfl
        · rcases (show k = 0 ∨ k = 1 ∨ k = 2 ∨ k = 3 ∨ k = 4 ∨ k = 5 ∨ k = 6 ∨ k = 7 by omega) with rfl | rfl | rfl | rfl | rfl | rfl | rfl | rfl <;> rfl
        · rw [am_up_a _ _ (by omega), am_up_a _ _ (by omega)]; repeat (first | rw [va_up_o _ _ (by omega)] | rw [am_up_a _ _ (by omega)])
      · refine rn_bipush (v := nI 8) dX8_init_208 (by decide) ?_
        refine rn_goto (tgt := 214) dX8_init_210 (by decide) ?_
        refine rn_iastoreN dX8_init_214 (by decide) rfl (by omega) (by omega) ?_
        refine rn_I (I' := am_up _ 46 0 (nI (clamp y))) (congrArg (am_up _ 46 0) (by first | exact (congrArg nI (cl_1 c_195)).symm | exact (congrArg nI (cl_8 c_205)).symm | exact cl_m c_195 c_205)) ?_
        refine rn_return dX8_init_215 rfl ?_
        refine ⟨rfl, rfl, ⟨⟨rfl, rfl, fun i j hi hj => ?_⟩, fun i j hi hj => ?_, h44, rfl, rfl, fun k hk => ?_⟩, fun b hb => ?_⟩
        · show nI 0 = _
          congr 1; unfold gv zM; split <;> rfl
        · show nI 0 = _
          congr 1; unfold gv zM; split <;> rfl
        · rcases (show k = 0 ∨ k = 1 ∨ k = 2 ∨ k = 3 ∨ k = 4 ∨ k = 5 ∨ k = 6 ∨ k = 7 by omega) with rfl | rfl | rfl | rfl | rfl | rfl | rfl | rfl <;> rfl
        · rw [am_up_a _ _ (by omega), am_up_a _ _ (by omega)]; repeat (first | rw [va_up_o _ _ (by omega)] | rw [am_up_a _ _ (by omega)])
    · refine rn_iconst (v := nI 1) dX8_init_198 (by decide) ?_
      refine rn_goto (tgt := 214) dX8_init_199 (by decide) ?_
      refine rn_iastoreN dX8_init_214 (by decide) rfl (by omega) (by omega) ?_
      refine rn_I (I' := am_up _ 46 0 (nI (clamp y))) (congrArg (am_up _ 46 0) (by first | exact (congrArg nI (cl_1 c_195)).symm | exact (congrArg nI (cl_8 c_205)).symm | exact cl_m c_195 c_205)) ?_
      refine rn_return dX8_init_215 rfl ?_
      refine ⟨rfl, rfl, ⟨⟨rfl, rfl, fun i j hi hj => ?_⟩, fun i j hi hj => ?_, h44, rfl, rfl, fun k hk => ?_⟩, fun b hb => ?_⟩
      · show nI 0 = _
        congr 1; unfold gv zM; split <;> rfl
      · show nI 0 = _
        congr 1; unfold gv zM; split <;> rfl
      · rcases (show k = 0 ∨ k = 1 ∨ k = 2 ∨ k = 3 ∨ k = 4 ∨ k = 5 ∨ k = 6 ∨ k = 7 by omega) with rfl | rfl | rfl | rfl | rfl | rfl | rfl | rfl <;> rfl
      · rw [am_up_a _ _ (by omega), am_up_a _ _ (by omega)]; repeat (first | rw [va_up_o _ _ (by omega)] | rw [am_up_a _ _ (by omega)])
theorem sk_made : sk cs_114 := by
  refine ⟨by decide, by decide +kernel, fun a k ha h6 => ?_, fun k c hk h => ?_, fun k k' c hk hk' h => ?_⟩
  · by_cases q : k < 30
    · have A : ∀ a, a < 62 → a ≠ 6 → ∀ k, k < 30 → cs_114.2.2 a k = sk_G a k := by decide +kernel
      exact A a ha h6 k q
    · rw [tn_114 a k (by omega)]
      have A : ∀ a, a < 62 → (sk_GL.getD a []).length ≤ 30 := by decide +kernel
      have := A a ha
      unfold sk_G
      rw [List.getD_eq_getElem?_getD, List.getElem?_eq_none (by omega)]
      rfl
  · have A : ∀ k, k < 8 → cs_114.2.2 6 k = none := by decide +kernel
    rw [A k hk] at h; exact absurd h (by simp)
  · have A : ∀ k, k < 8 → cs_114.2.2 6 k = none := by decide +kernel
    rw [A k hk] at h; exact absurd h (by simp)
theorem sh_made : ∀ k, k < 8 → cs_114.2.2 6 k = none := by decide +kernel
