theorem sub6 {a : Nat} (h : a ≤ 3074) : (nI a - nI 6).toInt = (a : Int) - 6 := by
  by_cases q : 6 ≤ a
  · rw [pk_sub q, z_nI (by omega)]; omega
  · rcases (show a = 0 ∨ a = 1 ∨ a = 2 ∨ a = 3 ∨ a = 4 ∨ a = 5 by omega) with rfl | rfl | rfl | rfl | rfl | rfl <;> decide
set_option maxHeartbeats 1000000 in
set_option maxRecDepth 100000 in
theorem law_loop {sL : Nat} {xs : Nat → Int32} (hL : sL ≤ 3074) : ∀ (m i : Nat) (D : Dw) (P : Nat → Nat → Nat) (n : Nat) (B : Nat → Nat) (fk fp : Int32) (Sh : Nat → Option Dw) (S : am_S) (I : am_I), sL ≤ i + 6 * m + 5 → i ≤ 4000 → GO D P n B → sk S → S.1 % 2 = 0 → S.1 + 2 * m ≤ 1086 → GX D P n B fk fp Sh S I → GM D P n B fk fp Sh I → am_Rg (am_PL sL xs) am_ZL 30 Y_L_law (2 * m, 131 * m) 38 [some (.ref (2 * am_B + 10)), some (.ref 0), some (.ref 44), some (.int (nI i))] [] S I := by
  intro m
  induction m with
  | zero =>
    intro i D P n B fk fp Sh S I hm hi4 hO hs he hN hX hM
    refine lr_iload_n dL_law_38 rfl rfl ?_
    refine lr_aload_n dL_law_39 rfl rfl ?_
    refine lr_slen am_PL.sc dL_law_40 ?_
    refine lr_bipush (v := nI 6) dL_law_41 (by decide) ?_
    refine lr_isub dL_law_43 ?_
    refine lr_icmp_gt (tgt := 850) dL_law_44 (by decide) (fun c_44 => ?_) (fun c_44 => ?_)
    · refine lr_iconst (v := nI 1) dL_law_850 (by decide) ?_
      exact lr_end dL_law_851
    · exact absurd c_44 (fun h9 => h9 (by rw [z_lt, sub6 hL, z_nI (by omega)]; omega))
  | succ m ih =>
    intro i D P n B fk fp Sh S I hm hi4 hO hs he hN hX hM
    refine lr_iload_n dL_law_38 rfl rfl ?_
    refine lr_aload_n dL_law_39 rfl rfl ?_
    refine lr_slen am_PL.sc dL_law_40 ?_
    refine lr_bipush (v := nI 6) dL_law_41 (by decide) ?_
    refine lr_isub dL_law_43 ?_
    refine lr_icmp_gt (tgt := 850) dL_law_44 (by decide) (fun c_44 => ?_) (fun c_44 => ?_)
    · refine lr_iconst (v := nI 1) dL_law_850 (by decide) ?_
      exact lr_end dL_law_851
    · have hi6 : i + 6 ≤ sL := by rw [z_lt, sub6 hL, z_nI (by omega)] at c_44; omega
      have hNX : NXT sL xs m i (1086 - 2 * m) := by
        intro D P n B fk fp Sh S I hO hs he hN hX hM
        refine lr_iinc (v := nI (i + 6)) (ls' := [some (.ref (2 * am_B + 10)), some (.ref 0), some (.ref 44), some (.int (nI (i + 6)))]) dL_law_844 rfl (nI_add _ 6) (by decide) rfl rfl ?_
        refine lr_goto (tgt := 38) dL_law_847 (by decide) ?_
        exact ih (i + 6) D P n B fk fp Sh S I (by omega) (by omega) hO hs he (by omega) hX hM
      refine lr_aload_n dL_law_47 rfl rfl ?_
      refine lr_iload_n dL_law_48 rfl rfl ?_
      refine lr_sload am_PL.sc dL_law_49 (by omega) (by omega) ?_
      refine lr_bipush (v := nI 31) dL_law_50 (by decide) ?_
      refine lr_iand dL_law_52 ?_
      refine lr_top (y := nI ((xs i).toBitVec.toNat % 32)) (pk_and (xs i) 5 (by decide)) ?_
      by_cases c53_0 : (xs i).toBitVec.toNat % 32 = 0
      · refine lr_top (y := nI 0) (by rw [c53_0]) ?_
        refine lr_tableIn (off := 103) (tgt := 156) dL_law_53 (by decide) (by decide) (by decide) (by decide) ?_
        exact lo_0 hs he (by omega) (by omega) hO hX hM hi6 hL hNX
      by_cases c53_1 : (xs i).toBitVec.toNat % 32 = 1
      · refine lr_top (y := nI 1) (by rw [c53_1]) ?_
        refine lr_tableIn (off := 146) (tgt := 199) dL_law_53 (by decide) (by decide) (by decide) (by decide) ?_
        exact lo_1 hs he (by omega) (by omega) hO hX hM hi6 hL hNX
      by_cases c53_2 : (xs i).toBitVec.toNat % 32 = 2
      · refine lr_top (y := nI 2) (by rw [c53_2]) ?_
        refine lr_tableIn (off := 179) (tgt := 232) dL_law_53 (by decide) (by decide) (by decide) (by decide) ?_
        exact lo_2 hs he (by omega) (by omega) hO hX hM hi6 hL hNX
      by_cases c53_3 : (xs i).toBitVec.toNat % 32 = 3
      · refine lr_top (y := nI 3) (by rw [c53_3]) ?_
        refine lr_tableIn (off := 238) (tgt := 291) dL_law_53 (by decide) (by decide) (by decide) (by decide) ?_
        exact lo_3 hs he (by omega) (by omega) hO hX hM hi6 hL hNX
      by_cases c53_4 : (xs i).toBitVec.toNat % 32 = 4
      · refine lr_top (y := nI 4) (by rw [c53_4]) ?_
        refine lr_tableIn (off := 251) (tgt := 304) dL_law_53 (by decide) (by decide) (by decide) (by decide) ?_
        exact lo_4 hs he (by omega) (by omega) hO hX hM hi6 hL hNX
      by_cases c53_5 : (xs i).toBitVec.toNat % 32 = 5
      · refine lr_top (y := nI 5) (by rw [c53_5]) ?_
        refine lr_tableIn (off := 274) (tgt := 327) dL_law_53 (by decide) (by decide) (by decide) (by decide) ?_
        exact lo_5 hs he (by omega) (by omega) hO hX hM hi6 hL hNX
      by_cases c53_6 : (xs i).toBitVec.toNat % 32 = 6
      · refine lr_top (y := nI 6) (by rw [c53_6]) ?_
        refine lr_tableIn (off := 307) (tgt := 360) dL_law_53 (by decide) (by decide) (by decide) (by decide) ?_
        exact lo_6 hs he (by omega) (by omega) hO hX hM hi6 hL hNX
      by_cases c53_7 : (xs i).toBitVec.toNat % 32 = 7
      · refine lr_top (y := nI 7) (by rw [c53_7]) ?_
        refine lr_tableIn (off := 340) (tgt := 393) dL_law_53 (by decide) (by decide) (by decide) (by decide) ?_
        exact lo_7 hs he (by omega) (by omega) hO hX hM hi6 hL hNX
      by_cases c53_8 : (xs i).toBitVec.toNat % 32 = 8
      · refine lr_top (y := nI 8) (by rw [c53_8]) ?_
        refine lr_tableIn (off := 383) (tgt := 436) dL_law_53 (by decide) (by decide) (by decide) (by decide) ?_
        exact lo_8 hs he (by omega) (by omega) hO hX hM hi6 hL hNX
      by_cases c53_9 : (xs i).toBitVec.toNat % 32 = 9
      · refine lr_top (y := nI 9) (by rw [c53_9]) ?_
        refine lr_tableIn (off := 406) (tgt := 459) dL_law_53 (by decide) (by decide) (by decide) (by decide) ?_
        exact lo_9 hs he (by omega) (by omega) hO hX hM hi6 hL hNX
      by_cases c53_10 : (xs i).toBitVec.toNat % 32 = 10
      · refine lr_top (y := nI 10) (by rw [c53_10]) ?_
        refine lr_tableIn (off := 455) (tgt := 508) dL_law_53 (by decide) (by decide) (by decide) (by decide) ?_
        exact lo_10 hs he (by omega) (by omega) hO hX hM hi6 hL hNX
      by_cases c53_11 : (xs i).toBitVec.toNat % 32 = 11
      · refine lr_top (y := nI 11) (by rw [c53_11]) ?_
        refine lr_tableIn (off := 478) (tgt := 531) dL_law_53 (by decide) (by decide) (by decide) (by decide) ?_
        exact lo_11 hs he (by omega) (by omega) hO hX hM hi6 hL hNX
      by_cases c53_12 : (xs i).toBitVec.toNat % 32 = 12
      · refine lr_top (y := nI 12) (by rw [c53_12]) ?_
        refine lr_tableIn (off := 511) (tgt := 564) dL_law_53 (by decide) (by decide) (by decide) (by decide) ?_
        exact lo_12 hs he (by omega) (by omega) hO hX hM hi6 hL hNX
      by_cases c53_13 : (xs i).toBitVec.toNat % 32 = 13
      · refine lr_top (y := nI 13) (by rw [c53_13]) ?_
        refine lr_tableIn (off := 524) (tgt := 577) dL_law_53 (by decide) (by decide) (by decide) (by decide) ?_
        exact lo_13 hs he (by omega) (by omega) hO hX hM hi6 hL hNX
      by_cases c53_14 : (xs i).toBitVec.toNat % 32 = 14
      · refine lr_top (y := nI 14) (by rw [c53_14]) ?_
        refine lr_tableIn (off := 587) (tgt := 640) dL_law_53 (by decide) (by decide) (by decide) (by decide) ?_
        exact lo_14 hs he (by omega) (by omega) hO hX hM hi6 hL hNX
      by_cases c53_15 : (xs i).toBitVec.toNat % 32 = 15
      · refine lr_top (y := nI 15) (by rw [c53_15]) ?_
        refine lr_tableIn (off := 610) (tgt := 663) dL_law_53 (by decide) (by decide) (by decide) (by decide) ?_
        exact lo_15 hs he (by omega) (by omega) hO hX hM hi6 hL hNX
      by_cases c53_16 : (xs i).toBitVec.toNat % 32 = 16
      · refine lr_top (y := nI 16) (by rw [c53_16]) ?_
        refine lr_tableIn (off := 623) (tgt := 676) dL_law_53 (by decide) (by decide) (by decide) (by decide) ?_
        exact lo_16 hs he (by omega) (by omega) hO hX hM hi6 hL hNX
      by_cases c53_17 : (xs i).toBitVec.toNat % 32 = 17
      · refine lr_top (y := nI 17) (by rw [c53_17]) ?_
        refine lr_tableIn (off := 676) (tgt := 729) dL_law_53 (by decide) (by decide) (by decide) (by decide) ?_
        exact lo_17 hs he (by omega) (by omega) hO hX hM hi6 hL hNX
      by_cases c53_18 : (xs i).toBitVec.toNat % 32 = 18
      · refine lr_top (y := nI 18) (by rw [c53_18]) ?_
        refine lr_tableIn (off := 699) (tgt := 752) dL_law_53 (by decide) (by decide) (by decide) (by decide) ?_
        exact lo_18 hs he (by omega) (by omega) hO hX hM hi6 hL hNX
      by_cases c53_19 : (xs i).toBitVec.toNat % 32 = 19
      · refine lr_top (y := nI 19) (by rw [c53_19]) ?_
        refine lr_tableIn (off := 722) (tgt := 775) dL_law_53 (by decide) (by decide) (by decide) (by decide) ?_
        exact lo_19 hs he (by omega) (by omega) hO hX hM hi6 hL hNX
      by_cases c53_20 : (xs i).toBitVec.toNat % 32 = 20
      · refine lr_top (y := nI 20) (by rw [c53_20]) ?_
        refine lr_tableIn (off := 755) (tgt := 808) dL_law_53 (by decide) (by decide) (by decide) (by decide) ?_
        exact lo_20 hs he (by omega) (by omega) hO hX hM hi6 hL hNX
      by_cases c53_21 : (xs i).toBitVec.toNat % 32 = 21
      · refine lr_top (y := nI 21) (by rw [c53_21]) ?_
        refine lr_tableIn (off := 768) (tgt := 821) dL_law_53 (by decide) (by decide) (by decide) (by decide) ?_
        exact lo_21 hs he (by omega) (by omega) hO hX hM hi6 hL hNX
      refine lr_tableOut (tgt := 844) dL_law_53 (Or.inr (by rw [z_nI (by omega)]; omega)) (by decide) ?_
      refine lr_wide (b' := (2 * m, 131 * m)) ⟨by dsimp only; omega, by dsimp only; omega⟩ ?_
      exact hNX D P n B fk fp Sh S I hO hs he (by omega) hX hM
set_option maxHeartbeats 1000000 in
set_option maxRecDepth 100000 in
theorem law_body {sL : Nat} {xs : Nat → Int32} (hL : sL ≤ 3074) : am_Rg (am_PL sL xs) am_ZL 30 Y_L_law (600000, 7302250) 0 [some (.ref (2 * am_B + 10)), none, none, none] [] cs_0 (fun _ _ => 0) := by
  refine lr_newC (n := 0) (S' := cs_1) (b' := (599999, 7302239)) dL_law_0 (by decide) nw_9_7 rfl rfl rfl (by decide) ⟨by decide, by decide⟩ rfl ?_
  refine lr_dup dL_law_3 rfl ?_
  refine lr_aload_n dL_law_4 rfl rfl ?_
  refine lr_iconst (v := nI 0) dL_law_5 (by decide) ?_
  refine lr_callX (st := [.ref 0, .ref 0]) am_PL.sc dL_law_6 cf_9_9 (c_L_cell (by omega) (k := 0) (by decide)) (by decide) rfl rfl (Nat.le_of_ble_eq_true rfl) (fun r1 S1 I1 hq => ?_)
  obtain ⟨rfl, rfl, rfl⟩ := hq
  refine lr_aload_n dL_law_9 rfl rfl ?_
  refine lr_iconst (v := nI 1) dL_law_10 (by decide) ?_
  refine lr_callX (st := [.int (scV sL xs 0), .ref 0, .ref 0]) am_PL.sc dL_law_11 cf_9_9 (c_L_cell (by omega) (k := 1) (by decide)) (by decide) rfl rfl (Nat.le_of_ble_eq_true rfl) (fun r1 S1 I1 hq => ?_)
  obtain ⟨rfl, rfl, rfl⟩ := hq
  refine lr_callI (b' := (43, 3868)) (st := [.ref 0]) dL_law_14 cf_9_15 (c_X7_init (scV sL xs 0) (scV sL xs 1)) (by decide) ⟨by decide, by decide⟩ rfl rfl (Nat.le_of_ble_eq_true rfl) (fun r1 S1 I1 hq => ?_)
  obtain ⟨rfl, rfl, h7⟩ := hq
  refine lr_b (b' := (599956, 7298371)) rfl ?_
  refine lr_astore_n (ls' := [some (.ref (2 * am_B + 10)), some (.ref 0), none, none]) dL_law_17 rfl (by decide) rfl rfl ?_
  refine lr_newC (n := 44) (S' := cs_80) (b' := (599955, 7298341)) dL_law_18 (by decide) nw_9_18 rfl rfl rfl (by decide) ⟨by decide, by decide⟩ rfl ?_
  refine lr_dup dL_law_21 rfl ?_
  refine lr_aload_n dL_law_22 rfl rfl ?_
  refine lr_iconst (v := nI 0) dL_law_23 (by decide) ?_
  refine lr_callX (st := [.ref 44, .ref 44]) am_PL.sc dL_law_24 cf_9_9 (c_L_cell (by omega) (k := 0) (by decide)) (by decide) rfl rfl (Nat.le_of_ble_eq_true rfl) (fun r1 S1 I2 hq => ?_)
  obtain ⟨rfl, rfl, rfl⟩ := hq
  refine lr_aload_n dL_law_27 rfl rfl ?_
  refine lr_iconst (v := nI 1) dL_law_28 (by decide) ?_
  refine lr_callX (st := [.int (scV sL xs 0), .ref 44, .ref 44]) am_PL.sc dL_law_29 cf_9_9 (c_L_cell (by omega) (k := 1) (by decide)) (by decide) rfl rfl (Nat.le_of_ble_eq_true rfl) (fun r1 S1 I2 hq => ?_)
  obtain ⟨rfl, rfl, rfl⟩ := hq
  refine lr_callI (b' := (17, 8439)) (st := [.ref 44]) dL_law_32 cf_9_20 (c_X8_init (scV sL xs 0) (scV sL xs 1) rfl) (by decide) ⟨by decide, by decide⟩ rfl rfl (Nat.le_of_ble_eq_true rfl) (fun r1 S1 I2 hq => ?_)
  obtain ⟨rfl, rfl, h8, hfr⟩ := hq
  have hb : ∀ b, b < 44 → I2 b = I1 b := fun b hb => (hfr b hb).trans (va_up_o _ _ (by omega))
  refine lr_b (b' := (599938, 7289902)) rfl ?_
  refine lr_astore_n (ls' := [some (.ref (2 * am_B + 10)), some (.ref 0), some (.ref 44), none]) dL_law_35 rfl (by decide) rfl rfl ?_
  refine lr_iconst (v := nI 2) dL_law_36 (by decide) ?_
  refine lr_istore_n (ls' := [some (.ref (2 * am_B + 10)), some (.ref 0), some (.ref 44), some (.int (nI 2))]) dL_law_37 rfl (by decide) rfl rfl ?_
  refine lr_wide (b' := (2 * 512, 131 * 512)) ⟨by decide, by decide⟩ ?_
  have c0 := clamp_ok (scV sL xs 0)
  have c1 := clamp_ok (scV sL xs 1)
  obtain ⟨a1, a2, a3, a4, a5, a6⟩ := h7
  obtain ⟨m1, m2, m3, m4, m5, m6⟩ := h8
  refine law_loop hL 512 2 (clamp (scV sL xs 0), clamp (scV sL xs 1), zM) zM 0 (fun _ => 0) (-1) (-1) (fun _ => none) cs_114 I2 (by omega) (by decide) ⟨⟨c0, c1, okM_z _ _⟩, fun _ _ _ => Nat.zero_le _, Nat.zero_le _, fun k hk => absurd hk (Nat.not_lt_zero _)⟩ sk_made (by decide) (by decide) ?_ ?_
  · exact ⟨⟨a1.kept (hb 1 (by decide)) (hb 2 (by decide)), Or.inl (by rw [hb 0 (by decide)]; exact a3)⟩, a2.kept (hb 1 (by decide)) (hb 5 (by decide)), Or.inl (by rw [hb 0 (by decide)]; exact a4), ⟨by rw [hb 16 (by decide)]; exact a5, fun k hk => absurd hk (Nat.not_lt_zero _)⟩, Or.inl ⟨by rw [hb 16 (by decide)]; exact a6, rfl, rfl⟩, fun k hk => Or.inl ⟨sh_made k hk, rfl⟩, fun _ _ q => absurd q (by simp)⟩
  · exact ⟨m1, m2, ⟨m3, fun k hk => absurd hk (Nat.not_lt_zero _)⟩, ⟨m4, m5⟩, fun k hk => Or.inl ⟨m6 k hk, rfl⟩, fun _ _ q => absurd q (by simp)⟩
theorem lw_inst : ∀ c, c < 9 → Cond.instantiable (am_R c) (am_n c) ∈ am_gw := by
  intro c hc
  rcases (show c = 0 ∨ c = 1 ∨ c = 2 ∨ c = 3 ∨ c = 4 ∨ c = 5 ∨ c = 6 ∨ c = 7 ∨ c = 8 by omega) with rfl | rfl | rfl | rfl | rfl | rfl | rfl | rfl | rfl
  · exact nw_7_7.2.1
  · exact nw_7_47.2.1
  · exact nw_7_40.2.1
  · exact nw_7_54.2.1
  · exact nw_7_61.2.1
  · exact nw_4_19.2.1
  · exact nw_7_70.2.1
  · exact nw_9_7.2.1
  · exact nw_9_18.2.1
theorem lw_arr {args : Array Value} {s : State} {t : FieldType} (ht : va_RA = va_RA) (h : (Cond.arrayClass t).before args s = true) : ∃ cA : ClassId, ArrOfT s cA t ∧ s.vm.findClass ("[" ++ t.toString) = some cA := by
  obtain ⟨cA, kA, comp, h1, h2, h3⟩ := Cond.arrayClass_spec h
  exact ⟨cA, fun n z => ⟨fun k h => (by cases h), kA, h2, comp, h3⟩, h1⟩
def lw_tm (i : Nat) : Term := .string RX5 (am_six.getD i 0)
set_option maxHeartbeats 4000000 in
set_option maxRecDepth 100000 in
theorem lw_str {args : Array Value} {s : State} (hf : ∀ w : Cond, w ∈ flatC (Jvm.Cond.and given_1 narrow_1) → w.before args s = true) (A : Nat → Prop) (hA : ∀ a : Nat, a < s.heap.size → ¬ A a) : ∃ adK adV : Nat → Nat, vk_S 9 am_len am_byt adK adV A s s.heap ∧ ∀ i : Nat, i < 9 → (lw_tm i).eval args s none [] s = some (.ref (adK i)) := by
  refine vk_Sof (tm := lw_tm) (by decide) (fun i hi => hf _ ?_) (fun i hi => hf _ ?_) (fun i hi => hf _ ?_) (fun i hi => hf _ ?_) (fun i hi j hj => hf _ ?_) (fun i j hi hj hij => ?_) hA
  · have q : ∀ i, i < 9 → Cond.exactly (lw_tm i) "java/lang/String" ∈ flatC (Jvm.Cond.and given_1 narrow_1) := by decide +kernel
    exact q i hi
  · have q : ∀ i, i < 9 → Cond.eq (.field (lw_tm i) "java/lang/String" "coder" "B") (.int 0) ∈ flatC (Jvm.Cond.and given_1 narrow_1) := by decide +kernel
    exact q i hi
  · have q : ∀ i, i < 9 → Cond.arrayOf (.field (lw_tm i) "java/lang/String" "value" "[B") .byte ∈ flatC (Jvm.Cond.and given_1 narrow_1) := by decide +kernel
    exact q i hi
  · have q : ∀ i, i < 9 → Cond.eq (.length (.field (lw_tm i) "java/lang/String" "value" "[B")) (.int (Int32.ofNat (am_len.getD i 0))) ∈ flatC (Jvm.Cond.and given_1 narrow_1) := by decide +kernel
    exact q i hi
  · have q : ∀ i, i < 9 → ∀ j, j < am_len.getD i 0 → Cond.eq (.elem (.field (lw_tm i) "java/lang/String" "value" "[B") (.int (Int32.ofNat j))) (.int ((am_byt.getD i []).getD j 0)) ∈ flatC (Jvm.Cond.and given_1 narrow_1) := by decide +kernel
    exact q i hi j hj
  · have q : ∀ i, i < 9 → ∀ j, j < 9 → i < j → Cond.not (Cond.eq (lw_tm i) (lw_tm j)) ∈ flatC (Jvm.Cond.and given_1 narrow_1) := by decide +kernel
    rcases Nat.lt_or_gt_of_ne hij with h | h
    · exact Or.inl (hf _ (q i hi j hj h))
    · exact Or.inr (hf _ (q j hj i hi h))
set_option maxHeartbeats 4000000 in
set_option maxRecDepth 100000 in
theorem whole_start {p : Program} {e : Env} {s : State} {m : MethodId} {below : List Frame} {meth : Method} {c : Code} (l : Launch) {b L : Nat} {xs : Nat → Int32} (hL : L ≤ 3074) (C0 : lw_At p s m meth c b L xs) : W p l e room_1 s m #[Value.ref b] below meth c s.heap [] 0 0 (lw_Z below #[Value.ref b] s) (entryFrame m ([Value.ref b] : List Value).toArray 4) := by
  obtain ⟨hx, hb, hr, hml, hown, hts, hX, hbl, hlocks, hgv, hname⟩ := id C0
  have hA : ∀ a : Nat, a < s.heap.size → ¬ (fun q : Nat => s.heap.size ≤ q) a := fun a h => Nat.not_le.mpr h
  have hf := flat_of_before _ hgv
  have h0 : ∀ c : Nat, ∃ q : ClassId × (Nat → Nat), c < 9 → u_Kn s (am_R c) (am_T c) (am_n c) q.1 q.2 := by
    intro c
    by_cases hc : c < 9
    · obtain ⟨cC, iS, h⟩ := u_known (C := am_R c) (T := am_T c) (N := am_n c) (n := am_n c) hts (fun w hw => am_gwt (am_lays c hc w hw)) (hts _ (am_gwt (lw_inst c hc)))
      exact ⟨(cC, iS), fun _ => h⟩
    · exact ⟨(0, fun _ => 0), fun h => absurd h hc⟩
  obtain ⟨ad, had⟩ := Classical.axiomOfChoice h0
  obtain ⟨t0, q0, r0⟩ := lw_arr (t := .int) rfl (hts _ (am_gwt ac_0))
  obtain ⟨t1, q1, r1⟩ := lw_arr (t := .byte) rfl (hts _ (am_gwt ac_1))
  obtain ⟨t2, q2, r2⟩ := lw_arr (t := .boolean) rfl (hts _ (am_gwt ac_2))
  have hao : (Cond.arrayOver (.object RX0)).before #[Value.ref b] s = true := hts _ (by decide +kernel)
  obtain ⟨comp, t3, k3, w1, w2, w3, w4, w5⟩ := Cond.arrayOver_spec hao
  obtain ⟨adK, adV, hstr, hev⟩ := lw_str hf (fun q : Nat => s.heap.size ≤ q) hA
  have hfm := va_Zqof (C := "jdk/internal/util/Preconditions") (n := "SIOOBE_FORMATTER") (d := "Ljava/util/function/BiFunction;") (hts _ (by decide +kernel)) (hts _ (by decide +kernel)) (hf _ (by decide +kernel)) hA
  obtain ⟨fm, hfm⟩ : ∃ fm : Nat, va_Z "jdk/internal/util/Preconditions" "SIOOBE_FORMATTER" "Ljava/util/function/BiFunction;" .null (fun q : Nat => s.heap.size ≤ q) s s.heap ∨ va_Z "jdk/internal/util/Preconditions" "SIOOBE_FORMATTER" "Ljava/util/function/BiFunction;" (.ref fm) (fun q : Nat => s.heap.size ≤ q) s s.heap := by
    rcases hfm with h | ⟨t, h⟩
    · exact ⟨0, Or.inl h⟩
    · exact ⟨t, Or.inr h⟩
  have hcs := va_Zof (C := "java/lang/String") (n := "COMPACT_STRINGS") (d := "Z") (v := .int 1) (hts _ (by decide +kernel)) (hts _ (by decide +kernel)) (va_eqi (hf _ (by decide +kernel))) hA
  obtain ⟨g, hg⟩ : ∃ g : am_G, g = (s.heap.size, (fun c => (ad c).1, fun c => (ad c).2), (fun t => if t = 0 then t0 else if t = 1 then t1 else if t = 2 then t2 else t3), adK, fun i => if i = 9 then fm else if i = 10 then b else adV i) := ⟨_, rfl⟩
  have g10 : g.2.2.2.2 10 = b := by rw [hg]; rfl
  have hWd : am_Wd g s := by
    rw [hg]
    refine ⟨⟨fun c q hq => ?_, fun k q hq => ?_⟩, fun q hq => ?_, ⟨⟨fun i hi => ?_, hstr.2⟩, fun i hi => ?_, hcs, hfm⟩, Nat.le_refl _, va_AO.of hao⟩
    · by_cases hc : c < 9
      · rw [am_cl hc] at hq
        cases hq
        exact had c hc
      · rw [List.getElem?_eq_none (by show 9 ≤ c; omega)] at hq
        cases hq
    · match k, hq with
      | 0, hq => cases hq; exact ⟨q0, r0⟩
      | 1, hq => cases hq; exact ⟨q1, r1⟩
      | 2, hq => cases hq; exact ⟨q2, r2⟩
      | 3, hq => cases hq; exact ⟨fun n z => ⟨fun k h => (by cases h), k3, w3, comp, w4⟩, k3, comp, w3, w4, w1, w5⟩
      | k + 4, hq => simp [am_tys] at hq
    · have A : ∀ q ∈ am_nw, Cond.methodLinkNest (am_R q.1) q.2.1 q.2.2 RX7 ∈ lw_tbl := by decide +kernel
      exact va_Nw.of rfl (hts _ (A q hq))
    · have h9 := hstr.1 i hi
      show va_O "java/lang/String" (adK i) _ s s.heap ∧ va_OF "java/lang/String" "coder" "B" (.int 0) (adK i) _ s s.heap ∧ va_OF "java/lang/String" "value" "[B" (.ref (if i = 9 then fm else if i = 10 then b else adV i)) (adK i) _ s s.heap ∧ va_T .byte (if i = 9 then fm else if i = 10 then b else adV i) _ _ _ s s.heap
      rw [if_neg (by omega), if_neg (by omega)]
      exact h9
    · have A : ∀ i, i < 9 → Cond.stringRef RX5 (am_six.getD i 0) (am_stx.getD i "") ∈ lw_tbl := by decide +kernel
      exact vk_R.of (hts _ (A i hi)) (hev i hi)
  have gz : g.1 = s.heap.size := by rw [hg]
  have hv : ([.ref (2 * am_B + 10)] : List Value).map (am_v g) = [.ref b] := by
    show [Value.ref (am_ad g (2 * am_B + 10))] = _
    rw [am_adV, g10]
  have hbody := law_body (sL := L) (xs := xs) hL
  rw [lg_entry_eq]
  have hent := lv_entry ([.ref b]) (n := 4) (Nat.le_of_ble_eq_true rfl)
  refine hbody g p l e room_1 s m #[Value.ref b] below meth c s.heap [] 0 0 600000 7302250 _ ⟨rfl, ⟨by rw [g10]; exact hX, by rw [g10]; exact hbl, by rw [g10]; show ¬ g.1 ≤ b; rw [gz]; omega⟩, gz, by rw [g10], rfl, rfl⟩ ⟨⟨hx, hb, hml, hown, fun w hw => hts w (am_gwt hw)⟩, ⟨hr, hlocks, hname⟩, ⟨by decide, by decide, by decide, by decide⟩, ⟨rfl, rfl⟩, hWd, va_S.rf, ?_⟩ ⟨rfl, _, hent, ?_⟩
  · exact ⟨gz.symm, by decide, fun a ha => absurd ha (Nat.not_lt_zero _)⟩
  · intro i v hi
    match i, hi with
    | 0, hi =>
      have e : v = .ref (2 * am_B + 10) := by simpa using hi.symm
      rw [e]
      show (0, Value.ref (am_ad g (2 * am_B + 10))) ∈ _
      rw [am_adV, g10]
      exact List.mem_cons_self
    | 1, hi => simp at hi
    | 2, hi => simp at hi
    | 3, hi => simp at hi
    | k + 4, hi => simp at hi
set_option maxHeartbeats 4000000 in
theorem lw_walk (l : Launch) (b : Addr) (xs : List Int32) : MetFree l x (headSpec (Jvm.Cond.code x code maxLocals ret :: tables_1) room_1) (lw_P b xs) (fun _ _ _ _ _ => True) lw_Q := by
  refine MetFree.of_bodyS (code := code) (maxLocals := maxLocals) (ret := ret) (by decide) ?_ ?_
  · intro args s m h hn
    obtain ⟨meth, c, h1, h2, h3, h4, h5, h6, -, -⟩ := Cond.code_spec hn (atoms_spec (ws := Jvm.Cond.code x code maxLocals ret :: tables_1) h _ List.mem_cons_self)
    exact ⟨meth, c, h1, h2, h3, h4, h5, h6⟩
  · intro p e s m args below meth c s₁ B hml0 hP _
    obtain ⟨rfl, hx, hbd, hgv⟩ := hP
    obtain ⟨scr, harrAt, hlist, hof, hsmall⟩ := hx
    obtain ⟨hcb, hkn, -, -⟩ := State.arrayAt?_spec harrAt
    have hown : s.vm.findClass R_law = some m.cls := findClass_of_methodNamed B.named
    have hts0 : ∀ c ∈ (Jvm.Cond.code x code maxLocals ret :: tables_1), c.before #[Value.ref b] s = true := atoms_spec (ws := Jvm.Cond.code x code maxLocals ret :: tables_1) B.pre
    have hts : ∀ w ∈ lw_tbl, w.before #[Value.ref b] s = true := k2_hts_sels lw_privs (fun w hw => hts0 w (List.mem_cons_of_mem _ hw)) lw_privs_ok
    have hml : c.maxLocals = 4 := B.maxLocals_eq (hts0 _ List.mem_cons_self)
    have X₀ : Stand p l e room_1 s m #[Value.ref b] below meth c s₁ [] 0 0 := Stand.of_body B
    have hh0 : s₁.heap = s.heap := by rw [B.state]; rfl
    have hsz : scr.slots.size = xs.length := by rw [← Array.length_toList, hlist, List.length_map]
    have hval : ∀ j : Nat, j < xs.length → scr.slots[j]? = some (.int (xs.getD j 0)) := fun j hj => by
      rw [← Array.getElem?_toList, hlist]
      simp [hj]
    have hbl : b < s.heap.size := (Array.getElem?_eq_some_iff.mp hcb).1
    have hX : va_X b xs.length (fun j => xs.getD j 0) s s.heap := ⟨scr, hcb, hof, hkn, hsz, hval⟩
    have K : W p l e room_1 s m #[Value.ref b] below meth c s₁.heap [] 0 0 (lw_Z below #[Value.ref b] s) (entryFrame m ([Value.ref b] : List Value).toArray 4) := by
      rw [hh0]
      exact whole_start l hbd ⟨B.exec, B.bytes, B.returns, hml, hown, hts, hX, hbl, B.notSynchronized, hgv, (name_of_methodNamed B.named B.method).1⟩
    obtain ⟨t, a1, o, b1, b2, b3⟩ := K s₁ rfl X₀
    exact ⟨t, o, a1, b1, b2, b3⟩
theorem lw_pre_spec {args : Array Value} {s : State} (h : (Jvm.Cond.and given_1 narrow_1).before args s = true) (hr : rest_1_c.before args s = true) : ∃ (b : Addr) (xs : List Int32), lw_P b xs args s := by
  have hs := flat_of_before _ h
  have hq := flat_of_before _ hr
  have hc : (Cond.count 1).before args s = true := hs _ (by decide +kernel)
  have harr : (Cond.arrayOf (.arg 0) .int).before args s = true := hs _ (by decide +kernel)
  have hle : (Cond.le (.length (.arg 0)) (.int 3074)).before args s = true := hs _ (by decide +kernel)
  have hlen : (Cond.isInt (.length (.arg 0))).before args s = true := hq _ (by decide +kernel)
  have hall : (Cond.all (.arg 0) (.isInt (.elem (.arg 0) (.index 0)))).before args s = true := hq _ (by decide +kernel)
  obtain ⟨b, xs, hb, hx⟩ := State.ints_of_pre rfl harr hlen hall
  have hsm : xs.length < 2 ^ 31 := hx.choose_spec.2.2.2
  have hev : (Term.length (.arg 0)).eval args s none [] s = some (.int xs.length.toInt32) := hx.length_eval hb
  have hv := Cond.le_ints hev (show (Term.int 3074).eval args s none [] s = some (.int 3074) from rfl)
  have hd : xs.length.toInt32 ≤ 3074 := by
    simpa [Cond.before, Cond.holds, hv] using hle
  have hN : xs.length ≤ 3074 := (Int32.ofNat_le_ofNat hsm (by decide)).mp (show Int32.ofNat xs.length ≤ Int32.ofNat 3074 from hd)
  exact ⟨b, xs, Cond.one_arg hc (show args[0]? = some (.ref b) from hb), hx, hN, h⟩
theorem lw_comes (l : Launch) : Comes l x (Jvm.Cond.code x code maxLocals ret :: tables_1) room_1 (fun tb e args s => Calls_1 tb e args s ∧ rest_1 tb e args s ∧ Pre_1 tb e args s)
    (fun _ _ args s o t => lw_Q args s o t) := by
  intro p e ha hc hk s m args below hf hfit hheap happ hpre
  obtain ⟨b, xs, hP⟩ := lw_pre_spec hpre.2.2 hpre.2.1
  obtain ⟨k, o, h1, h2, h3, hQ⟩ := lw_walk l b xs p e ha hc hk s m args below hf ((Spec.applies_iff_loose hf).mp happ).1 hP trivial
  exact ⟨k, o, h1, h2, h3, hQ⟩
theorem lw_frame {s t : State} {o : Outcome} {args : Array Value} (h : Framed s o t [] 600000 7302250) :
    Framed s o t (fieldLocs frame_1_writes args s ++ arrayLocs frame_1_arrays args s ++ staticLocs frame_1_statics s) 600000 7302250 := h
theorem lw_limb (L : Cond) (hL : ∀ (args : Array Value) (s t : State), L.after args s (.returned (some (.int 1))) t = true) :
    ArmFor flags0 classFile x code maxLocals ret World_1 tables_1 room_1 Calls_1 rest_1 Pre_1
      (fun tb e a s o t => postC L tb e a s o t ∧ Framed s o t (fieldLocs frame_1_writes a s ++ arrayLocs frame_1_arrays a s ++ staticLocs frame_1_statics s) 600000 7302250) := by
  intro l _ _ _ p e ha hc hk s m args below hf hfit hheap happ hpre
  obtain ⟨k, o, h1, h2, h3, rfl, hF⟩ := lw_comes l p e ha hc hk s m args below hf hfit hheap happ hpre
  exact ⟨k, _, h1, h2, h3, hL args s _, lw_frame hF⟩
theorem i_vc : Claimed_1_1 ∧ Claimed_1_2 := ⟨lw_limb limb_1_1 (fun args s t => by simp [limb_1_1, Cond.after, Cond.holds, Cond.value]), lw_limb limb_1_2 (fun args s t => Cond.after_iff.mpr (by
  first | (rw [show limb_1_2 = Cond.eq .result (.int 1) from rfl, Cond.eq_ints (x := 1) (y := 1) rfl rfl]; simp; done) | (simp [limb_1_2, Cond.value, Term.eval]; done)))⟩
