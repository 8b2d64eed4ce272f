/-! bytes of an int -/
def bt (v : Int32) (s : Nat) : Nat := v.toBitVec.toNat / 2 ^ s % 256
theorem bt_lt (v : Int32) (s : Nat) : bt v s < 256 := Nat.mod_lt _ (by decide)
theorem bt_c (v : Int32) {s : Nat} {c : UInt32} (hc : c.toNat % 32 = s) : (v.toUInt32 >>> c).toInt32 &&& nI 255 = nI (bt v s) := by
  rw [pk_and _ 8 (by decide)]
  have e : (v.toUInt32 >>> c).toInt32.toBitVec.toNat = (v.toUInt32 >>> c).toNat := rfl
  rw [e, UInt32.toNat_shiftRight, hc, Nat.shiftRight_eq_div_pow]
  rfl
theorem bt_m24 (v : Int32) : (v >>> (nI 24 &&& 31)) &&& nI 255 = nI (bt v 24) := by
  rw [pk_and _ 8 (by decide)]
  have e : (v >>> (nI 24 &&& 31)).toBitVec = v.toBitVec.sshiftRight 24 := by
    have e1 : (v >>> (nI 24 &&& 31)).toBitVec = v.toBitVec.sshiftRight (((nI 24 &&& 31).toBitVec.smod 32).toNat) := rfl
    rw [e1]
    rfl
  rw [e]
  have h1 := BitVec.toInt_sshiftRight (x := v.toBitVec) (n := 24)
  rw [Int.shiftRight_eq_div_pow] at h1
  have h2 := BitVec.toInt_eq_toNat_cond (x := v.toBitVec)
  have h3 := BitVec.toInt_eq_toNat_cond (x := v.toBitVec.sshiftRight 24)
  have h4 := v.toBitVec.isLt
  have h5 := (v.toBitVec.sshiftRight 24).isLt
  congr 1
  unfold bt
  generalize (v.toBitVec.sshiftRight 24).toNat = A at *
  generalize v.toBitVec.toNat = B at *
  generalize (v.toBitVec.sshiftRight 24).toInt = C at *
  generalize v.toBitVec.toInt = D at *
  simp only [show (2 : Nat) ^ 24 = 16777216 from rfl, show (2 : Nat) ^ 8 = 256 from rfl, show (2 : Nat) ^ 32 = 4294967296 from rfl] at *
  split at h2 <;> split at h3 <;> omega
theorem bt_m16 (v : Int32) : (v >>> (nI 16 &&& 31)) &&& nI 255 = nI (bt v 16) := by
  rw [pk_and _ 8 (by decide)]
  have e : (v >>> (nI 16 &&& 31)).toBitVec = v.toBitVec.sshiftRight 16 := by
    have e1 : (v >>> (nI 16 &&& 31)).toBitVec = v.toBitVec.sshiftRight (((nI 16 &&& 31).toBitVec.smod 32).toNat) := rfl
    rw [e1]
    rfl
  rw [e]
  have h1 := BitVec.toInt_sshiftRight (x := v.toBitVec) (n := 16)
  rw [Int.shiftRight_eq_div_pow] at h1
  have h2 := BitVec.toInt_eq_toNat_cond (x := v.toBitVec)
  have h3 := BitVec.toInt_eq_toNat_cond (x := v.toBitVec.sshiftRight 16)
  have h4 := v.toBitVec.isLt
  have h5 := (v.toBitVec.sshiftRight 16).isLt
  congr 1
  unfold bt
  generalize (v.toBitVec.sshiftRight 16).toNat = A at *
  generalize v.toBitVec.toNat = B at *
  generalize (v.toBitVec.sshiftRight 16).toInt = C at *
  generalize v.toBitVec.toInt = D at *
  simp only [show (2 : Nat) ^ 16 = 65536 from rfl, show (2 : Nat) ^ 8 = 256 from rfl, show (2 : Nat) ^ 32 = 4294967296 from rfl] at *
  split at h2 <;> split at h3 <;> omega
theorem bt_m8 (v : Int32) : (v >>> (nI 8 &&& 31)) &&& nI 255 = nI (bt v 8) := by
  rw [pk_and _ 8 (by decide)]
  have e : (v >>> (nI 8 &&& 31)).toBitVec = v.toBitVec.sshiftRight 8 := by
    have e1 : (v >>> (nI 8 &&& 31)).toBitVec = v.toBitVec.sshiftRight (((nI 8 &&& 31).toBitVec.smod 32).toNat) := rfl
    rw [e1]
    rfl
  rw [e]
  have h1 := BitVec.toInt_sshiftRight (x := v.toBitVec) (n := 8)
  rw [Int.shiftRight_eq_div_pow] at h1
  have h2 := BitVec.toInt_eq_toNat_cond (x := v.toBitVec)
  have h3 := BitVec.toInt_eq_toNat_cond (x := v.toBitVec.sshiftRight 8)
  have h4 := v.toBitVec.isLt
  have h5 := (v.toBitVec.sshiftRight 8).isLt
  congr 1
  unfold bt
  generalize (v.toBitVec.sshiftRight 8).toNat = A at *
  generalize v.toBitVec.toNat = B at *
  generalize (v.toBitVec.sshiftRight 8).toInt = C at *
  generalize v.toBitVec.toInt = D at *
  simp only [show (2 : Nat) ^ 8 = 256 from rfl, show (2 : Nat) ^ 8 = 256 from rfl, show (2 : Nat) ^ 32 = 4294967296 from rfl] at *
  split at h2 <;> split at h3 <;> omega
theorem bt_m0 (v : Int32) : (v >>> (nI 0 &&& 31)) &&& nI 255 = nI (bt v 0) := by
  rw [pk_and _ 8 (by decide)]
  have e : (v >>> (nI 0 &&& 31)).toBitVec = v.toBitVec.sshiftRight 0 := by
    have e1 : (v >>> (nI 0 &&& 31)).toBitVec = v.toBitVec.sshiftRight (((nI 0 &&& 31).toBitVec.smod 32).toNat) := rfl
    rw [e1]
    rfl
  rw [e]
  have h1 := BitVec.toInt_sshiftRight (x := v.toBitVec) (n := 0)
  rw [Int.shiftRight_eq_div_pow] at h1
  have h2 := BitVec.toInt_eq_toNat_cond (x := v.toBitVec)
  have h3 := BitVec.toInt_eq_toNat_cond (x := v.toBitVec.sshiftRight 0)
  have h4 := v.toBitVec.isLt
  have h5 := (v.toBitVec.sshiftRight 0).isLt
  congr 1
  unfold bt
  generalize (v.toBitVec.sshiftRight 0).toNat = A at *
  generalize v.toBitVec.toNat = B at *
  generalize (v.toBitVec.sshiftRight 0).toInt = C at *
  generalize v.toBitVec.toInt = D at *
  simp only [show (2 : Nat) ^ 0 = 1 from rfl, show (2 : Nat) ^ 8 = 256 from rfl, show (2 : Nat) ^ 32 = 4294967296 from rfl] at *
  split at h2 <;> split at h3 <;> omega
def apB (B : Nat → Nat) (n : Nat) (v : Int32) : Nat → Nat := fun k => if k = n then bt v 24 else if k = n + 1 then bt v 16 else if k = n + 2 then bt v 8 else if k = n + 3 then bt v 0 else B k
/-- the class's tape -/
def tX (n : Nat) (B : Nat → Nat) (I : am_I) : Prop := I 16 0 = nI n ∧ ∀ k, k < n → I 17 k = nI (B k)
/-- the reference's -/
def tM2 (n : Nat) (B : Nat → Nat) (I : am_I) : Prop := I 44 14 = nI n ∧ ∀ k, k < n → I 55 k = nI (B k)
def okB (n : Nat) (B : Nat → Nat) : Prop := n ≤ 200 ∧ ∀ k, k < n → B k < 256
theorem okB_ap {n : Nat} {B : Nat → Nat} (h : okB n B) (h2 : n + 4 ≤ 200) (v : Int32) : okB (n + 4) (apB B n v) := by
  refine ⟨h2, fun k hk => ?_⟩
  unfold apB
  repeat' split
  · exact bt_lt _ _
  · exact bt_lt _ _
  · exact bt_lt _ _
  · exact bt_lt _ _
  · exact h.2 k (by omega)
def kTX (I I' : am_I) : Prop := (∀ b, b ≠ 16 → b ≠ 17 → I' b = I b) ∧ ∀ k, k ≠ 0 → I' 16 k = I 16 k
def kTM (I I' : am_I) : Prop := (∀ b, b ≠ 44 → b ≠ 55 → I' b = I b) ∧ ∀ k, k ≠ 14 → I' 44 k = I 44 k
theorem kTX.trans {I I1 I2 : am_I} (h1 : kTX I I1) (h2 : kTX I1 I2) : kTX I I2 := ⟨fun b a c => (h2.1 b a c).trans (h1.1 b a c), fun k hk => (h2.2 k hk).trans (h1.2 k hk)⟩
theorem kTM.trans {I I1 I2 : am_I} (h1 : kTM I I1) (h2 : kTM I1 I2) : kTM I I2 := ⟨fun b a c => (h2.1 b a c).trans (h1.1 b a c), fun k hk => (h2.2 k hk).trans (h1.2 k hk)⟩
theorem tp_add_k (I : am_I) (n : Nat) (v : Int32) : kTX I (tp_add I n v) := ⟨fun b h1 h2 => by simp [tp_add, am_up_a, h1, h2], fun k hk => by simp [tp_add, am_up_a, am_up_k, hk]⟩
theorem md_four_k (I : am_I) (n : Nat) (v : Int32) : kTM I (md_four I n v) := ⟨fun b h1 h2 => by simp [md_four, am_up_a, h1, h2], fun k hk => by simp [md_four, am_up_a, am_up_k, hk]⟩
theorem tX_add {I : am_I} {n : Nat} {B : Nat → Nat} (h : tX n B I) (v : Int32) : tX (n + 4) (apB B n v) (tp_add I n v) := by
  refine ⟨by simp [tp_add, am_up_at], fun k hk => ?_⟩
  unfold tp_add
  rw [bt_c v (s := 24) (by decide), bt_c v (s := 16) (by decide), bt_c v (s := 8) (by decide), bt_c v (s := 0) (by decide)]
  rw [am_up_a _ _ (by decide)]
  by_cases q3 : k = n + 3
  · rw [q3, am_up_at]; unfold apB; simp
  · rw [am_up_k _ _ q3, am_up_a _ _ (by decide)]
    by_cases q2 : k = n + 2
    · rw [q2, am_up_at]; unfold apB; simp
    · rw [am_up_k _ _ q2, am_up_a _ _ (by decide)]
      by_cases q1 : k = n + 1
      · rw [q1, am_up_at]; unfold apB; simp
      · rw [am_up_k _ _ q1, am_up_a _ _ (by decide)]
        by_cases q0 : k = n
        · rw [q0, am_up_at]; unfold apB; simp
        · rw [am_up_k _ _ q0, h.2 k (by omega)]
          unfold apB
          rw [if_neg q0, if_neg q1, if_neg q2, if_neg q3]
theorem tM_four {I : am_I} {n : Nat} {B : Nat → Nat} (h : tM2 n B I) (v : Int32) : tM2 (n + 4) (apB B n v) (md_four I n v) := by
  refine ⟨by simp [md_four, am_up_at], fun k hk => ?_⟩
  unfold md_four
  rw [bt_m24, bt_m16, bt_m8, bt_m0]
  rw [am_up_a _ _ (by decide)]
  by_cases q3 : k = n + 3
  · rw [q3, am_up_at]; unfold apB; simp
  · rw [am_up_k _ _ q3, am_up_a _ _ (by decide)]
    by_cases q2 : k = n + 2
    · rw [q2, am_up_at]; unfold apB; simp
    · rw [am_up_k _ _ q2, am_up_a _ _ (by decide)]
      by_cases q1 : k = n + 1
      · rw [q1, am_up_at]; unfold apB; simp
      · rw [am_up_k _ _ q1, am_up_a _ _ (by decide)]
        by_cases q0 : k = n
        · rw [q0, am_up_at]; unfold apB; simp
        · rw [am_up_k _ _ q0, h.2 k (by omega)]
          unfold apB
          rw [if_neg q0, if_neg q1, if_neg q2, if_neg q3]
def nFd (n : Nat) : Nat := if n + 20 ≤ 200 then n + 20 else n
def vFd (n : Nat) : Int32 := if n + 20 ≤ 200 then nI (n + 20) else -1
def bFd (n : Nat) (B : Nat → Nat) (a b c d e : Int32) : Nat → Nat := if n + 20 ≤ 200 then apB (apB (apB (apB (apB B n a) (n + 4) b) (n + 4 + 4) c) (n + 4 + 4 + 4) d) (n + 4 + 4 + 4 + 4) e else B
theorem okB_fd {n : Nat} {B : Nat → Nat} (h : okB n B) (a b c d e : Int32) : okB (nFd n) (bFd n B a b c d e) := by
  unfold nFd bFd
  by_cases q : n + 20 ≤ 200
  · rw [if_pos q, if_pos q]
    exact okB_ap (okB_ap (okB_ap (okB_ap (okB_ap h (by omega) _) (by omega) _) (by omega) _) (by omega) _) (by omega) _
  · rw [if_neg q, if_neg q]; exact h
set_option maxHeartbeats 1000000 in
set_option maxRecDepth 100000 in
theorem c_X7_feed {S : am_S} (hs : sk S) {I : am_I} {n : Nat} {B : Nat → Nat} (hT : tX n B I) (hB : okB n B) (a b c d e : Int32) : am_Mt 1 Y_X7_feed (0, 0) [.ref 0, .int a, .int b, .int c, .int d, .int e] S I (fun r S' I' => r = some (.int (vFd n)) ∧ S' = S ∧ kTX I I' ∧ tX (nFd n) (bFd n B a b c d e) I') := by
  have h200 := hB.1
  refine am_mt ⟨by decide +kernel, rfl⟩ (Nat.le_of_ble_eq_true rfl) rfl ?_
  refine rn_aload_n dX7_feed_0 rfl rfl ?_
  refine rn_getR (r := 16) dX7_feed_1 fd_7_57 (sk_l hs 0 (by decide)) (sk_k0 hs) rfl (sk_r0_6 hs) ?_
  refine rn_getI dX7_feed_4 fd_7_159 (sk_l hs 16 (by decide)) (sk_k16 hs) rfl ?_
  refine rn_top (y := nI n) (hT.1) ?_
  refine rn_bipush (v := nI 20) dX7_feed_7 (by decide) ?_
  refine rn_iadd dX7_feed_9 ?_
  refine rn_top (nI_add _ _) ?_
  refine rn_sipush (v := nI 200) dX7_feed_10 (by decide) ?_
  refine rn_icmp_leN (tgt := 18) dX7_feed_13 (by decide) (by omega) (by omega) (fun c_13 => ?_) (fun c_13 => ?_)
  · have hT1 := tX_add hT a
    have hT2 := tX_add hT1 b
    have hT3 := tX_add hT2 c
    have hT4 := tX_add hT3 d
    have hT5 := tX_add hT4 e
    refine rn_aload_n dX7_feed_18 rfl rfl ?_
    refine rn_getR (r := 16) dX7_feed_19 fd_7_57 (sk_l hs 0 (by decide)) (sk_k0 hs) rfl (sk_r0_6 hs) ?_
    refine rn_iload_n dX7_feed_22 rfl rfl ?_
    refine rn_callVq (st := []) dX7_feed_23 cf_7_162 (c_X3_add hs (hT.1) (by omega) a) (by decide) (sk_l hs 16 (by decide)) (sk_k16 hs) rfl rfl (Nat.le_of_ble_eq_true rfl) ?_
    refine rn_aload_n dX7_feed_26 rfl rfl ?_
    refine rn_getR (r := 16) dX7_feed_27 fd_7_57 (sk_l hs 0 (by decide)) (sk_k0 hs) rfl (sk_r0_6 hs) ?_
    refine rn_iload_n dX7_feed_30 rfl rfl ?_
    refine rn_callVq (st := []) dX7_feed_31 cf_7_162 (c_X3_add hs (hT1.1) (by omega) b) (by decide) (sk_l hs 16 (by decide)) (sk_k16 hs) rfl rfl (Nat.le_of_ble_eq_true rfl) ?_
    refine rn_aload_n dX7_feed_34 rfl rfl ?_
    refine rn_getR (r := 16) dX7_feed_35 fd_7_57 (sk_l hs 0 (by decide)) (sk_k0 hs) rfl (sk_r0_6 hs) ?_
    refine rn_iload_n dX7_feed_38 rfl rfl ?_
    refine rn_callVq (st := []) dX7_feed_39 cf_7_162 (c_X3_add hs (hT2.1) (by omega) c) (by decide) (sk_l hs 16 (by decide)) (sk_k16 hs) rfl rfl (Nat.le_of_ble_eq_true rfl) ?_
    refine rn_aload_n dX7_feed_42 rfl rfl ?_
    refine rn_getR (r := 16) dX7_feed_43 fd_7_57 (sk_l hs 0 (by decide)) (sk_k0 hs) rfl (sk_r0_6 hs) ?_
    refine rn_iload dX7_feed_46 rfl ?_
    refine rn_callVq (st := []) dX7_feed_48 cf_7_162 (c_X3_add hs (hT3.1) (by omega) d) (by decide) (sk_l hs 16 (by decide)) (sk_k16 hs) rfl rfl (Nat.le_of_ble_eq_true rfl) ?_
    refine rn_aload_n dX7_feed_51 rfl rfl ?_
    refine rn_getR (r := 16) dX7_feed_52 fd_7_57 (sk_l hs 0 (by decide)) (sk_k0 hs) rfl (sk_r0_6 hs) ?_
    refine rn_iload dX7_feed_55 rfl ?_
    refine rn_callVq (st := []) dX7_feed_57 cf_7_162 (c_X3_add hs (hT4.1) (by omega) e) (by decide) (sk_l hs 16 (by decide)) (sk_k16 hs) rfl rfl (Nat.le_of_ble_eq_true rfl) ?_
    refine rn_aload_n dX7_feed_60 rfl rfl ?_
    refine rn_getR (r := 16) dX7_feed_61 fd_7_57 (sk_l hs 0 (by decide)) (sk_k0 hs) rfl (sk_r0_6 hs) ?_
    refine rn_getI dX7_feed_64 fd_7_159 (sk_l hs 16 (by decide)) (sk_k16 hs) rfl ?_
    refine rn_top (y := nI (n + 20)) (hT5.1) ?_
    refine rn_ireturn dX7_feed_67 rfl (vp_nar_int _) ?_
    refine ⟨by unfold vFd; rw [if_pos (by omega)], rfl, ?_, ?_⟩
    · exact ((tp_add_k _ _ _).trans (tp_add_k _ _ _)).trans (((tp_add_k _ _ _).trans (tp_add_k _ _ _)).trans (tp_add_k _ _ _))
    · unfold nFd bFd; rw [if_pos (by omega), if_pos (by omega)]; exact hT5
  · refine rn_iconst (v := (-1)) dX7_feed_16 (by decide) ?_
    refine rn_ireturn dX7_feed_17 rfl (vp_nar_int _) ?_
    refine ⟨by unfold vFd; rw [if_neg (by omega)], rfl, ?_, ?_⟩
    · exact ⟨fun _ _ _ => rfl, fun _ _ => rfl⟩
    · unfold nFd bFd; rw [if_neg (by omega), if_neg (by omega)]; exact hT
set_option maxHeartbeats 1000000 in
set_option maxRecDepth 100000 in
theorem c_X8_feed {S : am_S} (hs : sk S) {I : am_I} {n : Nat} {B : Nat → Nat} (hT : tM2 n B I) (hB : okB n B) (a b c d e : Int32) : am_Mt 1 Y_X8_feed (0, 0) [.ref 44, .int a, .int b, .int c, .int d, .int e] S I (fun r S' I' => r = some (.int (vFd n)) ∧ S' = S ∧ kTM I I' ∧ tM2 (nFd n) (bFd n B a b c d e) I') := by
  have h200 := hB.1
  refine am_mt ⟨by decide +kernel, rfl⟩ (Nat.le_of_ble_eq_true rfl) rfl ?_
  refine rn_aload_n dX8_feed_0 rfl rfl ?_
  refine rn_getI dX8_feed_1 fd_8_121 (sk_l hs 44 (by decide)) (sk_k44 hs) rfl ?_
  refine rn_top (y := nI n) (hT.1) ?_
  refine rn_bipush (v := nI 20) dX8_feed_4 (by decide) ?_
  refine rn_iadd dX8_feed_6 ?_
  refine rn_top (nI_add _ _) ?_
  refine rn_sipush (v := nI 200) dX8_feed_7 (by decide) ?_
  refine rn_icmp_leN (tgt := 15) dX8_feed_10 (by decide) (by omega) (by omega) (fun c_10 => ?_) (fun c_10 => ?_)
  · have hT1 := tM_four hT a
    have hT2 := tM_four hT1 b
    have hT3 := tM_four hT2 c
    have hT4 := tM_four hT3 d
    have hT5 := tM_four hT4 e
    refine rn_aload_n dX8_feed_15 rfl rfl ?_
    refine rn_iload_n dX8_feed_16 rfl rfl ?_
    refine rn_callVq (st := []) dX8_feed_17 cf_8_124 (c_X8_four hs (hT.1) (by omega) a) (by decide) (sk_l hs 44 (by decide)) (sk_k44 hs) rfl rfl (Nat.le_of_ble_eq_true rfl) ?_
    refine rn_aload_n dX8_feed_20 rfl rfl ?_
    refine rn_iload_n dX8_feed_21 rfl rfl ?_
    refine rn_callVq (st := []) dX8_feed_22 cf_8_124 (c_X8_four hs (hT1.1) (by omega) b) (by decide) (sk_l hs 44 (by decide)) (sk_k44 hs) rfl rfl (Nat.le_of_ble_eq_true rfl) ?_
    refine rn_aload_n dX8_feed_25 rfl rfl ?_
    refine rn_iload_n dX8_feed_26 rfl rfl ?_
    refine rn_callVq (st := []) dX8_feed_27 cf_8_124 (c_X8_four hs (hT2.1) (by omega) c) (by decide) (sk_l hs 44 (by decide)) (sk_k44 hs) rfl rfl (Nat.le_of_ble_eq_true rfl) ?_
    refine rn_aload_n dX8_feed_30 rfl rfl ?_
    refine rn_iload dX8_feed_31 rfl ?_
    refine rn_callVq (st := []) dX8_feed_33 cf_8_124 (c_X8_four hs (hT3.1) (by omega) d) (by decide) (sk_l hs 44 (by decide)) (sk_k44 hs) rfl rfl (Nat.le_of_ble_eq_true rfl) ?_
    refine rn_aload_n dX8_feed_36 rfl rfl ?_
    refine rn_iload dX8_feed_37 rfl ?_
    refine rn_callVq (st := []) dX8_feed_39 cf_8_124 (c_X8_four hs (hT4.1) (by omega) e) (by decide) (sk_l hs 44 (by decide)) (sk_k44 hs) rfl rfl (Nat.le_of_ble_eq_true rfl) ?_
    refine rn_aload_n dX8_feed_42 rfl rfl ?_
    refine rn_getI dX8_feed_43 fd_8_121 (sk_l hs 44 (by decide)) (sk_k44 hs) rfl ?_
    refine rn_top (y := nI (n + 20)) (hT5.1) ?_
    refine rn_ireturn dX8_feed_46 rfl (vp_nar_int _) ?_
    refine ⟨by unfold vFd; rw [if_pos (by omega)], rfl, ?_, ?_⟩
    · exact ((md_four_k _ _ _).trans (md_four_k _ _ _)).trans (((md_four_k _ _ _).trans (md_four_k _ _ _)).trans (md_four_k _ _ _))
    · unfold nFd bFd; rw [if_pos (by omega), if_pos (by omega)]; exact hT5
  · refine rn_iconst (v := (-1)) dX8_feed_13 (by decide) ?_
    refine rn_ireturn dX8_feed_14 rfl (vp_nar_int _) ?_
    refine ⟨by unfold vFd; rw [if_neg (by omega)], rfl, ?_, ?_⟩
    · exact ⟨fun _ _ _ => rfl, fun _ _ => rfl⟩
    · unfold nFd bFd; rw [if_neg (by omega), if_neg (by omega)]; exact hT
def nEd (n : Nat) (x : Int32) : Nat := if 0 ≤ x.toInt ∧ x.toInt ≤ (n : Int) then x.toInt.toNat else n
def vEd (n : Nat) (x : Int32) : Int32 := if 0 ≤ x.toInt ∧ x.toInt ≤ (n : Int) then x else -1
theorem okB_ed {n : Nat} {B : Nat → Nat} (h : okB n B) (x : Int32) : okB (nEd n x) B := by
  unfold nEd
  split
  · exact ⟨by have := h.1; omega, fun k hk => h.2 k (by omega)⟩
  · exact h
set_option maxHeartbeats 1000000 in
set_option maxRecDepth 100000 in
theorem c_X7_end {S : am_S} (hs : sk S) {I : am_I} {n : Nat} {B : Nat → Nat} (hT : tX n B I) (hB : okB n B) (x : Int32) : am_Mt 1 Y_X7_end (0, 0) [.ref 0, .int x] S I (fun r S' I' => r = some (.int (vEd n x)) ∧ S' = S ∧ kTX I I' ∧ tX (nEd n x) B I') := by
  have h200 := hB.1
  have en := z_nI (n := n) (by omega)
  have e0 := z_nI (n := 0) (by decide)
  refine am_mt ⟨by decide +kernel, rfl⟩ (Nat.le_of_ble_eq_true rfl) rfl ?_
  refine rn_iload_n dX7_end_0 rfl rfl ?_
  refine rn_if_lt (tgt := 15) dX7_end_1 (by decide) (fun c_1 => ?_) (fun c_1 => ?_)
  · refine rn_iconst (v := (-1)) dX7_end_15 (by decide) ?_
    refine rn_ireturn dX7_end_16 rfl (vp_nar_int _) ?_
    have hc : ¬ (0 ≤ x.toInt ∧ x.toInt ≤ (n : Int)) := (fun q => by simp only [z_lt, z_le, z_0, en] at *; omega)
    exact ⟨by unfold vEd; rw [if_neg hc], rfl, ⟨fun _ _ _ => rfl, fun _ _ => rfl⟩, by unfold nEd; rw [if_neg hc]; exact hT⟩
  · refine rn_iload_n dX7_end_4 rfl rfl ?_
    refine rn_aload_n dX7_end_5 rfl rfl ?_
    refine rn_getR (r := 16) dX7_end_6 fd_7_57 (sk_l hs 0 (by decide)) (sk_k0 hs) rfl (sk_r0_6 hs) ?_
    refine rn_getI dX7_end_9 fd_7_159 (sk_l hs 16 (by decide)) (sk_k16 hs) rfl ?_
    refine rn_top (y := nI n) (hT.1) ?_
    refine rn_icmp_le (tgt := 17) dX7_end_12 (by decide) (fun c_12 => ?_) (fun c_12 => ?_)
    · refine rn_aload_n dX7_end_17 rfl rfl ?_
      refine rn_getR (r := 16) dX7_end_18 fd_7_57 (sk_l hs 0 (by decide)) (sk_k0 hs) rfl (sk_r0_6 hs) ?_
      refine rn_iload_n dX7_end_21 rfl rfl ?_
      refine rn_putI dX7_end_22 fd_7_159 (sk_l hs 16 (by decide)) (sk_k16 hs) rfl rfl (vp_nar_int _) rfl ?_
      refine rn_iload_n dX7_end_25 rfl rfl ?_
      refine rn_ireturn dX7_end_26 rfl (vp_nar_int _) ?_
      have hc : 0 ≤ x.toInt ∧ x.toInt ≤ (n : Int) := (by simp only [z_lt, z_le, z_0, en] at *; omega)
      refine ⟨by unfold vEd; rw [if_pos hc], rfl, ⟨fun b h1 h2 => am_up_a _ _ h1, fun k hk => am_up_k _ _ hk⟩, ?_⟩
      unfold nEd
      rw [if_pos hc]
      exact ⟨by rw [am_up_at]; exact z_nat hc.1, fun k hk => by rw [am_up_a _ _ (by decide)]; exact hT.2 k (by omega)⟩
    · refine rn_iconst (v := (-1)) dX7_end_15 (by decide) ?_
      refine rn_ireturn dX7_end_16 rfl (vp_nar_int _) ?_
      have hc : ¬ (0 ≤ x.toInt ∧ x.toInt ≤ (n : Int)) := (fun q => by simp only [z_lt, z_le, z_0, en] at *; omega)
      exact ⟨by unfold vEd; rw [if_neg hc], rfl, ⟨fun _ _ _ => rfl, fun _ _ => rfl⟩, by unfold nEd; rw [if_neg hc]; exact hT⟩
set_option maxHeartbeats 1000000 in
set_option maxRecDepth 100000 in
theorem c_X8_end {S : am_S} (hs : sk S) {I : am_I} {n : Nat} {B : Nat → Nat} (hT : tM2 n B I) (hB : okB n B) (x : Int32) : am_Mt 1 Y_X8_end (0, 0) [.ref 44, .int x] S I (fun r S' I' => r = some (.int (vEd n x)) ∧ S' = S ∧ kTM I I' ∧ tM2 (nEd n x) B I') := by
  have h200 := hB.1
  have en := z_nI (n := n) (by omega)
  have e0 := z_nI (n := 0) (by decide)
  refine am_mt ⟨by decide +kernel, rfl⟩ (Nat.le_of_ble_eq_true rfl) rfl ?_
  refine rn_iload_n dX8_end_0 rfl rfl ?_
  refine rn_iconst (v := nI 0) dX8_end_1 (by decide) ?_
  refine rn_aload_n dX8_end_2 rfl rfl ?_
  refine rn_getI dX8_end_3 fd_8_121 (sk_l hs 44 (by decide)) (sk_k44 hs) rfl ?_
  refine rn_top (y := nI n) (hT.1) ?_
  refine rn_callSq (st := []) dX8_end_6 cf_8_70 (c_X8_isIn _ I _ _ _) (by decide) rfl rfl (Nat.le_of_ble_eq_true rfl) ?_
  refine rn_if_neB (tgt := 14) dX8_end_9 (by decide) (fun c_9 => ?_) (fun c_9 => ?_)
  · refine rn_aload_n dX8_end_14 rfl rfl ?_
    refine rn_iload_n dX8_end_15 rfl rfl ?_
    refine rn_putI dX8_end_16 fd_8_121 (sk_l hs 44 (by decide)) (sk_k44 hs) rfl rfl (vp_nar_int _) rfl ?_
    refine rn_iload_n dX8_end_19 rfl rfl ?_
    refine rn_ireturn dX8_end_20 rfl (vp_nar_int _) ?_
    have hc : 0 ≤ x.toInt ∧ x.toInt ≤ (n : Int) := (by have h9 := of_decide_eq_true c_9; rw [en, e0] at h9; omega)
    refine ⟨by unfold vEd; rw [if_pos hc], rfl, ⟨fun b h1 h2 => am_up_a _ _ h1, fun k hk => am_up_k _ _ hk⟩, ?_⟩
    unfold nEd
    rw [if_pos hc]
    exact ⟨by rw [am_up_at]; exact z_nat hc.1, fun k hk => by rw [am_up_a _ _ (by decide)]; exact hT.2 k (by omega)⟩
  · refine rn_iconst (v := (-1)) dX8_end_12 (by decide) ?_
    refine rn_ireturn dX8_end_13 rfl (vp_nar_int _) ?_
    have hc : ¬ (0 ≤ x.toInt ∧ x.toInt ≤ (n : Int)) := (fun q => by have h9 := of_decide_eq_false c_9; rw [en, e0] at h9; omega)
    exact ⟨by unfold vEd; rw [if_neg hc], rfl, ⟨fun _ _ _ => rfl, fun _ _ => rfl⟩, by unfold nEd; rw [if_neg hc]; exact hT⟩
/-- what was found wrong, of the class -/
def fX (fk fp : Int32) (I : am_I) : Prop := (I 16 1 = nI 0 ∧ fk = -1 ∧ fp = -1) ∨ (I 16 1 = nI 1 ∧ I 16 2 = fk ∧ I 16 3 = fp)
def fM2 (fk fp : Int32) (I : am_I) : Prop := I 44 15 = fk ∧ I 44 16 = fp
def vFt (fk fp t : Int32) : Int32 := if t = nI 0 then fk else if t = nI 1 then fp else -1
set_option maxHeartbeats 1000000 in
set_option maxRecDepth 100000 in
theorem c_X7_fault {S : am_S} (hs : sk S) {I : am_I} {fk fp : Int32} (hF : fX fk fp I) (t : Int32) : am_Mt 1 Y_X7_fault (0, 0) [.ref 0, .int t] S I (am_q (some (.int (vFt fk fp t))) S I) := by
  rcases hF with ⟨h1, rfl, rfl⟩ | ⟨h1, rfl, rfl⟩
  · rw [show vFt (-1) (-1) t = -1 from (by unfold vFt; by_cases a : t = nI 0 <;> by_cases c : t = nI 1 <;> simp [a, c])]
    refine am_mt ⟨by decide +kernel, rfl⟩ (Nat.le_of_ble_eq_true rfl) rfl ?_
    refine rn_aload_n dX7_fault_0 rfl rfl ?_
    refine rn_getR (r := 16) dX7_fault_1 fd_7_57 (sk_l hs 0 (by decide)) (sk_k0 hs) rfl (sk_r0_6 hs) ?_
    refine rn_getI dX7_fault_4 fd_7_185 (sk_l hs 16 (by decide)) (sk_k16 hs) rfl ?_
    refine rn_top (y := nI 0) (h1) ?_
    refine rn_if_neN (tgt := 12) dX7_fault_7 (by decide) (by omega) (fun c_7 => ?_) (fun c_7 => ?_)
    · exact absurd c_7 (by decide)
    · refine rn_iconst (v := (-1)) dX7_fault_10 (by decide) ?_
      refine rn_ireturn dX7_fault_11 rfl (vp_nar_int _) ?_
      exact ⟨rfl, rfl, rfl⟩
  · by_cases q0 : t = nI 0
    · rw [show vFt (I 16 2) (I 16 3) t = I 16 2 by unfold vFt; rw [if_pos q0], q0]
      refine am_mt ⟨by decide +kernel, rfl⟩ (Nat.le_of_ble_eq_true rfl) rfl ?_
      refine rn_aload_n dX7_fault_0 rfl rfl ?_
      refine rn_getR (r := 16) dX7_fault_1 fd_7_57 (sk_l hs 0 (by decide)) (sk_k0 hs) rfl (sk_r0_6 hs) ?_
      refine rn_getI dX7_fault_4 fd_7_185 (sk_l hs 16 (by decide)) (sk_k16 hs) rfl ?_
      refine rn_top (y := nI 1) (h1) ?_
      refine rn_if_neN (tgt := 12) dX7_fault_7 (by decide) (by omega) (fun c_7 => ?_) (fun c_7 => ?_)
      · refine rn_iload_n dX7_fault_12 rfl rfl ?_
        refine rn_lookup (off := 27) (tgt := 40) dX7_fault_13 (by decide) (by decide) (by decide) ?_
        refine rn_aload_n dX7_fault_40 rfl rfl ?_
        refine rn_getR (r := 16) dX7_fault_41 fd_7_57 (sk_l hs 0 (by decide)) (sk_k0 hs) rfl (sk_r0_6 hs) ?_
        refine rn_getI dX7_fault_44 fd_7_188 (sk_l hs 16 (by decide)) (sk_k16 hs) rfl ?_
        refine rn_ireturn dX7_fault_47 rfl (vp_nar_int _) ?_
        exact ⟨rfl, rfl, rfl⟩
      · exact absurd c_7 (by decide)
    by_cases q1 : t = nI 1
    · rw [show vFt (I 16 2) (I 16 3) t = I 16 3 by unfold vFt; rw [if_neg q0, if_pos q1], q1]
      refine am_mt ⟨by decide +kernel, rfl⟩ (Nat.le_of_ble_eq_true rfl) rfl ?_
      refine rn_aload_n dX7_fault_0 rfl rfl ?_
      refine rn_getR (r := 16) dX7_fault_1 fd_7_57 (sk_l hs 0 (by decide)) (sk_k0 hs) rfl (sk_r0_6 hs) ?_
      refine rn_getI dX7_fault_4 fd_7_185 (sk_l hs 16 (by decide)) (sk_k16 hs) rfl ?_
      refine rn_top (y := nI 1) (h1) ?_
      refine rn_if_neN (tgt := 12) dX7_fault_7 (by decide) (by omega) (fun c_7 => ?_) (fun c_7 => ?_)
      · refine rn_iload_n dX7_fault_12 rfl rfl ?_
        refine rn_lookup (off := 35) (tgt := 48) dX7_fault_13 (by decide) (by decide) (by decide) ?_
        refine rn_aload_n dX7_fault_48 rfl rfl ?_
        refine rn_getR (r := 16) dX7_fault_49 fd_7_57 (sk_l hs 0 (by decide)) (sk_k0 hs) rfl (sk_r0_6 hs) ?_
        refine rn_getI dX7_fault_52 fd_7_191 (sk_l hs 16 (by decide)) (sk_k16 hs) rfl ?_
        refine rn_ireturn dX7_fault_55 rfl (vp_nar_int _) ?_
        exact ⟨rfl, rfl, rfl⟩
      · exact absurd c_7 (by decide)
    rw [show vFt (I 16 2) (I 16 3) t = -1 by unfold vFt; rw [if_neg q0, if_neg q1]]
    refine am_mt ⟨by decide +kernel, rfl⟩ (Nat.le_of_ble_eq_true rfl) rfl ?_
    refine rn_aload_n dX7_fault_0 rfl rfl ?_
    refine rn_getR (r := 16) dX7_fault_1 fd_7_57 (sk_l hs 0 (by decide)) (sk_k0 hs) rfl (sk_r0_6 hs) ?_
    refine rn_getI dX7_fault_4 fd_7_185 (sk_l hs 16 (by decide)) (sk_k16 hs) rfl ?_
    refine rn_top (y := nI 1) (h1) ?_
    refine rn_if_neN (tgt := 12) dX7_fault_7 (by decide) (by omega) (fun c_7 => ?_) (fun c_7 => ?_)
    · refine rn_iload_n dX7_fault_12 rfl rfl ?_
      refine rn_lookup (off := 43) (tgt := 56) dX7_fault_13 (by decide) (lk2_out q0 q1) (by decide) ?_
      refine rn_iconst (v := (-1)) dX7_fault_56 (by decide) ?_
      refine rn_ireturn dX7_fault_57 rfl (vp_nar_int _) ?_
      exact ⟨rfl, rfl, rfl⟩
    · exact absurd c_7 (by decide)
set_option maxHeartbeats 1000000 in
set_option maxRecDepth 100000 in
theorem c_X8_fault {S : am_S} (hs : sk S) {I : am_I} {fk fp : Int32} (hF : fM2 fk fp I) (t : Int32) : am_Mt 1 Y_X8_fault (0, 0) [.ref 44, .int t] S I (am_q (some (.int (vFt fk fp t))) S I) := by
  refine am_mt ⟨by decide +kernel, rfl⟩ (Nat.le_of_ble_eq_true rfl) rfl ?_
  refine rn_iload_n dX8_fault_0 rfl rfl ?_
  refine rn_if_ne (tgt := 11) dX8_fault_1 (by decide) (fun c_1 => ?_) (fun c_1 => ?_)
  · refine rn_iload_n dX8_fault_11 rfl rfl ?_
    refine rn_iconst (v := nI 1) dX8_fault_12 (by decide) ?_
    refine rn_icmp_ne (tgt := 23) dX8_fault_13 (by decide) (fun c_13 => ?_) (fun c_13 => ?_)
    · refine rn_iconst (v := (-1)) dX8_fault_23 (by decide) ?_
      refine rn_ireturn dX8_fault_24 rfl (vp_nar_int _) ?_
      exact ⟨by unfold vFt; first | (rw [if_pos (show t = nI 0 from c_1), hF.1]) | (rw [if_neg (show ¬ t = nI 0 from c_1), if_pos c_13, hF.2]) | (rw [if_neg (show ¬ t = nI 0 from c_1), if_neg c_13]), rfl, rfl⟩
    · refine rn_aload_n dX8_fault_16 rfl rfl ?_
      refine rn_getI dX8_fault_17 fd_8_49 (sk_l hs 44 (by decide)) (sk_k44 hs) rfl ?_
      refine rn_goto (tgt := 24) dX8_fault_20 (by decide) ?_
      refine rn_ireturn dX8_fault_24 rfl (vp_nar_int _) ?_
      exact ⟨by unfold vFt; first | (rw [if_pos (show t = nI 0 from c_1), hF.1]) | (rw [if_neg (show ¬ t = nI 0 from c_1), if_pos c_13, hF.2]) | (rw [if_neg (show ¬ t = nI 0 from c_1), if_neg c_13]), rfl, rfl⟩
  · refine rn_aload_n dX8_fault_4 rfl rfl ?_
    refine rn_getI dX8_fault_5 fd_8_45 (sk_l hs 44 (by decide)) (sk_k44 hs) rfl ?_
    refine rn_goto (tgt := 24) dX8_fault_8 (by decide) ?_
    refine rn_ireturn dX8_fault_24 rfl (vp_nar_int _) ?_
    exact ⟨by unfold vFt; first | (rw [if_pos (show t = nI 0 from c_1), hF.1]) | (rw [if_neg (show ¬ t = nI 0 from c_1), if_pos c_13, hF.2]) | (rw [if_neg (show ¬ t = nI 0 from c_1), if_neg c_13]), rfl, rfl⟩
