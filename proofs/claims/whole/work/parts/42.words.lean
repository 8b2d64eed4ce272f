set_option maxHeartbeats 1000000 in
set_option maxRecDepth 100000 in
theorem c_J0_coder (S : am_S) (I : am_I) {i : Nat} (hi : i < 9) : am_Mt 0 Y_J0_coder_7d493 (0, 0) [.ref (am_B + i)] S I (am_q (some (.int 0)) S I) := by
  refine am_mt ⟨by decide +kernel, rfl⟩ (Nat.le_of_ble_eq_true rfl) rfl ?_
  refine rn_strCompact dJ0_coder_7d493_0 fl_11_38 ?_
  refine rn_if_eq (tgt := 13) dJ0_coder_7d493_3 (by decide) (fun q => absurd q (by decide)) (fun _ => ?_)
  refine rn_aload_n dJ0_coder_7d493_6 rfl rfl ?_
  refine rn_strCoder hi dJ0_coder_7d493_7 fl_11_15 ?_
  refine rn_goto (tgt := 14) dJ0_coder_7d493_10 (by decide) ?_
  refine rn_ireturn dJ0_coder_7d493_14 rfl (by decide) ?_
  exact ⟨rfl, rfl, rfl⟩
theorem str_sh : ∀ i, i < 9 → nI (am_len.getD i 0) >>> ((0 : Int32) &&& 31) = nI (am_len.getD i 0) := by decide
set_option maxHeartbeats 1000000 in
set_option maxRecDepth 100000 in
theorem c_J0_length (S : am_S) (I : am_I) {i : Nat} (hi : i < 9) : am_Mt 1 Y_J0_length_8abf5 (0, 0) [.ref (am_B + i)] S I (am_q (some (.int (nI (am_len.getD i 0)))) S I) := by
  refine am_mt ⟨by decide +kernel, rfl⟩ (Nat.le_of_ble_eq_true rfl) rfl ?_
  refine rn_aload_n dJ0_length_8abf5_0 rfl rfl ?_
  refine rn_strValue hi dJ0_length_8abf5_1 fl_11_9 ?_
  refine rn_strAlen hi dJ0_length_8abf5_4 ?_
  refine rn_aload_n dJ0_length_8abf5_5 rfl rfl ?_
  refine rn_callTq (st := [.int (nI (am_len.getD i 0))]) hi dJ0_length_8abf5_6 cf_11_335 (c_J0_coder S I hi) (by decide) rfl rfl (Nat.le_of_ble_eq_true rfl) ?_
  refine rn_ishr dJ0_length_8abf5_9 ?_
  refine rn_top (y := nI (am_len.getD i 0)) (str_sh i hi) ?_
  refine rn_ireturn dJ0_length_8abf5_10 rfl (vp_nar_int _) ?_
  exact ⟨rfl, rfl, rfl⟩
set_option maxHeartbeats 1000000 in
set_option maxRecDepth 100000 in
theorem c_J0_isLatin1 (S : am_S) (I : am_I) {i : Nat} (hi : i < 9) : am_Mt 0 Y_J0_isLatin1_aae02 (0, 0) [.ref (am_B + i)] S I (am_q (some (.int (nI 1))) S I) := by
  refine am_mt ⟨by decide +kernel, rfl⟩ (Nat.le_of_ble_eq_true rfl) rfl ?_
  refine rn_strCompact dJ0_isLatin1_aae02_0 fl_11_38 ?_
  refine rn_if_eq (tgt := 17) dJ0_isLatin1_aae02_3 (by decide) (fun q => absurd q (by decide)) (fun _ => ?_)
  refine rn_aload_n dJ0_isLatin1_aae02_6 rfl rfl ?_
  refine rn_strCoder hi dJ0_isLatin1_aae02_7 fl_11_15 ?_
  refine rn_if_ne (tgt := 17) dJ0_isLatin1_aae02_10 (by decide) (fun q => absurd rfl q) (fun _ => ?_)
  refine rn_iconst (v := nI 1) dJ0_isLatin1_aae02_13 (by decide) ?_
  refine rn_goto (tgt := 18) dJ0_isLatin1_aae02_14 (by decide) ?_
  refine rn_ireturn dJ0_isLatin1_aae02_18 rfl (by decide) ?_
  exact ⟨rfl, rfl, rfl⟩
set_option maxHeartbeats 1000000 in
set_option maxRecDepth 100000 in
theorem c_J3_checkIndex (S : am_S) (I : am_I) {k n f : Nat} (hk : k < n) (hn : n < 2147483648) : am_Mt 0 Y_J3_checkIndex_8e157 (0, 0) [.int (nI k), .int (nI n), .ref f] S I (am_q (some (.int (nI k))) S I) := by
  refine am_mt ⟨by decide +kernel, rfl⟩ (Nat.le_of_ble_eq_true rfl) rfl ?_
  refine rn_iload_n dJ3_checkIndex_8e157_0 rfl rfl ?_
  refine rn_if_ltN (tgt := 9) dJ3_checkIndex_8e157_1 (by omega) (by decide) ?_
  refine rn_iload_n dJ3_checkIndex_8e157_4 rfl rfl ?_
  refine rn_iload_n dJ3_checkIndex_8e157_5 rfl rfl ?_
  refine rn_icmp_ltN (tgt := 16) dJ3_checkIndex_8e157_6 (by decide) (by omega) (by omega) (fun _ => ?_) (fun q => absurd q (by omega))
  refine rn_iload_n dJ3_checkIndex_8e157_16 rfl rfl ?_
  refine rn_ireturn dJ3_checkIndex_8e157_17 rfl (vp_nar_int _) ?_
  exact ⟨rfl, rfl, rfl⟩
set_option maxHeartbeats 1000000 in
set_option maxRecDepth 100000 in
theorem c_J3_checkIndexN (S : am_S) (I : am_I) {k n : Nat} (hk : k < n) (hn : n < 2147483648) : am_Mt 0 Y_J3_checkIndex_8e157 (0, 0) [.int (nI k), .int (nI n), .null] S I (am_q (some (.int (nI k))) S I) := by
  refine am_mt ⟨by decide +kernel, rfl⟩ (Nat.le_of_ble_eq_true rfl) rfl ?_
  refine rn_iload_n dJ3_checkIndex_8e157_0 rfl rfl ?_
  refine rn_if_ltN (tgt := 9) dJ3_checkIndex_8e157_1 (by omega) (by decide) ?_
  refine rn_iload_n dJ3_checkIndex_8e157_4 rfl rfl ?_
  refine rn_iload_n dJ3_checkIndex_8e157_5 rfl rfl ?_
  refine rn_icmp_ltN (tgt := 16) dJ3_checkIndex_8e157_6 (by decide) (by omega) (by omega) (fun _ => ?_) (fun q => absurd q (by omega))
  refine rn_iload_n dJ3_checkIndex_8e157_16 rfl rfl ?_
  refine rn_ireturn dJ3_checkIndex_8e157_17 rfl (vp_nar_int _) ?_
  exact ⟨rfl, rfl, rfl⟩
set_option maxHeartbeats 1000000 in
set_option maxRecDepth 100000 in
theorem c_J0_checkIndex (S : am_S) (I : am_I) {k n : Nat} (hk : k < n) (hn : n < 2147483648) : am_Mt 1 Y_J0_checkIndex_df160 (0, 0) [.int (nI k), .int (nI n)] S I (am_q none S I) := by
  refine am_mt ⟨by decide +kernel, rfl⟩ (Nat.le_of_ble_eq_true rfl) rfl ?_
  refine rn_iload_n dJ0_checkIndex_df160_0 rfl rfl ?_
  refine rn_iload_n dJ0_checkIndex_df160_1 rfl rfl ?_
  refine rn_strForm dJ0_checkIndex_df160_2 fl_11_1053 ?_ ?_
  · refine rn_callSq (st := []) dJ0_checkIndex_df160_5 cf_11_1059 (c_J3_checkIndex S I hk hn) (by decide) rfl rfl (Nat.le_of_ble_eq_true rfl) ?_
    refine rn_pop dJ0_checkIndex_df160_8 rfl ?_
    refine rn_return dJ0_checkIndex_df160_9 rfl ?_
    exact ⟨rfl, rfl, rfl⟩
  · refine rn_callSq (st := []) dJ0_checkIndex_df160_5 cf_11_1059 (c_J3_checkIndexN S I hk hn) (by decide) rfl rfl (Nat.le_of_ble_eq_true rfl) ?_
    refine rn_pop dJ0_checkIndex_df160_8 rfl ?_
    refine rn_return dJ0_checkIndex_df160_9 rfl ?_
    exact ⟨rfl, rfl, rfl⟩
theorem str_len : ∀ i, i < 9 → am_len.getD i 0 = (wLs.getD i []).length := by decide
theorem str_chr : ∀ i, i < 9 → ∀ k, k < am_len.getD i 0 → (((am_byt.getD i []).getD k 0 &&& nI 255).toUInt32 % 65536).toInt32 = nI ((wLs.getD i []).getD k 0) := by decide
theorem str_nar : ∀ i, i < 9 → ∀ k, k < am_len.getD i 0 → narrow .char (.int (nI ((wLs.getD i []).getD k 0))) = .int (nI ((wLs.getD i []).getD k 0)) := by decide
theorem str_b : ∀ i, i < 9 → am_len.getD i 0 ≤ 6 := by decide
set_option maxHeartbeats 1000000 in
set_option maxRecDepth 100000 in
theorem c_J1_charAt (S : am_S) (I : am_I) {i : Nat} (hi : i < 9) {k : Nat} (hk : k < am_len.getD i 0) : am_Mt 2 Y_J1_charAt_3b067 (0, 0) [.ref (2 * am_B + i), .int (nI k)] S I (am_q (some (.int (nI ((wLs.getD i []).getD k 0)))) S I) := by
  have h6 := str_b i hi
  refine am_mt ⟨by decide +kernel, rfl⟩ (Nat.le_of_ble_eq_true rfl) rfl ?_
  refine rn_iload_n dJ1_charAt_3b067_0 rfl rfl ?_
  refine rn_aload_n dJ1_charAt_3b067_1 rfl rfl ?_
  refine rn_strAlen hi dJ1_charAt_3b067_2 ?_
  refine rn_callSq (st := []) dJ1_charAt_3b067_3 cf_12_9 (c_J0_checkIndex S I hk (by omega)) (by decide) rfl rfl (Nat.le_of_ble_eq_true rfl) ?_
  refine rn_aload_n dJ1_charAt_3b067_6 rfl rfl ?_
  refine rn_iload_n dJ1_charAt_3b067_7 rfl rfl ?_
  refine rn_strByte hi (vp_in_nI hk (by omega)) dJ1_charAt_3b067_8 ?_
  rw [nI_clamp (by omega)]
  refine rn_sipush (v := nI 255) dJ1_charAt_3b067_9 (by decide) ?_
  refine rn_iand dJ1_charAt_3b067_12 ?_
  refine rn_i2c dJ1_charAt_3b067_13 (str_chr i hi k hk) ?_
  refine rn_ireturn dJ1_charAt_3b067_14 rfl (str_nar i hi k hk) ?_
  exact ⟨rfl, rfl, rfl⟩
set_option maxHeartbeats 1000000 in
set_option maxRecDepth 100000 in
theorem c_J0_charAt (S : am_S) (I : am_I) {i : Nat} (hi : i < 9) {k : Nat} (hk : k < am_len.getD i 0) : am_Mt 3 Y_J0_charAt_5068e (0, 0) [.ref (am_B + i), .int (nI k)] S I (am_q (some (.int (nI ((wLs.getD i []).getD k 0)))) S I) := by
  refine am_mt ⟨by decide +kernel, rfl⟩ (Nat.le_of_ble_eq_true rfl) rfl ?_
  refine rn_aload_n dJ0_charAt_5068e_0 rfl rfl ?_
  refine rn_callTq (st := []) hi dJ0_charAt_5068e_1 cf_11_492 (c_J0_isLatin1 S I hi) (by decide) rfl rfl (Nat.le_of_ble_eq_true rfl) ?_
  refine rn_if_eqN (tgt := 16) dJ0_charAt_5068e_4 (by decide) (by decide) (fun q => absurd q (by decide)) (fun _ => ?_)
  refine rn_aload_n dJ0_charAt_5068e_7 rfl rfl ?_
  refine rn_strValue hi dJ0_charAt_5068e_8 fl_11_9 ?_
  refine rn_iload_n dJ0_charAt_5068e_11 rfl rfl ?_
  refine rn_callSq (st := []) dJ0_charAt_5068e_12 cf_11_495 (c_J1_charAt S I hi hk) (by decide) rfl rfl (Nat.le_of_ble_eq_true rfl) ?_
  refine rn_ireturn dJ0_charAt_5068e_15 rfl (str_nar i hi k hk) ?_
  exact ⟨rfl, rfl, rfl⟩
def bV (n : Nat) (B : Nat → Nat) (q : Nat) : Int32 := if q < n then nI (B q) else -1
theorem bV_in {n : Nat} {B : Nat → Nat} {q : Nat} (h : q < n) : bV n B q = nI (B q) := if_pos h
theorem bV_out {n : Nat} {B : Nat → Nat} {q : Nat} (h : n ≤ q) : bV n B q = -1 := if_neg (by omega)
theorem bV_bk {n : Nat} {B : Nat → Nat} (hB : okB n B) (q : Nat) : decide (bV n B q = nI 32 ∨ bV n B q = nI 10) = decide (q < n ∧ isBk B q = true) := by
  unfold isBk
  by_cases h : q < n
  · rw [bV_in h]
    have := hB.2 q h
    refine decide_eq_decide.mpr ?_
    rw [nI_eq (by omega) (by decide), nI_eq (by omega) (by decide), decide_eq_true_eq]
    simp [h]
  · rw [bV_out (by omega)]
    simp [h]
    decide
theorem bV_dg {n : Nat} {B : Nat → Nat} (hB : okB n B) (q : Nat) : decide (48 ≤ (bV n B q).toInt ∧ (bV n B q).toInt ≤ 57) = decide (q < n ∧ isDg B q = true) := by
  unfold isDg
  by_cases h : q < n
  · have := hB.2 q h
    rw [bV_in h, z_nI (by omega)]
    simp only [h, true_and, decide_eq_true_eq]
    exact decide_eq_decide.mpr (by omega)
  · rw [bV_out (by omega), z_m1]
    simp [h]
theorem bV_lt {n : Nat} {B : Nat → Nat} (hB : okB n B) (q : Nat) : decide (97 ≤ (bV n B q).toInt ∧ (bV n B q).toInt ≤ 122) = decide (q < n ∧ isLt B q = true) := by
  unfold isLt
  by_cases h : q < n
  · have := hB.2 q h
    rw [bV_in h, z_nI (by omega)]
    simp only [h, true_and, decide_eq_true_eq]
    exact decide_eq_decide.mpr (by omega)
  · rw [bV_out (by omega), z_m1]
    simp [h]
theorem c_X3_byteV {S : am_S} (hs : sk S) {I : am_I} {n q : Nat} {B : Nat → Nat} (hT : tX n B I) (hB : okB n B) (hq : q < 2147483648) : am_Mt 0 Y_X3_byteAt (0, 0) [.ref 16, .int (nI q)] S I (am_q (some (.int (bV n B q))) S I) := by
  have h1 := c_X3_byteAt hs hT.1 hB.1 hq
  have e : (if q < n then I 17 q else -1) = bV n B q := by
    unfold bV
    by_cases h : q < n
    · rw [if_pos h, if_pos h, hT.2 q h]
    · rw [if_neg h, if_neg h]
  rw [e] at h1
  exact h1
theorem c_X8_seeV {S : am_S} (hs : sk S) {I : am_I} {n q : Nat} {B : Nat → Nat} (hT : tM2 n B I) (hB : okB n B) (hq : q < 2147483648) : am_Mt 0 Y_X8_see (0, 0) [.ref 44, .int (nI q)] S I (am_q (some (.int (bV n B q))) S I) := by
  have h1 := c_X8_see hs hT.1 hB.1 hq
  have e : (if q < n then I 55 q else -1) = bV n B q := by
    unfold bV
    by_cases h : q < n
    · rw [if_pos h, if_pos h, hT.2 q h]
    · rw [if_neg h, if_neg h]
  rw [e] at h1
  exact h1
theorem tX.kept {n : Nat} {B : Nat → Nat} {I I' : am_I} (h : tX n B I) (h1 : I' 16 = I 16) (h2 : I' 17 = I 17) : tX n B I' := ⟨by rw [h1]; exact h.1, fun k hk => by rw [h2]; exact h.2 k hk⟩
theorem c_X5_blankV {S : am_S} {I : am_I} {n q : Nat} {B : Nat → Nat} (hB : okB n B) : am_Mt 0 Y_X5_isBlank (0, 0) [.int (bV n B q)] S I (am_q (some (.int (am_b (decide (q < n ∧ isBk B q = true))))) S I) := by
  rw [← bV_bk hB]; exact c_X5_isBlank _ _ _
theorem c_X5_digitV {S : am_S} {I : am_I} {n q : Nat} {B : Nat → Nat} (hB : okB n B) : am_Mt 0 Y_X5_isDigit (0, 0) [.int (bV n B q)] S I (am_q (some (.int (am_b (decide (q < n ∧ isDg B q = true))))) S I) := by
  rw [← bV_dg hB]; exact c_X5_isDigit _ _ _
theorem c_X5_letterV {S : am_S} {I : am_I} {n q : Nat} {B : Nat → Nat} (hB : okB n B) : am_Mt 0 Y_X5_isLetter (0, 0) [.int (bV n B q)] S I (am_q (some (.int (am_b (decide (q < n ∧ isLt B q = true))))) S I) := by
  rw [← bV_lt hB]; exact c_X5_isLetter _ _ _
theorem min_cap {a : Nat} (h : a < 2147483648) : (if nI 100 < nI a then nI 100 else nI a) = nI (cap a) := by
  unfold cap
  by_cases q : a < 100
  · rw [if_pos q, if_neg (by rw [z_lt, z_nI h, z_nI (by decide)]; omega)]
  · rw [if_neg q]
    by_cases q2 : a = 100
    · rw [q2]; split <;> rfl
    · rw [if_pos (by rw [z_lt, z_nI h, z_nI (by decide)]; omega)]
theorem str_cb : ∀ i, i < 9 → ∀ k, k < am_len.getD i 0 → (wLs.getD i []).getD k 0 < 256 := by decide
set_option maxHeartbeats 1000000 in
set_option maxRecDepth 100000 in
theorem c_X5_spells {S : am_S} (hs : sk S) {I : am_I} {n : Nat} {B : Nat → Nat} (hT : tX n B I) (hB : okB n B) {s e i : Nat} (h0 : I 19 0 = nI s) (h4 : I 19 4 = nI e) (hse : s ≤ e) (hen : e ≤ n) (hi : i < 9) : am_Mt 4 Y_X5_spells (0, 0) [.ref 19, .ref (am_B + i)] S I (am_q (some (.int (am_b (spd B s e (wLs.getD i []))))) S I) := by
  have h200 := hB.1
  have hln := str_len i hi
  have h6 := str_b i hi
  refine am_mt ⟨by decide +kernel, rfl⟩ (Nat.le_of_ble_eq_true rfl) rfl ?_
  refine rn_aload_n dX5_spells_0 rfl rfl ?_
  refine rn_getI dX5_spells_1 fd_5_15 (sk_l hs 19 (by decide)) (sk_k19 hs) rfl ?_
  refine rn_top (y := nI e) (h4) ?_
  refine rn_aload_n dX5_spells_4 rfl rfl ?_
  refine rn_getI dX5_spells_5 fd_5_32 (sk_l hs 19 (by decide)) (sk_k19 hs) rfl ?_
  refine rn_top (y := nI s) (h0) ?_
  refine rn_isub dX5_spells_8 ?_
  refine rn_top (pk_sub (by omega)) ?_
  refine rn_aload_n dX5_spells_9 rfl rfl ?_
  refine rn_callTq (st := [.int (nI (e - s))]) hi dX5_spells_10 cf_5_79 (c_J0_length S I hi) (by decide) rfl rfl (Nat.le_of_ble_eq_true rfl) ?_
  refine rn_icmp_eqN (tgt := 18) dX5_spells_13 (by decide) (by omega) (by omega) (fun c_13 => ?_) (fun c_13 => ?_)
  · have hes : e = s + am_len.getD i 0 := by omega
    have LP : ∀ k, k ≤ am_len.getD i 0 → (∀ q, q < k → B (s + q) = (wLs.getD i []).getD q 0) → am_Rn 4 Y_X5_spells (0, 0) 20 [some (.ref 19), some (.ref (am_B + i)), some (.int (nI k))] [] S I (am_q (some (.int (am_b (spd B s e (wLs.getD i []))))) S I) := by
      refine am_loop _ (fun k hk9 ih => ?_)
      intro hk
      refine rn_iload_n dX5_spells_20 rfl rfl ?_
      refine rn_aload_n dX5_spells_21 rfl rfl ?_
      refine rn_callTq (st := [.int (nI k)]) hi dX5_spells_22 cf_5_79 (c_J0_length S I hi) (by decide) rfl rfl (Nat.le_of_ble_eq_true rfl) ?_
      refine rn_icmp_geN (tgt := 57) dX5_spells_25 (by decide) (by omega) (by omega) (fun c_25 => ?_) (fun c_25 => ?_)
      · refine rn_iconst (v := nI 1) dX5_spells_57 (by decide) ?_
        refine rn_ireturn dX5_spells_58 rfl (by decide) ?_
        exact ⟨by rw [show spd B s e (wLs.getD i []) = true from spd_iff.mpr ⟨by omega, fun q hq => hk q (by omega)⟩]; rfl, rfl, rfl⟩
      · have hlt : s + k < n := by omega
        have hbb := hB.2 _ hlt
        have hch := str_cb i hi k c_25
        refine rn_aload_n dX5_spells_28 rfl rfl ?_
        refine rn_getR (r := 16) dX5_spells_29 fd_5_9 (sk_l hs 19 (by decide)) (sk_k19 hs) rfl (sk_r19_3 hs) ?_
        refine rn_aload_n dX5_spells_32 rfl rfl ?_
        refine rn_getI dX5_spells_33 fd_5_32 (sk_l hs 19 (by decide)) (sk_k19 hs) rfl ?_
        refine rn_top (y := nI s) (h0) ?_
        refine rn_iload_n dX5_spells_36 rfl rfl ?_
        refine rn_iadd dX5_spells_37 ?_
        refine rn_top (nI_add _ _) ?_
        refine rn_callVq (st := []) dX5_spells_38 cf_5_24 (c_X3_byteV hs hT hB (by omega)) (by decide) (sk_l hs 16 (by decide)) (sk_k16 hs) rfl rfl (Nat.le_of_ble_eq_true rfl) ?_
        refine rn_top (y := nI (B (s + k))) (bV_in (by omega)) ?_
        refine rn_aload_n dX5_spells_41 rfl rfl ?_
        refine rn_iload_n dX5_spells_42 rfl rfl ?_
        refine rn_callTq (st := [.int (nI (B (s + k)))]) hi dX5_spells_43 cf_5_84 (c_J0_charAt S I hi c_25) (by decide) rfl rfl (Nat.le_of_ble_eq_true rfl) ?_
        refine rn_icmp_eqN (tgt := 51) dX5_spells_46 (by decide) (by omega) (by omega) (fun c_46 => ?_) (fun c_46 => ?_)
        · refine rn_iinc (v := nI (k + 1)) (ls' := [some (.ref 19), some (.ref (am_B + i)), some (.int (nI (k + 1)))]) dX5_spells_51 rfl (nI_add _ 1) (by decide) rfl rfl ?_
          refine rn_goto (tgt := 20) dX5_spells_54 (by decide) ?_
          refine ih (by omega) (fun q hq => ?_)
          by_cases e9 : q = k
          · rw [e9]; exact c_46
          · exact hk q (by omega)
        · refine rn_iconst (v := nI 0) dX5_spells_49 (by decide) ?_
          refine rn_ireturn dX5_spells_50 rfl (by decide) ?_
          exact ⟨by rw [show spd B s e (wLs.getD i []) = false from Bool.eq_false_iff.mpr (fun q => c_46 ((spd_iff.mp q).2 k (by omega)))]; rfl, rfl, rfl⟩
    refine rn_iconst (v := nI 0) dX5_spells_18 (by decide) ?_
    refine rn_istore_n (ls' := [some (.ref 19), some (.ref (am_B + i)), some (.int (nI 0))]) dX5_spells_19 rfl (by decide) rfl rfl ?_
    exact LP 0 (by omega) (fun q hq => absurd hq (by omega))
  · refine rn_iconst (v := nI 0) dX5_spells_16 (by decide) ?_
    refine rn_ireturn dX5_spells_17 rfl (by decide) ?_
    exact ⟨by rw [show spd B s e (wLs.getD i []) = false from Bool.eq_false_iff.mpr (fun q => c_13 (by have := (spd_iff.mp q).1; omega))]; rfl, rfl, rfl⟩
set_option maxHeartbeats 1000000 in
set_option maxRecDepth 100000 in
theorem c_X5_wordFound {S : am_S} (hs : sk S) {I : am_I} {n : Nat} {B : Nat → Nat} (hT : tX n B I) (hB : okB n B) {s e : Nat} (h0 : I 19 0 = nI s) (h4 : I 19 4 = nI e) (hse : s ≤ e) (hen : e ≤ n) : am_Mt 5 Y_X5_wordFound (0, 0) [.ref 19] S I (am_q (some (.int (nI (cW (tW B s e))))) S I) := by
  refine am_mt ⟨by decide +kernel, rfl⟩ (Nat.le_of_ble_eq_true rfl) rfl ?_
  refine rn_aload_n dX5_wordFound_0 rfl rfl ?_
  refine rn_ldcS (i := 0) (by decide) rfl dX5_wordFound_1 ?_
  refine rn_callVq (st := []) dX5_wordFound_3 cf_5_59 (c_X5_spells hs hT hB h0 h4 hse hen (i := 0) (by decide)) (by decide) (sk_l hs 19 (by decide)) (sk_k19 hs) rfl rfl (Nat.le_of_ble_eq_true rfl) ?_
  refine rn_if_eqB (tgt := 11) dX5_wordFound_6 (by decide) (fun c_0 => ?_) (fun c_0 => ?_)
  · skip
    refine rn_aload_n dX5_wordFound_11 rfl rfl ?_
    refine rn_ldcS (i := 1) (by decide) rfl dX5_wordFound_12 ?_
    refine rn_callVq (st := []) dX5_wordFound_14 cf_5_59 (c_X5_spells hs hT hB h0 h4 hse hen (i := 1) (by decide)) (by decide) (sk_l hs 19 (by decide)) (sk_k19 hs) rfl rfl (Nat.le_of_ble_eq_true rfl) ?_
    refine rn_if_eqB (tgt := 22) dX5_wordFound_17 (by decide) (fun c_1 => ?_) (fun c_1 => ?_)
    · skip
      refine rn_aload_n dX5_wordFound_22 rfl rfl ?_
      refine rn_ldcS (i := 2) (by decide) rfl dX5_wordFound_23 ?_
      refine rn_callVq (st := []) dX5_wordFound_25 cf_5_59 (c_X5_spells hs hT hB h0 h4 hse hen (i := 2) (by decide)) (by decide) (sk_l hs 19 (by decide)) (sk_k19 hs) rfl rfl (Nat.le_of_ble_eq_true rfl) ?_
      refine rn_if_eqB (tgt := 33) dX5_wordFound_28 (by decide) (fun c_2 => ?_) (fun c_2 => ?_)
      · skip
        refine rn_aload_n dX5_wordFound_33 rfl rfl ?_
        refine rn_ldcS (i := 3) (by decide) rfl dX5_wordFound_34 ?_
        refine rn_callVq (st := []) dX5_wordFound_36 cf_5_59 (c_X5_spells hs hT hB h0 h4 hse hen (i := 3) (by decide)) (by decide) (sk_l hs 19 (by decide)) (sk_k19 hs) rfl rfl (Nat.le_of_ble_eq_true rfl) ?_
        refine rn_if_eqB (tgt := 44) dX5_wordFound_39 (by decide) (fun c_3 => ?_) (fun c_3 => ?_)
        · skip
          refine rn_aload_n dX5_wordFound_44 rfl rfl ?_
          refine rn_ldcS (i := 4) (by decide) rfl dX5_wordFound_45 ?_
          refine rn_callVq (st := []) dX5_wordFound_47 cf_5_59 (c_X5_spells hs hT hB h0 h4 hse hen (i := 4) (by decide)) (by decide) (sk_l hs 19 (by decide)) (sk_k19 hs) rfl rfl (Nat.le_of_ble_eq_true rfl) ?_
          refine rn_if_eqB (tgt := 55) dX5_wordFound_50 (by decide) (fun c_4 => ?_) (fun c_4 => ?_)
          · skip
            refine rn_aload_n dX5_wordFound_55 rfl rfl ?_
            refine rn_ldcS (i := 5) (by decide) rfl dX5_wordFound_56 ?_
            refine rn_callVq (st := []) dX5_wordFound_58 cf_5_59 (c_X5_spells hs hT hB h0 h4 hse hen (i := 5) (by decide)) (by decide) (sk_l hs 19 (by decide)) (sk_k19 hs) rfl rfl (Nat.le_of_ble_eq_true rfl) ?_
            refine rn_if_eqB (tgt := 67) dX5_wordFound_61 (by decide) (fun c_5 => ?_) (fun c_5 => ?_)
            · skip
              refine rn_aload_n dX5_wordFound_67 rfl rfl ?_
              refine rn_ldcS (i := 6) (by decide) rfl dX5_wordFound_68 ?_
              refine rn_callVq (st := []) dX5_wordFound_70 cf_5_59 (c_X5_spells hs hT hB h0 h4 hse hen (i := 6) (by decide)) (by decide) (sk_l hs 19 (by decide)) (sk_k19 hs) rfl rfl (Nat.le_of_ble_eq_true rfl) ?_
              refine rn_if_eqB (tgt := 79) dX5_wordFound_73 (by decide) (fun c_6 => ?_) (fun c_6 => ?_)
              · skip
                refine rn_aload_n dX5_wordFound_79 rfl rfl ?_
                refine rn_ldcS (i := 7) (by decide) rfl dX5_wordFound_80 ?_
                refine rn_callVq (st := []) dX5_wordFound_82 cf_5_59 (c_X5_spells hs hT hB h0 h4 hse hen (i := 7) (by decide)) (by decide) (sk_l hs 19 (by decide)) (sk_k19 hs) rfl rfl (Nat.le_of_ble_eq_true rfl) ?_
                refine rn_if_eqB (tgt := 91) dX5_wordFound_85 (by decide) (fun c_7 => ?_) (fun c_7 => ?_)
                · skip
                  refine rn_aload_n dX5_wordFound_91 rfl rfl ?_
                  refine rn_ldcS (i := 8) (by decide) rfl dX5_wordFound_92 ?_
                  refine rn_callVq (st := []) dX5_wordFound_94 cf_5_59 (c_X5_spells hs hT hB h0 h4 hse hen (i := 8) (by decide)) (by decide) (sk_l hs 19 (by decide)) (sk_k19 hs) rfl rfl (Nat.le_of_ble_eq_true rfl) ?_
                  refine rn_if_eqB (tgt := 103) dX5_wordFound_97 (by decide) (fun c_8 => ?_) (fun c_8 => ?_)
                  · skip
                    refine rn_iconst (v := nI 0) dX5_wordFound_103 (by decide) ?_
                    refine rn_ireturn dX5_wordFound_104 rfl (vp_nar_int _) ?_
                    have h2 : tW B s e = 2 := tW_2 (fun W hW => by
                      simp only [wLs, List.mem_cons, List.not_mem_nil, or_false] at hW
                      rcases hW with rfl | rfl | rfl | rfl | rfl | rfl | rfl | rfl | rfl
                      · exact Bool.eq_false_iff.mp c_0
                      · exact Bool.eq_false_iff.mp c_1
                      · exact Bool.eq_false_iff.mp c_2
                      · exact Bool.eq_false_iff.mp c_3
                      · exact Bool.eq_false_iff.mp c_4
                      · exact Bool.eq_false_iff.mp c_5
                      · exact Bool.eq_false_iff.mp c_6
                      · exact Bool.eq_false_iff.mp c_7
                      · exact Bool.eq_false_iff.mp c_8)
                    exact ⟨by rw [h2]; rfl, rfl, rfl⟩
                  · refine rn_bipush (v := nI 9) dX5_wordFound_100 (by decide) ?_
                    refine rn_ireturn dX5_wordFound_102 rfl (vp_nar_int _) ?_
                    exact ⟨by rw [tW_4 (B := B) (s := s) (e := e) c_8]; rfl, rfl, rfl⟩
                · refine rn_bipush (v := nI 8) dX5_wordFound_88 (by decide) ?_
                  refine rn_ireturn dX5_wordFound_90 rfl (vp_nar_int _) ?_
                  exact ⟨by rw [tW_8 (B := B) (s := s) (e := e) c_7]; rfl, rfl, rfl⟩
              · refine rn_bipush (v := nI 7) dX5_wordFound_76 (by decide) ?_
                refine rn_ireturn dX5_wordFound_78 rfl (vp_nar_int _) ?_
                exact ⟨by rw [tW_11 (B := B) (s := s) (e := e) c_6]; rfl, rfl, rfl⟩
            · refine rn_bipush (v := nI 6) dX5_wordFound_64 (by decide) ?_
              refine rn_ireturn dX5_wordFound_66 rfl (vp_nar_int _) ?_
              exact ⟨by rw [tW_10 (B := B) (s := s) (e := e) c_5]; rfl, rfl, rfl⟩
          · refine rn_iconst (v := nI 5) dX5_wordFound_53 (by decide) ?_
            refine rn_ireturn dX5_wordFound_54 rfl (vp_nar_int _) ?_
            exact ⟨by rw [tW_9 (B := B) (s := s) (e := e) c_4]; rfl, rfl, rfl⟩
        · refine rn_iconst (v := nI 4) dX5_wordFound_42 (by decide) ?_
          refine rn_ireturn dX5_wordFound_43 rfl (vp_nar_int _) ?_
          exact ⟨by rw [tW_7 (B := B) (s := s) (e := e) c_3]; rfl, rfl, rfl⟩
      · refine rn_iconst (v := nI 3) dX5_wordFound_31 (by decide) ?_
        refine rn_ireturn dX5_wordFound_32 rfl (vp_nar_int _) ?_
        exact ⟨by rw [tW_6 (B := B) (s := s) (e := e) c_2]; rfl, rfl, rfl⟩
    · refine rn_iconst (v := nI 2) dX5_wordFound_20 (by decide) ?_
      refine rn_ireturn dX5_wordFound_21 rfl (vp_nar_int _) ?_
      exact ⟨by rw [tW_5 (B := B) (s := s) (e := e) c_1]; rfl, rfl, rfl⟩
  · refine rn_iconst (v := nI 1) dX5_wordFound_9 (by decide) ?_
    refine rn_ireturn dX5_wordFound_10 rfl (vp_nar_int _) ?_
    exact ⟨by rw [tW_3 (B := B) (s := s) (e := e) c_0]; rfl, rfl, rfl⟩
set_option maxHeartbeats 1000000 in
set_option maxRecDepth 100000 in
theorem c_X5_takeNumber {S : am_S} (hs : sk S) {I : am_I} {n : Nat} {B : Nat → Nat} (hT : tX n B I) (hB : okB n B) {s : Nat} (hsn : s ≤ n) (h4 : I 19 4 = nI s) : am_Mt 1 Y_X5_takeNumber (0, 0) [.ref 19] S I (fun r S' I' => r = none ∧ S' = S ∧ (∀ b, b ≠ 19 → I' b = I b) ∧ (∀ k, k ≠ 1 → k ≠ 4 → I' 19 k = I 19 k) ∧ I' 19 1 = nI (tN n B s) ∧ I' 19 4 = nI (scn (isDg B) n s)) := by
  have h200 := hB.1
  have LP : ∀ m q, n - q ≤ m → s ≤ q → q ≤ n → scn (isDg B) n q = scn (isDg B) n s → ∀ I1 : am_I, (∀ b, b ≠ 19 → I1 b = I b) → (∀ k, k ≠ 1 → k ≠ 4 → I1 19 k = I 19 k) → I1 19 1 = nI (cap (nvl B s (q - s))) → I1 19 4 = nI q → am_Rn 1 Y_X5_takeNumber (0, 0) 5 [some (.ref 19)] [] S I1 (fun r S' I' => r = none ∧ S' = S ∧ (∀ b, b ≠ 19 → I' b = I b) ∧ (∀ k, k ≠ 1 → k ≠ 4 → I' 19 k = I 19 k) ∧ I' 19 1 = nI (tN n B s) ∧ I' 19 4 = nI (scn (isDg B) n s)) := by
    intro m
    induction m with
    | zero =>
      intro q hm hsq hqn hsc I1 hF hF2 h1 h4
      have hT1 := hT.kept (hF 16 (by decide)) (hF 17 (by decide))
      refine rn_aload_n dX5_takeNumber_5 rfl rfl ?_
      refine rn_getI dX5_takeNumber_6 fd_5_15 (sk_l hs 19 (by decide)) (sk_k19 hs) rfl ?_
      refine rn_top (y := nI q) (h4) ?_
      refine rn_aload_n dX5_takeNumber_9 rfl rfl ?_
      refine rn_getR (r := 16) dX5_takeNumber_10 fd_5_9 (sk_l hs 19 (by decide)) (sk_k19 hs) rfl (sk_r19_3 hs) ?_
      refine rn_getI dX5_takeNumber_13 fd_5_19 (sk_l hs 16 (by decide)) (sk_k16 hs) rfl ?_
      refine rn_top (y := nI n) (hT1.1) ?_
      refine rn_icmp_geN (tgt := 80) dX5_takeNumber_16 (by decide) (by omega) (by omega) (fun c_16 => ?_) (fun c_16 => ?_)
      · refine rn_return dX5_takeNumber_80 rfl ?_
        have hqe : q = scn (isDg B) n s := by rw [← hsc]; exact (scn_e (fun h9 => by first | omega | exact absurd (decide_eq_true h9) (by rw [c_33]; decide))).symm
        refine ⟨rfl, rfl, hF, hF2, ?_, ?_⟩
        · rw [h1]; unfold tN; rw [hqe]
        · rw [h4, hqe]
      · omega
    | succ m ih =>
      intro q hm hsq hqn hsc I1 hF hF2 h1 h4
      have hT1 := hT.kept (hF 16 (by decide)) (hF 17 (by decide))
      refine rn_aload_n dX5_takeNumber_5 rfl rfl ?_
      refine rn_getI dX5_takeNumber_6 fd_5_15 (sk_l hs 19 (by decide)) (sk_k19 hs) rfl ?_
      refine rn_top (y := nI q) (h4) ?_
      refine rn_aload_n dX5_takeNumber_9 rfl rfl ?_
      refine rn_getR (r := 16) dX5_takeNumber_10 fd_5_9 (sk_l hs 19 (by decide)) (sk_k19 hs) rfl (sk_r19_3 hs) ?_
      refine rn_getI dX5_takeNumber_13 fd_5_19 (sk_l hs 16 (by decide)) (sk_k16 hs) rfl ?_
      refine rn_top (y := nI n) (hT1.1) ?_
      refine rn_icmp_geN (tgt := 80) dX5_takeNumber_16 (by decide) (by omega) (by omega) (fun c_16 => ?_) (fun c_16 => ?_)
      · refine rn_return dX5_takeNumber_80 rfl ?_
        have hqe : q = scn (isDg B) n s := by rw [← hsc]; exact (scn_e (fun h9 => by first | omega | exact absurd (decide_eq_true h9) (by rw [c_33]; decide))).symm
        refine ⟨rfl, rfl, hF, hF2, ?_, ?_⟩
        · rw [h1]; unfold tN; rw [hqe]
        · rw [h4, hqe]
      · refine rn_aload_n dX5_takeNumber_19 rfl rfl ?_
        refine rn_getR (r := 16) dX5_takeNumber_20 fd_5_9 (sk_l hs 19 (by decide)) (sk_k19 hs) rfl (sk_r19_3 hs) ?_
        refine rn_aload_n dX5_takeNumber_23 rfl rfl ?_
        refine rn_getI dX5_takeNumber_24 fd_5_15 (sk_l hs 19 (by decide)) (sk_k19 hs) rfl ?_
        refine rn_top (y := nI q) (h4) ?_
        refine rn_callVq (st := []) dX5_takeNumber_27 cf_5_24 (c_X3_byteV hs hT1 hB (by omega)) (by decide) (sk_l hs 16 (by decide)) (sk_k16 hs) rfl rfl (Nat.le_of_ble_eq_true rfl) ?_
        refine rn_callSq (st := []) dX5_takeNumber_30 cf_5_42 (c_X5_digitV hB) (by decide) rfl rfl (Nat.le_of_ble_eq_true rfl) ?_
        refine rn_if_eqB (tgt := 80) dX5_takeNumber_33 (by decide) (fun c_33 => ?_) (fun c_33 => ?_)
        · refine rn_return dX5_takeNumber_80 rfl ?_
          have hqe : q = scn (isDg B) n s := by rw [← hsc]; exact (scn_e (fun h9 => by first | omega | exact absurd (decide_eq_true h9) (by rw [c_33]; decide))).symm
          refine ⟨rfl, rfl, hF, hF2, ?_, ?_⟩
          · rw [h1]; unfold tN; rw [hqe]
          · rw [h4, hqe]
        · have hqq := of_decide_eq_true c_33
          have hbb := hB.2 q hqq.1
          have hdg : 48 ≤ B q ∧ B q ≤ 57 := of_decide_eq_true hqq.2
          have hcap := cap_le (nvl B s (q - s))
          refine rn_aload_n dX5_takeNumber_36 rfl rfl ?_
          refine rn_bipush (v := nI 10) dX5_takeNumber_37 (by decide) ?_
          refine rn_aload_n dX5_takeNumber_39 rfl rfl ?_
          refine rn_getI dX5_takeNumber_40 fd_5_35 (sk_l hs 19 (by decide)) (sk_k19 hs) rfl ?_
          refine rn_top (y := nI (cap (nvl B s (q - s)))) (h1) ?_
          refine rn_imul dX5_takeNumber_43 ?_
          refine rn_top (pk_mul _ _) ?_
          refine rn_aload_n dX5_takeNumber_44 rfl rfl ?_
          refine rn_getR (r := 16) dX5_takeNumber_45 fd_5_9 (sk_l hs 19 (by decide)) (sk_k19 hs) rfl (sk_r19_3 hs) ?_
          refine rn_aload_n dX5_takeNumber_48 rfl rfl ?_
          refine rn_getI dX5_takeNumber_49 fd_5_15 (sk_l hs 19 (by decide)) (sk_k19 hs) rfl ?_
          refine rn_top (y := nI q) (h4) ?_
          refine rn_callVq (st := [.int (nI (10 * (cap (nvl B s (q - s))))), .ref 19]) dX5_takeNumber_52 cf_5_24 (c_X3_byteV hs hT1 hB (by omega)) (by decide) (sk_l hs 16 (by decide)) (sk_k16 hs) rfl rfl (Nat.le_of_ble_eq_true rfl) ?_
          refine rn_top (y := nI (B q)) (bV_in hqq.1) ?_
          refine rn_iadd dX5_takeNumber_55 ?_
          refine rn_top (y := nI (10 * cap (nvl B s (q - s)) + B q)) (nI_add _ _) ?_
          refine rn_bipush (v := nI 48) dX5_takeNumber_56 (by decide) ?_
          refine rn_isub dX5_takeNumber_58 ?_
          refine rn_top (pk_sub (by omega)) ?_
          refine rn_bipush (v := nI 100) dX5_takeNumber_59 (by decide) ?_
          refine rn_min dX5_takeNumber_61 ma_5_51 (by decide) (Nat.le_of_ble_eq_true rfl) ?_
          refine rn_top (y := nI (cap (nvl B s (q + 1 - s)))) (by rw [min_cap (by omega), show q + 1 - s = q - s + 1 by omega, nvl, show s + (q - s) = q by omega, ← cap_step]; congr 2; omega) ?_
          refine rn_putI dX5_takeNumber_64 fd_5_35 (sk_l hs 19 (by decide)) (sk_k19 hs) rfl rfl (vp_nar_int _) rfl ?_
          refine rn_aload_n dX5_takeNumber_67 rfl rfl ?_
          refine rn_dup dX5_takeNumber_68 rfl ?_
          refine rn_getI dX5_takeNumber_69 fd_5_15 (sk_l hs 19 (by decide)) (sk_k19 hs) rfl ?_
          refine rn_top (y := nI q) (by have h9 := h4; simp [am_up, va_up, h9]) ?_
          refine rn_iconst (v := nI 1) dX5_takeNumber_72 (by decide) ?_
          refine rn_iadd dX5_takeNumber_73 ?_
          refine rn_top (nI_add _ _) ?_
          refine rn_putI dX5_takeNumber_74 fd_5_15 (sk_l hs 19 (by decide)) (sk_k19 hs) rfl rfl (vp_nar_int _) rfl ?_
          refine rn_goto (tgt := 5) dX5_takeNumber_77 (by decide) ?_
          refine ih (q + 1) (by omega) (by omega) (by omega) (by rw [← scn_s hqq.1 hqq.2]; exact hsc) _ (fun b hb => by rw [am_up_a _ _ hb, am_up_a _ _ hb]; exact hF b hb) (fun k k1 k4 => by rw [am_up_k _ _ k4, am_up_k _ _ k1]; exact hF2 k k1 k4) ?_ (by rw [am_up_at])
          rw [am_up_k _ _ (by decide), am_up_at]
  refine am_mt ⟨by decide +kernel, rfl⟩ (Nat.le_of_ble_eq_true rfl) rfl ?_
  refine rn_aload_n dX5_takeNumber_0 rfl rfl ?_
  refine rn_iconst (v := nI 0) dX5_takeNumber_1 (by decide) ?_
  refine rn_putI dX5_takeNumber_2 fd_5_35 (sk_l hs 19 (by decide)) (sk_k19 hs) rfl rfl (vp_nar_int _) rfl ?_
  exact LP _ s (Nat.le_refl _) (Nat.le_refl _) hsn rfl _ (fun b hb => am_up_a _ _ hb) (fun k k1 _ => am_up_k _ _ k1) (by rw [am_up_at, Nat.sub_self]; rfl) (by rw [am_up_k _ _ (by decide)]; exact h4)
/-- the class's token, once it is read from p on -/
def AD (n : Nat) (B : Nat → Nat) (p : Nat) (I I' : am_I) : Prop := (∀ b, b ≠ 19 → I' b = I b) ∧ I' 19 0 = nI (tS n B p) ∧ I' 19 1 = (if tK n B (tS n B p) = 1 then nI (tN n B (tS n B p)) else -1) ∧ I' 19 2 = am_b (decide (n ≤ tS n B p)) ∧ I' 19 4 = nI (tE n B (tS n B p))
set_option maxHeartbeats 1000000 in
set_option maxRecDepth 100000 in
theorem c_X5_advance {S : am_S} (hs : sk S) {I : am_I} {n : Nat} {B : Nat → Nat} (hT : tX n B I) (hB : okB n B) {p : Nat} (hp : p ≤ n) (h4 : I 19 4 = nI p) : am_Mt 2 Y_X5_advance (0, 0) [.ref 19] S I (fun r S' I' => r = none ∧ S' = S ∧ AD n B p I I') := by
  have h200 := hB.1
  have hsn : tS n B p ≤ n := tS_le hp
  have L3 : ∀ m q, n - q ≤ m → tS n B p ≤ q → q ≤ n → scn (isLt B) n q = scn (isLt B) n (tS n B p) → ∀ I1 : am_I, (∀ b, b ≠ 19 → I1 b = I b) → I1 19 0 = nI (tS n B p) → I1 19 1 = -1 → I1 19 2 = am_b (decide (n ≤ tS n B p)) → I1 19 4 = nI q → ¬ tK n B (tS n B p) = 1 → am_Rn 2 Y_X5_advance (0, 0) 101 [some (.ref 19)] [] S I1 (fun r S' I' => r = none ∧ S' = S ∧ AD n B p I I') := by
    intro m
    induction m with
    | zero =>
      intro q hm hsq hqn hsc I1 hF h0 h1 h2 h4 hk
      have hT1 := hT.kept (hF 16 (by decide)) (hF 17 (by decide))
      refine rn_aload_n dX5_advance_101 rfl rfl ?_
      refine rn_getI dX5_advance_102 fd_5_35 (sk_l hs 19 (by decide)) (sk_k19 hs) rfl ?_
      refine rn_top (y := (-1)) (h1) ?_
      refine rn_iconst (v := (-1)) dX5_advance_105 (by decide) ?_
      refine rn_icmp_ne (tgt := 153) dX5_advance_106 (by decide) (fun c_106 => ?_) (fun c_106 => ?_)
      · exact absurd rfl c_106
      · refine rn_aload_n dX5_advance_109 rfl rfl ?_
        refine rn_getI dX5_advance_110 fd_5_15 (sk_l hs 19 (by decide)) (sk_k19 hs) rfl ?_
        refine rn_top (y := nI q) (h4) ?_
        refine rn_aload_n dX5_advance_113 rfl rfl ?_
        refine rn_getR (r := 16) dX5_advance_114 fd_5_9 (sk_l hs 19 (by decide)) (sk_k19 hs) rfl (sk_r19_3 hs) ?_
        refine rn_getI dX5_advance_117 fd_5_19 (sk_l hs 16 (by decide)) (sk_k16 hs) rfl ?_
        refine rn_top (y := nI n) (hT1.1) ?_
        refine rn_icmp_geN (tgt := 153) dX5_advance_120 (by decide) (by omega) (by omega) (fun c_120 => ?_) (fun c_120 => ?_)
        · refine rn_return dX5_advance_153 rfl ?_
          have hqe : q = scn (isLt B) n (tS n B p) := by rw [← hsc]; exact (scn_e (fun h9 => by first | omega | exact absurd (decide_eq_true h9) (by rw [c_137]; decide))).symm
          refine ⟨rfl, rfl, hF, h0, by rw [h1, if_neg hk], h2, ?_⟩
          rw [h4, hqe]
          unfold tE
          rw [if_neg (fun q9 => hk (tK_1.mpr q9))]
        · omega
    | succ m ih =>
      intro q hm hsq hqn hsc I1 hF h0 h1 h2 h4 hk
      have hT1 := hT.kept (hF 16 (by decide)) (hF 17 (by decide))
      refine rn_aload_n dX5_advance_101 rfl rfl ?_
      refine rn_getI dX5_advance_102 fd_5_35 (sk_l hs 19 (by decide)) (sk_k19 hs) rfl ?_
      refine rn_top (y := (-1)) (h1) ?_
      refine rn_iconst (v := (-1)) dX5_advance_105 (by decide) ?_
      refine rn_icmp_ne (tgt := 153) dX5_advance_106 (by decide) (fun c_106 => ?_) (fun c_106 => ?_)
      · exact absurd rfl c_106
      · refine rn_aload_n dX5_advance_109 rfl rfl ?_
        refine rn_getI dX5_advance_110 fd_5_15 (sk_l hs 19 (by decide)) (sk_k19 hs) rfl ?_
        refine rn_top (y := nI q) (h4) ?_
        refine rn_aload_n dX5_advance_113 rfl rfl ?_
        refine rn_getR (r := 16) dX5_advance_114 fd_5_9 (sk_l hs 19 (by decide)) (sk_k19 hs) rfl (sk_r19_3 hs) ?_
        refine rn_getI dX5_advance_117 fd_5_19 (sk_l hs 16 (by decide)) (sk_k16 hs) rfl ?_
        refine rn_top (y := nI n) (hT1.1) ?_
        refine rn_icmp_geN (tgt := 153) dX5_advance_120 (by decide) (by omega) (by omega) (fun c_120 => ?_) (fun c_120 => ?_)
        · refine rn_return dX5_advance_153 rfl ?_
          have hqe : q = scn (isLt B) n (tS n B p) := by rw [← hsc]; exact (scn_e (fun h9 => by first | omega | exact absurd (decide_eq_true h9) (by rw [c_137]; decide))).symm
          refine ⟨rfl, rfl, hF, h0, by rw [h1, if_neg hk], h2, ?_⟩
          rw [h4, hqe]
          unfold tE
          rw [if_neg (fun q9 => hk (tK_1.mpr q9))]
        · refine rn_aload_n dX5_advance_123 rfl rfl ?_
          refine rn_getR (r := 16) dX5_advance_124 fd_5_9 (sk_l hs 19 (by decide)) (sk_k19 hs) rfl (sk_r19_3 hs) ?_
          refine rn_aload_n dX5_advance_127 rfl rfl ?_
          refine rn_getI dX5_advance_128 fd_5_15 (sk_l hs 19 (by decide)) (sk_k19 hs) rfl ?_
          refine rn_top (y := nI q) (h4) ?_
          refine rn_callVq (st := []) dX5_advance_131 cf_5_24 (c_X3_byteV hs hT1 hB (by omega)) (by decide) (sk_l hs 16 (by decide)) (sk_k16 hs) rfl rfl (Nat.le_of_ble_eq_true rfl) ?_
          refine rn_callSq (st := []) dX5_advance_134 cf_5_48 (c_X5_letterV hB) (by decide) rfl rfl (Nat.le_of_ble_eq_true rfl) ?_
          refine rn_if_eqB (tgt := 153) dX5_advance_137 (by decide) (fun c_137 => ?_) (fun c_137 => ?_)
          · refine rn_return dX5_advance_153 rfl ?_
            have hqe : q = scn (isLt B) n (tS n B p) := by rw [← hsc]; exact (scn_e (fun h9 => by first | omega | exact absurd (decide_eq_true h9) (by rw [c_137]; decide))).symm
            refine ⟨rfl, rfl, hF, h0, by rw [h1, if_neg hk], h2, ?_⟩
            rw [h4, hqe]
            unfold tE
            rw [if_neg (fun q9 => hk (tK_1.mpr q9))]
          · refine rn_aload_n dX5_advance_140 rfl rfl ?_
            refine rn_dup dX5_advance_141 rfl ?_
            refine rn_getI dX5_advance_142 fd_5_15 (sk_l hs 19 (by decide)) (sk_k19 hs) rfl ?_
            refine rn_top (y := nI q) (h4) ?_
            refine rn_iconst (v := nI 1) dX5_advance_145 (by decide) ?_
            refine rn_iadd dX5_advance_146 ?_
            refine rn_top (nI_add _ _) ?_
            refine rn_putI dX5_advance_147 fd_5_15 (sk_l hs 19 (by decide)) (sk_k19 hs) rfl rfl (vp_nar_int _) rfl ?_
            refine rn_goto (tgt := 101) dX5_advance_150 (by decide) ?_
            have hqq := of_decide_eq_true c_137
            exact ih (q + 1) (by omega) (by omega) (by omega) (by rw [← scn_s hqq.1 hqq.2]; exact hsc) _ (fun b hb => by rw [am_up_a _ _ hb]; exact hF b hb) (by rw [am_up_k _ _ (by decide)]; exact h0) (by rw [am_up_k _ _ (by decide)]; exact h1) (by rw [am_up_k _ _ (by decide)]; exact h2) (by rw [am_up_at]) hk
  have K44 : ∀ I1 : am_I, (∀ b, b ≠ 19 → I1 b = I b) → I1 19 4 = nI (tS n B p) → am_Rn 2 Y_X5_advance (0, 0) 44 [some (.ref 19)] [] S I1 (fun r S' I' => r = none ∧ S' = S ∧ AD n B p I I') := by
    intro I1 hF h4
    have hT1 := hT.kept (hF 16 (by decide)) (hF 17 (by decide))
    have hTA : tX n B (am_up (am_up (am_up I1 19 0 (nI (tS n B p))) 19 1 (-1)) 19 2 (am_b (decide (n ≤ tS n B p)))) := hT1.kept (by rw [am_up_a _ _ (by decide), am_up_a _ _ (by decide), am_up_a _ _ (by decide)]) (by rw [am_up_a _ _ (by decide), am_up_a _ _ (by decide), am_up_a _ _ (by decide)])
    have J77 : am_Rn 2 Y_X5_advance (0, 0) 77 [some (.ref 19)] [.int (am_b (decide (n ≤ tS n B p))), .ref 19] S (am_up (am_up I1 19 0 (nI (tS n B p))) 19 1 (-1)) (fun r S' I' => r = none ∧ S' = S ∧ AD n B p I I') := by
      refine rn_putI dX5_advance_77 fd_5_38 (sk_l hs 19 (by decide)) (sk_k19 hs) rfl rfl (am_b_n _) (am_b_fit _) ?_
      refine rn_aload_n dX5_advance_80 rfl rfl ?_
      refine rn_getR (r := 16) dX5_advance_81 fd_5_9 (sk_l hs 19 (by decide)) (sk_k19 hs) rfl (sk_r19_3 hs) ?_
      refine rn_aload_n dX5_advance_84 rfl rfl ?_
      refine rn_getI dX5_advance_85 fd_5_15 (sk_l hs 19 (by decide)) (sk_k19 hs) rfl ?_
      refine rn_top (y := nI (tS n B p)) (by have h9 := h4; simp [am_up, va_up, h9]) ?_
      refine rn_callVq (st := []) dX5_advance_88 cf_5_24 (c_X3_byteV hs hTA hB (by omega)) (by decide) (sk_l hs 16 (by decide)) (sk_k16 hs) rfl rfl (Nat.le_of_ble_eq_true rfl) ?_
      refine rn_callSq (st := []) dX5_advance_91 cf_5_42 (c_X5_digitV hB) (by decide) rfl rfl (Nat.le_of_ble_eq_true rfl) ?_
      refine rn_if_eqB (tgt := 101) dX5_advance_94 (by decide) (fun c_94 => ?_) (fun c_94 => ?_)
      · exact L3 _ (tS n B p) (Nat.le_refl _) (Nat.le_refl _) hsn rfl _ (fun b hb => by rw [am_up_a _ _ hb, am_up_a _ _ hb, am_up_a _ _ hb]; exact hF b hb) (by rw [am_up_k _ _ (by decide), am_up_k _ _ (by decide), am_up_at]) (by rw [am_up_k _ _ (by decide), am_up_at]) (by rw [am_up_at]) (by rw [am_up_k _ _ (by decide), am_up_k _ _ (by decide), am_up_k _ _ (by decide)]; exact h4) (fun h9 => absurd (decide_eq_true (tK_1.mp h9)) (by rw [c_94]; decide))
      · have hdg := of_decide_eq_true c_94
        refine rn_aload_n dX5_advance_97 rfl rfl ?_
        refine rn_callV0 (st := []) dX5_advance_98 cf_5_45 (c_X5_takeNumber hs hTA hB hsn (by rw [am_up_k _ _ (by decide), am_up_k _ _ (by decide), am_up_k _ _ (by decide)]; exact h4)) (by decide) (sk_l hs 19 (by decide)) (sk_k19 hs) rfl rfl (Nat.le_of_ble_eq_true rfl) (fun r2 S2 I2 hq => ?_)
        obtain ⟨rfl, rfl, hG1, hG2, hG3, hG4⟩ := hq
        have hcl := cap_le (nvl B (tS n B p) (scn (isDg B) n (tS n B p) - tS n B p))
        have hcl2 : tN n B (tS n B p) ≤ 100 := hcl
        refine rn_aload_n dX5_advance_101 rfl rfl ?_
        refine rn_getI dX5_advance_102 fd_5_35 (sk_l hs 19 (by decide)) (sk_k19 hs) rfl ?_
        refine rn_top (y := nI (tN n B (tS n B p))) (hG3) ?_
        refine rn_iconst (v := (-1)) dX5_advance_105 (by decide) ?_
        refine rn_icmp_ne (tgt := 153) dX5_advance_106 (by decide) (fun c_106 => ?_) (fun c_106 => ?_)
        · refine rn_return dX5_advance_153 rfl ?_
          refine ⟨rfl, rfl, fun b hb => ?_, ?_, ?_, ?_, ?_⟩
          · rw [hG1 b hb, am_up_a _ _ hb, am_up_a _ _ hb, am_up_a _ _ hb]; exact hF b hb
          · rw [hG2 0 (by decide) (by decide), am_up_k _ _ (by decide), am_up_k _ _ (by decide), am_up_at]
          · rw [hG3, if_pos (tK_1.mpr hdg)]
          · rw [hG2 2 (by decide) (by decide), am_up_at]
          · rw [hG4]; unfold tE; rw [if_pos hdg]
        · exact absurd c_106 (fun h9 => by rw [z_eq, z_nI (by omega), z_m1] at h9; omega)
    refine rn_aload_n dX5_advance_44 rfl rfl ?_
    refine rn_aload_n dX5_advance_45 rfl rfl ?_
    refine rn_getI dX5_advance_46 fd_5_15 (sk_l hs 19 (by decide)) (sk_k19 hs) rfl ?_
    refine rn_top (y := nI (tS n B p)) (h4) ?_
    refine rn_putI dX5_advance_49 fd_5_32 (sk_l hs 19 (by decide)) (sk_k19 hs) rfl rfl (vp_nar_int _) rfl ?_
    refine rn_aload_n dX5_advance_52 rfl rfl ?_
    refine rn_iconst (v := (-1)) dX5_advance_53 (by decide) ?_
    refine rn_putI dX5_advance_54 fd_5_35 (sk_l hs 19 (by decide)) (sk_k19 hs) rfl rfl (vp_nar_int _) rfl ?_
    refine rn_aload_n dX5_advance_57 rfl rfl ?_
    refine rn_aload_n dX5_advance_58 rfl rfl ?_
    refine rn_getI dX5_advance_59 fd_5_15 (sk_l hs 19 (by decide)) (sk_k19 hs) rfl ?_
    refine rn_top (y := nI (tS n B p)) (by have h9 := h4; simp [am_up, va_up, h9]) ?_
    refine rn_aload_n dX5_advance_62 rfl rfl ?_
    refine rn_getR (r := 16) dX5_advance_63 fd_5_9 (sk_l hs 19 (by decide)) (sk_k19 hs) rfl (sk_r19_3 hs) ?_
    refine rn_getI dX5_advance_66 fd_5_19 (sk_l hs 16 (by decide)) (sk_k16 hs) rfl ?_
    refine rn_top (y := nI n) (by have h9 := hT1.1; simp [am_up, va_up, h9]) ?_
    refine rn_icmp_ltN (tgt := 76) dX5_advance_69 (by decide) (by omega) (by omega) (fun c_69 => ?_) (fun c_69 => ?_)
    · refine rn_iconst (v := nI 0) dX5_advance_76 (by decide) ?_
      refine rn_top (y := am_b (decide (n ≤ tS n B p))) (by rw [decide_eq_false (show ¬ n ≤ tS n B p by omega)]; rfl) ?_
      exact J77
    · refine rn_iconst (v := nI 1) dX5_advance_72 (by decide) ?_
      refine rn_goto (tgt := 77) dX5_advance_73 (by decide) ?_
      refine rn_top (y := am_b (decide (n ≤ tS n B p))) (by rw [decide_eq_true (show n ≤ tS n B p by omega)]; rfl) ?_
      exact J77
  have L1 : ∀ m q, n - q ≤ m → p ≤ q → q ≤ n → scn (isBk B) n q = tS n B p → ∀ I1 : am_I, (∀ b, b ≠ 19 → I1 b = I b) → I1 19 4 = nI q → am_Rn 2 Y_X5_advance (0, 0) 0 [some (.ref 19)] [] S I1 (fun r S' I' => r = none ∧ S' = S ∧ AD n B p I I') := by
    intro m
    induction m with
    | zero =>
      intro q hm hpq hqn hsc I1 hF h4
      have hT1 := hT.kept (hF 16 (by decide)) (hF 17 (by decide))
      refine rn_aload_n dX5_advance_0 rfl rfl ?_
      refine rn_getI dX5_advance_1 fd_5_15 (sk_l hs 19 (by decide)) (sk_k19 hs) rfl ?_
      refine rn_top (y := nI q) (h4) ?_
      refine rn_aload_n dX5_advance_4 rfl rfl ?_
      refine rn_getR (r := 16) dX5_advance_5 fd_5_9 (sk_l hs 19 (by decide)) (sk_k19 hs) rfl (sk_r19_3 hs) ?_
      refine rn_getI dX5_advance_8 fd_5_19 (sk_l hs 16 (by decide)) (sk_k16 hs) rfl ?_
      refine rn_top (y := nI n) (hT1.1) ?_
      refine rn_icmp_geN (tgt := 44) dX5_advance_11 (by decide) (by omega) (by omega) (fun c_11 => ?_) (fun c_11 => ?_)
      · have hqe : q = tS n B p := by rw [← hsc]; exact (scn_e (fun h9 => by first | omega | exact absurd (decide_eq_true h9) (by rw [c_28]; decide))).symm
        exact K44 I1 hF (by rw [h4, hqe])
      · omega
    | succ m ih =>
      intro q hm hpq hqn hsc I1 hF h4
      have hT1 := hT.kept (hF 16 (by decide)) (hF 17 (by decide))
      refine rn_aload_n dX5_advance_0 rfl rfl ?_
      refine rn_getI dX5_advance_1 fd_5_15 (sk_l hs 19 (by decide)) (sk_k19 hs) rfl ?_
      refine rn_top (y := nI q) (h4) ?_
      refine rn_aload_n dX5_advance_4 rfl rfl ?_
      refine rn_getR (r := 16) dX5_advance_5 fd_5_9 (sk_l hs 19 (by decide)) (sk_k19 hs) rfl (sk_r19_3 hs) ?_
      refine rn_getI dX5_advance_8 fd_5_19 (sk_l hs 16 (by decide)) (sk_k16 hs) rfl ?_
      refine rn_top (y := nI n) (hT1.1) ?_
      refine rn_icmp_geN (tgt := 44) dX5_advance_11 (by decide) (by omega) (by omega) (fun c_11 => ?_) (fun c_11 => ?_)
      · have hqe : q = tS n B p := by rw [← hsc]; exact (scn_e (fun h9 => by first | omega | exact absurd (decide_eq_true h9) (by rw [c_28]; decide))).symm
        exact K44 I1 hF (by rw [h4, hqe])
      · refine rn_aload_n dX5_advance_14 rfl rfl ?_
        refine rn_getR (r := 16) dX5_advance_15 fd_5_9 (sk_l hs 19 (by decide)) (sk_k19 hs) rfl (sk_r19_3 hs) ?_
        refine rn_aload_n dX5_advance_18 rfl rfl ?_
        refine rn_getI dX5_advance_19 fd_5_15 (sk_l hs 19 (by decide)) (sk_k19 hs) rfl ?_
        refine rn_top (y := nI q) (h4) ?_
        refine rn_callVq (st := []) dX5_advance_22 cf_5_24 (c_X3_byteV hs hT1 hB (by omega)) (by decide) (sk_l hs 16 (by decide)) (sk_k16 hs) rfl rfl (Nat.le_of_ble_eq_true rfl) ?_
        refine rn_callSq (st := []) dX5_advance_25 cf_5_28 (c_X5_blankV hB) (by decide) rfl rfl (Nat.le_of_ble_eq_true rfl) ?_
        refine rn_if_eqB (tgt := 44) dX5_advance_28 (by decide) (fun c_28 => ?_) (fun c_28 => ?_)
        · have hqe : q = tS n B p := by rw [← hsc]; exact (scn_e (fun h9 => by first | omega | exact absurd (decide_eq_true h9) (by rw [c_28]; decide))).symm
          exact K44 I1 hF (by rw [h4, hqe])
        · refine rn_aload_n dX5_advance_31 rfl rfl ?_
          refine rn_dup dX5_advance_32 rfl ?_
          refine rn_getI dX5_advance_33 fd_5_15 (sk_l hs 19 (by decide)) (sk_k19 hs) rfl ?_
          refine rn_top (y := nI q) (h4) ?_
          refine rn_iconst (v := nI 1) dX5_advance_36 (by decide) ?_
          refine rn_iadd dX5_advance_37 ?_
          refine rn_top (nI_add _ _) ?_
          refine rn_putI dX5_advance_38 fd_5_15 (sk_l hs 19 (by decide)) (sk_k19 hs) rfl rfl (vp_nar_int _) rfl ?_
          refine rn_goto (tgt := 0) dX5_advance_41 (by decide) ?_
          have hqq := of_decide_eq_true c_28
          exact ih (q + 1) (by omega) (by omega) (by omega) (by rw [← scn_s hqq.1 hqq.2]; exact hsc) _ (fun b hb => by rw [am_up_a _ _ hb]; exact hF b hb) (by rw [am_up_at])
  refine am_mt ⟨by decide +kernel, rfl⟩ (Nat.le_of_ble_eq_true rfl) rfl ?_
  exact L1 _ p (Nat.le_refl _) (Nat.le_refl _) hp rfl I (fun _ _ => rfl) h4
