def sumN (f : Nat → Nat) : Nat → Nat
  | 0 => 0
  | n + 1 => sumN f n + f n
theorem sumN_le {f : Nat → Nat} {b : Nat} (hf : ∀ k, f k ≤ b) (n : Nat) : sumN f n ≤ n * b := by
  induction n with
  | zero => simp [sumN]
  | succ n ih => simp only [sumN]; have := hf n; rw [Nat.succ_mul]; omega
theorem sumN_congr {f g : Nat → Nat} {n : Nat} (h : ∀ k, k < n → f k = g k) : sumN f n = sumN g n := by
  induction n with
  | zero => rfl
  | succ n ih => simp only [sumN]; rw [ih (fun k hk => h k (by omega)), h n (by omega)]
theorem sumN_0 (n : Nat) : sumN (fun _ => 0) n = 0 := by
  induction n with
  | zero => rfl
  | succ n ih => simp only [sumN, ih]
theorem sumN_add (f g : Nat → Nat) (n : Nat) : sumN (fun k => f k + g k) n = sumN f n + sumN g n := by
  induction n with
  | zero => rfl
  | succ n ih => simp only [sumN, ih]; omega
theorem sumN_swap (f : Nat → Nat → Nat) (n m : Nat) : sumN (fun i => sumN (fun j => f i j) m) n = sumN (fun j => sumN (fun i => f i j) n) m := by
  induction n with
  | zero => simp only [sumN]; exact (sumN_0 m).symm
  | succ n ih => simp only [sumN]; rw [ih, ← sumN_add]
theorem dot_sq {w h x y : Nat} (hx : x < w) (hy : y < h) : 2 * w * (2 * y) + 2 * x + 2 * w + 1 < 4 * w * h := by
  have h1 : 2 * w * (2 * y + 2) ≤ 2 * w * (2 * h) := Nat.mul_le_mul_left _ (by omega)
  have e : 2 * w * (2 * h) = 4 * w * h := by rw [show 4 * w * h = 2 * 2 * w * h by rfl]; simp only [Nat.mul_assoc, Nat.mul_left_comm, Nat.mul_comm]
  have e2 : 2 * w * (2 * y + 2) = 2 * w * (2 * y) + 2 * w * 2 := Nat.mul_add _ _ _
  omega
theorem dot_k {w x y k : Nat} (hk : k < 4) : 2 * w * (2 * y + k / 2) + 2 * x + k % 2 = 2 * w * (2 * y) + 2 * x + 2 * w * (k / 2) + k % 2 := by
  rw [Nat.mul_add]
  omega
theorem dot_lt {w h x y k : Nat} (hk : k < 4) (hx : x < w) (hy : y < h) : 2 * w * (2 * y + k / 2) + 2 * x + k % 2 < 4 * w * h := by
  have hd4 := dot_sq (w := w) (h := h) hx hy
  rw [dot_k hk]
  have h9 : k / 2 = 0 ∨ k / 2 = 1 := by omega
  rcases h9 with h9 | h9 <;> rw [h9] <;> omega
theorem dot_c4 (w h : Nat) (M : Nat → Nat → Nat) (l : Int32) (x y : Nat) : sumN (fun k => eqL w h M l (2 * w * (2 * y + k / 2) + 2 * x + k % 2)) 4 = c4 w h M l (2 * w * (2 * y) + 2 * x) := by
  simp only [sumN, c4]
  rw [dot_k (k := 0) (by omega), dot_k (k := 1) (by omega), dot_k (k := 2) (by omega), dot_k (k := 3) (by omega)]
  simp
set_option maxHeartbeats 1000000 in
set_option maxRecDepth 100000 in
theorem c_X8_held {S : am_S} (hs : sk S) {I : am_I} {w h x y : Nat} {M : Nat → Nat → Nat} (w8 : w ≤ 8) (h8 : h ≤ 8) (hw : I 45 0 = nI w) (hL : LX w h M I 49 50 51 52) (l : Int32) (hx : x < w) (hy : y < h) : am_Mt 0 Y_X8_held (0, 0) [.ref 44, .int l, .int (nI x), .int (nI y)] S I (am_q (some (.int (nI (c4 w h M l (2 * w * (2 * y) + 2 * x))))) S I) := by
  have h256 := sq_bound w8 h8
  have hd4 := dot_sq (w := w) (h := h) hx hy
  have LP : ∀ k, k ≤ 4 → am_Rn 0 Y_X8_held (0, 0) 6 [some (.ref 44), some (.int l), some (.int (nI x)), some (.int (nI y)), some (.int (nI (sumN (fun k => eqL w h M l (2 * w * (2 * y + k / 2) + 2 * x + k % 2)) k))), some (.int (nI k))] [] S I (am_q (some (.int (nI (c4 w h M l (2 * w * (2 * y) + 2 * x))))) S I) := by
    refine am_loop 4 (fun k hk ih => ?_)
    have J54 : k < 4 → am_Rn 0 Y_X8_held (0, 0) 54 [some (.ref 44), some (.int l), some (.int (nI x)), some (.int (nI y)), some (.int (nI (sumN (fun k => eqL w h M l (2 * w * (2 * y + k / 2) + 2 * x + k % 2)) k))), some (.int (nI k))] [.int (nI (eqL w h M l ((2 * w) * (2 * y + k / 2) + 2 * x + k % 2))), .int (nI (sumN (fun k => eqL w h M l (2 * w * (2 * y + k / 2) + 2 * x + k % 2)) k))] S I (am_q (some (.int (nI (c4 w h M l (2 * w * (2 * y) + 2 * x))))) S I) := by
      intro hk4
      refine rn_iadd dX8_held_54 ?_
      refine rn_top (nI_add _ _) ?_
      refine rn_istore (ls' := [some (.ref 44), some (.int l), some (.int (nI x)), some (.int (nI y)), some (.int (nI ((sumN (fun k => eqL w h M l (2 * w * (2 * y + k / 2) + 2 * x + k % 2)) k) + (eqL w h M l ((2 * w) * (2 * y + k / 2) + 2 * x + k % 2))))), some (.int (nI k))]) dX8_held_55 (by decide) rfl rfl ?_
      refine rn_iinc (v := nI (k + 1)) (ls' := [some (.ref 44), some (.int l), some (.int (nI x)), some (.int (nI y)), some (.int (nI ((sumN (fun k => eqL w h M l (2 * w * (2 * y + k / 2) + 2 * x + k % 2)) k) + (eqL w h M l ((2 * w) * (2 * y + k / 2) + 2 * x + k % 2))))), some (.int (nI (k + 1)))]) dX8_held_57 rfl (nI_add _ 1) (by decide) rfl rfl ?_
      refine rn_goto (tgt := 6) dX8_held_60 (by decide) ?_
      rw [show (sumN (fun k => eqL w h M l (2 * w * (2 * y + k / 2) + 2 * x + k % 2)) k) + (eqL w h M l ((2 * w) * (2 * y + k / 2) + 2 * x + k % 2)) = sumN (fun k => eqL w h M l (2 * w * (2 * y + k / 2) + 2 * x + k % 2)) (k + 1) from rfl]
      exact ih (by omega)
    refine rn_iload dX8_held_6 rfl ?_
    refine rn_iconst (v := nI 4) dX8_held_8 (by decide) ?_
    refine rn_icmp_geN (tgt := 63) dX8_held_9 (by decide) (by omega) (by omega) (fun c_9 => ?_) (fun c_9 => ?_)
    · refine rn_iload dX8_held_63 rfl ?_
      refine rn_ireturn dX8_held_65 rfl (vp_nar_int _) ?_
      obtain rfl : k = 4 := by omega
      rw [dot_c4]
      exact ⟨rfl, rfl, rfl⟩
    · have hsq : (2 * w) * (2 * y + k / 2) + 2 * x + k % 2 < 4 * w * h := dot_lt c_9 hx hy
      refine rn_iload dX8_held_12 rfl ?_
      refine rn_aload_n dX8_held_14 rfl rfl ?_
      refine rn_getR (r := 49) dX8_held_15 fd_8_24 (sk_l hs 44 (by decide)) (sk_k44 hs) rfl (sk_r44_5 hs) ?_
      refine rn_iconst (v := nI 2) dX8_held_18 (by decide) ?_
      refine rn_aload_n dX8_held_19 rfl rfl ?_
      refine rn_getR (r := 45) dX8_held_20 fd_8_7 (sk_l hs 44 (by decide)) (sk_k44 hs) rfl (sk_r44_0 hs) ?_
      refine rn_iconst (v := nI 0) dX8_held_23 (by decide) ?_
      refine rn_ialoadN dX8_held_24 (sk_l hs 45 (by decide)) (sk_k45 hs) (by omega) (by omega) ?_
      refine rn_top (y := nI w) (hw) ?_
      refine rn_imul dX8_held_25 ?_
      refine rn_top (pk_mul _ _) ?_
      refine rn_iconst (v := nI 2) dX8_held_26 (by decide) ?_
      refine rn_iload_n dX8_held_27 rfl rfl ?_
      refine rn_imul dX8_held_28 ?_
      refine rn_top (pk_mul _ _) ?_
      refine rn_iload dX8_held_29 rfl ?_
      refine rn_iconst (v := nI 2) dX8_held_31 (by decide) ?_
      refine rn_idiv dX8_held_32 (by decide) ?_
      refine rn_top (pk_div (by omega) (by omega) (by omega)) ?_
      refine rn_iadd dX8_held_33 ?_
      refine rn_top (nI_add _ _) ?_
      refine rn_imul dX8_held_34 ?_
      refine rn_top (pk_mul _ _) ?_
      refine rn_iconst (v := nI 2) dX8_held_35 (by decide) ?_
      refine rn_iload_n dX8_held_36 rfl rfl ?_
      refine rn_imul dX8_held_37 ?_
      refine rn_top (pk_mul _ _) ?_
      refine rn_iadd dX8_held_38 ?_
      refine rn_top (nI_add _ _) ?_
      refine rn_iload dX8_held_39 rfl ?_
      refine rn_iconst (v := nI 2) dX8_held_41 (by decide) ?_
      refine rn_irem dX8_held_42 (by decide) ?_
      refine rn_top (pk_rem (by omega) (by omega) (by omega)) ?_
      refine rn_iadd dX8_held_43 ?_
      refine rn_top (nI_add _ _) ?_
      refine rn_ialoadN dX8_held_44 (sk_l hs 49 (by decide)) (sk_k49 hs) (by omega) (by omega) ?_
      refine rn_top (y := nI (lnum w h M ((2 * w) * (2 * y + k / 2) + 2 * x + k % 2))) ((hL.1 _ hsq).1) ?_
      refine rn_iload_n dX8_held_45 rfl rfl ?_
      refine rn_icmp_ne (tgt := 53) dX8_held_46 (by decide) (fun c_46 => ?_) (fun c_46 => ?_)
      · refine rn_iconst (v := nI 0) dX8_held_53 (by decide) ?_
        refine rn_top (y := nI (eqL w h M l ((2 * w) * (2 * y + k / 2) + 2 * x + k % 2))) (by unfold eqL; first | rw [if_pos c_46] | rw [if_neg c_46]) ?_
        exact J54 (by omega)
      · refine rn_iconst (v := nI 1) dX8_held_49 (by decide) ?_
        refine rn_goto (tgt := 54) dX8_held_50 (by decide) ?_
        refine rn_top (y := nI (eqL w h M l ((2 * w) * (2 * y + k / 2) + 2 * x + k % 2))) (by unfold eqL; first | rw [if_pos c_46] | rw [if_neg c_46]) ?_
        exact J54 (by omega)
  refine am_mt ⟨by decide +kernel, rfl⟩ (Nat.le_of_ble_eq_true rfl) rfl ?_
  refine rn_iconst (v := nI 0) dX8_held_0 (by decide) ?_
  refine rn_istore (ls' := [some (.ref 44), some (.int l), some (.int (nI x)), some (.int (nI y)), some (.int (nI 0)), none]) dX8_held_1 (by decide) rfl rfl ?_
  refine rn_iconst (v := nI 0) dX8_held_3 (by decide) ?_
  refine rn_istore (ls' := [some (.ref 44), some (.int l), some (.int (nI x)), some (.int (nI y)), some (.int (nI 0)), some (.int (nI 0))]) dX8_held_4 (by decide) rfl rfl ?_
  exact LP 0 (by omega)
def isDot (w h : Nat) (x y : Int32) : Prop := (0 ≤ x.toInt ∧ x.toInt < (w : Int)) ∧ 0 ≤ y.toInt ∧ y.toInt < (h : Int)
noncomputable def vHolds (w h : Nat) (M : Nat → Nat → Nat) (l x y : Int32) : Int32 := if pb (isLn w h M l ∧ isDot w h x y) = true then nI (c4 w h M l (2 * w * (2 * y.toInt.toNat) + 2 * x.toInt.toNat)) else -1
set_option maxHeartbeats 1000000 in
set_option maxRecDepth 100000 in
theorem c_X7_holds {S : am_S} (hs : sk S) {I : am_I} {w h : Nat} {M : Nat → Nat → Nat} (w1 : 1 ≤ w) (w8 : w ≤ 8) (h1 : 1 ≤ h) (h8 : h ≤ 8) (hok : okM w h M) (hX : XL w h M I) (l x y : Int32) : am_Mt 5 Y_X7_holds (0, 0) [.ref 0, .int l, .int x, .int y] S I (fun r S' I' => r = some (.int (vHolds w h M l x y)) ∧ S' = S ∧ KW w h M I I') := by
  have h256 := sq_bound w8 h8
  have hcn := lcnt_le (h := h) (M := M) w1
  by_cases hC : isLn w h M l ∧ isDot w h x y
  · obtain ⟨hl, hd⟩ := id hC
    obtain ⟨a, ha, rfl⟩ : ∃ a, a < w ∧ x = nI a := ⟨x.toInt.toNat, by have := hd.1; omega, z_nat hd.1.1⟩
    obtain ⟨b, hb, rfl⟩ : ∃ b, b < h ∧ y = nI b := ⟨y.toInt.toNat, by have := hd.2; omega, z_nat hd.2.1⟩
    have ea := z_nI (n := a) (by omega)
    have eb := z_nI (n := b) (by omega)
    have hdt := dot_sq (w := w) (h := h) ha hb
    unfold vHolds
    rw [pb_t hC, if_pos rfl, show (nI a).toInt.toNat = a by rw [ea]; omega, show (nI b).toInt.toNat = b by rw [eb]; omega]
    refine am_mt ⟨by decide +kernel, rfl⟩ (Nat.le_of_ble_eq_true rfl) rfl ?_
    refine rn_aload_n dX7_holds_0 rfl rfl ?_
    refine rn_callV0 (st := []) dX7_holds_1 cf_7_103 (c_X7_knowLines hs w1 w8 h1 h8 hok hX) (by decide) (sk_l hs 0 (by decide)) (sk_k0 hs) rfl rfl (Nat.le_of_ble_eq_true rfl) (fun r1 S1 I1 hq => ?_)
    obtain ⟨rfl, rfl, hK⟩ := hq
    have hD1 := hK.dr hX
    refine rn_aload_n dX7_holds_4 rfl rfl ?_
    refine rn_getR (r := 7) dX7_holds_5 fd_7_43 (sk_l hs 0 (by decide)) (sk_k0 hs) rfl (sk_r0_4 hs) ?_
    refine rn_iload_n dX7_holds_8 rfl rfl ?_
    refine rn_callVq (st := []) dX7_holds_9 cf_7_118 (c_X2_isLine hs hK.2.2.2.2 (by omega) l) (by decide) (sk_l hs 7 (by decide)) (sk_k7 hs) rfl rfl (Nat.le_of_ble_eq_true rfl) ?_
    refine rn_if_eqB (tgt := 45) dX7_holds_12 (by decide) (fun c_12 => ?_) (fun c_12 => ?_)
    · exact absurd hl (of_decide_eq_false (p := 0 ≤ l.toInt ∧ l.toInt < (lcnt w h M : Int)) c_12)
    · refine rn_iload_n dX7_holds_15 rfl rfl ?_
      refine rn_if_ltN (tgt := 45) dX7_holds_16 (by omega) (by decide) ?_
      refine rn_iload_n dX7_holds_19 rfl rfl ?_
      refine rn_aload_n dX7_holds_20 rfl rfl ?_
      refine rn_getR (r := 1) dX7_holds_21 fd_7_10 (sk_l hs 0 (by decide)) (sk_k0 hs) rfl (sk_r0_0 hs) ?_
      refine rn_getI dX7_holds_24 fd_7_133 (sk_l hs 1 (by decide)) (sk_k1 hs) rfl ?_
      refine rn_top (y := nI w) (hD1.1) ?_
      refine rn_icmp_geN (tgt := 45) dX7_holds_27 (by decide) (by omega) (by omega) (fun c_27 => ?_) (fun c_27 => ?_)
      · omega
      · refine rn_iload_n dX7_holds_30 rfl rfl ?_
        refine rn_if_ltN (tgt := 45) dX7_holds_31 (by omega) (by decide) ?_
        refine rn_iload_n dX7_holds_34 rfl rfl ?_
        refine rn_aload_n dX7_holds_35 rfl rfl ?_
        refine rn_getR (r := 1) dX7_holds_36 fd_7_10 (sk_l hs 0 (by decide)) (sk_k0 hs) rfl (sk_r0_0 hs) ?_
        refine rn_getI dX7_holds_39 fd_7_136 (sk_l hs 1 (by decide)) (sk_k1 hs) rfl ?_
        refine rn_top (y := nI h) (hD1.2.1) ?_
        refine rn_icmp_ltN (tgt := 47) dX7_holds_42 (by decide) (by omega) (by omega) (fun c_42 => ?_) (fun c_42 => ?_)
        · refine rn_aload_n dX7_holds_47 rfl rfl ?_
          refine rn_iload_n dX7_holds_48 rfl rfl ?_
          refine rn_iconst (v := nI 2) dX7_holds_49 (by decide) ?_
          refine rn_iload_n dX7_holds_50 rfl rfl ?_
          refine rn_imul dX7_holds_51 ?_
          refine rn_top (pk_mul _ _) ?_
          refine rn_iconst (v := nI 1) dX7_holds_52 (by decide) ?_
          refine rn_iadd dX7_holds_53 ?_
          refine rn_top (nI_add _ _) ?_
          refine rn_iconst (v := nI 2) dX7_holds_54 (by decide) ?_
          refine rn_iload_n dX7_holds_55 rfl rfl ?_
          refine rn_imul dX7_holds_56 ?_
          refine rn_top (pk_mul _ _) ?_
          refine rn_iconst (v := nI 1) dX7_holds_57 (by decide) ?_
          refine rn_iadd dX7_holds_58 ?_
          refine rn_top (nI_add _ _) ?_
          refine rn_callVq (st := []) dX7_holds_59 cf_7_139 (c_X7_squaresRound hs (x := 2 * w * (2 * b) + 2 * a) w8 h8 hD1 hK.2.2.2.1 l (by rw [Nat.mul_add]; omega) hdt) (by decide) (sk_l hs 0 (by decide)) (sk_k0 hs) rfl rfl (Nat.le_of_ble_eq_true rfl) ?_
          refine rn_ireturn dX7_holds_62 rfl (vp_nar_int _) ?_
          exact ⟨rfl, rfl, hK.kw hX⟩
        · omega
  · unfold vHolds
    rw [pb_f hC, if_neg (by decide)]
    refine am_mt ⟨by decide +kernel, rfl⟩ (Nat.le_of_ble_eq_true rfl) rfl ?_
    refine rn_aload_n dX7_holds_0 rfl rfl ?_
    refine rn_callV0 (st := []) dX7_holds_1 cf_7_103 (c_X7_knowLines hs w1 w8 h1 h8 hok hX) (by decide) (sk_l hs 0 (by decide)) (sk_k0 hs) rfl rfl (Nat.le_of_ble_eq_true rfl) (fun r1 S1 I1 hq => ?_)
    obtain ⟨rfl, rfl, hK⟩ := hq
    have hD1 := hK.dr hX
    refine rn_aload_n dX7_holds_4 rfl rfl ?_
    refine rn_getR (r := 7) dX7_holds_5 fd_7_43 (sk_l hs 0 (by decide)) (sk_k0 hs) rfl (sk_r0_4 hs) ?_
    refine rn_iload_n dX7_holds_8 rfl rfl ?_
    refine rn_callVq (st := []) dX7_holds_9 cf_7_118 (c_X2_isLine hs hK.2.2.2.2 (by omega) l) (by decide) (sk_l hs 7 (by decide)) (sk_k7 hs) rfl rfl (Nat.le_of_ble_eq_true rfl) ?_
    refine rn_if_eqB (tgt := 45) dX7_holds_12 (by decide) (fun c_12 => ?_) (fun c_12 => ?_)
    · refine rn_iconst (v := (-1)) dX7_holds_45 (by decide) ?_
      refine rn_ireturn dX7_holds_46 rfl (vp_nar_int _) ?_
      exact ⟨rfl, rfl, hK.kw hX⟩
    · refine rn_iload_n dX7_holds_15 rfl rfl ?_
      refine rn_if_lt (tgt := 45) dX7_holds_16 (by decide) (fun c_16 => ?_) (fun c_16 => ?_)
      · refine rn_iconst (v := (-1)) dX7_holds_45 (by decide) ?_
        refine rn_ireturn dX7_holds_46 rfl (vp_nar_int _) ?_
        exact ⟨rfl, rfl, hK.kw hX⟩
      · refine rn_iload_n dX7_holds_19 rfl rfl ?_
        refine rn_aload_n dX7_holds_20 rfl rfl ?_
        refine rn_getR (r := 1) dX7_holds_21 fd_7_10 (sk_l hs 0 (by decide)) (sk_k0 hs) rfl (sk_r0_0 hs) ?_
        refine rn_getI dX7_holds_24 fd_7_133 (sk_l hs 1 (by decide)) (sk_k1 hs) rfl ?_
        refine rn_top (y := nI w) (hD1.1) ?_
        refine rn_icmp_ge (tgt := 45) dX7_holds_27 (by decide) (fun c_27 => ?_) (fun c_27 => ?_)
        · refine rn_iconst (v := (-1)) dX7_holds_45 (by decide) ?_
          refine rn_ireturn dX7_holds_46 rfl (vp_nar_int _) ?_
          exact ⟨rfl, rfl, hK.kw hX⟩
        · refine rn_iload_n dX7_holds_30 rfl rfl ?_
          refine rn_if_lt (tgt := 45) dX7_holds_31 (by decide) (fun c_31 => ?_) (fun c_31 => ?_)
          · refine rn_iconst (v := (-1)) dX7_holds_45 (by decide) ?_
            refine rn_ireturn dX7_holds_46 rfl (vp_nar_int _) ?_
            exact ⟨rfl, rfl, hK.kw hX⟩
          · refine rn_iload_n dX7_holds_34 rfl rfl ?_
            refine rn_aload_n dX7_holds_35 rfl rfl ?_
            refine rn_getR (r := 1) dX7_holds_36 fd_7_10 (sk_l hs 0 (by decide)) (sk_k0 hs) rfl (sk_r0_0 hs) ?_
            refine rn_getI dX7_holds_39 fd_7_136 (sk_l hs 1 (by decide)) (sk_k1 hs) rfl ?_
            refine rn_top (y := nI h) (hD1.2.1) ?_
            refine rn_icmp_lt (tgt := 47) dX7_holds_42 (by decide) (fun c_42 => ?_) (fun c_42 => ?_)
            · exact absurd ⟨of_decide_eq_true (p := 0 ≤ l.toInt ∧ l.toInt < (lcnt w h M : Int)) c_12, ⟨by rw [z_lt, z_0] at c_16; omega, by rw [z_le, z_nI (by omega)] at c_27; omega⟩, by rw [z_lt, z_0] at c_31; omega, by rw [z_lt, z_nI (by omega)] at c_42; omega⟩ hC
            · refine rn_iconst (v := (-1)) dX7_holds_45 (by decide) ?_
              refine rn_ireturn dX7_holds_46 rfl (vp_nar_int _) ?_
              exact ⟨rfl, rfl, hK.kw hX⟩
set_option maxHeartbeats 1000000 in
set_option maxRecDepth 100000 in
theorem c_X8_holds {S : am_S} (hs : sk S) {I : am_I} {w h : Nat} {M : Nat → Nat → Nat} (w1 : 1 ≤ w) (w8 : w ≤ 8) (h1 : 1 ≤ h) (h8 : h ≤ 8) (hok : okM w h M) (hG : isGr I 0 w h M) (l x y : Int32) : am_Mt 5 Y_X8_holds (0, 0) [.ref 44, .int l, .int x, .int y] S I (fun r S' I' => r = some (.int (vHolds w h M l x y)) ∧ S' = S ∧ KM I I') := by
  have h256 := sq_bound w8 h8
  have hcn := lcnt_le (h := h) (M := M) w1
  have hpp := lcnt_pos (M := M) w1 h1
  have e0 := z_nI (n := 0) (by decide)
  have ew := z_nI (n := w - 1) (by omega)
  have eh := z_nI (n := h - 1) (by omega)
  by_cases hC : isLn w h M l ∧ isDot w h x y
  · obtain ⟨hl, hd⟩ := id hC
    obtain ⟨a, ha, rfl⟩ : ∃ a, a < w ∧ x = nI a := ⟨x.toInt.toNat, by have := hd.1; omega, z_nat hd.1.1⟩
    obtain ⟨b, hb, rfl⟩ : ∃ b, b < h ∧ y = nI b := ⟨y.toInt.toNat, by have := hd.2; omega, z_nat hd.2.1⟩
    have ea := z_nI (n := a) (by omega)
    have eb := z_nI (n := b) (by omega)
    have hdt := dot_sq (w := w) (h := h) ha hb
    unfold vHolds
    rw [pb_t hC, if_pos rfl, show (nI a).toInt.toNat = a by rw [ea]; omega, show (nI b).toInt.toNat = b by rw [eb]; omega]
    refine am_mt ⟨by decide +kernel, rfl⟩ (Nat.le_of_ble_eq_true rfl) rfl ?_
    refine rn_aload_n dX8_holds_0 rfl rfl ?_
    refine rn_callV0 (st := []) dX8_holds_1 cf_8_92 (c_X8_walkAll hs w1 w8 h1 h8 hok hG) (by decide) (sk_l hs 44 (by decide)) (sk_k44 hs) rfl rfl (Nat.le_of_ble_eq_true rfl) (fun r1 S1 I1 hq => ?_)
    obtain ⟨rfl, rfl, hF, hE⟩ := hq
    have hLX := LX_of w1 hF.1 hE
    have hKM := FB_km hF
    have hn1 : I1 44 4 = nI (lcnt w h M) := hF.2.1
    refine rn_iload_n dX8_holds_4 rfl rfl ?_
    refine rn_iconst (v := nI 0) dX8_holds_5 (by decide) ?_
    refine rn_aload_n dX8_holds_6 rfl rfl ?_
    refine rn_getI dX8_holds_7 fd_8_85 (sk_l hs 44 (by decide)) (sk_k44 hs) rfl ?_
    refine rn_top (y := nI (lcnt w h M)) (hn1) ?_
    refine rn_iconst (v := nI 1) dX8_holds_10 (by decide) ?_
    refine rn_isub dX8_holds_11 ?_
    refine rn_top (pk_sub (by omega)) ?_
    refine rn_callSq (st := []) dX8_holds_12 cf_8_70 (c_X8_isIn _ I1 _ _ _) (by decide) rfl rfl (Nat.le_of_ble_eq_true rfl) ?_
    refine rn_if_eqB (tgt := 60) dX8_holds_15 (by decide) (fun c_15 => ?_) (fun c_15 => ?_)
    · exact absurd ((isLn_dec w1 w8 h1 h8 _).mpr hl) (by rw [c_15]; decide)
    · refine rn_iload_n dX8_holds_18 rfl rfl ?_
      refine rn_iconst (v := nI 0) dX8_holds_19 (by decide) ?_
      refine rn_aload_n dX8_holds_20 rfl rfl ?_
      refine rn_getR (r := 45) dX8_holds_21 fd_8_7 (sk_l hs 44 (by decide)) (sk_k44 hs) rfl (sk_r44_0 hs) ?_
      refine rn_iconst (v := nI 0) dX8_holds_24 (by decide) ?_
      refine rn_ialoadN dX8_holds_25 (sk_l hs 45 (by decide)) (sk_k45 hs) (by omega) (by omega) ?_
      refine rn_top (y := nI w) ((hKM.gr hG).1) ?_
      refine rn_iconst (v := nI 1) dX8_holds_26 (by decide) ?_
      refine rn_isub dX8_holds_27 ?_
      refine rn_top (pk_sub (by omega)) ?_
      refine rn_callSq (st := []) dX8_holds_28 cf_8_70 (c_X8_isIn _ I1 _ _ _) (by decide) rfl rfl (Nat.le_of_ble_eq_true rfl) ?_
      refine rn_if_eqB (tgt := 60) dX8_holds_31 (by decide) (fun c_31 => ?_) (fun c_31 => ?_)
      · exact absurd c_31 (by rw [e0, ew, ea]; simp; omega)
      · refine rn_iload_n dX8_holds_34 rfl rfl ?_
        refine rn_iconst (v := nI 0) dX8_holds_35 (by decide) ?_
        refine rn_aload_n dX8_holds_36 rfl rfl ?_
        refine rn_getR (r := 46) dX8_holds_37 fd_8_13 (sk_l hs 44 (by decide)) (sk_k44 hs) rfl (sk_r44_1 hs) ?_
        refine rn_iconst (v := nI 0) dX8_holds_40 (by decide) ?_
        refine rn_ialoadN dX8_holds_41 (sk_l hs 46 (by decide)) (sk_k46 hs) (by omega) (by omega) ?_
        refine rn_top (y := nI h) ((hKM.gr hG).2.1) ?_
        refine rn_iconst (v := nI 1) dX8_holds_42 (by decide) ?_
        refine rn_isub dX8_holds_43 ?_
        refine rn_top (pk_sub (by omega)) ?_
        refine rn_callSq (st := []) dX8_holds_44 cf_8_70 (c_X8_isIn _ I1 _ _ _) (by decide) rfl rfl (Nat.le_of_ble_eq_true rfl) ?_
        refine rn_if_eqB (tgt := 60) dX8_holds_47 (by decide) (fun c_47 => ?_) (fun c_47 => ?_)
        · exact absurd c_47 (by rw [e0, eh, eb]; simp; omega)
        · refine rn_aload_n dX8_holds_50 rfl rfl ?_
          refine rn_iload_n dX8_holds_51 rfl rfl ?_
          refine rn_iload_n dX8_holds_52 rfl rfl ?_
          refine rn_iload_n dX8_holds_53 rfl rfl ?_
          refine rn_callVq (st := []) dX8_holds_54 cf_8_99 (c_X8_held hs w8 h8 (hKM.gr hG).1 hLX l ha hb) (by decide) (sk_l hs 44 (by decide)) (sk_k44 hs) rfl rfl (Nat.le_of_ble_eq_true rfl) ?_
          refine rn_goto (tgt := 61) dX8_holds_57 (by decide) ?_
          refine rn_ireturn dX8_holds_61 rfl (vp_nar_int _) ?_
          exact ⟨rfl, rfl, hKM⟩
  · unfold vHolds
    rw [pb_f hC, if_neg (by decide)]
    refine am_mt ⟨by decide +kernel, rfl⟩ (Nat.le_of_ble_eq_true rfl) rfl ?_
    refine rn_aload_n dX8_holds_0 rfl rfl ?_
    refine rn_callV0 (st := []) dX8_holds_1 cf_8_92 (c_X8_walkAll hs w1 w8 h1 h8 hok hG) (by decide) (sk_l hs 44 (by decide)) (sk_k44 hs) rfl rfl (Nat.le_of_ble_eq_true rfl) (fun r1 S1 I1 hq => ?_)
    obtain ⟨rfl, rfl, hF, hE⟩ := hq
    have hLX := LX_of w1 hF.1 hE
    have hKM := FB_km hF
    have hn1 : I1 44 4 = nI (lcnt w h M) := hF.2.1
    refine rn_iload_n dX8_holds_4 rfl rfl ?_
    refine rn_iconst (v := nI 0) dX8_holds_5 (by decide) ?_
    refine rn_aload_n dX8_holds_6 rfl rfl ?_
    refine rn_getI dX8_holds_7 fd_8_85 (sk_l hs 44 (by decide)) (sk_k44 hs) rfl ?_
    refine rn_top (y := nI (lcnt w h M)) (hn1) ?_
    refine rn_iconst (v := nI 1) dX8_holds_10 (by decide) ?_
    refine rn_isub dX8_holds_11 ?_
    refine rn_top (pk_sub (by omega)) ?_
    refine rn_callSq (st := []) dX8_holds_12 cf_8_70 (c_X8_isIn _ I1 _ _ _) (by decide) rfl rfl (Nat.le_of_ble_eq_true rfl) ?_
    refine rn_if_eqB (tgt := 60) dX8_holds_15 (by decide) (fun c_15 => ?_) (fun c_15 => ?_)
    · refine rn_iconst (v := (-1)) dX8_holds_60 (by decide) ?_
      refine rn_ireturn dX8_holds_61 rfl (vp_nar_int _) ?_
      exact ⟨rfl, rfl, hKM⟩
    · refine rn_iload_n dX8_holds_18 rfl rfl ?_
      refine rn_iconst (v := nI 0) dX8_holds_19 (by decide) ?_
      refine rn_aload_n dX8_holds_20 rfl rfl ?_
      refine rn_getR (r := 45) dX8_holds_21 fd_8_7 (sk_l hs 44 (by decide)) (sk_k44 hs) rfl (sk_r44_0 hs) ?_
      refine rn_iconst (v := nI 0) dX8_holds_24 (by decide) ?_
      refine rn_ialoadN dX8_holds_25 (sk_l hs 45 (by decide)) (sk_k45 hs) (by omega) (by omega) ?_
      refine rn_top (y := nI w) ((hKM.gr hG).1) ?_
      refine rn_iconst (v := nI 1) dX8_holds_26 (by decide) ?_
      refine rn_isub dX8_holds_27 ?_
      refine rn_top (pk_sub (by omega)) ?_
      refine rn_callSq (st := []) dX8_holds_28 cf_8_70 (c_X8_isIn _ I1 _ _ _) (by decide) rfl rfl (Nat.le_of_ble_eq_true rfl) ?_
      refine rn_if_eqB (tgt := 60) dX8_holds_31 (by decide) (fun c_31 => ?_) (fun c_31 => ?_)
      · refine rn_iconst (v := (-1)) dX8_holds_60 (by decide) ?_
        refine rn_ireturn dX8_holds_61 rfl (vp_nar_int _) ?_
        exact ⟨rfl, rfl, hKM⟩
      · refine rn_iload_n dX8_holds_34 rfl rfl ?_
        refine rn_iconst (v := nI 0) dX8_holds_35 (by decide) ?_
        refine rn_aload_n dX8_holds_36 rfl rfl ?_
        refine rn_getR (r := 46) dX8_holds_37 fd_8_13 (sk_l hs 44 (by decide)) (sk_k44 hs) rfl (sk_r44_1 hs) ?_
        refine rn_iconst (v := nI 0) dX8_holds_40 (by decide) ?_
        refine rn_ialoadN dX8_holds_41 (sk_l hs 46 (by decide)) (sk_k46 hs) (by omega) (by omega) ?_
        refine rn_top (y := nI h) ((hKM.gr hG).2.1) ?_
        refine rn_iconst (v := nI 1) dX8_holds_42 (by decide) ?_
        refine rn_isub dX8_holds_43 ?_
        refine rn_top (pk_sub (by omega)) ?_
        refine rn_callSq (st := []) dX8_holds_44 cf_8_70 (c_X8_isIn _ I1 _ _ _) (by decide) rfl rfl (Nat.le_of_ble_eq_true rfl) ?_
        refine rn_if_eqB (tgt := 60) dX8_holds_47 (by decide) (fun c_47 => ?_) (fun c_47 => ?_)
        · refine rn_iconst (v := (-1)) dX8_holds_60 (by decide) ?_
          refine rn_ireturn dX8_holds_61 rfl (vp_nar_int _) ?_
          exact ⟨rfl, rfl, hKM⟩
        · exact absurd ⟨(isLn_dec w1 w8 h1 h8 _).mp c_15, by have h9 := of_decide_eq_true c_31; rw [e0, ew] at h9; omega, by have h9 := of_decide_eq_true c_47; rw [e0, eh] at h9; omega⟩ hC
set_option maxHeartbeats 1000000 in
set_option maxRecDepth 100000 in
theorem c_X7_dotsHeld {S : am_S} (hs : sk S) {I : am_I} {w h m : Nat} {M : Nat → Nat → Nat} (w8 : w ≤ 8) (h8 : h ≤ 8) (hX : isDr I 1 2 w h M) (hL : LX w h M I 8 9 10 11) (l : Int32) (hm : m ≤ 4) : am_Mt 2 Y_X7_dotsHeld (0, 0) [.ref 0, .int l, .int (nI m)] S I (am_q (some (.int (nI (sumN (fun y => sumN (fun x => (if m ≤ c4 w h M l (2 * w * (2 * y) + 2 * x) then 1 else 0)) w) h)))) S I) := by
  have h256 := sq_bound w8 h8
  have LY : ∀ b, b ≤ h → am_Rn 2 Y_X7_dotsHeld (0, 0) 5 [some (.ref 0), some (.int l), some (.int (nI m)), some (.int (nI (sumN (fun y => sumN (fun x => (if m ≤ c4 w h M l (2 * w * (2 * y) + 2 * x) then 1 else 0)) w) b))), some (.int (nI b)), none] [] S I (am_q (some (.int (nI (sumN (fun y => sumN (fun x => (if m ≤ c4 w h M l (2 * w * (2 * y) + 2 * x) then 1 else 0)) w) h)))) S I) := by
    refine am_loop h (fun b hb2 ihy => ?_)
    have LX2 : b < h → ∀ a, a ≤ w → am_Rn 2 Y_X7_dotsHeld (0, 0) 20 [some (.ref 0), some (.int l), some (.int (nI m)), some (.int (nI (sumN (fun y => sumN (fun x => (if m ≤ c4 w h M l (2 * w * (2 * y) + 2 * x) then 1 else 0)) w) b + sumN (fun x => (if m ≤ c4 w h M l (2 * w * (2 * b) + 2 * x) then 1 else 0)) a))), some (.int (nI b)), some (.int (nI a))] [] S I (am_q (some (.int (nI (sumN (fun y => sumN (fun x => (if m ≤ c4 w h M l (2 * w * (2 * y) + 2 * x) then 1 else 0)) w) h)))) S I) := by
      intro hb
      refine am_loop w (fun a ha ih => ?_)
      refine rn_iload dX7_dotsHeld_20 rfl ?_
      refine rn_aload_n dX7_dotsHeld_22 rfl rfl ?_
      refine rn_getR (r := 1) dX7_dotsHeld_23 fd_7_10 (sk_l hs 0 (by decide)) (sk_k0 hs) rfl (sk_r0_0 hs) ?_
      refine rn_getI dX7_dotsHeld_26 fd_7_133 (sk_l hs 1 (by decide)) (sk_k1 hs) rfl ?_
      refine rn_top (y := nI w) (hX.1) ?_
      refine rn_icmp_geN (tgt := 62) dX7_dotsHeld_29 (by decide) (by omega) (by omega) (fun c_29 => ?_) (fun c_29 => ?_)
      · refine rn_iinc (v := nI (b + 1)) (ls' := [some (.ref 0), some (.int l), some (.int (nI m)), some (.int (nI (sumN (fun y => sumN (fun x => (if m ≤ c4 w h M l (2 * w * (2 * y) + 2 * x) then 1 else 0)) w) b + sumN (fun x => (if m ≤ c4 w h M l (2 * w * (2 * b) + 2 * x) then 1 else 0)) a))), some (.int (nI (b + 1))), some (.int (nI a))]) dX7_dotsHeld_62 rfl (nI_add _ 1) (by decide) rfl rfl ?_
        refine rn_goto (tgt := 5) dX7_dotsHeld_65 (by decide) ?_
        refine rn_ls (ls' := [some (.ref 0), some (.int l), some (.int (nI m)), some (.int (nI (sumN (fun y => sumN (fun x => (if m ≤ c4 w h M l (2 * w * (2 * y) + 2 * x) then 1 else 0)) w) b + sumN (fun x => (if m ≤ c4 w h M l (2 * w * (2 * b) + 2 * x) then 1 else 0)) a))), some (.int (nI (b + 1))), none]) rfl (fun k x h => by rcases k with _ | _ | _ | _ | _ | _ | k <;> first | exact h | (simp at h)) ?_
        obtain rfl : a = w := by omega
        exact ihy hb
      · refine rn_aload_n dX7_dotsHeld_32 rfl rfl ?_
        refine rn_iload_n dX7_dotsHeld_33 rfl rfl ?_
        refine rn_iconst (v := nI 2) dX7_dotsHeld_34 (by decide) ?_
        refine rn_iload dX7_dotsHeld_35 rfl ?_
        refine rn_imul dX7_dotsHeld_37 ?_
        refine rn_top (pk_mul _ _) ?_
        refine rn_iconst (v := nI 1) dX7_dotsHeld_38 (by decide) ?_
        refine rn_iadd dX7_dotsHeld_39 ?_
        refine rn_top (nI_add _ _) ?_
        refine rn_iconst (v := nI 2) dX7_dotsHeld_40 (by decide) ?_
        refine rn_iload dX7_dotsHeld_41 rfl ?_
        refine rn_imul dX7_dotsHeld_43 ?_
        refine rn_top (pk_mul _ _) ?_
        refine rn_iconst (v := nI 1) dX7_dotsHeld_44 (by decide) ?_
        refine rn_iadd dX7_dotsHeld_45 ?_
        refine rn_top (nI_add _ _) ?_
        refine rn_callVq (st := []) dX7_dotsHeld_46 cf_7_139 (c_X7_squaresRound hs (x := 2 * w * (2 * b) + 2 * a) w8 h8 hX hL l (by rw [Nat.mul_add]; omega) (dot_sq c_29 hb)) (by decide) (sk_l hs 0 (by decide)) (sk_k0 hs) rfl rfl (Nat.le_of_ble_eq_true rfl) ?_
        have hc4 := c4_le w h M l (2 * w * (2 * b) + 2 * a)
        refine rn_iload_n dX7_dotsHeld_49 rfl rfl ?_
        refine rn_icmp_ltN (tgt := 56) dX7_dotsHeld_50 (by decide) (by omega) (by omega) (fun c_50 => ?_) (fun c_50 => ?_)
        · refine rn_iinc (v := nI (a + 1)) (ls' := [some (.ref 0), some (.int l), some (.int (nI m)), some (.int (nI (sumN (fun y => sumN (fun x => (if m ≤ c4 w h M l (2 * w * (2 * y) + 2 * x) then 1 else 0)) w) b + sumN (fun x => (if m ≤ c4 w h M l (2 * w * (2 * b) + 2 * x) then 1 else 0)) a))), some (.int (nI b)), some (.int (nI (a + 1)))]) dX7_dotsHeld_56 rfl (nI_add _ 1) (by decide) rfl rfl ?_
          refine rn_goto (tgt := 20) dX7_dotsHeld_59 (by decide) ?_
          have ih1 := ih c_29
          simp only [sumN] at ih1
          rw [if_neg (show ¬ m ≤ c4 w h M l (2 * w * (2 * b) + 2 * a) by omega)] at ih1
          exact ih1
        · refine rn_iinc (v := nI ((sumN (fun y => sumN (fun x => (if m ≤ c4 w h M l (2 * w * (2 * y) + 2 * x) then 1 else 0)) w) b + sumN (fun x => (if m ≤ c4 w h M l (2 * w * (2 * b) + 2 * x) then 1 else 0)) a) + 1)) (ls' := [some (.ref 0), some (.int l), some (.int (nI m)), some (.int (nI ((sumN (fun y => sumN (fun x => (if m ≤ c4 w h M l (2 * w * (2 * y) + 2 * x) then 1 else 0)) w) b + sumN (fun x => (if m ≤ c4 w h M l (2 * w * (2 * b) + 2 * x) then 1 else 0)) a) + 1))), some (.int (nI b)), some (.int (nI a))]) dX7_dotsHeld_53 rfl (nI_add _ 1) (by decide) rfl rfl ?_
          refine rn_iinc (v := nI (a + 1)) (ls' := [some (.ref 0), some (.int l), some (.int (nI m)), some (.int (nI ((sumN (fun y => sumN (fun x => (if m ≤ c4 w h M l (2 * w * (2 * y) + 2 * x) then 1 else 0)) w) b + sumN (fun x => (if m ≤ c4 w h M l (2 * w * (2 * b) + 2 * x) then 1 else 0)) a) + 1))), some (.int (nI b)), some (.int (nI (a + 1)))]) dX7_dotsHeld_56 rfl (nI_add _ 1) (by decide) rfl rfl ?_
          refine rn_goto (tgt := 20) dX7_dotsHeld_59 (by decide) ?_
          have ih1 := ih c_29
          simp only [sumN] at ih1
          rw [if_pos (show m ≤ c4 w h M l (2 * w * (2 * b) + 2 * a) by omega)] at ih1
          exact ih1
    refine rn_iload dX7_dotsHeld_5 rfl ?_
    refine rn_aload_n dX7_dotsHeld_7 rfl rfl ?_
    refine rn_getR (r := 1) dX7_dotsHeld_8 fd_7_10 (sk_l hs 0 (by decide)) (sk_k0 hs) rfl (sk_r0_0 hs) ?_
    refine rn_getI dX7_dotsHeld_11 fd_7_136 (sk_l hs 1 (by decide)) (sk_k1 hs) rfl ?_
    refine rn_top (y := nI h) (hX.2.1) ?_
    refine rn_icmp_geN (tgt := 68) dX7_dotsHeld_14 (by decide) (by omega) (by omega) (fun c_14 => ?_) (fun c_14 => ?_)
    · refine rn_iload_n dX7_dotsHeld_68 rfl rfl ?_
      refine rn_ireturn dX7_dotsHeld_69 rfl (vp_nar_int _) ?_
      obtain rfl : b = h := by omega
      exact ⟨rfl, rfl, rfl⟩
    · refine rn_iconst (v := nI 0) dX7_dotsHeld_17 (by decide) ?_
      refine rn_istore (ls' := [some (.ref 0), some (.int l), some (.int (nI m)), some (.int (nI (sumN (fun y => sumN (fun x => (if m ≤ c4 w h M l (2 * w * (2 * y) + 2 * x) then 1 else 0)) w) b))), some (.int (nI b)), some (.int (nI 0))]) dX7_dotsHeld_18 (by decide) rfl rfl ?_
      exact LX2 c_14 0 (by omega)
  refine am_mt ⟨by decide +kernel, rfl⟩ (Nat.le_of_ble_eq_true rfl) rfl ?_
  refine rn_iconst (v := nI 0) dX7_dotsHeld_0 (by decide) ?_
  refine rn_istore_n (ls' := [some (.ref 0), some (.int l), some (.int (nI m)), some (.int (nI 0)), none, none]) dX7_dotsHeld_1 rfl (by decide) rfl rfl ?_
  refine rn_iconst (v := nI 0) dX7_dotsHeld_2 (by decide) ?_
  refine rn_istore (ls' := [some (.ref 0), some (.int l), some (.int (nI m)), some (.int (nI 0)), some (.int (nI 0)), none]) dX7_dotsHeld_3 (by decide) rfl rfl ?_
  exact LY 0 (by omega)
