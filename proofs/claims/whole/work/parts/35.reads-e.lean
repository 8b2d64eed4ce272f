theorem sumN_split (f : Nat → Nat) (a b : Nat) : sumN f (a + b) = sumN f a + sumN (fun i => f (a + i)) b := by
  induction b with
  | zero => simp [sumN]
  | succ b ih => rw [← Nat.add_assoc]; simp only [sumN, ih]; omega
theorem sumN_blk (f : Nat → Nat) (W H : Nat) : sumN f (W * H) = sumN (fun j => sumN (fun i => f (W * j + i)) W) H := by
  induction H with
  | zero => rfl
  | succ n ih => rw [Nat.mul_add, Nat.mul_one, sumN_split, ih]; rfl
theorem sumN_pick {g : Nat → Nat} {n c : Nat} (hc : c < n) : sumN (fun k => if k = c then g k else 0) n = g c := by
  rw [← sumN_one (g c) hc]
  refine sumN_congr (fun k _ => ?_)
  by_cases h : k = c
  · rw [if_pos h, if_pos h, h]
  · rw [if_neg h, if_neg h]
theorem sumN_col (g : Nat → Nat) {W H k : Nat} (hk : k < W) : sumN (fun s => if s % W = k then g s else 0) (W * H) = sumN (fun n => g (k + W * n)) H := by
  rw [sumN_blk]
  refine sumN_congr (fun j _ => ?_)
  rw [← sumN_pick (g := fun i => g (i + W * j)) hk]
  refine sumN_congr (fun i hi => ?_)
  rw [Nat.mul_add_mod, Nat.mod_eq_of_lt hi, Nat.add_comm]
theorem sumN_rw (g : Nat → Nat) {W H k : Nat} (hk : k < H) : sumN (fun s => if s / W = k then g s else 0) (W * H) = sumN (fun n => g (W * k + n)) W := by
  rw [sumN_blk, ← sumN_pick (g := fun j => sumN (fun n => g (W * j + n)) W) hk]
  refine sumN_congr (fun j _ => ?_)
  by_cases h : j = k
  · rw [if_pos h]
    refine sumN_congr (fun i hi => ?_)
    rw [Nat.mul_add_div (by omega), Nat.div_eq_of_lt hi, Nat.add_zero, if_pos h]
  · rw [if_neg h]
    refine (sumN_congr (g := fun _ => 0) (fun i hi => ?_)).trans (sumN_0 W)
    rw [Nat.mul_add_div (by omega), Nat.div_eq_of_lt hi, Nat.add_zero, if_neg h]
noncomputable def vCol (w h : Nat) (M : Nat → Nat → Nat) (k : Int32) (c : Bool) : Int32 :=
  if c = true then (if 0 ≤ k.toInt ∧ k.toInt < 2 * (w : Int) then nI (sumN (fun n => lplc w h M (k.toInt.toNat + 2 * w * n) % 2) (2 * h)) else -1)
  else (if 0 ≤ k.toInt ∧ k.toInt < 2 * (h : Int) then nI (sumN (fun n => lplc w h M (2 * w * k.toInt.toNat + n) % 2) (2 * w)) else -1)
theorem e4wh (w h : Nat) : 4 * w * h = 2 * w * (2 * h) := by
  rw [show 4 * w * h = 2 * 2 * w * h by rfl]; simp only [Nat.mul_assoc, Nat.mul_left_comm, Nat.mul_comm]
theorem col_lt {w h y n : Nat} (hy : y < 2 * w) (hn : n < 2 * h) : y + 2 * w * n < 4 * w * h := by
  have := row_next (w := w) (h := h) hn
  omega
theorem row_lt {w h y n : Nat} (hy : y < 2 * h) (hn : n < 2 * w) : 2 * w * y + n < 4 * w * h := by
  have := row_next (w := w) (h := h) hy
  omega
set_option maxHeartbeats 1000000 in
set_option maxRecDepth 100000 in
theorem c_X7_coloured_1 {S : am_S} (hs : sk S) {I : am_I} {w h : Nat} {M : Nat → Nat → Nat} (w1 : 1 ≤ w) (w8 : w ≤ 8) (h1 : 1 ≤ h) (h8 : h ≤ 8) (hok : okM w h M) (hX : XL w h M I) (k : Int32) : am_Mt 5 Y_X7_coloured (0, 0) [.ref 0, .int k, .int (nI 1)] S I (fun r S' I' => r = some (.int (vCol w h M k true)) ∧ S' = S ∧ KW w h M I I') := by
  have h256 := sq_bound w8 h8
  have hcn := lcnt_le (h := h) (M := M) w1
  by_cases hin : 0 ≤ k.toInt ∧ k.toInt < 2 * (w : Int)
  · obtain ⟨y, hy, rfl⟩ : ∃ y, y < 2 * w ∧ k = nI y := ⟨k.toInt.toNat, by omega, z_nat hin.1⟩
    have ey : (nI y).toInt.toNat = y := by rw [z_nI (by omega)]; omega
    rw [show vCol w h M (nI y) true = nI (sumN (fun n => lplc w h M (y + 2 * w * n) % 2) (2 * h)) by unfold vCol; rw [if_pos rfl, if_pos hin, ey]]
    refine am_mt ⟨by decide +kernel, rfl⟩ (Nat.le_of_ble_eq_true rfl) rfl ?_
    refine rn_iconst (v := nI 2) dX7_coloured_0 (by decide) ?_
    refine rn_aload_n dX7_coloured_1 rfl rfl ?_
    refine rn_getR (r := 1) dX7_coloured_2 fd_7_10 (sk_l hs 0 (by decide)) (sk_k0 hs) rfl (sk_r0_0 hs) ?_
    refine rn_getI dX7_coloured_5 fd_7_133 (sk_l hs 1 (by decide)) (sk_k1 hs) rfl ?_
    refine rn_top (y := nI w) (hX.1.1) ?_
    refine rn_imul dX7_coloured_8 ?_
    refine rn_top (pk_mul _ _) ?_
    refine rn_istore_n (ls' := [some (.ref 0), some (.int (nI y)), some (.int (nI 1)), some (.int (nI (2 * w))), none, none, none, none, none, none]) dX7_coloured_9 rfl (by decide) rfl rfl ?_
    refine rn_iconst (v := nI 2) dX7_coloured_10 (by decide) ?_
    refine rn_aload_n dX7_coloured_11 rfl rfl ?_
    refine rn_getR (r := 1) dX7_coloured_12 fd_7_10 (sk_l hs 0 (by decide)) (sk_k0 hs) rfl (sk_r0_0 hs) ?_
    refine rn_getI dX7_coloured_15 fd_7_136 (sk_l hs 1 (by decide)) (sk_k1 hs) rfl ?_
    refine rn_top (y := nI h) (hX.1.2.1) ?_
    refine rn_imul dX7_coloured_18 ?_
    refine rn_top (pk_mul _ _) ?_
    refine rn_istore (ls' := [some (.ref 0), some (.int (nI y)), some (.int (nI 1)), some (.int (nI (2 * w))), some (.int (nI (2 * h))), none, none, none, none, none]) dX7_coloured_19 (by decide) rfl rfl ?_
    refine rn_iload_n dX7_coloured_21 rfl rfl ?_
    refine rn_if_ltN (tgt := 39) dX7_coloured_22 (by omega) (by decide) ?_
    refine rn_iload_n dX7_coloured_25 rfl rfl ?_
    refine rn_iload_n dX7_coloured_26 rfl rfl ?_
    refine rn_if_eqN (tgt := 34) dX7_coloured_27 (by decide) (by omega) (fun c_27 => ?_) (fun c_27 => ?_)
    · exact absurd c_27 (by decide)
    · refine rn_iload_n dX7_coloured_30 rfl rfl ?_
      refine rn_goto (tgt := 36) dX7_coloured_31 (by decide) ?_
      refine rn_icmp_ltN (tgt := 41) dX7_coloured_36 (by decide) (by omega) (by omega) (fun c_36 => ?_) (fun c_36 => ?_)
      · refine rn_aload_n dX7_coloured_41 rfl rfl ?_
        refine rn_callV0 (st := []) dX7_coloured_42 cf_7_103 (c_X7_knowLines hs w1 w8 h1 h8 hok hX) (by decide) (sk_l hs 0 (by decide)) (sk_k0 hs) rfl rfl (Nat.le_of_ble_eq_true rfl) (fun r1 S1 I1 hq => ?_)
        obtain ⟨rfl, rfl, hK⟩ := hq
        have hD1 := hK.dr hX
        refine rn_iload_n dX7_coloured_45 rfl rfl ?_
        refine rn_if_eqN (tgt := 53) dX7_coloured_46 (by decide) (by omega) (fun c_46 => ?_) (fun c_46 => ?_)
        · exact absurd c_46 (by decide)
        · refine rn_iload_n dX7_coloured_49 rfl rfl ?_
          refine rn_goto (tgt := 56) dX7_coloured_50 (by decide) ?_
          refine rn_istore (ls' := [some (.ref 0), some (.int (nI y)), some (.int (nI 1)), some (.int (nI (2 * w))), some (.int (nI (2 * h))), some (.int (nI y)), none, none, none, none]) dX7_coloured_56 (by decide) rfl rfl ?_
          refine rn_iload_n dX7_coloured_58 rfl rfl ?_
          refine rn_if_eqN (tgt := 66) dX7_coloured_59 (by decide) (by omega) (fun c_59 => ?_) (fun c_59 => ?_)
          · exact absurd c_59 (by decide)
          · refine rn_iload_n dX7_coloured_62 rfl rfl ?_
            refine rn_goto (tgt := 67) dX7_coloured_63 (by decide) ?_
            refine rn_istore (ls' := [some (.ref 0), some (.int (nI y)), some (.int (nI 1)), some (.int (nI (2 * w))), some (.int (nI (2 * h))), some (.int (nI y)), some (.int (nI (2 * w))), none, none, none]) dX7_coloured_67 (by decide) rfl rfl ?_
            refine rn_iload_n dX7_coloured_69 rfl rfl ?_
            refine rn_if_eqN (tgt := 78) dX7_coloured_70 (by decide) (by omega) (fun c_70 => ?_) (fun c_70 => ?_)
            · exact absurd c_70 (by decide)
            · refine rn_iload dX7_coloured_73 rfl ?_
              refine rn_goto (tgt := 79) dX7_coloured_75 (by decide) ?_
              refine rn_istore (ls' := [some (.ref 0), some (.int (nI y)), some (.int (nI 1)), some (.int (nI (2 * w))), some (.int (nI (2 * h))), some (.int (nI y)), some (.int (nI (2 * w))), some (.int (nI (2 * h))), none, none]) dX7_coloured_79 (by decide) rfl rfl ?_
              refine rn_iconst (v := nI 0) dX7_coloured_81 (by decide) ?_
              refine rn_istore (ls' := [some (.ref 0), some (.int (nI y)), some (.int (nI 1)), some (.int (nI (2 * w))), some (.int (nI (2 * h))), some (.int (nI y)), some (.int (nI (2 * w))), some (.int (nI (2 * h))), some (.int (nI 0)), none]) dX7_coloured_82 (by decide) rfl rfl ?_
              refine rn_iconst (v := nI 0) dX7_coloured_84 (by decide) ?_
              refine rn_istore (ls' := [some (.ref 0), some (.int (nI y)), some (.int (nI 1)), some (.int (nI (2 * w))), some (.int (nI (2 * h))), some (.int (nI y)), some (.int (nI (2 * w))), some (.int (nI (2 * h))), some (.int (nI 0)), some (.int (nI 0))]) dX7_coloured_85 (by decide) rfl rfl ?_
              have LP : ∀ n, n ≤ 2 * h → am_Rn 5 Y_X7_coloured (0, 0) 87 [some (.ref 0), some (.int (nI y)), some (.int (nI 1)), some (.int (nI (2 * w))), some (.int (nI (2 * h))), some (.int (nI y)), some (.int (nI (2 * w))), some (.int (nI (2 * h))), some (.int (nI (sumN (fun n => lplc w h M (y + 2 * w * n) % 2) n))), some (.int (nI n))] [] S1 I1 (fun r S' I' => r = some (.int (nI (sumN (fun n => lplc w h M (y + 2 * w * n) % 2) (2 * h)))) ∧ S' = S1 ∧ KW w h M I I') := by
                refine am_loop (2 * h) (fun n hn9 ih => ?_)
                refine rn_iload dX7_coloured_87 rfl ?_
                refine rn_iload dX7_coloured_89 rfl ?_
                refine rn_icmp_geN (tgt := 122) dX7_coloured_91 (by decide) (by omega) (by omega) (fun c_91 => ?_) (fun c_91 => ?_)
                · refine rn_iload dX7_coloured_122 rfl ?_
                  refine rn_ireturn dX7_coloured_124 rfl (vp_nar_int _) ?_
                  rw [show n = 2 * h by omega]
                  exact ⟨rfl, rfl, hK.kw hX⟩
                · refine rn_iload dX7_coloured_94 rfl ?_
                  refine rn_aload_n dX7_coloured_96 rfl rfl ?_
                  refine rn_getR (r := 7) dX7_coloured_97 fd_7_43 (sk_l hs 0 (by decide)) (sk_k0 hs) rfl (sk_r0_4 hs) ?_
                  have hn : n < 2 * h := by omega
                  have hlt := col_lt hy hn
                  refine rn_iload dX7_coloured_100 rfl ?_
                  refine rn_iload dX7_coloured_102 rfl ?_
                  refine rn_iload dX7_coloured_104 rfl ?_
                  refine rn_imul dX7_coloured_106 ?_
                  refine rn_top (pk_mul _ _) ?_
                  refine rn_iadd dX7_coloured_107 ?_
                  refine rn_top (nI_add _ _) ?_
                  refine rn_top (y := nI (y + 2 * w * n)) (by first | rfl | rw [Nat.one_mul]) ?_
                  refine rn_callVq (st := [.int (nI (sumN (fun n => lplc w h M (y + 2 * w * n) % 2) n))]) dX7_coloured_108 cf_7_143 (c_X2_placeInWalk hs (p := y + 2 * w * n) (by omega)) (by decide) (sk_l hs 7 (by decide)) (sk_k7 hs) rfl rfl (Nat.le_of_ble_eq_true rfl) ?_
                  refine rn_top (y := nI (lplc w h M (y + 2 * w * n))) (hK.2.2.2.1.1 _ hlt).2 ?_
                  have hpl := lplc_lt (M := M) w1 hlt
                  refine rn_iconst (v := nI 1) dX7_coloured_111 (by decide) ?_
                  refine rn_iand dX7_coloured_112 ?_
                  refine rn_top (y := nI (lplc w h M (y + 2 * w * n) % 2)) (z_nand (by omega)) ?_
                  refine rn_iadd dX7_coloured_113 ?_
                  refine rn_top (nI_add _ _) ?_
                  refine rn_istore (ls' := [some (.ref 0), some (.int (nI y)), some (.int (nI 1)), some (.int (nI (2 * w))), some (.int (nI (2 * h))), some (.int (nI y)), some (.int (nI (2 * w))), some (.int (nI (2 * h))), some (.int (nI ((sumN (fun n => lplc w h M (y + 2 * w * n) % 2) n) + (lplc w h M (y + 2 * w * n) % 2)))), some (.int (nI n))]) dX7_coloured_114 (by decide) rfl rfl ?_
                  refine rn_iinc (v := nI (n + 1)) (ls' := [some (.ref 0), some (.int (nI y)), some (.int (nI 1)), some (.int (nI (2 * w))), some (.int (nI (2 * h))), some (.int (nI y)), some (.int (nI (2 * w))), some (.int (nI (2 * h))), some (.int (nI ((sumN (fun n => lplc w h M (y + 2 * w * n) % 2) n) + (lplc w h M (y + 2 * w * n) % 2)))), some (.int (nI (n + 1)))]) dX7_coloured_116 rfl (nI_add _ 1) (by decide) rfl rfl ?_
                  refine rn_goto (tgt := 87) dX7_coloured_119 (by decide) ?_
                  exact ih (by omega)
              exact LP 0 (by omega)
      · omega
  · rw [show vCol w h M k true = -1 by unfold vCol; rw [if_pos rfl, if_neg hin]]
    refine am_mt ⟨by decide +kernel, rfl⟩ (Nat.le_of_ble_eq_true rfl) rfl ?_
    refine rn_iconst (v := nI 2) dX7_coloured_0 (by decide) ?_
    refine rn_aload_n dX7_coloured_1 rfl rfl ?_
    refine rn_getR (r := 1) dX7_coloured_2 fd_7_10 (sk_l hs 0 (by decide)) (sk_k0 hs) rfl (sk_r0_0 hs) ?_
    refine rn_getI dX7_coloured_5 fd_7_133 (sk_l hs 1 (by decide)) (sk_k1 hs) rfl ?_
    refine rn_top (y := nI w) (hX.1.1) ?_
    refine rn_imul dX7_coloured_8 ?_
    refine rn_top (pk_mul _ _) ?_
    refine rn_istore_n (ls' := [some (.ref 0), some (.int k), some (.int (nI 1)), some (.int (nI (2 * w))), none, none, none, none, none, none]) dX7_coloured_9 rfl (by decide) rfl rfl ?_
    refine rn_iconst (v := nI 2) dX7_coloured_10 (by decide) ?_
    refine rn_aload_n dX7_coloured_11 rfl rfl ?_
    refine rn_getR (r := 1) dX7_coloured_12 fd_7_10 (sk_l hs 0 (by decide)) (sk_k0 hs) rfl (sk_r0_0 hs) ?_
    refine rn_getI dX7_coloured_15 fd_7_136 (sk_l hs 1 (by decide)) (sk_k1 hs) rfl ?_
    refine rn_top (y := nI h) (hX.1.2.1) ?_
    refine rn_imul dX7_coloured_18 ?_
    refine rn_top (pk_mul _ _) ?_
    refine rn_istore (ls' := [some (.ref 0), some (.int k), some (.int (nI 1)), some (.int (nI (2 * w))), some (.int (nI (2 * h))), none, none, none, none, none]) dX7_coloured_19 (by decide) rfl rfl ?_
    refine rn_iload_n dX7_coloured_21 rfl rfl ?_
    refine rn_if_lt (tgt := 39) dX7_coloured_22 (by decide) (fun c_22 => ?_) (fun c_22 => ?_)
    · refine rn_iconst (v := (-1)) dX7_coloured_39 (by decide) ?_
      refine rn_ireturn dX7_coloured_40 rfl (vp_nar_int _) ?_
      exact ⟨rfl, rfl, KW.rf hX⟩
    · refine rn_iload_n dX7_coloured_25 rfl rfl ?_
      refine rn_iload_n dX7_coloured_26 rfl rfl ?_
      refine rn_if_eqN (tgt := 34) dX7_coloured_27 (by decide) (by omega) (fun c_27 => ?_) (fun c_27 => ?_)
      · exact absurd c_27 (by decide)
      · refine rn_iload_n dX7_coloured_30 rfl rfl ?_
        refine rn_goto (tgt := 36) dX7_coloured_31 (by decide) ?_
        refine rn_icmp_lt (tgt := 41) dX7_coloured_36 (by decide) (fun c_36 => ?_) (fun c_36 => ?_)
        · exact absurd ⟨by rw [z_lt, z_0] at c_22; omega, by rw [z_lt, z_nI (by omega)] at c_36; omega⟩ hin
        · refine rn_iconst (v := (-1)) dX7_coloured_39 (by decide) ?_
          refine rn_ireturn dX7_coloured_40 rfl (vp_nar_int _) ?_
          exact ⟨rfl, rfl, KW.rf hX⟩
set_option maxHeartbeats 1000000 in
set_option maxRecDepth 100000 in
theorem c_X8_coloured_1 {S : am_S} (hs : sk S) {I : am_I} {w h : Nat} {M : Nat → Nat → Nat} (w1 : 1 ≤ w) (w8 : w ≤ 8) (h1 : 1 ≤ h) (h8 : h ≤ 8) (hok : okM w h M) (hG : isGr I 0 w h M) (k : Int32) : am_Mt 5 Y_X8_coloured (0, 0) [.ref 44, .int k, .int (nI 1)] S I (fun r S' I' => r = some (.int (vCol w h M k true)) ∧ S' = S ∧ KM I I') := by
  have h256 := sq_bound w8 h8
  have hcn := lcnt_le (h := h) (M := M) w1
  have n1 : ∀ {a : Nat}, 0 < a → a < 2147483648 → ¬ nI a = 0 := fun {a} ha hb q => by rw [z_eq, z_nI hb, z_0] at q; omega
  have e0 := z_nI (n := 0) (by decide)
  have ed := z_nI (n := 2 * w - 1) (by omega)
  by_cases hin : 0 ≤ k.toInt ∧ k.toInt < 2 * (w : Int)
  · obtain ⟨y, hy, rfl⟩ : ∃ y, y < 2 * w ∧ k = nI y := ⟨k.toInt.toNat, by omega, z_nat hin.1⟩
    have ek := z_nI (n := y) (by omega)
    have ey : (nI y).toInt.toNat = y := by rw [ek]; omega
    rw [show vCol w h M (nI y) true = nI (sumN (fun n => lplc w h M (y + 2 * w * n) % 2) (2 * h)) by unfold vCol; rw [if_pos rfl, if_pos hin, ey]]
    refine am_mt ⟨by decide +kernel, rfl⟩ (Nat.le_of_ble_eq_true rfl) rfl ?_
    refine rn_iload_n dX8_coloured_0 rfl rfl ?_
    refine rn_iconst (v := nI 0) dX8_coloured_1 (by decide) ?_
    refine rn_iconst (v := nI 2) dX8_coloured_2 (by decide) ?_
    refine rn_iload_n dX8_coloured_3 rfl rfl ?_
    refine rn_if_eqN (tgt := 16) dX8_coloured_4 (by decide) (by omega) (fun c_4 => ?_) (fun c_4 => ?_)
    · exact absurd c_4 (by decide)
    · refine rn_aload_n dX8_coloured_7 rfl rfl ?_
      refine rn_getR (r := 45) dX8_coloured_8 fd_8_7 (sk_l hs 44 (by decide)) (sk_k44 hs) rfl (sk_r44_0 hs) ?_
      refine rn_iconst (v := nI 0) dX8_coloured_11 (by decide) ?_
      refine rn_ialoadN dX8_coloured_12 (sk_l hs 45 (by decide)) (sk_k45 hs) (by omega) (by omega) ?_
      refine rn_top (y := nI w) (hG.1) ?_
      refine rn_goto (tgt := 22) dX8_coloured_13 (by decide) ?_
      refine rn_imul dX8_coloured_22 ?_
      refine rn_top (pk_mul _ _) ?_
      refine rn_iconst (v := nI 1) dX8_coloured_23 (by decide) ?_
      refine rn_isub dX8_coloured_24 ?_
      refine rn_top (pk_sub (by omega)) ?_
      refine rn_callSq (st := []) dX8_coloured_25 cf_8_70 (c_X8_isIn _ I _ _ _) (by decide) rfl rfl (Nat.le_of_ble_eq_true rfl) ?_
      refine rn_if_neB (tgt := 33) dX8_coloured_28 (by decide) (fun c_28 => ?_) (fun c_28 => ?_)
      · refine rn_aload_n dX8_coloured_33 rfl rfl ?_
        refine rn_callV0 (st := []) dX8_coloured_34 cf_8_92 (c_X8_walkAll hs w1 w8 h1 h8 hok hG) (by decide) (sk_l hs 44 (by decide)) (sk_k44 hs) rfl rfl (Nat.le_of_ble_eq_true rfl) (fun r1 S1 I1 hq => ?_)
        obtain ⟨rfl, rfl, hF, hE⟩ := hq
        have hLX := LX_of w1 hF.1 hE
        have hKM := FB_km hF
        have hn1 : I1 44 4 = nI (lcnt w h M) := hF.2.1
        refine rn_iconst (v := nI 2) dX8_coloured_37 (by decide) ?_
        refine rn_aload_n dX8_coloured_38 rfl rfl ?_
        refine rn_getR (r := 45) dX8_coloured_39 fd_8_7 (sk_l hs 44 (by decide)) (sk_k44 hs) rfl (sk_r44_0 hs) ?_
        refine rn_iconst (v := nI 0) dX8_coloured_42 (by decide) ?_
        refine rn_ialoadN dX8_coloured_43 (sk_l hs 45 (by decide)) (sk_k45 hs) (by omega) (by omega) ?_
        refine rn_top (y := nI w) ((hKM.gr hG).1) ?_
        refine rn_imul dX8_coloured_44 ?_
        refine rn_top (pk_mul _ _) ?_
        refine rn_istore_n (ls' := [some (.ref 44), some (.int (nI y)), some (.int (nI 1)), some (.int (nI (2 * w))), none, none]) dX8_coloured_45 rfl (by decide) rfl rfl ?_
        refine rn_iconst (v := nI 0) dX8_coloured_46 (by decide) ?_
        refine rn_istore (ls' := [some (.ref 44), some (.int (nI y)), some (.int (nI 1)), some (.int (nI (2 * w))), some (.int (nI 0)), none]) dX8_coloured_47 (by decide) rfl rfl ?_
        refine rn_iconst (v := nI 0) dX8_coloured_49 (by decide) ?_
        refine rn_istore (ls' := [some (.ref 44), some (.int (nI y)), some (.int (nI 1)), some (.int (nI (2 * w))), some (.int (nI 0)), some (.int (nI 0))]) dX8_coloured_50 (by decide) rfl rfl ?_
        have LP : ∀ s, s ≤ 4 * w * h → am_Rn 5 Y_X8_coloured (0, 0) 52 [some (.ref 44), some (.int (nI y)), some (.int (nI 1)), some (.int (nI (2 * w))), some (.int (nI (sumN (fun s => (if s % (2 * w) = y then lplc w h M s % 2 else 0)) s))), some (.int (nI s))] [] S1 I1 (fun r S' I' => r = some (.int (nI (sumN (fun n => lplc w h M (y + 2 * w * n) % 2) (2 * h)))) ∧ S' = S1 ∧ KM I I') := by
          refine am_loop (4 * w * h) (fun s hs8 ih => ?_)
          have J95 : s < 4 * w * h → am_Rn 5 Y_X8_coloured (0, 0) 95 [some (.ref 44), some (.int (nI y)), some (.int (nI 1)), some (.int (nI (2 * w))), some (.int (nI (sumN (fun s => (if s % (2 * w) = y then lplc w h M s % 2 else 0)) s))), some (.int (nI s))] [.int (nI (if s % (2 * w) = y then lplc w h M s % 2 else 0)), .int (nI (sumN (fun s => (if s % (2 * w) = y then lplc w h M s % 2 else 0)) s))] S1 I1 (fun r S' I' => r = some (.int (nI (sumN (fun n => lplc w h M (y + 2 * w * n) % 2) (2 * h)))) ∧ S' = S1 ∧ KM I I') := by
            intro hs9
            refine rn_iadd dX8_coloured_95 ?_
            refine rn_top (nI_add _ _) ?_
            refine rn_istore (ls' := [some (.ref 44), some (.int (nI y)), some (.int (nI 1)), some (.int (nI (2 * w))), some (.int (nI ((sumN (fun s => (if s % (2 * w) = y then lplc w h M s % 2 else 0)) s) + (if s % (2 * w) = y then lplc w h M s % 2 else 0)))), some (.int (nI s))]) dX8_coloured_96 (by decide) rfl rfl ?_
            refine rn_iinc (v := nI (s + 1)) (ls' := [some (.ref 44), some (.int (nI y)), some (.int (nI 1)), some (.int (nI (2 * w))), some (.int (nI ((sumN (fun s => (if s % (2 * w) = y then lplc w h M s % 2 else 0)) s) + (if s % (2 * w) = y then lplc w h M s % 2 else 0)))), some (.int (nI (s + 1)))]) dX8_coloured_98 rfl (nI_add _ 1) (by decide) rfl rfl ?_
            refine rn_goto (tgt := 52) dX8_coloured_101 (by decide) ?_
            exact ih hs9
          refine rn_iload dX8_coloured_52 rfl ?_
          refine rn_aload_n dX8_coloured_54 rfl rfl ?_
          refine rn_callVq (st := [.int (nI s)]) dX8_coloured_55 cf_8_81 (c_X8_squares hs (hKM.gr hG).1 (hKM.gr hG).2.1 w1 w8 h1 h8) (by decide) (sk_l hs 44 (by decide)) (sk_k44 hs) rfl rfl (Nat.le_of_ble_eq_true rfl) ?_
          refine rn_icmp_geN (tgt := 104) dX8_coloured_58 (by decide) (by omega) (by omega) (fun c_58 => ?_) (fun c_58 => ?_)
          · refine rn_iload dX8_coloured_104 rfl ?_
            refine rn_ireturn dX8_coloured_106 rfl (vp_nar_int _) ?_
            rw [show s = 4 * w * h by omega]
            exact ⟨by rw [e4wh, sumN_col (fun s => lplc w h M s % 2) hy], rfl, hKM⟩
          · refine rn_iload dX8_coloured_61 rfl ?_
            have hpl := lplc_lt (M := M) w1 c_58
            have hsw : s % (2 * w) < 2 * w := Nat.mod_lt _ (by omega)
            have hsd : s / (2 * w) ≤ s := Nat.div_le_self _ _
            refine rn_iload_n dX8_coloured_63 rfl rfl ?_
            refine rn_if_eqN (tgt := 74) dX8_coloured_64 (by decide) (by omega) (fun c_64 => ?_) (fun c_64 => ?_)
            · exact absurd c_64 (by decide)
            · refine rn_iload dX8_coloured_67 rfl ?_
              refine rn_iload_n dX8_coloured_69 rfl rfl ?_
              refine rn_irem dX8_coloured_70 (by exact n1 (by omega) (by omega)) ?_
              refine rn_top (pk_rem (by omega) (by omega) (by omega)) ?_
              refine rn_goto (tgt := 78) dX8_coloured_71 (by decide) ?_
              refine rn_iload_n dX8_coloured_78 rfl rfl ?_
              refine rn_icmp_neN (tgt := 94) dX8_coloured_79 (by decide) (by omega) (by omega) (fun c_79 => ?_) (fun c_79 => ?_)
              · refine rn_iconst (v := nI 0) dX8_coloured_94 (by decide) ?_
                refine rn_top (y := nI (if s % (2 * w) = y then lplc w h M s % 2 else 0)) (by first | rw [if_pos c_79] | rw [if_neg c_79]) ?_
                exact J95 c_58
              · refine rn_aload_n dX8_coloured_82 rfl rfl ?_
                refine rn_getR (r := 50) dX8_coloured_83 fd_8_27 (sk_l hs 44 (by decide)) (sk_k44 hs) rfl (sk_r44_6 hs) ?_
                refine rn_iload dX8_coloured_86 rfl ?_
                refine rn_ialoadN dX8_coloured_88 (sk_l hs 50 (by decide)) (sk_k50 hs) (by omega) (by omega) ?_
                refine rn_top (y := nI (lplc w h M s)) ((hLX.1 s c_58).2) ?_
                refine rn_iconst (v := nI 2) dX8_coloured_89 (by decide) ?_
                refine rn_irem dX8_coloured_90 (by decide) ?_
                refine rn_top (pk_rem (by omega) (by omega) (by omega)) ?_
                refine rn_goto (tgt := 95) dX8_coloured_91 (by decide) ?_
                refine rn_top (y := nI (if s % (2 * w) = y then lplc w h M s % 2 else 0)) (by first | rw [if_pos c_79] | rw [if_neg c_79]) ?_
                exact J95 c_58
        exact LP 0 (by omega)
      · exact absurd c_28 (by rw [e0, ed, ek]; simp; omega)
  · rw [show vCol w h M k true = -1 by unfold vCol; rw [if_pos rfl, if_neg hin]]
    refine am_mt ⟨by decide +kernel, rfl⟩ (Nat.le_of_ble_eq_true rfl) rfl ?_
    refine rn_iload_n dX8_coloured_0 rfl rfl ?_
    refine rn_iconst (v := nI 0) dX8_coloured_1 (by decide) ?_
    refine rn_iconst (v := nI 2) dX8_coloured_2 (by decide) ?_
    refine rn_iload_n dX8_coloured_3 rfl rfl ?_
    refine rn_if_eqN (tgt := 16) dX8_coloured_4 (by decide) (by omega) (fun c_4 => ?_) (fun c_4 => ?_)
    · exact absurd c_4 (by decide)
    · refine rn_aload_n dX8_coloured_7 rfl rfl ?_
      refine rn_getR (r := 45) dX8_coloured_8 fd_8_7 (sk_l hs 44 (by decide)) (sk_k44 hs) rfl (sk_r44_0 hs) ?_
      refine rn_iconst (v := nI 0) dX8_coloured_11 (by decide) ?_
      refine rn_ialoadN dX8_coloured_12 (sk_l hs 45 (by decide)) (sk_k45 hs) (by omega) (by omega) ?_
      refine rn_top (y := nI w) (hG.1) ?_
      refine rn_goto (tgt := 22) dX8_coloured_13 (by decide) ?_
      refine rn_imul dX8_coloured_22 ?_
      refine rn_top (pk_mul _ _) ?_
      refine rn_iconst (v := nI 1) dX8_coloured_23 (by decide) ?_
      refine rn_isub dX8_coloured_24 ?_
      refine rn_top (pk_sub (by omega)) ?_
      refine rn_callSq (st := []) dX8_coloured_25 cf_8_70 (c_X8_isIn _ I _ _ _) (by decide) rfl rfl (Nat.le_of_ble_eq_true rfl) ?_
      refine rn_if_neB (tgt := 33) dX8_coloured_28 (by decide) (fun c_28 => ?_) (fun c_28 => ?_)
      · exact absurd (of_decide_eq_true c_28) (by rw [e0, ed]; omega)
      · refine rn_iconst (v := (-1)) dX8_coloured_31 (by decide) ?_
        refine rn_ireturn dX8_coloured_32 rfl (vp_nar_int _) ?_
        exact ⟨rfl, rfl, KM.rf⟩
set_option maxHeartbeats 1000000 in
set_option maxRecDepth 100000 in
theorem c_X7_coloured_0 {S : am_S} (hs : sk S) {I : am_I} {w h : Nat} {M : Nat → Nat → Nat} (w1 : 1 ≤ w) (w8 : w ≤ 8) (h1 : 1 ≤ h) (h8 : h ≤ 8) (hok : okM w h M) (hX : XL w h M I) (k : Int32) : am_Mt 5 Y_X7_coloured (0, 0) [.ref 0, .int k, .int (nI 0)] S I (fun r S' I' => r = some (.int (vCol w h M k false)) ∧ S' = S ∧ KW w h M I I') := by
  have h256 := sq_bound w8 h8
  have hcn := lcnt_le (h := h) (M := M) w1
  by_cases hin : 0 ≤ k.toInt ∧ k.toInt < 2 * (h : Int)
  · obtain ⟨y, hy, rfl⟩ : ∃ y, y < 2 * h ∧ k = nI y := ⟨k.toInt.toNat, by omega, z_nat hin.1⟩
    have ey : (nI y).toInt.toNat = y := by rw [z_nI (by omega)]; omega
    rw [show vCol w h M (nI y) false = nI (sumN (fun n => lplc w h M (2 * w * y + n) % 2) (2 * w)) by unfold vCol; rw [if_neg (by decide), if_pos hin, ey]]
    refine am_mt ⟨by decide +kernel, rfl⟩ (Nat.le_of_ble_eq_true rfl) rfl ?_
    refine rn_iconst (v := nI 2) dX7_coloured_0 (by decide) ?_
    refine rn_aload_n dX7_coloured_1 rfl rfl ?_
    refine rn_getR (r := 1) dX7_coloured_2 fd_7_10 (sk_l hs 0 (by decide)) (sk_k0 hs) rfl (sk_r0_0 hs) ?_
    refine rn_getI dX7_coloured_5 fd_7_133 (sk_l hs 1 (by decide)) (sk_k1 hs) rfl ?_
    refine rn_top (y := nI w) (hX.1.1) ?_
    refine rn_imul dX7_coloured_8 ?_
    refine rn_top (pk_mul _ _) ?_
    refine rn_istore_n (ls' := [some (.ref 0), some (.int (nI y)), some (.int (nI 0)), some (.int (nI (2 * w))), none, none, none, none, none, none]) dX7_coloured_9 rfl (by decide) rfl rfl ?_
    refine rn_iconst (v := nI 2) dX7_coloured_10 (by decide) ?_
    refine rn_aload_n dX7_coloured_11 rfl rfl ?_
    refine rn_getR (r := 1) dX7_coloured_12 fd_7_10 (sk_l hs 0 (by decide)) (sk_k0 hs) rfl (sk_r0_0 hs) ?_
    refine rn_getI dX7_coloured_15 fd_7_136 (sk_l hs 1 (by decide)) (sk_k1 hs) rfl ?_
    refine rn_top (y := nI h) (hX.1.2.1) ?_
    refine rn_imul dX7_coloured_18 ?_
    refine rn_top (pk_mul _ _) ?_
    refine rn_istore (ls' := [some (.ref 0), some (.int (nI y)), some (.int (nI 0)), some (.int (nI (2 * w))), some (.int (nI (2 * h))), none, none, none, none, none]) dX7_coloured_19 (by decide) rfl rfl ?_
    refine rn_iload_n dX7_coloured_21 rfl rfl ?_
    refine rn_if_ltN (tgt := 39) dX7_coloured_22 (by omega) (by decide) ?_
    refine rn_iload_n dX7_coloured_25 rfl rfl ?_
    refine rn_iload_n dX7_coloured_26 rfl rfl ?_
    refine rn_if_eqN (tgt := 34) dX7_coloured_27 (by decide) (by omega) (fun c_27 => ?_) (fun c_27 => ?_)
    · refine rn_iload dX7_coloured_34 rfl ?_
      refine rn_icmp_ltN (tgt := 41) dX7_coloured_36 (by decide) (by omega) (by omega) (fun c_36 => ?_) (fun c_36 => ?_)
      · refine rn_aload_n dX7_coloured_41 rfl rfl ?_
        refine rn_callV0 (st := []) dX7_coloured_42 cf_7_103 (c_X7_knowLines hs w1 w8 h1 h8 hok hX) (by decide) (sk_l hs 0 (by decide)) (sk_k0 hs) rfl rfl (Nat.le_of_ble_eq_true rfl) (fun r1 S1 I1 hq => ?_)
        obtain ⟨rfl, rfl, hK⟩ := hq
        have hD1 := hK.dr hX
        refine rn_iload_n dX7_coloured_45 rfl rfl ?_
        refine rn_if_eqN (tgt := 53) dX7_coloured_46 (by decide) (by omega) (fun c_46 => ?_) (fun c_46 => ?_)
        · refine rn_iload_n dX7_coloured_53 rfl rfl ?_
          refine rn_iload_n dX7_coloured_54 rfl rfl ?_
          refine rn_imul dX7_coloured_55 ?_
          refine rn_top (pk_mul _ _) ?_
          refine rn_istore (ls' := [some (.ref 0), some (.int (nI y)), some (.int (nI 0)), some (.int (nI (2 * w))), some (.int (nI (2 * h))), some (.int (nI ((2 * w) * y))), none, none, none, none]) dX7_coloured_56 (by decide) rfl rfl ?_
          refine rn_iload_n dX7_coloured_58 rfl rfl ?_
          refine rn_if_eqN (tgt := 66) dX7_coloured_59 (by decide) (by omega) (fun c_59 => ?_) (fun c_59 => ?_)
          · refine rn_iconst (v := nI 1) dX7_coloured_66 (by decide) ?_
            refine rn_istore (ls' := [some (.ref 0), some (.int (nI y)), some (.int (nI 0)), some (.int (nI (2 * w))), some (.int (nI (2 * h))), some (.int (nI ((2 * w) * y))), some (.int (nI 1)), none, none, none]) dX7_coloured_67 (by decide) rfl rfl ?_
            refine rn_iload_n dX7_coloured_69 rfl rfl ?_
            refine rn_if_eqN (tgt := 78) dX7_coloured_70 (by decide) (by omega) (fun c_70 => ?_) (fun c_70 => ?_)
            · refine rn_iload_n dX7_coloured_78 rfl rfl ?_
              refine rn_istore (ls' := [some (.ref 0), some (.int (nI y)), some (.int (nI 0)), some (.int (nI (2 * w))), some (.int (nI (2 * h))), some (.int (nI ((2 * w) * y))), some (.int (nI 1)), some (.int (nI (2 * w))), none, none]) dX7_coloured_79 (by decide) rfl rfl ?_
              refine rn_iconst (v := nI 0) dX7_coloured_81 (by decide) ?_
              refine rn_istore (ls' := [some (.ref 0), some (.int (nI y)), some (.int (nI 0)), some (.int (nI (2 * w))), some (.int (nI (2 * h))), some (.int (nI ((2 * w) * y))), some (.int (nI 1)), some (.int (nI (2 * w))), some (.int (nI 0)), none]) dX7_coloured_82 (by decide) rfl rfl ?_
              refine rn_iconst (v := nI 0) dX7_coloured_84 (by decide) ?_
              refine rn_istore (ls' := [some (.ref 0), some (.int (nI y)), some (.int (nI 0)), some (.int (nI (2 * w))), some (.int (nI (2 * h))), some (.int (nI ((2 * w) * y))), some (.int (nI 1)), some (.int (nI (2 * w))), some (.int (nI 0)), some (.int (nI 0))]) dX7_coloured_85 (by decide) rfl rfl ?_
              have LP : ∀ n, n ≤ 2 * w → am_Rn 5 Y_X7_coloured (0, 0) 87 [some (.ref 0), some (.int (nI y)), some (.int (nI 0)), some (.int (nI (2 * w))), some (.int (nI (2 * h))), some (.int (nI (2 * w * y))), some (.int (nI 1)), some (.int (nI (2 * w))), some (.int (nI (sumN (fun n => lplc w h M (2 * w * y + n) % 2) n))), some (.int (nI n))] [] S1 I1 (fun r S' I' => r = some (.int (nI (sumN (fun n => lplc w h M (2 * w * y + n) % 2) (2 * w)))) ∧ S' = S1 ∧ KW w h M I I') := by
                refine am_loop (2 * w) (fun n hn9 ih => ?_)
                refine rn_iload dX7_coloured_87 rfl ?_
                refine rn_iload dX7_coloured_89 rfl ?_
                refine rn_icmp_geN (tgt := 122) dX7_coloured_91 (by decide) (by omega) (by omega) (fun c_91 => ?_) (fun c_91 => ?_)
                · refine rn_iload dX7_coloured_122 rfl ?_
                  refine rn_ireturn dX7_coloured_124 rfl (vp_nar_int _) ?_
                  rw [show n = 2 * w by omega]
                  exact ⟨rfl, rfl, hK.kw hX⟩
                · refine rn_iload dX7_coloured_94 rfl ?_
                  refine rn_aload_n dX7_coloured_96 rfl rfl ?_
                  refine rn_getR (r := 7) dX7_coloured_97 fd_7_43 (sk_l hs 0 (by decide)) (sk_k0 hs) rfl (sk_r0_4 hs) ?_
                  have hn : n < 2 * w := by omega
                  have hlt := row_lt hy hn
                  refine rn_iload dX7_coloured_100 rfl ?_
                  refine rn_iload dX7_coloured_102 rfl ?_
                  refine rn_iload dX7_coloured_104 rfl ?_
                  refine rn_imul dX7_coloured_106 ?_
                  refine rn_top (pk_mul _ _) ?_
                  refine rn_iadd dX7_coloured_107 ?_
                  refine rn_top (nI_add _ _) ?_
                  refine rn_top (y := nI (2 * w * y + n)) (by first | rfl | rw [Nat.one_mul]) ?_
                  refine rn_callVq (st := [.int (nI (sumN (fun n => lplc w h M (2 * w * y + n) % 2) n))]) dX7_coloured_108 cf_7_143 (c_X2_placeInWalk hs (p := 2 * w * y + n) (by omega)) (by decide) (sk_l hs 7 (by decide)) (sk_k7 hs) rfl rfl (Nat.le_of_ble_eq_true rfl) ?_
                  refine rn_top (y := nI (lplc w h M (2 * w * y + n))) (hK.2.2.2.1.1 _ hlt).2 ?_
                  have hpl := lplc_lt (M := M) w1 hlt
                  refine rn_iconst (v := nI 1) dX7_coloured_111 (by decide) ?_
                  refine rn_iand dX7_coloured_112 ?_
                  refine rn_top (y := nI (lplc w h M (2 * w * y + n) % 2)) (z_nand (by omega)) ?_
                  refine rn_iadd dX7_coloured_113 ?_
                  refine rn_top (nI_add _ _) ?_
                  refine rn_istore (ls' := [some (.ref 0), some (.int (nI y)), some (.int (nI 0)), some (.int (nI (2 * w))), some (.int (nI (2 * h))), some (.int (nI (2 * w * y))), some (.int (nI 1)), some (.int (nI (2 * w))), some (.int (nI ((sumN (fun n => lplc w h M (2 * w * y + n) % 2) n) + (lplc w h M (2 * w * y + n) % 2)))), some (.int (nI n))]) dX7_coloured_114 (by decide) rfl rfl ?_
                  refine rn_iinc (v := nI (n + 1)) (ls' := [some (.ref 0), some (.int (nI y)), some (.int (nI 0)), some (.int (nI (2 * w))), some (.int (nI (2 * h))), some (.int (nI (2 * w * y))), some (.int (nI 1)), some (.int (nI (2 * w))), some (.int (nI ((sumN (fun n => lplc w h M (2 * w * y + n) % 2) n) + (lplc w h M (2 * w * y + n) % 2)))), some (.int (nI (n + 1)))]) dX7_coloured_116 rfl (nI_add _ 1) (by decide) rfl rfl ?_
                  refine rn_goto (tgt := 87) dX7_coloured_119 (by decide) ?_
                  exact ih (by omega)
              exact LP 0 (by omega)
            · exact absurd c_70 (by decide)
          · exact absurd c_59 (by decide)
        · exact absurd c_46 (by decide)
      · omega
    · exact absurd c_27 (by decide)
  · rw [show vCol w h M k false = -1 by unfold vCol; rw [if_neg (by decide), if_neg hin]]
    refine am_mt ⟨by decide +kernel, rfl⟩ (Nat.le_of_ble_eq_true rfl) rfl ?_
    refine rn_iconst (v := nI 2) dX7_coloured_0 (by decide) ?_
    refine rn_aload_n dX7_coloured_1 rfl rfl ?_
    refine rn_getR (r := 1) dX7_coloured_2 fd_7_10 (sk_l hs 0 (by decide)) (sk_k0 hs) rfl (sk_r0_0 hs) ?_
    refine rn_getI dX7_coloured_5 fd_7_133 (sk_l hs 1 (by decide)) (sk_k1 hs) rfl ?_
    refine rn_top (y := nI w) (hX.1.1) ?_
    refine rn_imul dX7_coloured_8 ?_
    refine rn_top (pk_mul _ _) ?_
    refine rn_istore_n (ls' := [some (.ref 0), some (.int k), some (.int (nI 0)), some (.int (nI (2 * w))), none, none, none, none, none, none]) dX7_coloured_9 rfl (by decide) rfl rfl ?_
    refine rn_iconst (v := nI 2) dX7_coloured_10 (by decide) ?_
    refine rn_aload_n dX7_coloured_11 rfl rfl ?_
    refine rn_getR (r := 1) dX7_coloured_12 fd_7_10 (sk_l hs 0 (by decide)) (sk_k0 hs) rfl (sk_r0_0 hs) ?_
    refine rn_getI dX7_coloured_15 fd_7_136 (sk_l hs 1 (by decide)) (sk_k1 hs) rfl ?_
    refine rn_top (y := nI h) (hX.1.2.1) ?_
    refine rn_imul dX7_coloured_18 ?_
    refine rn_top (pk_mul _ _) ?_
    refine rn_istore (ls' := [some (.ref 0), some (.int k), some (.int (nI 0)), some (.int (nI (2 * w))), some (.int (nI (2 * h))), none, none, none, none, none]) dX7_coloured_19 (by decide) rfl rfl ?_
    refine rn_iload_n dX7_coloured_21 rfl rfl ?_
    refine rn_if_lt (tgt := 39) dX7_coloured_22 (by decide) (fun c_22 => ?_) (fun c_22 => ?_)
    · refine rn_iconst (v := (-1)) dX7_coloured_39 (by decide) ?_
      refine rn_ireturn dX7_coloured_40 rfl (vp_nar_int _) ?_
      exact ⟨rfl, rfl, KW.rf hX⟩
    · refine rn_iload_n dX7_coloured_25 rfl rfl ?_
      refine rn_iload_n dX7_coloured_26 rfl rfl ?_
      refine rn_if_eqN (tgt := 34) dX7_coloured_27 (by decide) (by omega) (fun c_27 => ?_) (fun c_27 => ?_)
      · refine rn_iload dX7_coloured_34 rfl ?_
        refine rn_icmp_lt (tgt := 41) dX7_coloured_36 (by decide) (fun c_36 => ?_) (fun c_36 => ?_)
        · exact absurd ⟨by rw [z_lt, z_0] at c_22; omega, by rw [z_lt, z_nI (by omega)] at c_36; omega⟩ hin
        · refine rn_iconst (v := (-1)) dX7_coloured_39 (by decide) ?_
          refine rn_ireturn dX7_coloured_40 rfl (vp_nar_int _) ?_
          exact ⟨rfl, rfl, KW.rf hX⟩
      · exact absurd c_27 (by decide)
set_option maxHeartbeats 1000000 in
set_option maxRecDepth 100000 in
theorem c_X8_coloured_0 {S : am_S} (hs : sk S) {I : am_I} {w h : Nat} {M : Nat → Nat → Nat} (w1 : 1 ≤ w) (w8 : w ≤ 8) (h1 : 1 ≤ h) (h8 : h ≤ 8) (hok : okM w h M) (hG : isGr I 0 w h M) (k : Int32) : am_Mt 5 Y_X8_coloured (0, 0) [.ref 44, .int k, .int (nI 0)] S I (fun r S' I' => r = some (.int (vCol w h M k false)) ∧ S' = S ∧ KM I I') := by
  have h256 := sq_bound w8 h8
  have hcn := lcnt_le (h := h) (M := M) w1
  have n1 : ∀ {a : Nat}, 0 < a → a < 2147483648 → ¬ nI a = 0 := fun {a} ha hb q => by rw [z_eq, z_nI hb, z_0] at q; omega
  have e0 := z_nI (n := 0) (by decide)
  have ed := z_nI (n := 2 * h - 1) (by omega)
  by_cases hin : 0 ≤ k.toInt ∧ k.toInt < 2 * (h : Int)
  · obtain ⟨y, hy, rfl⟩ : ∃ y, y < 2 * h ∧ k = nI y := ⟨k.toInt.toNat, by omega, z_nat hin.1⟩
    have ek := z_nI (n := y) (by omega)
    have ey : (nI y).toInt.toNat = y := by rw [ek]; omega
    rw [show vCol w h M (nI y) false = nI (sumN (fun n => lplc w h M (2 * w * y + n) % 2) (2 * w)) by unfold vCol; rw [if_neg (by decide), if_pos hin, ey]]
    refine am_mt ⟨by decide +kernel, rfl⟩ (Nat.le_of_ble_eq_true rfl) rfl ?_
    refine rn_iload_n dX8_coloured_0 rfl rfl ?_
    refine rn_iconst (v := nI 0) dX8_coloured_1 (by decide) ?_
    refine rn_iconst (v := nI 2) dX8_coloured_2 (by decide) ?_
    refine rn_iload_n dX8_coloured_3 rfl rfl ?_
    refine rn_if_eqN (tgt := 16) dX8_coloured_4 (by decide) (by omega) (fun c_4 => ?_) (fun c_4 => ?_)
    · refine rn_aload_n dX8_coloured_16 rfl rfl ?_
      refine rn_getR (r := 46) dX8_coloured_17 fd_8_13 (sk_l hs 44 (by decide)) (sk_k44 hs) rfl (sk_r44_1 hs) ?_
      refine rn_iconst (v := nI 0) dX8_coloured_20 (by decide) ?_
      refine rn_ialoadN dX8_coloured_21 (sk_l hs 46 (by decide)) (sk_k46 hs) (by omega) (by omega) ?_
      refine rn_top (y := nI h) (hG.2.1) ?_
      refine rn_imul dX8_coloured_22 ?_
      refine rn_top (pk_mul _ _) ?_
      refine rn_iconst (v := nI 1) dX8_coloured_23 (by decide) ?_
      refine rn_isub dX8_coloured_24 ?_
      refine rn_top (pk_sub (by omega)) ?_
      refine rn_callSq (st := []) dX8_coloured_25 cf_8_70 (c_X8_isIn _ I _ _ _) (by decide) rfl rfl (Nat.le_of_ble_eq_true rfl) ?_
      refine rn_if_neB (tgt := 33) dX8_coloured_28 (by decide) (fun c_28 => ?_) (fun c_28 => ?_)
      · refine rn_aload_n dX8_coloured_33 rfl rfl ?_
        refine rn_callV0 (st := []) dX8_coloured_34 cf_8_92 (c_X8_walkAll hs w1 w8 h1 h8 hok hG) (by decide) (sk_l hs 44 (by decide)) (sk_k44 hs) rfl rfl (Nat.le_of_ble_eq_true rfl) (fun r1 S1 I1 hq => ?_)
        obtain ⟨rfl, rfl, hF, hE⟩ := hq
        have hLX := LX_of w1 hF.1 hE
        have hKM := FB_km hF
        have hn1 : I1 44 4 = nI (lcnt w h M) := hF.2.1
        refine rn_iconst (v := nI 2) dX8_coloured_37 (by decide) ?_
        refine rn_aload_n dX8_coloured_38 rfl rfl ?_
        refine rn_getR (r := 45) dX8_coloured_39 fd_8_7 (sk_l hs 44 (by decide)) (sk_k44 hs) rfl (sk_r44_0 hs) ?_
        refine rn_iconst (v := nI 0) dX8_coloured_42 (by decide) ?_
        refine rn_ialoadN dX8_coloured_43 (sk_l hs 45 (by decide)) (sk_k45 hs) (by omega) (by omega) ?_
        refine rn_top (y := nI w) ((hKM.gr hG).1) ?_
        refine rn_imul dX8_coloured_44 ?_
        refine rn_top (pk_mul _ _) ?_
        refine rn_istore_n (ls' := [some (.ref 44), some (.int (nI y)), some (.int (nI 0)), some (.int (nI (2 * w))), none, none]) dX8_coloured_45 rfl (by decide) rfl rfl ?_
        refine rn_iconst (v := nI 0) dX8_coloured_46 (by decide) ?_
        refine rn_istore (ls' := [some (.ref 44), some (.int (nI y)), some (.int (nI 0)), some (.int (nI (2 * w))), some (.int (nI 0)), none]) dX8_coloured_47 (by decide) rfl rfl ?_
        refine rn_iconst (v := nI 0) dX8_coloured_49 (by decide) ?_
        refine rn_istore (ls' := [some (.ref 44), some (.int (nI y)), some (.int (nI 0)), some (.int (nI (2 * w))), some (.int (nI 0)), some (.int (nI 0))]) dX8_coloured_50 (by decide) rfl rfl ?_
        have LP : ∀ s, s ≤ 4 * w * h → am_Rn 5 Y_X8_coloured (0, 0) 52 [some (.ref 44), some (.int (nI y)), some (.int (nI 0)), some (.int (nI (2 * w))), some (.int (nI (sumN (fun s => (if s / (2 * w) = y then lplc w h M s % 2 else 0)) s))), some (.int (nI s))] [] S1 I1 (fun r S' I' => r = some (.int (nI (sumN (fun n => lplc w h M (2 * w * y + n) % 2) (2 * w)))) ∧ S' = S1 ∧ KM I I') := by
          refine am_loop (4 * w * h) (fun s hs8 ih => ?_)
          have J95 : s < 4 * w * h → am_Rn 5 Y_X8_coloured (0, 0) 95 [some (.ref 44), some (.int (nI y)), some (.int (nI 0)), some (.int (nI (2 * w))), some (.int (nI (sumN (fun s => (if s / (2 * w) = y then lplc w h M s % 2 else 0)) s))), some (.int (nI s))] [.int (nI (if s / (2 * w) = y then lplc w h M s % 2 else 0)), .int (nI (sumN (fun s => (if s / (2 * w) = y then lplc w h M s % 2 else 0)) s))] S1 I1 (fun r S' I' => r = some (.int (nI (sumN (fun n => lplc w h M (2 * w * y + n) % 2) (2 * w)))) ∧ S' = S1 ∧ KM I I') := by
            intro hs9
            refine rn_iadd dX8_coloured_95 ?_
            refine rn_top (nI_add _ _) ?_
            refine rn_istore (ls' := [some (.ref 44), some (.int (nI y)), some (.int (nI 0)), some (.int (nI (2 * w))), some (.int (nI ((sumN (fun s => (if s / (2 * w) = y then lplc w h M s % 2 else 0)) s) + (if s / (2 * w) = y then lplc w h M s % 2 else 0)))), some (.int (nI s))]) dX8_coloured_96 (by decide) rfl rfl ?_
            refine rn_iinc (v := nI (s + 1)) (ls' := [some (.ref 44), some (.int (nI y)), some (.int (nI 0)), some (.int (nI (2 * w))), some (.int (nI ((sumN (fun s => (if s / (2 * w) = y then lplc w h M s % 2 else 0)) s) + (if s / (2 * w) = y then lplc w h M s % 2 else 0)))), some (.int (nI (s + 1)))]) dX8_coloured_98 rfl (nI_add _ 1) (by decide) rfl rfl ?_
            refine rn_goto (tgt := 52) dX8_coloured_101 (by decide) ?_
            exact ih hs9
          refine rn_iload dX8_coloured_52 rfl ?_
          refine rn_aload_n dX8_coloured_54 rfl rfl ?_
          refine rn_callVq (st := [.int (nI s)]) dX8_coloured_55 cf_8_81 (c_X8_squares hs (hKM.gr hG).1 (hKM.gr hG).2.1 w1 w8 h1 h8) (by decide) (sk_l hs 44 (by decide)) (sk_k44 hs) rfl rfl (Nat.le_of_ble_eq_true rfl) ?_
          refine rn_icmp_geN (tgt := 104) dX8_coloured_58 (by decide) (by omega) (by omega) (fun c_58 => ?_) (fun c_58 => ?_)
          · refine rn_iload dX8_coloured_104 rfl ?_
            refine rn_ireturn dX8_coloured_106 rfl (vp_nar_int _) ?_
            rw [show s = 4 * w * h by omega]
            exact ⟨by rw [e4wh, sumN_rw (fun s => lplc w h M s % 2) hy], rfl, hKM⟩
          · refine rn_iload dX8_coloured_61 rfl ?_
            have hpl := lplc_lt (M := M) w1 c_58
            have hsw : s % (2 * w) < 2 * w := Nat.mod_lt _ (by omega)
            have hsd : s / (2 * w) ≤ s := Nat.div_le_self _ _
            refine rn_iload_n dX8_coloured_63 rfl rfl ?_
            refine rn_if_eqN (tgt := 74) dX8_coloured_64 (by decide) (by omega) (fun c_64 => ?_) (fun c_64 => ?_)
            · refine rn_iload dX8_coloured_74 rfl ?_
              refine rn_iload_n dX8_coloured_76 rfl rfl ?_
              refine rn_idiv dX8_coloured_77 (by exact n1 (by omega) (by omega)) ?_
              refine rn_top (pk_div (by omega) (by omega) (by omega)) ?_
              refine rn_iload_n dX8_coloured_78 rfl rfl ?_
              refine rn_icmp_neN (tgt := 94) dX8_coloured_79 (by decide) (by omega) (by omega) (fun c_79 => ?_) (fun c_79 => ?_)
              · refine rn_iconst (v := nI 0) dX8_coloured_94 (by decide) ?_
                refine rn_top (y := nI (if s / (2 * w) = y then lplc w h M s % 2 else 0)) (by first | rw [if_pos c_79] | rw [if_neg c_79]) ?_
                exact J95 c_58
              · refine rn_aload_n dX8_coloured_82 rfl rfl ?_
                refine rn_getR (r := 50) dX8_coloured_83 fd_8_27 (sk_l hs 44 (by decide)) (sk_k44 hs) rfl (sk_r44_6 hs) ?_
                refine rn_iload dX8_coloured_86 rfl ?_
                refine rn_ialoadN dX8_coloured_88 (sk_l hs 50 (by decide)) (sk_k50 hs) (by omega) (by omega) ?_
                refine rn_top (y := nI (lplc w h M s)) ((hLX.1 s c_58).2) ?_
                refine rn_iconst (v := nI 2) dX8_coloured_89 (by decide) ?_
                refine rn_irem dX8_coloured_90 (by decide) ?_
                refine rn_top (pk_rem (by omega) (by omega) (by omega)) ?_
                refine rn_goto (tgt := 95) dX8_coloured_91 (by decide) ?_
                refine rn_top (y := nI (if s / (2 * w) = y then lplc w h M s % 2 else 0)) (by first | rw [if_pos c_79] | rw [if_neg c_79]) ?_
                exact J95 c_58
            · exact absurd c_64 (by decide)
        exact LP 0 (by omega)
      · exact absurd c_28 (by rw [e0, ed, ek]; simp; omega)
    · exact absurd c_4 (by decide)
  · rw [show vCol w h M k false = -1 by unfold vCol; rw [if_neg (by decide), if_neg hin]]
    refine am_mt ⟨by decide +kernel, rfl⟩ (Nat.le_of_ble_eq_true rfl) rfl ?_
    refine rn_iload_n dX8_coloured_0 rfl rfl ?_
    refine rn_iconst (v := nI 0) dX8_coloured_1 (by decide) ?_
    refine rn_iconst (v := nI 2) dX8_coloured_2 (by decide) ?_
    refine rn_iload_n dX8_coloured_3 rfl rfl ?_
    refine rn_if_eqN (tgt := 16) dX8_coloured_4 (by decide) (by omega) (fun c_4 => ?_) (fun c_4 => ?_)
    · refine rn_aload_n dX8_coloured_16 rfl rfl ?_
      refine rn_getR (r := 46) dX8_coloured_17 fd_8_13 (sk_l hs 44 (by decide)) (sk_k44 hs) rfl (sk_r44_1 hs) ?_
      refine rn_iconst (v := nI 0) dX8_coloured_20 (by decide) ?_
      refine rn_ialoadN dX8_coloured_21 (sk_l hs 46 (by decide)) (sk_k46 hs) (by omega) (by omega) ?_
      refine rn_top (y := nI h) (hG.2.1) ?_
      refine rn_imul dX8_coloured_22 ?_
      refine rn_top (pk_mul _ _) ?_
      refine rn_iconst (v := nI 1) dX8_coloured_23 (by decide) ?_
      refine rn_isub dX8_coloured_24 ?_
      refine rn_top (pk_sub (by omega)) ?_
      refine rn_callSq (st := []) dX8_coloured_25 cf_8_70 (c_X8_isIn _ I _ _ _) (by decide) rfl rfl (Nat.le_of_ble_eq_true rfl) ?_
      refine rn_if_neB (tgt := 33) dX8_coloured_28 (by decide) (fun c_28 => ?_) (fun c_28 => ?_)
      · exact absurd (of_decide_eq_true c_28) (by rw [e0, ed]; omega)
      · refine rn_iconst (v := (-1)) dX8_coloured_31 (by decide) ?_
        refine rn_ireturn dX8_coloured_32 rfl (vp_nar_int _) ?_
        exact ⟨rfl, rfl, KM.rf⟩
    · exact absurd c_4 (by decide)
