def RO (S : am_S) (n : Nat) (B : Nat → Nat) (Sh : Nat → Option Dw) (k : Nat) : Prop := ∀ sl p (I : am_I), sl + k ≤ 8 → p ≤ n → tX n B I → ShX Sh S I → I 19 4 = nI p → am_Mt (6 + 2 * k) Y_X4_readOne (0, 0) [.ref 18, .int (nI (8 - k)), .int (nI sl)] S I (RX S sl I (pE n B Sh k p))
set_option maxHeartbeats 1000000 in
set_option maxRecDepth 100000 in
theorem c_X4_readSet {S : am_S} (hs : sk S) {I : am_I} {n : Nat} {B : Nat → Nat} (hT : tX n B I) (hB : okB n B) {Sh : Nat → Option Dw} (hS : ShX Sh S I) {k : Nat} (hR : RO S n B Sh k) {p s : Nat} {sl : Nat} (hsl : sl ≤ 8) (hslk : sl + k ≤ 8) (hp : p ≤ n) (h4 : I 19 4 = nI p) : am_Mt (7 + 2 * k) Y_X4_readSet (0, 0) [.ref 18, .int (nI (8 - k)), .int (nI sl), .int (nI s)] S I (RX S sl I (bnd (pN n B 0 16 p) (fun a => bnd (pN n B 0 16 a.2) (fun b => bnd (pN n B 0 2 b.2) (fun c => bnd (pE n B Sh k c.2) (fun d => opt (4, s) ((oSet a.1 b.1 c.1 d.1).map (fun D => (D, d.2))))))))) := by
  have h200 := hB.1
  have hok := hS.2
  have hd := (sk_ds hs (k := sl) (by omega)).2
  rcases hXa : pN n B 0 16 p with e | a
  · refine am_mt ⟨by decide +kernel, rfl⟩ (Nat.le_of_ble_eq_true rfl) rfl ?_
    refine rn_aload_n dX4_readSet_0 rfl rfl ?_
    refine rn_iconst (v := nI 0) dX4_readSet_1 (by decide) ?_
    refine rn_bipush (v := nI 16) dX4_readSet_2 (by decide) ?_
    refine rn_callV0 (st := []) dX4_readSet_4 cf_4_93 (c_X4_readNumber hs hT hB (p := p) (lo := 0) (hi := 16) hp h4 (by decide) (by decide)) (by omega) (sk_l hs 18 (by decide)) (sk_k18 hs) rfl rfl (Nat.le_of_ble_eq_true rfl) (fun r1 S1 I1 hq => ?_)
    obtain ⟨rfl, rfl, hFa, hE2a, hE3a⟩ := hq.l hXa
    refine rn_istore (ls' := [some (.ref 18), some (.int (nI (8 - k))), some (.int (nI sl)), some (.int (nI s)), some (.int (-1)), none, none]) dX4_readSet_7 (by decide) rfl rfl ?_
    refine rn_iload dX4_readSet_9 rfl ?_
    refine rn_iconst (v := (-1)) dX4_readSet_11 (by decide) ?_
    refine rn_icmp_ne (tgt := 17) dX4_readSet_12 (by decide) (fun c_12 => ?_) (fun c_12 => ?_)
    · exact absurd rfl c_12
    · refine rn_iconst (v := nI 0) dX4_readSet_15 (by decide) ?_
      refine rn_ireturn dX4_readSet_16 rfl (by decide) ?_
      exact ⟨rfl, hFa.fr _, Or.inl ⟨e, rfl, rfl, hE2a, hE3a⟩⟩
  rw [bnd_r]
  rcases hXb : pN n B 0 16 a.2 with e | b
  · refine am_mt ⟨by decide +kernel, rfl⟩ (Nat.le_of_ble_eq_true rfl) rfl ?_
    refine rn_aload_n dX4_readSet_0 rfl rfl ?_
    refine rn_iconst (v := nI 0) dX4_readSet_1 (by decide) ?_
    refine rn_bipush (v := nI 16) dX4_readSet_2 (by decide) ?_
    refine rn_callV0 (st := []) dX4_readSet_4 cf_4_93 (c_X4_readNumber hs hT hB (p := p) (lo := 0) (hi := 16) hp h4 (by decide) (by decide)) (by omega) (sk_l hs 18 (by decide)) (sk_k18 hs) rfl rfl (Nat.le_of_ble_eq_true rfl) (fun r1 S1 I1 hq => ?_)
    obtain ⟨rfl, rfl, hFa, h16a, h4a, h0a⟩ := hq.r hXa
    have hPa := pN_pos n B hp hXa
    refine rn_istore (ls' := [some (.ref 18), some (.int (nI (8 - k))), some (.int (nI sl)), some (.int (nI s)), some (.int (nI a.1)), none, none]) dX4_readSet_7 (by decide) rfl rfl ?_
    refine rn_iload dX4_readSet_9 rfl ?_
    refine rn_iconst (v := (-1)) dX4_readSet_11 (by decide) ?_
    refine rn_icmp_ne (tgt := 17) dX4_readSet_12 (by decide) (fun c_12 => ?_) (fun c_12 => ?_)
    · refine rn_aload_n dX4_readSet_17 rfl rfl ?_
      refine rn_iconst (v := nI 0) dX4_readSet_18 (by decide) ?_
      refine rn_bipush (v := nI 16) dX4_readSet_19 (by decide) ?_
      refine rn_callV0 (st := []) dX4_readSet_21 cf_4_93 (c_X4_readNumber hs ((hFa.fr 0).tx hT) hB (p := a.2) (lo := 0) (hi := 16) hPa.1.2 h4a (by decide) (by decide)) (by omega) (sk_l hs 18 (by decide)) (sk_k18 hs) rfl rfl (Nat.le_of_ble_eq_true rfl) (fun r1 S1 I2 hq => ?_)
      obtain ⟨rfl, rfl, hFb, hE2b, hE3b⟩ := hq.l hXb
      refine rn_istore (ls' := [some (.ref 18), some (.int (nI (8 - k))), some (.int (nI sl)), some (.int (nI s)), some (.int (nI a.1)), some (.int (-1)), none]) dX4_readSet_24 (by decide) rfl rfl ?_
      refine rn_iload dX4_readSet_26 rfl ?_
      refine rn_iconst (v := (-1)) dX4_readSet_28 (by decide) ?_
      refine rn_icmp_ne (tgt := 34) dX4_readSet_29 (by decide) (fun c_29 => ?_) (fun c_29 => ?_)
      · exact absurd rfl c_29
      · refine rn_iconst (v := nI 0) dX4_readSet_32 (by decide) ?_
        refine rn_ireturn dX4_readSet_33 rfl (by decide) ?_
        exact ⟨rfl, (hFa.trans hFb).fr _, Or.inl ⟨e, rfl, rfl, hE2b, hE3b⟩⟩
    · exact absurd c_12 (fun h9 => by rw [z_eq, z_nI (by omega), z_m1] at h9; omega)
  rw [bnd_r]
  rcases hXc : pN n B 0 2 b.2 with e | c
  · refine am_mt ⟨by decide +kernel, rfl⟩ (Nat.le_of_ble_eq_true rfl) rfl ?_
    refine rn_aload_n dX4_readSet_0 rfl rfl ?_
    refine rn_iconst (v := nI 0) dX4_readSet_1 (by decide) ?_
    refine rn_bipush (v := nI 16) dX4_readSet_2 (by decide) ?_
    refine rn_callV0 (st := []) dX4_readSet_4 cf_4_93 (c_X4_readNumber hs hT hB (p := p) (lo := 0) (hi := 16) hp h4 (by decide) (by decide)) (by omega) (sk_l hs 18 (by decide)) (sk_k18 hs) rfl rfl (Nat.le_of_ble_eq_true rfl) (fun r1 S1 I1 hq => ?_)
    obtain ⟨rfl, rfl, hFa, h16a, h4a, h0a⟩ := hq.r hXa
    have hPa := pN_pos n B hp hXa
    refine rn_istore (ls' := [some (.ref 18), some (.int (nI (8 - k))), some (.int (nI sl)), some (.int (nI s)), some (.int (nI a.1)), none, none]) dX4_readSet_7 (by decide) rfl rfl ?_
    refine rn_iload dX4_readSet_9 rfl ?_
    refine rn_iconst (v := (-1)) dX4_readSet_11 (by decide) ?_
    refine rn_icmp_ne (tgt := 17) dX4_readSet_12 (by decide) (fun c_12 => ?_) (fun c_12 => ?_)
    · refine rn_aload_n dX4_readSet_17 rfl rfl ?_
      refine rn_iconst (v := nI 0) dX4_readSet_18 (by decide) ?_
      refine rn_bipush (v := nI 16) dX4_readSet_19 (by decide) ?_
      refine rn_callV0 (st := []) dX4_readSet_21 cf_4_93 (c_X4_readNumber hs ((hFa.fr 0).tx hT) hB (p := a.2) (lo := 0) (hi := 16) hPa.1.2 h4a (by decide) (by decide)) (by omega) (sk_l hs 18 (by decide)) (sk_k18 hs) rfl rfl (Nat.le_of_ble_eq_true rfl) (fun r1 S1 I2 hq => ?_)
      obtain ⟨rfl, rfl, hFb, h16b, h4b, h0b⟩ := hq.r hXb
      have hPb := pN_pos n B hPa.1.2 hXb
      refine rn_istore (ls' := [some (.ref 18), some (.int (nI (8 - k))), some (.int (nI sl)), some (.int (nI s)), some (.int (nI a.1)), some (.int (nI b.1)), none]) dX4_readSet_24 (by decide) rfl rfl ?_
      refine rn_iload dX4_readSet_26 rfl ?_
      refine rn_iconst (v := (-1)) dX4_readSet_28 (by decide) ?_
      refine rn_icmp_ne (tgt := 34) dX4_readSet_29 (by decide) (fun c_29 => ?_) (fun c_29 => ?_)
      · refine rn_aload_n dX4_readSet_34 rfl rfl ?_
        refine rn_iconst (v := nI 0) dX4_readSet_35 (by decide) ?_
        refine rn_iconst (v := nI 2) dX4_readSet_36 (by decide) ?_
        refine rn_callV0 (st := []) dX4_readSet_37 cf_4_93 (c_X4_readNumber hs (((hFa.trans hFb).fr 0).tx hT) hB (p := b.2) (lo := 0) (hi := 2) hPb.1.2 h4b (by decide) (by decide)) (by omega) (sk_l hs 18 (by decide)) (sk_k18 hs) rfl rfl (Nat.le_of_ble_eq_true rfl) (fun r1 S1 I3 hq => ?_)
        obtain ⟨rfl, rfl, hFc, hE2c, hE3c⟩ := hq.l hXc
        refine rn_istore (ls' := [some (.ref 18), some (.int (nI (8 - k))), some (.int (nI sl)), some (.int (nI s)), some (.int (nI a.1)), some (.int (nI b.1)), some (.int (-1))]) dX4_readSet_40 (by decide) rfl rfl ?_
        refine rn_iload dX4_readSet_42 rfl ?_
        refine rn_iconst (v := (-1)) dX4_readSet_44 (by decide) ?_
        refine rn_icmp_eq (tgt := 57) dX4_readSet_45 (by decide) (fun c_45 => ?_) (fun c_45 => ?_)
        · refine rn_iconst (v := nI 0) dX4_readSet_57 (by decide) ?_
          refine rn_ireturn dX4_readSet_58 rfl (by decide) ?_
          exact ⟨rfl, (hFa.trans (hFb.trans hFc)).fr _, Or.inl ⟨e, rfl, rfl, hE2c, hE3c⟩⟩
        · exact absurd rfl c_45
      · exact absurd c_29 (fun h9 => by rw [z_eq, z_nI (by omega), z_m1] at h9; omega)
    · exact absurd c_12 (fun h9 => by rw [z_eq, z_nI (by omega), z_m1] at h9; omega)
  rw [bnd_r]
  rcases hXd : pE n B Sh k c.2 with e | d
  · refine am_mt ⟨by decide +kernel, rfl⟩ (Nat.le_of_ble_eq_true rfl) rfl ?_
    refine rn_aload_n dX4_readSet_0 rfl rfl ?_
    refine rn_iconst (v := nI 0) dX4_readSet_1 (by decide) ?_
    refine rn_bipush (v := nI 16) dX4_readSet_2 (by decide) ?_
    refine rn_callV0 (st := []) dX4_readSet_4 cf_4_93 (c_X4_readNumber hs hT hB (p := p) (lo := 0) (hi := 16) hp h4 (by decide) (by decide)) (by omega) (sk_l hs 18 (by decide)) (sk_k18 hs) rfl rfl (Nat.le_of_ble_eq_true rfl) (fun r1 S1 I1 hq => ?_)
    obtain ⟨rfl, rfl, hFa, h16a, h4a, h0a⟩ := hq.r hXa
    have hPa := pN_pos n B hp hXa
    refine rn_istore (ls' := [some (.ref 18), some (.int (nI (8 - k))), some (.int (nI sl)), some (.int (nI s)), some (.int (nI a.1)), none, none]) dX4_readSet_7 (by decide) rfl rfl ?_
    refine rn_iload dX4_readSet_9 rfl ?_
    refine rn_iconst (v := (-1)) dX4_readSet_11 (by decide) ?_
    refine rn_icmp_ne (tgt := 17) dX4_readSet_12 (by decide) (fun c_12 => ?_) (fun c_12 => ?_)
    · refine rn_aload_n dX4_readSet_17 rfl rfl ?_
      refine rn_iconst (v := nI 0) dX4_readSet_18 (by decide) ?_
      refine rn_bipush (v := nI 16) dX4_readSet_19 (by decide) ?_
      refine rn_callV0 (st := []) dX4_readSet_21 cf_4_93 (c_X4_readNumber hs ((hFa.fr 0).tx hT) hB (p := a.2) (lo := 0) (hi := 16) hPa.1.2 h4a (by decide) (by decide)) (by omega) (sk_l hs 18 (by decide)) (sk_k18 hs) rfl rfl (Nat.le_of_ble_eq_true rfl) (fun r1 S1 I2 hq => ?_)
      obtain ⟨rfl, rfl, hFb, h16b, h4b, h0b⟩ := hq.r hXb
      have hPb := pN_pos n B hPa.1.2 hXb
      refine rn_istore (ls' := [some (.ref 18), some (.int (nI (8 - k))), some (.int (nI sl)), some (.int (nI s)), some (.int (nI a.1)), some (.int (nI b.1)), none]) dX4_readSet_24 (by decide) rfl rfl ?_
      refine rn_iload dX4_readSet_26 rfl ?_
      refine rn_iconst (v := (-1)) dX4_readSet_28 (by decide) ?_
      refine rn_icmp_ne (tgt := 34) dX4_readSet_29 (by decide) (fun c_29 => ?_) (fun c_29 => ?_)
      · refine rn_aload_n dX4_readSet_34 rfl rfl ?_
        refine rn_iconst (v := nI 0) dX4_readSet_35 (by decide) ?_
        refine rn_iconst (v := nI 2) dX4_readSet_36 (by decide) ?_
        refine rn_callV0 (st := []) dX4_readSet_37 cf_4_93 (c_X4_readNumber hs (((hFa.trans hFb).fr 0).tx hT) hB (p := b.2) (lo := 0) (hi := 2) hPb.1.2 h4b (by decide) (by decide)) (by omega) (sk_l hs 18 (by decide)) (sk_k18 hs) rfl rfl (Nat.le_of_ble_eq_true rfl) (fun r1 S1 I3 hq => ?_)
        obtain ⟨rfl, rfl, hFc, h16c, h4c, h0c⟩ := hq.r hXc
        have hPc := pN_pos n B hPb.1.2 hXc
        refine rn_istore (ls' := [some (.ref 18), some (.int (nI (8 - k))), some (.int (nI sl)), some (.int (nI s)), some (.int (nI a.1)), some (.int (nI b.1)), some (.int (nI c.1))]) dX4_readSet_40 (by decide) rfl rfl ?_
        refine rn_iload dX4_readSet_42 rfl ?_
        refine rn_iconst (v := (-1)) dX4_readSet_44 (by decide) ?_
        refine rn_icmp_eq (tgt := 57) dX4_readSet_45 (by decide) (fun c_45 => ?_) (fun c_45 => ?_)
        · exact absurd c_45 (fun h9 => by rw [z_eq, z_nI (by omega), z_m1] at h9; omega)
        · refine rn_aload_n dX4_readSet_48 rfl rfl ?_
          refine rn_iload_n dX4_readSet_49 rfl rfl ?_
          refine rn_iload_n dX4_readSet_50 rfl rfl ?_
          refine rn_callV0 (st := []) dX4_readSet_51 cf_4_46 (hR (sl) (c.2) I3 (by omega) hPc.1.2 (((hFa.trans (hFb.trans hFc)).fr 0).tx hT) (((hFa.trans (hFb.trans hFc)).fr 0).sh hs hS) h4c) (by omega) (sk_l hs 18 (by decide)) (sk_k18 hs) rfl rfl (Nat.le_of_ble_eq_true rfl) (fun r1 S1 I4 hq => ?_)
          obtain ⟨rfl, rfl, hFd, hE2d, hE3d⟩ := hq.l hXd
          refine rn_if_neN (tgt := 59) dX4_readSet_54 (by decide) (by omega) (fun c_54 => ?_) (fun c_54 => ?_)
          · exact absurd c_54 (by decide)
          · refine rn_iconst (v := nI 0) dX4_readSet_57 (by decide) ?_
            refine rn_ireturn dX4_readSet_58 rfl (by decide) ?_
            exact ⟨rfl, ((hFa.trans (hFb.trans hFc)).fr sl).trans hFd, Or.inl ⟨e, rfl, rfl, hE2d, hE3d⟩⟩
      · exact absurd c_29 (fun h9 => by rw [z_eq, z_nI (by omega), z_m1] at h9; omega)
    · exact absurd c_12 (fun h9 => by rw [z_eq, z_nI (by omega), z_m1] at h9; omega)
  rw [bnd_r]
  by_cases hin : nInner d.1.1 d.1.2.1 a.1 b.1 = true
  · rw [show oSet a.1 b.1 c.1 d.1 = some (d.1.1, d.1.2.1, upM d.1.2.2 (a.1, b.1) c.1) from if_pos hin]
    refine am_mt ⟨by decide +kernel, rfl⟩ (Nat.le_of_ble_eq_true rfl) rfl ?_
    refine rn_aload_n dX4_readSet_0 rfl rfl ?_
    refine rn_iconst (v := nI 0) dX4_readSet_1 (by decide) ?_
    refine rn_bipush (v := nI 16) dX4_readSet_2 (by decide) ?_
    refine rn_callV0 (st := []) dX4_readSet_4 cf_4_93 (c_X4_readNumber hs hT hB (p := p) (lo := 0) (hi := 16) hp h4 (by decide) (by decide)) (by omega) (sk_l hs 18 (by decide)) (sk_k18 hs) rfl rfl (Nat.le_of_ble_eq_true rfl) (fun r1 S1 I1 hq => ?_)
    obtain ⟨rfl, rfl, hFa, h16a, h4a, h0a⟩ := hq.r hXa
    have hPa := pN_pos n B hp hXa
    refine rn_istore (ls' := [some (.ref 18), some (.int (nI (8 - k))), some (.int (nI sl)), some (.int (nI s)), some (.int (nI a.1)), none, none]) dX4_readSet_7 (by decide) rfl rfl ?_
    refine rn_iload dX4_readSet_9 rfl ?_
    refine rn_iconst (v := (-1)) dX4_readSet_11 (by decide) ?_
    refine rn_icmp_ne (tgt := 17) dX4_readSet_12 (by decide) (fun c_12 => ?_) (fun c_12 => ?_)
    · refine rn_aload_n dX4_readSet_17 rfl rfl ?_
      refine rn_iconst (v := nI 0) dX4_readSet_18 (by decide) ?_
      refine rn_bipush (v := nI 16) dX4_readSet_19 (by decide) ?_
      refine rn_callV0 (st := []) dX4_readSet_21 cf_4_93 (c_X4_readNumber hs ((hFa.fr 0).tx hT) hB (p := a.2) (lo := 0) (hi := 16) hPa.1.2 h4a (by decide) (by decide)) (by omega) (sk_l hs 18 (by decide)) (sk_k18 hs) rfl rfl (Nat.le_of_ble_eq_true rfl) (fun r1 S1 I2 hq => ?_)
      obtain ⟨rfl, rfl, hFb, h16b, h4b, h0b⟩ := hq.r hXb
      have hPb := pN_pos n B hPa.1.2 hXb
      refine rn_istore (ls' := [some (.ref 18), some (.int (nI (8 - k))), some (.int (nI sl)), some (.int (nI s)), some (.int (nI a.1)), some (.int (nI b.1)), none]) dX4_readSet_24 (by decide) rfl rfl ?_
      refine rn_iload dX4_readSet_26 rfl ?_
      refine rn_iconst (v := (-1)) dX4_readSet_28 (by decide) ?_
      refine rn_icmp_ne (tgt := 34) dX4_readSet_29 (by decide) (fun c_29 => ?_) (fun c_29 => ?_)
      · refine rn_aload_n dX4_readSet_34 rfl rfl ?_
        refine rn_iconst (v := nI 0) dX4_readSet_35 (by decide) ?_
        refine rn_iconst (v := nI 2) dX4_readSet_36 (by decide) ?_
        refine rn_callV0 (st := []) dX4_readSet_37 cf_4_93 (c_X4_readNumber hs (((hFa.trans hFb).fr 0).tx hT) hB (p := b.2) (lo := 0) (hi := 2) hPb.1.2 h4b (by decide) (by decide)) (by omega) (sk_l hs 18 (by decide)) (sk_k18 hs) rfl rfl (Nat.le_of_ble_eq_true rfl) (fun r1 S1 I3 hq => ?_)
        obtain ⟨rfl, rfl, hFc, h16c, h4c, h0c⟩ := hq.r hXc
        have hPc := pN_pos n B hPb.1.2 hXc
        refine rn_istore (ls' := [some (.ref 18), some (.int (nI (8 - k))), some (.int (nI sl)), some (.int (nI s)), some (.int (nI a.1)), some (.int (nI b.1)), some (.int (nI c.1))]) dX4_readSet_40 (by decide) rfl rfl ?_
        refine rn_iload dX4_readSet_42 rfl ?_
        refine rn_iconst (v := (-1)) dX4_readSet_44 (by decide) ?_
        refine rn_icmp_eq (tgt := 57) dX4_readSet_45 (by decide) (fun c_45 => ?_) (fun c_45 => ?_)
        · exact absurd c_45 (fun h9 => by rw [z_eq, z_nI (by omega), z_m1] at h9; omega)
        · refine rn_aload_n dX4_readSet_48 rfl rfl ?_
          refine rn_iload_n dX4_readSet_49 rfl rfl ?_
          refine rn_iload_n dX4_readSet_50 rfl rfl ?_
          refine rn_callV0 (st := []) dX4_readSet_51 cf_4_46 (hR (sl) (c.2) I3 (by omega) hPc.1.2 (((hFa.trans (hFb.trans hFc)).fr 0).tx hT) (((hFa.trans (hFb.trans hFc)).fr 0).sh hs hS) h4c) (by omega) (sk_l hs 18 (by decide)) (sk_k18 hs) rfl rfl (Nat.le_of_ble_eq_true rfl) (fun r1 S1 I4 hq => ?_)
          obtain ⟨rfl, rfl, hFd, h16d, hDd, h4d⟩ := hq.r hXd
          have hOd := pE_ok n B Sh hok k _ _ _ hPc.1.2 hXd
          refine rn_if_neN (tgt := 59) dX4_readSet_54 (by decide) (by omega) (fun c_54 => ?_) (fun c_54 => ?_)
          · refine rn_aload_n dX4_readSet_59 rfl rfl ?_
            refine rn_getR (r := 20) dX4_readSet_60 fd_4_30 (sk_l hs 18 (by decide)) (sk_k18 hs) rfl (sk_r18_3 hs) ?_
            refine rn_iload_n dX4_readSet_63 rfl rfl ?_
            refine rn_aaloadN dX4_readSet_64 (sk_l hs 20 (by decide)) (sk_k20 hs) (by omega) (by omega) ?_
            refine rn_topv (y := .ref (21 + 2 * sl)) (by rw [(sk_ds hs (k := sl) (by omega)).1]; rfl) ?_
            refine rn_iload dX4_readSet_65 rfl ?_
            refine rn_iload dX4_readSet_67 rfl ?_
            refine rn_callVq (st := []) dX4_readSet_69 cf_4_101 (c_X0_isInner hd hDd.1 hDd.2.1 hOd.1.1.2 hOd.1.2.1.2 _ _) (by omega) hd.1 hd.2.1 rfl rfl (Nat.le_of_ble_eq_true rfl) ?_
            refine rn_if_neB (tgt := 85) dX4_readSet_72 (by decide) (fun c_72 => ?_) (fun c_72 => ?_)
            · refine rn_aload_n dX4_readSet_85 rfl rfl ?_
              refine rn_getR (r := 20) dX4_readSet_86 fd_4_30 (sk_l hs 18 (by decide)) (sk_k18 hs) rfl (sk_r18_3 hs) ?_
              refine rn_iload_n dX4_readSet_89 rfl rfl ?_
              refine rn_aaloadN dX4_readSet_90 (sk_l hs 20 (by decide)) (sk_k20 hs) (by omega) (by omega) ?_
              refine rn_topv (y := .ref (21 + 2 * sl)) (by rw [(sk_ds hs (k := sl) (by omega)).1]; rfl) ?_
              refine rn_iload dX4_readSet_91 rfl ?_
              refine rn_iload dX4_readSet_93 rfl ?_
              refine rn_iload dX4_readSet_95 rfl ?_
              refine rn_callVq (st := []) dX4_readSet_97 cf_4_104 (c_X0_put hd hDd.1 hDd.2.1 hOd.1.1.2 hOd.1.2.1.2 hin _) (by omega) hd.1 hd.2.1 rfl rfl (Nat.le_of_ble_eq_true rfl) ?_
              refine rn_iconst (v := nI 1) dX4_readSet_100 (by decide) ?_
              refine rn_ireturn dX4_readSet_101 rfl (by decide) ?_
              exact ⟨rfl, (((hFa.trans (hFb.trans hFc)).fr sl).trans hFd).dd hsl (fun x _ h2 => am_up_a _ _ h2), Or.inr ⟨_, rfl, rfl, by rw [am_up_a _ _ (by omega), h16d, h16c, h16b, h16a], isDr_up hd.ne hOd.1.1.2 hOd.1.2.1.2 hDd hin _, by rw [am_up_a _ _ (by omega)]; exact h4d⟩⟩
            · exact absurd c_72 (by rw [pInner_nI (by omega) (by omega), hin]; decide)
          · exact absurd c_54 (by decide)
      · exact absurd c_29 (fun h9 => by rw [z_eq, z_nI (by omega), z_m1] at h9; omega)
    · exact absurd c_12 (fun h9 => by rw [z_eq, z_nI (by omega), z_m1] at h9; omega)
  · rw [show oSet a.1 b.1 c.1 d.1 = none from if_neg hin]
    refine am_mt ⟨by decide +kernel, rfl⟩ (Nat.le_of_ble_eq_true rfl) rfl ?_
    refine rn_aload_n dX4_readSet_0 rfl rfl ?_
    refine rn_iconst (v := nI 0) dX4_readSet_1 (by decide) ?_
    refine rn_bipush (v := nI 16) dX4_readSet_2 (by decide) ?_
    refine rn_callV0 (st := []) dX4_readSet_4 cf_4_93 (c_X4_readNumber hs hT hB (p := p) (lo := 0) (hi := 16) hp h4 (by decide) (by decide)) (by omega) (sk_l hs 18 (by decide)) (sk_k18 hs) rfl rfl (Nat.le_of_ble_eq_true rfl) (fun r1 S1 I1 hq => ?_)
    obtain ⟨rfl, rfl, hFa, h16a, h4a, h0a⟩ := hq.r hXa
    have hPa := pN_pos n B hp hXa
    refine rn_istore (ls' := [some (.ref 18), some (.int (nI (8 - k))), some (.int (nI sl)), some (.int (nI s)), some (.int (nI a.1)), none, none]) dX4_readSet_7 (by decide) rfl rfl ?_
    refine rn_iload dX4_readSet_9 rfl ?_
    refine rn_iconst (v := (-1)) dX4_readSet_11 (by decide) ?_
    refine rn_icmp_ne (tgt := 17) dX4_readSet_12 (by decide) (fun c_12 => ?_) (fun c_12 => ?_)
    · refine rn_aload_n dX4_readSet_17 rfl rfl ?_
      refine rn_iconst (v := nI 0) dX4_readSet_18 (by decide) ?_
      refine rn_bipush (v := nI 16) dX4_readSet_19 (by decide) ?_
      refine rn_callV0 (st := []) dX4_readSet_21 cf_4_93 (c_X4_readNumber hs ((hFa.fr 0).tx hT) hB (p := a.2) (lo := 0) (hi := 16) hPa.1.2 h4a (by decide) (by decide)) (by omega) (sk_l hs 18 (by decide)) (sk_k18 hs) rfl rfl (Nat.le_of_ble_eq_true rfl) (fun r1 S1 I2 hq => ?_)
      obtain ⟨rfl, rfl, hFb, h16b, h4b, h0b⟩ := hq.r hXb
      have hPb := pN_pos n B hPa.1.2 hXb
      refine rn_istore (ls' := [some (.ref 18), some (.int (nI (8 - k))), some (.int (nI sl)), some (.int (nI s)), some (.int (nI a.1)), some (.int (nI b.1)), none]) dX4_readSet_24 (by decide) rfl rfl ?_
      refine rn_iload dX4_readSet_26 rfl ?_
      refine rn_iconst (v := (-1)) dX4_readSet_28 (by decide) ?_
      refine rn_icmp_ne (tgt := 34) dX4_readSet_29 (by decide) (fun c_29 => ?_) (fun c_29 => ?_)
      · refine rn_aload_n dX4_readSet_34 rfl rfl ?_
        refine rn_iconst (v := nI 0) dX4_readSet_35 (by decide) ?_
        refine rn_iconst (v := nI 2) dX4_readSet_36 (by decide) ?_
        refine rn_callV0 (st := []) dX4_readSet_37 cf_4_93 (c_X4_readNumber hs (((hFa.trans hFb).fr 0).tx hT) hB (p := b.2) (lo := 0) (hi := 2) hPb.1.2 h4b (by decide) (by decide)) (by omega) (sk_l hs 18 (by decide)) (sk_k18 hs) rfl rfl (Nat.le_of_ble_eq_true rfl) (fun r1 S1 I3 hq => ?_)
        obtain ⟨rfl, rfl, hFc, h16c, h4c, h0c⟩ := hq.r hXc
        have hPc := pN_pos n B hPb.1.2 hXc
        refine rn_istore (ls' := [some (.ref 18), some (.int (nI (8 - k))), some (.int (nI sl)), some (.int (nI s)), some (.int (nI a.1)), some (.int (nI b.1)), some (.int (nI c.1))]) dX4_readSet_40 (by decide) rfl rfl ?_
        refine rn_iload dX4_readSet_42 rfl ?_
        refine rn_iconst (v := (-1)) dX4_readSet_44 (by decide) ?_
        refine rn_icmp_eq (tgt := 57) dX4_readSet_45 (by decide) (fun c_45 => ?_) (fun c_45 => ?_)
        · exact absurd c_45 (fun h9 => by rw [z_eq, z_nI (by omega), z_m1] at h9; omega)
        · refine rn_aload_n dX4_readSet_48 rfl rfl ?_
          refine rn_iload_n dX4_readSet_49 rfl rfl ?_
          refine rn_iload_n dX4_readSet_50 rfl rfl ?_
          refine rn_callV0 (st := []) dX4_readSet_51 cf_4_46 (hR (sl) (c.2) I3 (by omega) hPc.1.2 (((hFa.trans (hFb.trans hFc)).fr 0).tx hT) (((hFa.trans (hFb.trans hFc)).fr 0).sh hs hS) h4c) (by omega) (sk_l hs 18 (by decide)) (sk_k18 hs) rfl rfl (Nat.le_of_ble_eq_true rfl) (fun r1 S1 I4 hq => ?_)
          obtain ⟨rfl, rfl, hFd, h16d, hDd, h4d⟩ := hq.r hXd
          have hOd := pE_ok n B Sh hok k _ _ _ hPc.1.2 hXd
          refine rn_if_neN (tgt := 59) dX4_readSet_54 (by decide) (by omega) (fun c_54 => ?_) (fun c_54 => ?_)
          · refine rn_aload_n dX4_readSet_59 rfl rfl ?_
            refine rn_getR (r := 20) dX4_readSet_60 fd_4_30 (sk_l hs 18 (by decide)) (sk_k18 hs) rfl (sk_r18_3 hs) ?_
            refine rn_iload_n dX4_readSet_63 rfl rfl ?_
            refine rn_aaloadN dX4_readSet_64 (sk_l hs 20 (by decide)) (sk_k20 hs) (by omega) (by omega) ?_
            refine rn_topv (y := .ref (21 + 2 * sl)) (by rw [(sk_ds hs (k := sl) (by omega)).1]; rfl) ?_
            refine rn_iload dX4_readSet_65 rfl ?_
            refine rn_iload dX4_readSet_67 rfl ?_
            refine rn_callVq (st := []) dX4_readSet_69 cf_4_101 (c_X0_isInner hd hDd.1 hDd.2.1 hOd.1.1.2 hOd.1.2.1.2 _ _) (by omega) hd.1 hd.2.1 rfl rfl (Nat.le_of_ble_eq_true rfl) ?_
            refine rn_if_neB (tgt := 85) dX4_readSet_72 (by decide) (fun c_72 => ?_) (fun c_72 => ?_)
            · exact absurd c_72 (by rw [pInner_nI (by omega) (by omega)]; exact hin)
            · refine rn_aload_n dX4_readSet_75 rfl rfl ?_
              refine rn_getR (r := 16) dX4_readSet_76 fd_4_9 (sk_l hs 18 (by decide)) (sk_k18 hs) rfl (sk_r18_0 hs) ?_
              refine rn_iconst (v := nI 4) dX4_readSet_79 (by decide) ?_
              refine rn_iload_n dX4_readSet_80 rfl rfl ?_
              refine rn_callVq (st := []) dX4_readSet_81 cf_4_61 (c_X3_fail hs _ _) (by omega) (sk_l hs 16 (by decide)) (sk_k16 hs) rfl rfl (Nat.le_of_ble_eq_true rfl) ?_
              refine rn_ireturn dX4_readSet_84 rfl (by decide) ?_
              exact ⟨rfl, (((hFa.trans (hFb.trans hFc)).fr sl).trans hFd).fail _ _, Or.inl ⟨(4, s), rfl, rfl, by rw [am_up_k _ _ (by decide), am_up_at], by rw [am_up_at]⟩⟩
          · exact absurd c_54 (by decide)
      · exact absurd c_29 (fun h9 => by rw [z_eq, z_nI (by omega), z_m1] at h9; omega)
    · exact absurd c_12 (fun h9 => by rw [z_eq, z_nI (by omega), z_m1] at h9; omega)
set_option maxHeartbeats 1000000 in
set_option maxRecDepth 100000 in
theorem c_X4_readTurned_3 {S : am_S} (hs : sk S) {I : am_I} {n : Nat} {B : Nat → Nat} (hT : tX n B I) (hB : okB n B) {Sh : Nat → Option Dw} (hS : ShX Sh S I) {k : Nat} (hR : RO S n B Sh k) {p : Nat} {sl : Nat} (hsl : sl ≤ 8) (hslk : sl + k ≤ 8) (hp : p ≤ n) (h4 : I 19 4 = nI p) : am_Mt (7 + 2 * k) Y_X4_readTurned (0, 0) [.ref 18, .int (nI (8 - k)), .int (nI sl), .int (nI 3)] S I (RX S sl I (bnd (pE n B Sh k p) (fun d => .inr (oTurn d.1, d.2)))) := by
  have h200 := hB.1
  have hok := hS.2
  have hd := (sk_ds hs (k := sl) (by omega)).2
  rcases hXd : pE n B Sh k p with e | d
  · refine am_mt ⟨by decide +kernel, rfl⟩ (Nat.le_of_ble_eq_true rfl) rfl ?_
    refine rn_aload_n dX4_readTurned_0 rfl rfl ?_
    refine rn_iload_n dX4_readTurned_1 rfl rfl ?_
    refine rn_iload_n dX4_readTurned_2 rfl rfl ?_
    refine rn_callV0 (st := []) dX4_readTurned_3 cf_4_46 (hR (sl) (p) I (by omega) hp hT hS h4) (by omega) (sk_l hs 18 (by decide)) (sk_k18 hs) rfl rfl (Nat.le_of_ble_eq_true rfl) (fun r1 S1 I1 hq => ?_)
    obtain ⟨rfl, rfl, hFd, hE2d, hE3d⟩ := hq.l hXd
    refine rn_if_neN (tgt := 11) dX4_readTurned_6 (by decide) (by omega) (fun c_6 => ?_) (fun c_6 => ?_)
    · exact absurd c_6 (by decide)
    · refine rn_iconst (v := nI 0) dX4_readTurned_9 (by decide) ?_
      refine rn_ireturn dX4_readTurned_10 rfl (by decide) ?_
      exact ⟨rfl, hFd, Or.inl ⟨e, rfl, rfl, hE2d, hE3d⟩⟩
  · refine am_mt ⟨by decide +kernel, rfl⟩ (Nat.le_of_ble_eq_true rfl) rfl ?_
    refine rn_aload_n dX4_readTurned_0 rfl rfl ?_
    refine rn_iload_n dX4_readTurned_1 rfl rfl ?_
    refine rn_iload_n dX4_readTurned_2 rfl rfl ?_
    refine rn_callV0 (st := []) dX4_readTurned_3 cf_4_46 (hR (sl) (p) I (by omega) hp hT hS h4) (by omega) (sk_l hs 18 (by decide)) (sk_k18 hs) rfl rfl (Nat.le_of_ble_eq_true rfl) (fun r1 S1 I1 hq => ?_)
    obtain ⟨rfl, rfl, hFd, h16d, hDd, h4d⟩ := hq.r hXd
    have hOd := pE_ok n B Sh hok k _ _ _ hp hXd
    refine rn_if_neN (tgt := 11) dX4_readTurned_6 (by decide) (by omega) (fun c_6 => ?_) (fun c_6 => ?_)
    · refine rn_aload_n dX4_readTurned_11 rfl rfl ?_
      refine rn_getR (r := 39) dX4_readTurned_12 fd_4_34 (sk_l hs 18 (by decide)) (sk_k18 hs) rfl (sk_r18_4 hs) ?_
      refine rn_aload_n dX4_readTurned_15 rfl rfl ?_
      refine rn_getR (r := 20) dX4_readTurned_16 fd_4_30 (sk_l hs 18 (by decide)) (sk_k18 hs) rfl (sk_r18_3 hs) ?_
      refine rn_iload_n dX4_readTurned_19 rfl rfl ?_
      refine rn_aaloadN dX4_readTurned_20 (sk_l hs 20 (by decide)) (sk_k20 hs) (by omega) (by omega) ?_
      refine rn_topv (y := .ref (21 + 2 * sl)) (by rw [(sk_ds hs (k := sl) (by omega)).1]; rfl) ?_
      refine rn_iload_n dX4_readTurned_21 rfl rfl ?_
      refine rn_iconst (v := nI 3) dX4_readTurned_22 (by decide) ?_
      refine rn_icmp_neN (tgt := 30) dX4_readTurned_23 (by decide) (by omega) (by omega) (fun c_23 => ?_) (fun c_23 => ?_)
      · exact absurd c_23 (by decide)
      · refine rn_iconst (v := nI 1) dX4_readTurned_26 (by decide) ?_
        refine rn_goto (tgt := 31) dX4_readTurned_27 (by decide) ?_
        refine rn_iload_n dX4_readTurned_31 rfl rfl ?_
        refine rn_iconst (v := nI 4) dX4_readTurned_32 (by decide) ?_
        refine rn_icmp_neN (tgt := 40) dX4_readTurned_33 (by decide) (by omega) (by omega) (fun c_33 => ?_) (fun c_33 => ?_)
        · refine rn_iconst (v := nI 0) dX4_readTurned_40 (by decide) ?_
          refine rn_callV0 (st := []) dX4_readTurned_41 cf_4_111 (c_turnD (sk_d39 hs) hd (by omega) (by omega) hOd.1 hDd) (by omega) (sk_l hs 39 (by decide)) (sk_k39 hs) rfl rfl (Nat.le_of_ble_eq_true rfl) (fun r1 S1 I2 hq => ?_)
          obtain ⟨rfl, rfl, hD2, hF2⟩ := hq
          refine rn_aload_n dX4_readTurned_44 rfl rfl ?_
          refine rn_getR (r := 20) dX4_readTurned_45 fd_4_30 (sk_l hs 18 (by decide)) (sk_k18 hs) rfl (sk_r18_3 hs) ?_
          refine rn_iload_n dX4_readTurned_48 rfl rfl ?_
          refine rn_aaloadN dX4_readTurned_49 (sk_l hs 20 (by decide)) (sk_k20 hs) (by omega) (by omega) ?_
          refine rn_topv (y := .ref (21 + 2 * sl)) (by rw [(sk_ds hs (k := sl) (by omega)).1]; rfl) ?_
          refine rn_aload_n dX4_readTurned_50 rfl rfl ?_
          refine rn_getR (r := 39) dX4_readTurned_51 fd_4_34 (sk_l hs 18 (by decide)) (sk_k18 hs) rfl (sk_r18_4 hs) ?_
          refine rn_callV0 (st := []) dX4_readTurned_54 cf_4_64 (c_copyD hd (sk_d39 hs) (by omega) hD2) (by omega) hd.1 hd.2.1 rfl rfl (Nat.le_of_ble_eq_true rfl) (fun r1 S1 I3 hq => ?_)
          obtain ⟨rfl, rfl, hD3, hF3⟩ := hq
          refine rn_iconst (v := nI 1) dX4_readTurned_57 (by decide) ?_
          refine rn_ireturn dX4_readTurned_58 rfl (by decide) ?_
          exact ⟨rfl, (hFd.ds hF2).dd hsl hF3, Or.inr ⟨_, rfl, rfl, by rw [hF3 16 (by omega) (by omega), hF2 16 (by decide) (by decide), h16d], hD3, by rw [hF3 19 (by omega) (by omega), hF2 19 (by decide) (by decide)]; exact h4d⟩⟩
        · exact absurd c_33 (by decide)
    · exact absurd c_6 (by decide)
set_option maxHeartbeats 1000000 in
set_option maxRecDepth 100000 in
theorem c_X4_readTurned_4 {S : am_S} (hs : sk S) {I : am_I} {n : Nat} {B : Nat → Nat} (hT : tX n B I) (hB : okB n B) {Sh : Nat → Option Dw} (hS : ShX Sh S I) {k : Nat} (hR : RO S n B Sh k) {p : Nat} {sl : Nat} (hsl : sl ≤ 8) (hslk : sl + k ≤ 8) (hp : p ≤ n) (h4 : I 19 4 = nI p) : am_Mt (7 + 2 * k) Y_X4_readTurned (0, 0) [.ref 18, .int (nI (8 - k)), .int (nI sl), .int (nI 4)] S I (RX S sl I (bnd (pE n B Sh k p) (fun d => .inr (oFlip d.1, d.2)))) := by
  have h200 := hB.1
  have hok := hS.2
  have hd := (sk_ds hs (k := sl) (by omega)).2
  rcases hXd : pE n B Sh k p with e | d
  · refine am_mt ⟨by decide +kernel, rfl⟩ (Nat.le_of_ble_eq_true rfl) rfl ?_
    refine rn_aload_n dX4_readTurned_0 rfl rfl ?_
    refine rn_iload_n dX4_readTurned_1 rfl rfl ?_
    refine rn_iload_n dX4_readTurned_2 rfl rfl ?_
    refine rn_callV0 (st := []) dX4_readTurned_3 cf_4_46 (hR (sl) (p) I (by omega) hp hT hS h4) (by omega) (sk_l hs 18 (by decide)) (sk_k18 hs) rfl rfl (Nat.le_of_ble_eq_true rfl) (fun r1 S1 I1 hq => ?_)
    obtain ⟨rfl, rfl, hFd, hE2d, hE3d⟩ := hq.l hXd
    refine rn_if_neN (tgt := 11) dX4_readTurned_6 (by decide) (by omega) (fun c_6 => ?_) (fun c_6 => ?_)
    · exact absurd c_6 (by decide)
    · refine rn_iconst (v := nI 0) dX4_readTurned_9 (by decide) ?_
      refine rn_ireturn dX4_readTurned_10 rfl (by decide) ?_
      exact ⟨rfl, hFd, Or.inl ⟨e, rfl, rfl, hE2d, hE3d⟩⟩
  · refine am_mt ⟨by decide +kernel, rfl⟩ (Nat.le_of_ble_eq_true rfl) rfl ?_
    refine rn_aload_n dX4_readTurned_0 rfl rfl ?_
    refine rn_iload_n dX4_readTurned_1 rfl rfl ?_
    refine rn_iload_n dX4_readTurned_2 rfl rfl ?_
    refine rn_callV0 (st := []) dX4_readTurned_3 cf_4_46 (hR (sl) (p) I (by omega) hp hT hS h4) (by omega) (sk_l hs 18 (by decide)) (sk_k18 hs) rfl rfl (Nat.le_of_ble_eq_true rfl) (fun r1 S1 I1 hq => ?_)
    obtain ⟨rfl, rfl, hFd, h16d, hDd, h4d⟩ := hq.r hXd
    have hOd := pE_ok n B Sh hok k _ _ _ hp hXd
    refine rn_if_neN (tgt := 11) dX4_readTurned_6 (by decide) (by omega) (fun c_6 => ?_) (fun c_6 => ?_)
    · refine rn_aload_n dX4_readTurned_11 rfl rfl ?_
      refine rn_getR (r := 39) dX4_readTurned_12 fd_4_34 (sk_l hs 18 (by decide)) (sk_k18 hs) rfl (sk_r18_4 hs) ?_
      refine rn_aload_n dX4_readTurned_15 rfl rfl ?_
      refine rn_getR (r := 20) dX4_readTurned_16 fd_4_30 (sk_l hs 18 (by decide)) (sk_k18 hs) rfl (sk_r18_3 hs) ?_
      refine rn_iload_n dX4_readTurned_19 rfl rfl ?_
      refine rn_aaloadN dX4_readTurned_20 (sk_l hs 20 (by decide)) (sk_k20 hs) (by omega) (by omega) ?_
      refine rn_topv (y := .ref (21 + 2 * sl)) (by rw [(sk_ds hs (k := sl) (by omega)).1]; rfl) ?_
      refine rn_iload_n dX4_readTurned_21 rfl rfl ?_
      refine rn_iconst (v := nI 3) dX4_readTurned_22 (by decide) ?_
      refine rn_icmp_neN (tgt := 30) dX4_readTurned_23 (by decide) (by omega) (by omega) (fun c_23 => ?_) (fun c_23 => ?_)
      · refine rn_iconst (v := nI 0) dX4_readTurned_30 (by decide) ?_
        refine rn_iload_n dX4_readTurned_31 rfl rfl ?_
        refine rn_iconst (v := nI 4) dX4_readTurned_32 (by decide) ?_
        refine rn_icmp_neN (tgt := 40) dX4_readTurned_33 (by decide) (by omega) (by omega) (fun c_33 => ?_) (fun c_33 => ?_)
        · exact absurd c_33 (by decide)
        · refine rn_iconst (v := nI 1) dX4_readTurned_36 (by decide) ?_
          refine rn_goto (tgt := 41) dX4_readTurned_37 (by decide) ?_
          refine rn_callV0 (st := []) dX4_readTurned_41 cf_4_111 (c_flipD (sk_d39 hs) hd (by omega) (by omega) hOd.1 hDd) (by omega) (sk_l hs 39 (by decide)) (sk_k39 hs) rfl rfl (Nat.le_of_ble_eq_true rfl) (fun r1 S1 I2 hq => ?_)
          obtain ⟨rfl, rfl, hD2, hF2⟩ := hq
          refine rn_aload_n dX4_readTurned_44 rfl rfl ?_
          refine rn_getR (r := 20) dX4_readTurned_45 fd_4_30 (sk_l hs 18 (by decide)) (sk_k18 hs) rfl (sk_r18_3 hs) ?_
          refine rn_iload_n dX4_readTurned_48 rfl rfl ?_
          refine rn_aaloadN dX4_readTurned_49 (sk_l hs 20 (by decide)) (sk_k20 hs) (by omega) (by omega) ?_
          refine rn_topv (y := .ref (21 + 2 * sl)) (by rw [(sk_ds hs (k := sl) (by omega)).1]; rfl) ?_
          refine rn_aload_n dX4_readTurned_50 rfl rfl ?_
          refine rn_getR (r := 39) dX4_readTurned_51 fd_4_34 (sk_l hs 18 (by decide)) (sk_k18 hs) rfl (sk_r18_4 hs) ?_
          refine rn_callV0 (st := []) dX4_readTurned_54 cf_4_64 (c_copyD hd (sk_d39 hs) (by omega) hD2) (by omega) hd.1 hd.2.1 rfl rfl (Nat.le_of_ble_eq_true rfl) (fun r1 S1 I3 hq => ?_)
          obtain ⟨rfl, rfl, hD3, hF3⟩ := hq
          refine rn_iconst (v := nI 1) dX4_readTurned_57 (by decide) ?_
          refine rn_ireturn dX4_readTurned_58 rfl (by decide) ?_
          exact ⟨rfl, (hFd.ds hF2).dd hsl hF3, Or.inr ⟨_, rfl, rfl, by rw [hF3 16 (by omega) (by omega), hF2 16 (by decide) (by decide), h16d], hD3, by rw [hF3 19 (by omega) (by omega), hF2 19 (by decide) (by decide)]; exact h4d⟩⟩
      · exact absurd c_23 (by decide)
    · exact absurd c_6 (by decide)
set_option maxHeartbeats 1000000 in
set_option maxRecDepth 100000 in
theorem c_X4_readPair_5 {S : am_S} (hs : sk S) {I : am_I} {n : Nat} {B : Nat → Nat} (hT : tX n B I) (hB : okB n B) {Sh : Nat → Option Dw} (hS : ShX Sh S I) {k : Nat} (hR : RO S n B Sh k) {p s : Nat} {sl : Nat} (hsl : sl ≤ 8) (hslk : sl + 1 + k ≤ 8) (hp : p ≤ n) (h4 : I 19 4 = nI p) : am_Mt (7 + 2 * k) Y_X4_readPair (0, 0) [.ref 18, .int (nI (8 - k)), .int (nI sl), .int (nI 5), .int (nI s)] S I (RX S sl I (bnd (pE n B Sh k p) (fun d => bnd (pE n B Sh k d.2) (fun d2 => opt (4, s) ((oBes d.1 d2.1).map (fun D => (D, d2.2))))))) := by
  have h200 := hB.1
  have hok := hS.2
  have hd := (sk_ds hs (k := sl) (by omega)).2
  have hd2 := (sk_ds hs (k := sl + 1) (by omega)).2
  rcases hXd : pE n B Sh k p with e | d
  · refine am_mt ⟨by decide +kernel, rfl⟩ (Nat.le_of_ble_eq_true rfl) rfl ?_
    refine rn_iload_n dX4_readPair_0 rfl rfl ?_
    refine rn_iconst (v := nI 1) dX4_readPair_1 (by decide) ?_
    refine rn_iadd dX4_readPair_2 ?_
    refine rn_top (nI_add _ _) ?_
    refine rn_aload_n dX4_readPair_3 rfl rfl ?_
    refine rn_getR (r := 20) dX4_readPair_4 fd_4_30 (sk_l hs 18 (by decide)) (sk_k18 hs) rfl (sk_r18_3 hs) ?_
    refine rn_alenq dX4_readPair_7 (sk_l hs 20 (by decide)) (sk_k20 hs) ?_
    refine rn_icmp_geN (tgt := 31) dX4_readPair_8 (by decide) (by omega) (by omega) (fun c_8 => ?_) (fun c_8 => ?_)
    · omega
    · refine rn_aload_n dX4_readPair_11 rfl rfl ?_
      refine rn_iload_n dX4_readPair_12 rfl rfl ?_
      refine rn_iload_n dX4_readPair_13 rfl rfl ?_
      refine rn_callV0 (st := []) dX4_readPair_14 cf_4_46 (hR (sl) (p) I (by omega) hp hT hS h4) (by omega) (sk_l hs 18 (by decide)) (sk_k18 hs) rfl rfl (Nat.le_of_ble_eq_true rfl) (fun r1 S1 I1 hq => ?_)
      obtain ⟨rfl, rfl, hFd, hE2d, hE3d⟩ := hq.l hXd
      refine rn_if_eqN (tgt := 31) dX4_readPair_17 (by decide) (by omega) (fun c_17 => ?_) (fun c_17 => ?_)
      · refine rn_iconst (v := nI 0) dX4_readPair_31 (by decide) ?_
        refine rn_ireturn dX4_readPair_32 rfl (by decide) ?_
        exact ⟨rfl, hFd, Or.inl ⟨e, rfl, rfl, hE2d, hE3d⟩⟩
      · exact absurd c_17 (by decide)
  rw [bnd_r]
  rcases hXg : pE n B Sh k d.2 with e | g
  · refine am_mt ⟨by decide +kernel, rfl⟩ (Nat.le_of_ble_eq_true rfl) rfl ?_
    refine rn_iload_n dX4_readPair_0 rfl rfl ?_
    refine rn_iconst (v := nI 1) dX4_readPair_1 (by decide) ?_
    refine rn_iadd dX4_readPair_2 ?_
    refine rn_top (nI_add _ _) ?_
    refine rn_aload_n dX4_readPair_3 rfl rfl ?_
    refine rn_getR (r := 20) dX4_readPair_4 fd_4_30 (sk_l hs 18 (by decide)) (sk_k18 hs) rfl (sk_r18_3 hs) ?_
    refine rn_alenq dX4_readPair_7 (sk_l hs 20 (by decide)) (sk_k20 hs) ?_
    refine rn_icmp_geN (tgt := 31) dX4_readPair_8 (by decide) (by omega) (by omega) (fun c_8 => ?_) (fun c_8 => ?_)
    · omega
    · refine rn_aload_n dX4_readPair_11 rfl rfl ?_
      refine rn_iload_n dX4_readPair_12 rfl rfl ?_
      refine rn_iload_n dX4_readPair_13 rfl rfl ?_
      refine rn_callV0 (st := []) dX4_readPair_14 cf_4_46 (hR (sl) (p) I (by omega) hp hT hS h4) (by omega) (sk_l hs 18 (by decide)) (sk_k18 hs) rfl rfl (Nat.le_of_ble_eq_true rfl) (fun r1 S1 I1 hq => ?_)
      obtain ⟨rfl, rfl, hFd, h16d, hDd, h4d⟩ := hq.r hXd
      have hOd := pE_ok n B Sh hok k _ _ _ hp hXd
      refine rn_if_eqN (tgt := 31) dX4_readPair_17 (by decide) (by omega) (fun c_17 => ?_) (fun c_17 => ?_)
      · exact absurd c_17 (by decide)
      · refine rn_aload_n dX4_readPair_20 rfl rfl ?_
        refine rn_iload_n dX4_readPair_21 rfl rfl ?_
        refine rn_iload_n dX4_readPair_22 rfl rfl ?_
        refine rn_iconst (v := nI 1) dX4_readPair_23 (by decide) ?_
        refine rn_iadd dX4_readPair_24 ?_
        refine rn_top (nI_add _ _) ?_
        refine rn_callV0 (st := []) dX4_readPair_25 cf_4_46 (hR (sl + 1) (d.2) I1 (by omega) hOd.2.2 (hFd.tx hT) (hFd.sh hs hS) h4d) (by omega) (sk_l hs 18 (by decide)) (sk_k18 hs) rfl rfl (Nat.le_of_ble_eq_true rfl) (fun r1 S1 I2 hq => ?_)
        obtain ⟨rfl, rfl, hFg, hE2g, hE3g⟩ := hq.l hXg
        refine rn_if_neN (tgt := 33) dX4_readPair_28 (by decide) (by omega) (fun c_28 => ?_) (fun c_28 => ?_)
        · exact absurd c_28 (by decide)
        · refine rn_iconst (v := nI 0) dX4_readPair_31 (by decide) ?_
          refine rn_ireturn dX4_readPair_32 rfl (by decide) ?_
          exact ⟨rfl, hFd.trans hFg.down, Or.inl ⟨e, rfl, rfl, hE2g, hE3g⟩⟩
  rw [bnd_r]
  rcases ho : oBes d.1 g.1 with _ | D
  · refine am_mt ⟨by decide +kernel, rfl⟩ (Nat.le_of_ble_eq_true rfl) rfl ?_
    refine rn_iload_n dX4_readPair_0 rfl rfl ?_
    refine rn_iconst (v := nI 1) dX4_readPair_1 (by decide) ?_
    refine rn_iadd dX4_readPair_2 ?_
    refine rn_top (nI_add _ _) ?_
    refine rn_aload_n dX4_readPair_3 rfl rfl ?_
    refine rn_getR (r := 20) dX4_readPair_4 fd_4_30 (sk_l hs 18 (by decide)) (sk_k18 hs) rfl (sk_r18_3 hs) ?_
    refine rn_alenq dX4_readPair_7 (sk_l hs 20 (by decide)) (sk_k20 hs) ?_
    refine rn_icmp_geN (tgt := 31) dX4_readPair_8 (by decide) (by omega) (by omega) (fun c_8 => ?_) (fun c_8 => ?_)
    · omega
    · refine rn_aload_n dX4_readPair_11 rfl rfl ?_
      refine rn_iload_n dX4_readPair_12 rfl rfl ?_
      refine rn_iload_n dX4_readPair_13 rfl rfl ?_
      refine rn_callV0 (st := []) dX4_readPair_14 cf_4_46 (hR (sl) (p) I (by omega) hp hT hS h4) (by omega) (sk_l hs 18 (by decide)) (sk_k18 hs) rfl rfl (Nat.le_of_ble_eq_true rfl) (fun r1 S1 I1 hq => ?_)
      obtain ⟨rfl, rfl, hFd, h16d, hDd, h4d⟩ := hq.r hXd
      have hOd := pE_ok n B Sh hok k _ _ _ hp hXd
      refine rn_if_eqN (tgt := 31) dX4_readPair_17 (by decide) (by omega) (fun c_17 => ?_) (fun c_17 => ?_)
      · exact absurd c_17 (by decide)
      · refine rn_aload_n dX4_readPair_20 rfl rfl ?_
        refine rn_iload_n dX4_readPair_21 rfl rfl ?_
        refine rn_iload_n dX4_readPair_22 rfl rfl ?_
        refine rn_iconst (v := nI 1) dX4_readPair_23 (by decide) ?_
        refine rn_iadd dX4_readPair_24 ?_
        refine rn_top (nI_add _ _) ?_
        refine rn_callV0 (st := []) dX4_readPair_25 cf_4_46 (hR (sl + 1) (d.2) I1 (by omega) hOd.2.2 (hFd.tx hT) (hFd.sh hs hS) h4d) (by omega) (sk_l hs 18 (by decide)) (sk_k18 hs) rfl rfl (Nat.le_of_ble_eq_true rfl) (fun r1 S1 I2 hq => ?_)
        obtain ⟨rfl, rfl, hFg, h16g, hDg, h4g⟩ := hq.r hXg
        have hOg := pE_ok n B Sh hok k _ _ _ hOd.2.2 hXg
        refine rn_if_neN (tgt := 33) dX4_readPair_28 (by decide) (by omega) (fun c_28 => ?_) (fun c_28 => ?_)
        · have hDd2 : isDD I2 (21 + 2 * sl) (22 + 2 * sl) d.1 := hDd.kept (hFg.1 _ (by omega) (by omega) (by omega) (by omega) (by omega)) (hFg.1 _ (by omega) (by omega) (by omega) (by omega) (by omega))
          refine rn_aload_n dX4_readPair_33 rfl rfl ?_
          refine rn_getR (r := 20) dX4_readPair_34 fd_4_30 (sk_l hs 18 (by decide)) (sk_k18 hs) rfl (sk_r18_3 hs) ?_
          refine rn_iload_n dX4_readPair_37 rfl rfl ?_
          refine rn_aaloadN dX4_readPair_38 (sk_l hs 20 (by decide)) (sk_k20 hs) (by omega) (by omega) ?_
          refine rn_topv (y := .ref (21 + 2 * sl)) (by rw [(sk_ds hs (k := sl) (by omega)).1]; rfl) ?_
          refine rn_astore (ls' := [some (.ref 18), some (.int (nI (8 - k))), some (.int (nI sl)), some (.int (nI 5)), some (.int (nI s)), some (.ref (21 + 2 * sl)), none, none]) dX4_readPair_39 (by decide) rfl rfl ?_
          refine rn_aload_n dX4_readPair_41 rfl rfl ?_
          refine rn_getR (r := 20) dX4_readPair_42 fd_4_30 (sk_l hs 18 (by decide)) (sk_k18 hs) rfl (sk_r18_3 hs) ?_
          refine rn_iload_n dX4_readPair_45 rfl rfl ?_
          refine rn_iconst (v := nI 1) dX4_readPair_46 (by decide) ?_
          refine rn_iadd dX4_readPair_47 ?_
          refine rn_top (nI_add _ _) ?_
          refine rn_aaloadN dX4_readPair_48 (sk_l hs 20 (by decide)) (sk_k20 hs) (by omega) (by omega) ?_
          refine rn_topv (y := .ref (21 + 2 * (sl + 1))) (by rw [(sk_ds hs (k := sl + 1) (by omega)).1]; rfl) ?_
          refine rn_astore (ls' := [some (.ref 18), some (.int (nI (8 - k))), some (.int (nI sl)), some (.int (nI 5)), some (.int (nI s)), some (.ref (21 + 2 * sl)), some (.ref (21 + 2 * (sl + 1))), none]) dX4_readPair_49 (by decide) rfl rfl ?_
          refine rn_iload_n dX4_readPair_51 rfl rfl ?_
          refine rn_iconst (v := nI 5) dX4_readPair_52 (by decide) ?_
          refine rn_icmp_neN (tgt := 68) dX4_readPair_53 (by decide) (by omega) (by omega) (fun c_53 => ?_) (fun c_53 => ?_)
          · exact absurd c_53 (by decide)
          · refine rn_aload dX4_readPair_56 rfl ?_
            refine rn_aload dX4_readPair_58 rfl ?_
            refine rn_callVq (st := []) dX4_readPair_60 cf_4_108 (c_besD_n hd hd2 (by omega) (by omega) hOd.1 hOg.1 hDd2 hDg ho) (by omega) hd.1 hd.2.1 rfl rfl (Nat.le_of_ble_eq_true rfl) ?_
            refine rn_istore (ls' := [some (.ref 18), some (.int (nI (8 - k))), some (.int (nI sl)), some (.int (nI 5)), some (.int (nI s)), some (.ref (21 + 2 * sl)), some (.ref (21 + 2 * (sl + 1))), some (.int (nI 0))]) dX4_readPair_63 (by decide) rfl rfl ?_
            refine rn_goto (tgt := 95) dX4_readPair_65 (by decide) ?_
            refine rn_iload dX4_readPair_95 rfl ?_
            refine rn_if_neN (tgt := 113) dX4_readPair_97 (by decide) (by omega) (fun c_97 => ?_) (fun c_97 => ?_)
            · exact absurd c_97 (by decide)
            · refine rn_aload_n dX4_readPair_100 rfl rfl ?_
              refine rn_getR (r := 16) dX4_readPair_101 fd_4_9 (sk_l hs 18 (by decide)) (sk_k18 hs) rfl (sk_r18_0 hs) ?_
              refine rn_iconst (v := nI 4) dX4_readPair_104 (by decide) ?_
              refine rn_iload dX4_readPair_105 rfl ?_
              refine rn_callVq (st := []) dX4_readPair_107 cf_4_61 (c_X3_fail hs _ _) (by omega) (sk_l hs 16 (by decide)) (sk_k16 hs) rfl rfl (Nat.le_of_ble_eq_true rfl) ?_
              refine rn_if_eqN (tgt := 117) dX4_readPair_110 (by decide) (by omega) (fun c_110 => ?_) (fun c_110 => ?_)
              · refine rn_iconst (v := nI 0) dX4_readPair_117 (by decide) ?_
                refine rn_ireturn dX4_readPair_118 rfl (by decide) ?_
                exact ⟨rfl, (hFd.trans hFg.down).fail _ _, Or.inl ⟨(4, s), rfl, rfl, by rw [am_up_k _ _ (by decide), am_up_at], by rw [am_up_at]⟩⟩
              · exact absurd c_110 (by decide)
        · exact absurd c_28 (by decide)
  · refine am_mt ⟨by decide +kernel, rfl⟩ (Nat.le_of_ble_eq_true rfl) rfl ?_
    refine rn_iload_n dX4_readPair_0 rfl rfl ?_
    refine rn_iconst (v := nI 1) dX4_readPair_1 (by decide) ?_
    refine rn_iadd dX4_readPair_2 ?_
    refine rn_top (nI_add _ _) ?_
    refine rn_aload_n dX4_readPair_3 rfl rfl ?_
    refine rn_getR (r := 20) dX4_readPair_4 fd_4_30 (sk_l hs 18 (by decide)) (sk_k18 hs) rfl (sk_r18_3 hs) ?_
    refine rn_alenq dX4_readPair_7 (sk_l hs 20 (by decide)) (sk_k20 hs) ?_
    refine rn_icmp_geN (tgt := 31) dX4_readPair_8 (by decide) (by omega) (by omega) (fun c_8 => ?_) (fun c_8 => ?_)
    · omega
    · refine rn_aload_n dX4_readPair_11 rfl rfl ?_
      refine rn_iload_n dX4_readPair_12 rfl rfl ?_
      refine rn_iload_n dX4_readPair_13 rfl rfl ?_
      refine rn_callV0 (st := []) dX4_readPair_14 cf_4_46 (hR (sl) (p) I (by omega) hp hT hS h4) (by omega) (sk_l hs 18 (by decide)) (sk_k18 hs) rfl rfl (Nat.le_of_ble_eq_true rfl) (fun r1 S1 I1 hq => ?_)
      obtain ⟨rfl, rfl, hFd, h16d, hDd, h4d⟩ := hq.r hXd
      have hOd := pE_ok n B Sh hok k _ _ _ hp hXd
      refine rn_if_eqN (tgt := 31) dX4_readPair_17 (by decide) (by omega) (fun c_17 => ?_) (fun c_17 => ?_)
      · exact absurd c_17 (by decide)
      · refine rn_aload_n dX4_readPair_20 rfl rfl ?_
        refine rn_iload_n dX4_readPair_21 rfl rfl ?_
        refine rn_iload_n dX4_readPair_22 rfl rfl ?_
        refine rn_iconst (v := nI 1) dX4_readPair_23 (by decide) ?_
        refine rn_iadd dX4_readPair_24 ?_
        refine rn_top (nI_add _ _) ?_
        refine rn_callV0 (st := []) dX4_readPair_25 cf_4_46 (hR (sl + 1) (d.2) I1 (by omega) hOd.2.2 (hFd.tx hT) (hFd.sh hs hS) h4d) (by omega) (sk_l hs 18 (by decide)) (sk_k18 hs) rfl rfl (Nat.le_of_ble_eq_true rfl) (fun r1 S1 I2 hq => ?_)
        obtain ⟨rfl, rfl, hFg, h16g, hDg, h4g⟩ := hq.r hXg
        have hOg := pE_ok n B Sh hok k _ _ _ hOd.2.2 hXg
        refine rn_if_neN (tgt := 33) dX4_readPair_28 (by decide) (by omega) (fun c_28 => ?_) (fun c_28 => ?_)
        · have hDd2 : isDD I2 (21 + 2 * sl) (22 + 2 * sl) d.1 := hDd.kept (hFg.1 _ (by omega) (by omega) (by omega) (by omega) (by omega)) (hFg.1 _ (by omega) (by omega) (by omega) (by omega) (by omega))
          refine rn_aload_n dX4_readPair_33 rfl rfl ?_
          refine rn_getR (r := 20) dX4_readPair_34 fd_4_30 (sk_l hs 18 (by decide)) (sk_k18 hs) rfl (sk_r18_3 hs) ?_
          refine rn_iload_n dX4_readPair_37 rfl rfl ?_
          refine rn_aaloadN dX4_readPair_38 (sk_l hs 20 (by decide)) (sk_k20 hs) (by omega) (by omega) ?_
          refine rn_topv (y := .ref (21 + 2 * sl)) (by rw [(sk_ds hs (k := sl) (by omega)).1]; rfl) ?_
          refine rn_astore (ls' := [some (.ref 18), some (.int (nI (8 - k))), some (.int (nI sl)), some (.int (nI 5)), some (.int (nI s)), some (.ref (21 + 2 * sl)), none, none]) dX4_readPair_39 (by decide) rfl rfl ?_
          refine rn_aload_n dX4_readPair_41 rfl rfl ?_
          refine rn_getR (r := 20) dX4_readPair_42 fd_4_30 (sk_l hs 18 (by decide)) (sk_k18 hs) rfl (sk_r18_3 hs) ?_
          refine rn_iload_n dX4_readPair_45 rfl rfl ?_
          refine rn_iconst (v := nI 1) dX4_readPair_46 (by decide) ?_
          refine rn_iadd dX4_readPair_47 ?_
          refine rn_top (nI_add _ _) ?_
          refine rn_aaloadN dX4_readPair_48 (sk_l hs 20 (by decide)) (sk_k20 hs) (by omega) (by omega) ?_
          refine rn_topv (y := .ref (21 + 2 * (sl + 1))) (by rw [(sk_ds hs (k := sl + 1) (by omega)).1]; rfl) ?_
          refine rn_astore (ls' := [some (.ref 18), some (.int (nI (8 - k))), some (.int (nI sl)), some (.int (nI 5)), some (.int (nI s)), some (.ref (21 + 2 * sl)), some (.ref (21 + 2 * (sl + 1))), none]) dX4_readPair_49 (by decide) rfl rfl ?_
          refine rn_iload_n dX4_readPair_51 rfl rfl ?_
          refine rn_iconst (v := nI 5) dX4_readPair_52 (by decide) ?_
          refine rn_icmp_neN (tgt := 68) dX4_readPair_53 (by decide) (by omega) (by omega) (fun c_53 => ?_) (fun c_53 => ?_)
          · exact absurd c_53 (by decide)
          · refine rn_aload dX4_readPair_56 rfl ?_
            refine rn_aload dX4_readPair_58 rfl ?_
            refine rn_callV0 (st := []) dX4_readPair_60 cf_4_108 (c_besD_s hd hd2 (by omega) (by omega) hOd.1 hOg.1 hDd2 hDg ho) (by omega) hd.1 hd.2.1 rfl rfl (Nat.le_of_ble_eq_true rfl) (fun r1 S1 I3 hq => ?_)
            obtain ⟨rfl, rfl, hD3, hF3⟩ := hq
            refine rn_istore (ls' := [some (.ref 18), some (.int (nI (8 - k))), some (.int (nI sl)), some (.int (nI 5)), some (.int (nI s)), some (.ref (21 + 2 * sl)), some (.ref (21 + 2 * (sl + 1))), some (.int (nI 1))]) dX4_readPair_63 (by decide) rfl rfl ?_
            refine rn_goto (tgt := 95) dX4_readPair_65 (by decide) ?_
            refine rn_iload dX4_readPair_95 rfl ?_
            refine rn_if_neN (tgt := 113) dX4_readPair_97 (by decide) (by omega) (fun c_97 => ?_) (fun c_97 => ?_)
            · refine rn_iconst (v := nI 1) dX4_readPair_113 (by decide) ?_
              refine rn_goto (tgt := 118) dX4_readPair_114 (by decide) ?_
              refine rn_ireturn dX4_readPair_118 rfl (by decide) ?_
              exact ⟨rfl, (hFd.trans hFg.down).dd hsl hF3, Or.inr ⟨_, rfl, rfl, by rw [hF3 16 (by omega) (by omega), h16g, h16d], hD3, by rw [hF3 19 (by omega) (by omega)]; exact h4g⟩⟩
            · exact absurd c_97 (by decide)
        · exact absurd c_28 (by decide)
set_option maxHeartbeats 1000000 in
set_option maxRecDepth 100000 in
theorem c_X4_readPair_6 {S : am_S} (hs : sk S) {I : am_I} {n : Nat} {B : Nat → Nat} (hT : tX n B I) (hB : okB n B) {Sh : Nat → Option Dw} (hS : ShX Sh S I) {k : Nat} (hR : RO S n B Sh k) {p s : Nat} {sl : Nat} (hsl : sl ≤ 8) (hslk : sl + 1 + k ≤ 8) (hp : p ≤ n) (h4 : I 19 4 = nI p) : am_Mt (7 + 2 * k) Y_X4_readPair (0, 0) [.ref 18, .int (nI (8 - k)), .int (nI sl), .int (nI 6), .int (nI s)] S I (RX S sl I (bnd (pE n B Sh k p) (fun d => bnd (pE n B Sh k d.2) (fun d2 => opt (4, s) ((oAbv d.1 d2.1).map (fun D => (D, d2.2))))))) := by
  have h200 := hB.1
  have hok := hS.2
  have hd := (sk_ds hs (k := sl) (by omega)).2
  have hd2 := (sk_ds hs (k := sl + 1) (by omega)).2
  rcases hXd : pE n B Sh k p with e | d
  · refine am_mt ⟨by decide +kernel, rfl⟩ (Nat.le_of_ble_eq_true rfl) rfl ?_
    refine rn_iload_n dX4_readPair_0 rfl rfl ?_
    refine rn_iconst (v := nI 1) dX4_readPair_1 (by decide) ?_
    refine rn_iadd dX4_readPair_2 ?_
    refine rn_top (nI_add _ _) ?_
    refine rn_aload_n dX4_readPair_3 rfl rfl ?_
    refine rn_getR (r := 20) dX4_readPair_4 fd_4_30 (sk_l hs 18 (by decide)) (sk_k18 hs) rfl (sk_r18_3 hs) ?_
    refine rn_alenq dX4_readPair_7 (sk_l hs 20 (by decide)) (sk_k20 hs) ?_
    refine rn_icmp_geN (tgt := 31) dX4_readPair_8 (by decide) (by omega) (by omega) (fun c_8 => ?_) (fun c_8 => ?_)
    · omega
    · refine rn_aload_n dX4_readPair_11 rfl rfl ?_
      refine rn_iload_n dX4_readPair_12 rfl rfl ?_
      refine rn_iload_n dX4_readPair_13 rfl rfl ?_
      refine rn_callV0 (st := []) dX4_readPair_14 cf_4_46 (hR (sl) (p) I (by omega) hp hT hS h4) (by omega) (sk_l hs 18 (by decide)) (sk_k18 hs) rfl rfl (Nat.le_of_ble_eq_true rfl) (fun r1 S1 I1 hq => ?_)
      obtain ⟨rfl, rfl, hFd, hE2d, hE3d⟩ := hq.l hXd
      refine rn_if_eqN (tgt := 31) dX4_readPair_17 (by decide) (by omega) (fun c_17 => ?_) (fun c_17 => ?_)
      · refine rn_iconst (v := nI 0) dX4_readPair_31 (by decide) ?_
        refine rn_ireturn dX4_readPair_32 rfl (by decide) ?_
        exact ⟨rfl, hFd, Or.inl ⟨e, rfl, rfl, hE2d, hE3d⟩⟩
      · exact absurd c_17 (by decide)
  rw [bnd_r]
  rcases hXg : pE n B Sh k d.2 with e | g
  · refine am_mt ⟨by decide +kernel, rfl⟩ (Nat.le_of_ble_eq_true rfl) rfl ?_
    refine rn_iload_n dX4_readPair_0 rfl rfl ?_
    refine rn_iconst (v := nI 1) dX4_readPair_1 (by decide) ?_
    refine rn_iadd dX4_readPair_2 ?_
    refine rn_top (nI_add _ _) ?_
    refine rn_aload_n dX4_readPair_3 rfl rfl ?_
    refine rn_getR (r := 20) dX4_readPair_4 fd_4_30 (sk_l hs 18 (by decide)) (sk_k18 hs) rfl (sk_r18_3 hs) ?_
    refine rn_alenq dX4_readPair_7 (sk_l hs 20 (by decide)) (sk_k20 hs) ?_
    refine rn_icmp_geN (tgt := 31) dX4_readPair_8 (by decide) (by omega) (by omega) (fun c_8 => ?_) (fun c_8 => ?_)
    · omega
    · refine rn_aload_n dX4_readPair_11 rfl rfl ?_
      refine rn_iload_n dX4_readPair_12 rfl rfl ?_
      refine rn_iload_n dX4_readPair_13 rfl rfl ?_
      refine rn_callV0 (st := []) dX4_readPair_14 cf_4_46 (hR (sl) (p) I (by omega) hp hT hS h4) (by omega) (sk_l hs 18 (by decide)) (sk_k18 hs) rfl rfl (Nat.le_of_ble_eq_true rfl) (fun r1 S1 I1 hq => ?_)
      obtain ⟨rfl, rfl, hFd, h16d, hDd, h4d⟩ := hq.r hXd
      have hOd := pE_ok n B Sh hok k _ _ _ hp hXd
      refine rn_if_eqN (tgt := 31) dX4_readPair_17 (by decide) (by omega) (fun c_17 => ?_) (fun c_17 => ?_)
      · exact absurd c_17 (by decide)
      · refine rn_aload_n dX4_readPair_20 rfl rfl ?_
        refine rn_iload_n dX4_readPair_21 rfl rfl ?_
        refine rn_iload_n dX4_readPair_22 rfl rfl ?_
        refine rn_iconst (v := nI 1) dX4_readPair_23 (by decide) ?_
        refine rn_iadd dX4_readPair_24 ?_
        refine rn_top (nI_add _ _) ?_
        refine rn_callV0 (st := []) dX4_readPair_25 cf_4_46 (hR (sl + 1) (d.2) I1 (by omega) hOd.2.2 (hFd.tx hT) (hFd.sh hs hS) h4d) (by omega) (sk_l hs 18 (by decide)) (sk_k18 hs) rfl rfl (Nat.le_of_ble_eq_true rfl) (fun r1 S1 I2 hq => ?_)
        obtain ⟨rfl, rfl, hFg, hE2g, hE3g⟩ := hq.l hXg
        refine rn_if_neN (tgt := 33) dX4_readPair_28 (by decide) (by omega) (fun c_28 => ?_) (fun c_28 => ?_)
        · exact absurd c_28 (by decide)
        · refine rn_iconst (v := nI 0) dX4_readPair_31 (by decide) ?_
          refine rn_ireturn dX4_readPair_32 rfl (by decide) ?_
          exact ⟨rfl, hFd.trans hFg.down, Or.inl ⟨e, rfl, rfl, hE2g, hE3g⟩⟩
  rw [bnd_r]
  rcases ho : oAbv d.1 g.1 with _ | D
  · refine am_mt ⟨by decide +kernel, rfl⟩ (Nat.le_of_ble_eq_true rfl) rfl ?_
    refine rn_iload_n dX4_readPair_0 rfl rfl ?_
    refine rn_iconst (v := nI 1) dX4_readPair_1 (by decide) ?_
    refine rn_iadd dX4_readPair_2 ?_
    refine rn_top (nI_add _ _) ?_
    refine rn_aload_n dX4_readPair_3 rfl rfl ?_
    refine rn_getR (r := 20) dX4_readPair_4 fd_4_30 (sk_l hs 18 (by decide)) (sk_k18 hs) rfl (sk_r18_3 hs) ?_
    refine rn_alenq dX4_readPair_7 (sk_l hs 20 (by decide)) (sk_k20 hs) ?_
    refine rn_icmp_geN (tgt := 31) dX4_readPair_8 (by decide) (by omega) (by omega) (fun c_8 => ?_) (fun c_8 => ?_)
    · omega
    · refine rn_aload_n dX4_readPair_11 rfl rfl ?_
      refine rn_iload_n dX4_readPair_12 rfl rfl ?_
      refine rn_iload_n dX4_readPair_13 rfl rfl ?_
      refine rn_callV0 (st := []) dX4_readPair_14 cf_4_46 (hR (sl) (p) I (by omega) hp hT hS h4) (by omega) (sk_l hs 18 (by decide)) (sk_k18 hs) rfl rfl (Nat.le_of_ble_eq_true rfl) (fun r1 S1 I1 hq => ?_)
      obtain ⟨rfl, rfl, hFd, h16d, hDd, h4d⟩ := hq.r hXd
      have hOd := pE_ok n B Sh hok k _ _ _ hp hXd
      refine rn_if_eqN (tgt := 31) dX4_readPair_17 (by decide) (by omega) (fun c_17 => ?_) (fun c_17 => ?_)
      · exact absurd c_17 (by decide)
      · refine rn_aload_n dX4_readPair_20 rfl rfl ?_
        refine rn_iload_n dX4_readPair_21 rfl rfl ?_
        refine rn_iload_n dX4_readPair_22 rfl rfl ?_
        refine rn_iconst (v := nI 1) dX4_readPair_23 (by decide) ?_
        refine rn_iadd dX4_readPair_24 ?_
        refine rn_top (nI_add _ _) ?_
        refine rn_callV0 (st := []) dX4_readPair_25 cf_4_46 (hR (sl + 1) (d.2) I1 (by omega) hOd.2.2 (hFd.tx hT) (hFd.sh hs hS) h4d) (by omega) (sk_l hs 18 (by decide)) (sk_k18 hs) rfl rfl (Nat.le_of_ble_eq_true rfl) (fun r1 S1 I2 hq => ?_)
        obtain ⟨rfl, rfl, hFg, h16g, hDg, h4g⟩ := hq.r hXg
        have hOg := pE_ok n B Sh hok k _ _ _ hOd.2.2 hXg
        refine rn_if_neN (tgt := 33) dX4_readPair_28 (by decide) (by omega) (fun c_28 => ?_) (fun c_28 => ?_)
        · have hDd2 : isDD I2 (21 + 2 * sl) (22 + 2 * sl) d.1 := hDd.kept (hFg.1 _ (by omega) (by omega) (by omega) (by omega) (by omega)) (hFg.1 _ (by omega) (by omega) (by omega) (by omega) (by omega))
          refine rn_aload_n dX4_readPair_33 rfl rfl ?_
          refine rn_getR (r := 20) dX4_readPair_34 fd_4_30 (sk_l hs 18 (by decide)) (sk_k18 hs) rfl (sk_r18_3 hs) ?_
          refine rn_iload_n dX4_readPair_37 rfl rfl ?_
          refine rn_aaloadN dX4_readPair_38 (sk_l hs 20 (by decide)) (sk_k20 hs) (by omega) (by omega) ?_
          refine rn_topv (y := .ref (21 + 2 * sl)) (by rw [(sk_ds hs (k := sl) (by omega)).1]; rfl) ?_
          refine rn_astore (ls' := [some (.ref 18), some (.int (nI (8 - k))), some (.int (nI sl)), some (.int (nI 6)), some (.int (nI s)), some (.ref (21 + 2 * sl)), none, none]) dX4_readPair_39 (by decide) rfl rfl ?_
          refine rn_aload_n dX4_readPair_41 rfl rfl ?_
          refine rn_getR (r := 20) dX4_readPair_42 fd_4_30 (sk_l hs 18 (by decide)) (sk_k18 hs) rfl (sk_r18_3 hs) ?_
          refine rn_iload_n dX4_readPair_45 rfl rfl ?_
          refine rn_iconst (v := nI 1) dX4_readPair_46 (by decide) ?_
          refine rn_iadd dX4_readPair_47 ?_
          refine rn_top (nI_add _ _) ?_
          refine rn_aaloadN dX4_readPair_48 (sk_l hs 20 (by decide)) (sk_k20 hs) (by omega) (by omega) ?_
          refine rn_topv (y := .ref (21 + 2 * (sl + 1))) (by rw [(sk_ds hs (k := sl + 1) (by omega)).1]; rfl) ?_
          refine rn_astore (ls' := [some (.ref 18), some (.int (nI (8 - k))), some (.int (nI sl)), some (.int (nI 6)), some (.int (nI s)), some (.ref (21 + 2 * sl)), some (.ref (21 + 2 * (sl + 1))), none]) dX4_readPair_49 (by decide) rfl rfl ?_
          refine rn_iload_n dX4_readPair_51 rfl rfl ?_
          refine rn_iconst (v := nI 5) dX4_readPair_52 (by decide) ?_
          refine rn_icmp_neN (tgt := 68) dX4_readPair_53 (by decide) (by omega) (by omega) (fun c_53 => ?_) (fun c_53 => ?_)
          · refine rn_iload_n dX4_readPair_68 rfl rfl ?_
            refine rn_bipush (v := nI 6) dX4_readPair_69 (by decide) ?_
            refine rn_icmp_neN (tgt := 86) dX4_readPair_71 (by decide) (by omega) (by omega) (fun c_71 => ?_) (fun c_71 => ?_)
            · exact absurd c_71 (by decide)
            · refine rn_aload dX4_readPair_74 rfl ?_
              refine rn_aload dX4_readPair_76 rfl ?_
              refine rn_callVq (st := []) dX4_readPair_78 cf_4_115 (c_abvD_n hd hd2 (by omega) (by omega) hOd.1 hOg.1 hDd2 hDg ho) (by omega) hd.1 hd.2.1 rfl rfl (Nat.le_of_ble_eq_true rfl) ?_
              refine rn_istore (ls' := [some (.ref 18), some (.int (nI (8 - k))), some (.int (nI sl)), some (.int (nI 6)), some (.int (nI s)), some (.ref (21 + 2 * sl)), some (.ref (21 + 2 * (sl + 1))), some (.int (nI 0))]) dX4_readPair_81 (by decide) rfl rfl ?_
              refine rn_goto (tgt := 95) dX4_readPair_83 (by decide) ?_
              refine rn_iload dX4_readPair_95 rfl ?_
              refine rn_if_neN (tgt := 113) dX4_readPair_97 (by decide) (by omega) (fun c_97 => ?_) (fun c_97 => ?_)
              · exact absurd c_97 (by decide)
              · refine rn_aload_n dX4_readPair_100 rfl rfl ?_
                refine rn_getR (r := 16) dX4_readPair_101 fd_4_9 (sk_l hs 18 (by decide)) (sk_k18 hs) rfl (sk_r18_0 hs) ?_
                refine rn_iconst (v := nI 4) dX4_readPair_104 (by decide) ?_
                refine rn_iload dX4_readPair_105 rfl ?_
                refine rn_callVq (st := []) dX4_readPair_107 cf_4_61 (c_X3_fail hs _ _) (by omega) (sk_l hs 16 (by decide)) (sk_k16 hs) rfl rfl (Nat.le_of_ble_eq_true rfl) ?_
                refine rn_if_eqN (tgt := 117) dX4_readPair_110 (by decide) (by omega) (fun c_110 => ?_) (fun c_110 => ?_)
                · refine rn_iconst (v := nI 0) dX4_readPair_117 (by decide) ?_
                  refine rn_ireturn dX4_readPair_118 rfl (by decide) ?_
                  exact ⟨rfl, (hFd.trans hFg.down).fail _ _, Or.inl ⟨(4, s), rfl, rfl, by rw [am_up_k _ _ (by decide), am_up_at], by rw [am_up_at]⟩⟩
                · exact absurd c_110 (by decide)
          · exact absurd c_53 (by decide)
        · exact absurd c_28 (by decide)
  · refine am_mt ⟨by decide +kernel, rfl⟩ (Nat.le_of_ble_eq_true rfl) rfl ?_
    refine rn_iload_n dX4_readPair_0 rfl rfl ?_
    refine rn_iconst (v := nI 1) dX4_readPair_1 (by decide) ?_
    refine rn_iadd dX4_readPair_2 ?_
    refine rn_top (nI_add _ _) ?_
    refine rn_aload_n dX4_readPair_3 rfl rfl ?_
    refine rn_getR (r := 20) dX4_readPair_4 fd_4_30 (sk_l hs 18 (by decide)) (sk_k18 hs) rfl (sk_r18_3 hs) ?_
    refine rn_alenq dX4_readPair_7 (sk_l hs 20 (by decide)) (sk_k20 hs) ?_
    refine rn_icmp_geN (tgt := 31) dX4_readPair_8 (by decide) (by omega) (by omega) (fun c_8 => ?_) (fun c_8 => ?_)
    · omega
    · refine rn_aload_n dX4_readPair_11 rfl rfl ?_
      refine rn_iload_n dX4_readPair_12 rfl rfl ?_
      refine rn_iload_n dX4_readPair_13 rfl rfl ?_
      refine rn_callV0 (st := []) dX4_readPair_14 cf_4_46 (hR (sl) (p) I (by omega) hp hT hS h4) (by omega) (sk_l hs 18 (by decide)) (sk_k18 hs) rfl rfl (Nat.le_of_ble_eq_true rfl) (fun r1 S1 I1 hq => ?_)
      obtain ⟨rfl, rfl, hFd, h16d, hDd, h4d⟩ := hq.r hXd
      have hOd := pE_ok n B Sh hok k _ _ _ hp hXd
      refine rn_if_eqN (tgt := 31) dX4_readPair_17 (by decide) (by omega) (fun c_17 => ?_) (fun c_17 => ?_)
      · exact absurd c_17 (by decide)
      · refine rn_aload_n dX4_readPair_20 rfl rfl ?_
        refine rn_iload_n dX4_readPair_21 rfl rfl ?_
        refine rn_iload_n dX4_readPair_22 rfl rfl ?_
        refine rn_iconst (v := nI 1) dX4_readPair_23 (by decide) ?_
        refine rn_iadd dX4_readPair_24 ?_
        refine rn_top (nI_add _ _) ?_
        refine rn_callV0 (st := []) dX4_readPair_25 cf_4_46 (hR (sl + 1) (d.2) I1 (by omega) hOd.2.2 (hFd.tx hT) (hFd.sh hs hS) h4d) (by omega) (sk_l hs 18 (by decide)) (sk_k18 hs) rfl rfl (Nat.le_of_ble_eq_true rfl) (fun r1 S1 I2 hq => ?_)
        obtain ⟨rfl, rfl, hFg, h16g, hDg, h4g⟩ := hq.r hXg
        have hOg := pE_ok n B Sh hok k _ _ _ hOd.2.2 hXg
        refine rn_if_neN (tgt := 33) dX4_readPair_28 (by decide) (by omega) (fun c_28 => ?_) (fun c_28 => ?_)
        · have hDd2 : isDD I2 (21 + 2 * sl) (22 + 2 * sl) d.1 := hDd.kept (hFg.1 _ (by omega) (by omega) (by omega) (by omega) (by omega)) (hFg.1 _ (by omega) (by omega) (by omega) (by omega) (by omega))
          refine rn_aload_n dX4_readPair_33 rfl rfl ?_
          refine rn_getR (r := 20) dX4_readPair_34 fd_4_30 (sk_l hs 18 (by decide)) (sk_k18 hs) rfl (sk_r18_3 hs) ?_
          refine rn_iload_n dX4_readPair_37 rfl rfl ?_
          refine rn_aaloadN dX4_readPair_38 (sk_l hs 20 (by decide)) (sk_k20 hs) (by omega) (by omega) ?_
          refine rn_topv (y := .ref (21 + 2 * sl)) (by rw [(sk_ds hs (k := sl) (by omega)).1]; rfl) ?_
          refine rn_astore (ls' := [some (.ref 18), some (.int (nI (8 - k))), some (.int (nI sl)), some (.int (nI 6)), some (.int (nI s)), some (.ref (21 + 2 * sl)), none, none]) dX4_readPair_39 (by decide) rfl rfl ?_
          refine rn_aload_n dX4_readPair_41 rfl rfl ?_
          refine rn_getR (r := 20) dX4_readPair_42 fd_4_30 (sk_l hs 18 (by decide)) (sk_k18 hs) rfl (sk_r18_3 hs) ?_
          refine rn_iload_n dX4_readPair_45 rfl rfl ?_
          refine rn_iconst (v := nI 1) dX4_readPair_46 (by decide) ?_
          refine rn_iadd dX4_readPair_47 ?_
          refine rn_top (nI_add _ _) ?_
          refine rn_aaloadN dX4_readPair_48 (sk_l hs 20 (by decide)) (sk_k20 hs) (by omega) (by omega) ?_
          refine rn_topv (y := .ref (21 + 2 * (sl + 1))) (by rw [(sk_ds hs (k := sl + 1) (by omega)).1]; rfl) ?_
          refine rn_astore (ls' := [some (.ref 18), some (.int (nI (8 - k))), some (.int (nI sl)), some (.int (nI 6)), some (.int (nI s)), some (.ref (21 + 2 * sl)), some (.ref (21 + 2 * (sl + 1))), none]) dX4_readPair_49 (by decide) rfl rfl ?_
          refine rn_iload_n dX4_readPair_51 rfl rfl ?_
          refine rn_iconst (v := nI 5) dX4_readPair_52 (by decide) ?_
          refine rn_icmp_neN (tgt := 68) dX4_readPair_53 (by decide) (by omega) (by omega) (fun c_53 => ?_) (fun c_53 => ?_)
          · refine rn_iload_n dX4_readPair_68 rfl rfl ?_
            refine rn_bipush (v := nI 6) dX4_readPair_69 (by decide) ?_
            refine rn_icmp_neN (tgt := 86) dX4_readPair_71 (by decide) (by omega) (by omega) (fun c_71 => ?_) (fun c_71 => ?_)
            · exact absurd c_71 (by decide)
            · refine rn_aload dX4_readPair_74 rfl ?_
              refine rn_aload dX4_readPair_76 rfl ?_
              refine rn_callV0 (st := []) dX4_readPair_78 cf_4_115 (c_abvD_s hd hd2 (by omega) (by omega) hOd.1 hOg.1 hDd2 hDg ho) (by omega) hd.1 hd.2.1 rfl rfl (Nat.le_of_ble_eq_true rfl) (fun r1 S1 I3 hq => ?_)
              obtain ⟨rfl, rfl, hD3, hF3⟩ := hq
              refine rn_istore (ls' := [some (.ref 18), some (.int (nI (8 - k))), some (.int (nI sl)), some (.int (nI 6)), some (.int (nI s)), some (.ref (21 + 2 * sl)), some (.ref (21 + 2 * (sl + 1))), some (.int (nI 1))]) dX4_readPair_81 (by decide) rfl rfl ?_
              refine rn_goto (tgt := 95) dX4_readPair_83 (by decide) ?_
              refine rn_iload dX4_readPair_95 rfl ?_
              refine rn_if_neN (tgt := 113) dX4_readPair_97 (by decide) (by omega) (fun c_97 => ?_) (fun c_97 => ?_)
              · refine rn_iconst (v := nI 1) dX4_readPair_113 (by decide) ?_
                refine rn_goto (tgt := 118) dX4_readPair_114 (by decide) ?_
                refine rn_ireturn dX4_readPair_118 rfl (by decide) ?_
                exact ⟨rfl, (hFd.trans hFg.down).dd hsl hF3, Or.inr ⟨_, rfl, rfl, by rw [hF3 16 (by omega) (by omega), h16g, h16d], hD3, by rw [hF3 19 (by omega) (by omega)]; exact h4g⟩⟩
              · exact absurd c_97 (by decide)
          · exact absurd c_53 (by decide)
        · exact absurd c_28 (by decide)
set_option maxHeartbeats 1000000 in
set_option maxRecDepth 100000 in
theorem c_X4_readPair_7 {S : am_S} (hs : sk S) {I : am_I} {n : Nat} {B : Nat → Nat} (hT : tX n B I) (hB : okB n B) {Sh : Nat → Option Dw} (hS : ShX Sh S I) {k : Nat} (hR : RO S n B Sh k) {p s : Nat} {sl : Nat} (hsl : sl ≤ 8) (hslk : sl + 1 + k ≤ 8) (hp : p ≤ n) (h4 : I 19 4 = nI p) : am_Mt (7 + 2 * k) Y_X4_readPair (0, 0) [.ref 18, .int (nI (8 - k)), .int (nI sl), .int (nI 7), .int (nI s)] S I (RX S sl I (bnd (pE n B Sh k p) (fun d => bnd (pE n B Sh k d.2) (fun d2 => opt (4, s) ((oOvr d.1 d2.1).map (fun D => (D, d2.2))))))) := by
  have h200 := hB.1
  have hok := hS.2
  have hd := (sk_ds hs (k := sl) (by omega)).2
  have hd2 := (sk_ds hs (k := sl + 1) (by omega)).2
  rcases hXd : pE n B Sh k p with e | d
  · refine am_mt ⟨by decide +kernel, rfl⟩ (Nat.le_of_ble_eq_true rfl) rfl ?_
    refine rn_iload_n dX4_readPair_0 rfl rfl ?_
    refine rn_iconst (v := nI 1) dX4_readPair_1 (by decide) ?_
    refine rn_iadd dX4_readPair_2 ?_
    refine rn_top (nI_add _ _) ?_
    refine rn_aload_n dX4_readPair_3 rfl rfl ?_
    refine rn_getR (r := 20) dX4_readPair_4 fd_4_30 (sk_l hs 18 (by decide)) (sk_k18 hs) rfl (sk_r18_3 hs) ?_
    refine rn_alenq dX4_readPair_7 (sk_l hs 20 (by decide)) (sk_k20 hs) ?_
    refine rn_icmp_geN (tgt := 31) dX4_readPair_8 (by decide) (by omega) (by omega) (fun c_8 => ?_) (fun c_8 => ?_)
    · omega
    · refine rn_aload_n dX4_readPair_11 rfl rfl ?_
      refine rn_iload_n dX4_readPair_12 rfl rfl ?_
      refine rn_iload_n dX4_readPair_13 rfl rfl ?_
      refine rn_callV0 (st := []) dX4_readPair_14 cf_4_46 (hR (sl) (p) I (by omega) hp hT hS h4) (by omega) (sk_l hs 18 (by decide)) (sk_k18 hs) rfl rfl (Nat.le_of_ble_eq_true rfl) (fun r1 S1 I1 hq => ?_)
      obtain ⟨rfl, rfl, hFd, hE2d, hE3d⟩ := hq.l hXd
      refine rn_if_eqN (tgt := 31) dX4_readPair_17 (by decide) (by omega) (fun c_17 => ?_) (fun c_17 => ?_)
      · refine rn_iconst (v := nI 0) dX4_readPair_31 (by decide) ?_
        refine rn_ireturn dX4_readPair_32 rfl (by decide) ?_
        exact ⟨rfl, hFd, Or.inl ⟨e, rfl, rfl, hE2d, hE3d⟩⟩
      · exact absurd c_17 (by decide)
  rw [bnd_r]
  rcases hXg : pE n B Sh k d.2 with e | g
  · refine am_mt ⟨by decide +kernel, rfl⟩ (Nat.le_of_ble_eq_true rfl) rfl ?_
    refine rn_iload_n dX4_readPair_0 rfl rfl ?_
    refine rn_iconst (v := nI 1) dX4_readPair_1 (by decide) ?_
    refine rn_iadd dX4_readPair_2 ?_
    refine rn_top (nI_add _ _) ?_
    refine rn_aload_n dX4_readPair_3 rfl rfl ?_
    refine rn_getR (r := 20) dX4_readPair_4 fd_4_30 (sk_l hs 18 (by decide)) (sk_k18 hs) rfl (sk_r18_3 hs) ?_
    refine rn_alenq dX4_readPair_7 (sk_l hs 20 (by decide)) (sk_k20 hs) ?_
    refine rn_icmp_geN (tgt := 31) dX4_readPair_8 (by decide) (by omega) (by omega) (fun c_8 => ?_) (fun c_8 => ?_)
    · omega
    · refine rn_aload_n dX4_readPair_11 rfl rfl ?_
      refine rn_iload_n dX4_readPair_12 rfl rfl ?_
      refine rn_iload_n dX4_readPair_13 rfl rfl ?_
      refine rn_callV0 (st := []) dX4_readPair_14 cf_4_46 (hR (sl) (p) I (by omega) hp hT hS h4) (by omega) (sk_l hs 18 (by decide)) (sk_k18 hs) rfl rfl (Nat.le_of_ble_eq_true rfl) (fun r1 S1 I1 hq => ?_)
      obtain ⟨rfl, rfl, hFd, h16d, hDd, h4d⟩ := hq.r hXd
      have hOd := pE_ok n B Sh hok k _ _ _ hp hXd
      refine rn_if_eqN (tgt := 31) dX4_readPair_17 (by decide) (by omega) (fun c_17 => ?_) (fun c_17 => ?_)
      · exact absurd c_17 (by decide)
      · refine rn_aload_n dX4_readPair_20 rfl rfl ?_
        refine rn_iload_n dX4_readPair_21 rfl rfl ?_
        refine rn_iload_n dX4_readPair_22 rfl rfl ?_
        refine rn_iconst (v := nI 1) dX4_readPair_23 (by decide) ?_
        refine rn_iadd dX4_readPair_24 ?_
        refine rn_top (nI_add _ _) ?_
        refine rn_callV0 (st := []) dX4_readPair_25 cf_4_46 (hR (sl + 1) (d.2) I1 (by omega) hOd.2.2 (hFd.tx hT) (hFd.sh hs hS) h4d) (by omega) (sk_l hs 18 (by decide)) (sk_k18 hs) rfl rfl (Nat.le_of_ble_eq_true rfl) (fun r1 S1 I2 hq => ?_)
        obtain ⟨rfl, rfl, hFg, hE2g, hE3g⟩ := hq.l hXg
        refine rn_if_neN (tgt := 33) dX4_readPair_28 (by decide) (by omega) (fun c_28 => ?_) (fun c_28 => ?_)
        · exact absurd c_28 (by decide)
        · refine rn_iconst (v := nI 0) dX4_readPair_31 (by decide) ?_
          refine rn_ireturn dX4_readPair_32 rfl (by decide) ?_
          exact ⟨rfl, hFd.trans hFg.down, Or.inl ⟨e, rfl, rfl, hE2g, hE3g⟩⟩
  rw [bnd_r]
  rcases ho : oOvr d.1 g.1 with _ | D
  · refine am_mt ⟨by decide +kernel, rfl⟩ (Nat.le_of_ble_eq_true rfl) rfl ?_
    refine rn_iload_n dX4_readPair_0 rfl rfl ?_
    refine rn_iconst (v := nI 1) dX4_readPair_1 (by decide) ?_
    refine rn_iadd dX4_readPair_2 ?_
    refine rn_top (nI_add _ _) ?_
    refine rn_aload_n dX4_readPair_3 rfl rfl ?_
    refine rn_getR (r := 20) dX4_readPair_4 fd_4_30 (sk_l hs 18 (by decide)) (sk_k18 hs) rfl (sk_r18_3 hs) ?_
    refine rn_alenq dX4_readPair_7 (sk_l hs 20 (by decide)) (sk_k20 hs) ?_
    refine rn_icmp_geN (tgt := 31) dX4_readPair_8 (by decide) (by omega) (by omega) (fun c_8 => ?_) (fun c_8 => ?_)
    · omega
    · refine rn_aload_n dX4_readPair_11 rfl rfl ?_
      refine rn_iload_n dX4_readPair_12 rfl rfl ?_
      refine rn_iload_n dX4_readPair_13 rfl rfl ?_
      refine rn_callV0 (st := []) dX4_readPair_14 cf_4_46 (hR (sl) (p) I (by omega) hp hT hS h4) (by omega) (sk_l hs 18 (by decide)) (sk_k18 hs) rfl rfl (Nat.le_of_ble_eq_true rfl) (fun r1 S1 I1 hq => ?_)
      obtain ⟨rfl, rfl, hFd, h16d, hDd, h4d⟩ := hq.r hXd
      have hOd := pE_ok n B Sh hok k _ _ _ hp hXd
      refine rn_if_eqN (tgt := 31) dX4_readPair_17 (by decide) (by omega) (fun c_17 => ?_) (fun c_17 => ?_)
      · exact absurd c_17 (by decide)
      · refine rn_aload_n dX4_readPair_20 rfl rfl ?_
        refine rn_iload_n dX4_readPair_21 rfl rfl ?_
        refine rn_iload_n dX4_readPair_22 rfl rfl ?_
        refine rn_iconst (v := nI 1) dX4_readPair_23 (by decide) ?_
        refine rn_iadd dX4_readPair_24 ?_
        refine rn_top (nI_add _ _) ?_
        refine rn_callV0 (st := []) dX4_readPair_25 cf_4_46 (hR (sl + 1) (d.2) I1 (by omega) hOd.2.2 (hFd.tx hT) (hFd.sh hs hS) h4d) (by omega) (sk_l hs 18 (by decide)) (sk_k18 hs) rfl rfl (Nat.le_of_ble_eq_true rfl) (fun r1 S1 I2 hq => ?_)
        obtain ⟨rfl, rfl, hFg, h16g, hDg, h4g⟩ := hq.r hXg
        have hOg := pE_ok n B Sh hok k _ _ _ hOd.2.2 hXg
        refine rn_if_neN (tgt := 33) dX4_readPair_28 (by decide) (by omega) (fun c_28 => ?_) (fun c_28 => ?_)
        · have hDd2 : isDD I2 (21 + 2 * sl) (22 + 2 * sl) d.1 := hDd.kept (hFg.1 _ (by omega) (by omega) (by omega) (by omega) (by omega)) (hFg.1 _ (by omega) (by omega) (by omega) (by omega) (by omega))
          refine rn_aload_n dX4_readPair_33 rfl rfl ?_
          refine rn_getR (r := 20) dX4_readPair_34 fd_4_30 (sk_l hs 18 (by decide)) (sk_k18 hs) rfl (sk_r18_3 hs) ?_
          refine rn_iload_n dX4_readPair_37 rfl rfl ?_
          refine rn_aaloadN dX4_readPair_38 (sk_l hs 20 (by decide)) (sk_k20 hs) (by omega) (by omega) ?_
          refine rn_topv (y := .ref (21 + 2 * sl)) (by rw [(sk_ds hs (k := sl) (by omega)).1]; rfl) ?_
          refine rn_astore (ls' := [some (.ref 18), some (.int (nI (8 - k))), some (.int (nI sl)), some (.int (nI 7)), some (.int (nI s)), some (.ref (21 + 2 * sl)), none, none]) dX4_readPair_39 (by decide) rfl rfl ?_
          refine rn_aload_n dX4_readPair_41 rfl rfl ?_
          refine rn_getR (r := 20) dX4_readPair_42 fd_4_30 (sk_l hs 18 (by decide)) (sk_k18 hs) rfl (sk_r18_3 hs) ?_
          refine rn_iload_n dX4_readPair_45 rfl rfl ?_
          refine rn_iconst (v := nI 1) dX4_readPair_46 (by decide) ?_
          refine rn_iadd dX4_readPair_47 ?_
          refine rn_top (nI_add _ _) ?_
          refine rn_aaloadN dX4_readPair_48 (sk_l hs 20 (by decide)) (sk_k20 hs) (by omega) (by omega) ?_
          refine rn_topv (y := .ref (21 + 2 * (sl + 1))) (by rw [(sk_ds hs (k := sl + 1) (by omega)).1]; rfl) ?_
          refine rn_astore (ls' := [some (.ref 18), some (.int (nI (8 - k))), some (.int (nI sl)), some (.int (nI 7)), some (.int (nI s)), some (.ref (21 + 2 * sl)), some (.ref (21 + 2 * (sl + 1))), none]) dX4_readPair_49 (by decide) rfl rfl ?_
          refine rn_iload_n dX4_readPair_51 rfl rfl ?_
          refine rn_iconst (v := nI 5) dX4_readPair_52 (by decide) ?_
          refine rn_icmp_neN (tgt := 68) dX4_readPair_53 (by decide) (by omega) (by omega) (fun c_53 => ?_) (fun c_53 => ?_)
          · refine rn_iload_n dX4_readPair_68 rfl rfl ?_
            refine rn_bipush (v := nI 6) dX4_readPair_69 (by decide) ?_
            refine rn_icmp_neN (tgt := 86) dX4_readPair_71 (by decide) (by omega) (by omega) (fun c_71 => ?_) (fun c_71 => ?_)
            · refine rn_aload dX4_readPair_86 rfl ?_
              refine rn_aload dX4_readPair_88 rfl ?_
              refine rn_callVq (st := []) dX4_readPair_90 cf_4_118 (c_ovrD_n hd hd2 (by omega) (by omega) hOd.1 hOg.1 hDd2 hDg ho) (by omega) hd.1 hd.2.1 rfl rfl (Nat.le_of_ble_eq_true rfl) ?_
              refine rn_istore (ls' := [some (.ref 18), some (.int (nI (8 - k))), some (.int (nI sl)), some (.int (nI 7)), some (.int (nI s)), some (.ref (21 + 2 * sl)), some (.ref (21 + 2 * (sl + 1))), some (.int (nI 0))]) dX4_readPair_93 (by decide) rfl rfl ?_
              refine rn_iload dX4_readPair_95 rfl ?_
              refine rn_if_neN (tgt := 113) dX4_readPair_97 (by decide) (by omega) (fun c_97 => ?_) (fun c_97 => ?_)
              · exact absurd c_97 (by decide)
              · refine rn_aload_n dX4_readPair_100 rfl rfl ?_
                refine rn_getR (r := 16) dX4_readPair_101 fd_4_9 (sk_l hs 18 (by decide)) (sk_k18 hs) rfl (sk_r18_0 hs) ?_
                refine rn_iconst (v := nI 4) dX4_readPair_104 (by decide) ?_
                refine rn_iload dX4_readPair_105 rfl ?_
                refine rn_callVq (st := []) dX4_readPair_107 cf_4_61 (c_X3_fail hs _ _) (by omega) (sk_l hs 16 (by decide)) (sk_k16 hs) rfl rfl (Nat.le_of_ble_eq_true rfl) ?_
                refine rn_if_eqN (tgt := 117) dX4_readPair_110 (by decide) (by omega) (fun c_110 => ?_) (fun c_110 => ?_)
                · refine rn_iconst (v := nI 0) dX4_readPair_117 (by decide) ?_
                  refine rn_ireturn dX4_readPair_118 rfl (by decide) ?_
                  exact ⟨rfl, (hFd.trans hFg.down).fail _ _, Or.inl ⟨(4, s), rfl, rfl, by rw [am_up_k _ _ (by decide), am_up_at], by rw [am_up_at]⟩⟩
                · exact absurd c_110 (by decide)
            · exact absurd c_71 (by decide)
          · exact absurd c_53 (by decide)
        · exact absurd c_28 (by decide)
  · refine am_mt ⟨by decide +kernel, rfl⟩ (Nat.le_of_ble_eq_true rfl) rfl ?_
    refine rn_iload_n dX4_readPair_0 rfl rfl ?_
    refine rn_iconst (v := nI 1) dX4_readPair_1 (by decide) ?_
    refine rn_iadd dX4_readPair_2 ?_
    refine rn_top (nI_add _ _) ?_
    refine rn_aload_n dX4_readPair_3 rfl rfl ?_
    refine rn_getR (r := 20) dX4_readPair_4 fd_4_30 (sk_l hs 18 (by decide)) (sk_k18 hs) rfl (sk_r18_3 hs) ?_
    refine rn_alenq dX4_readPair_7 (sk_l hs 20 (by decide)) (sk_k20 hs) ?_
    refine rn_icmp_geN (tgt := 31) dX4_readPair_8 (by decide) (by omega) (by omega) (fun c_8 => ?_) (fun c_8 => ?_)
    · omega
    · refine rn_aload_n dX4_readPair_11 rfl rfl ?_
      refine rn_iload_n dX4_readPair_12 rfl rfl ?_
      refine rn_iload_n dX4_readPair_13 rfl rfl ?_
      refine rn_callV0 (st := []) dX4_readPair_14 cf_4_46 (hR (sl) (p) I (by omega) hp hT hS h4) (by omega) (sk_l hs 18 (by decide)) (sk_k18 hs) rfl rfl (Nat.le_of_ble_eq_true rfl) (fun r1 S1 I1 hq => ?_)
      obtain ⟨rfl, rfl, hFd, h16d, hDd, h4d⟩ := hq.r hXd
      have hOd := pE_ok n B Sh hok k _ _ _ hp hXd
      refine rn_if_eqN (tgt := 31) dX4_readPair_17 (by decide) (by omega) (fun c_17 => ?_) (fun c_17 => ?_)
      · exact absurd c_17 (by decide)
      · refine rn_aload_n dX4_readPair_20 rfl rfl ?_
        refine rn_iload_n dX4_readPair_21 rfl rfl ?_
        refine rn_iload_n dX4_readPair_22 rfl rfl ?_
        refine rn_iconst (v := nI 1) dX4_readPair_23 (by decide) ?_
        refine rn_iadd dX4_readPair_24 ?_
        refine rn_top (nI_add _ _) ?_
        refine rn_callV0 (st := []) dX4_readPair_25 cf_4_46 (hR (sl + 1) (d.2) I1 (by omega) hOd.2.2 (hFd.tx hT) (hFd.sh hs hS) h4d) (by omega) (sk_l hs 18 (by decide)) (sk_k18 hs) rfl rfl (Nat.le_of_ble_eq_true rfl) (fun r1 S1 I2 hq => ?_)
        obtain ⟨rfl, rfl, hFg, h16g, hDg, h4g⟩ := hq.r hXg
        have hOg := pE_ok n B Sh hok k _ _ _ hOd.2.2 hXg
        refine rn_if_neN (tgt := 33) dX4_readPair_28 (by decide) (by omega) (fun c_28 => ?_) (fun c_28 => ?_)
        · have hDd2 : isDD I2 (21 + 2 * sl) (22 + 2 * sl) d.1 := hDd.kept (hFg.1 _ (by omega) (by omega) (by omega) (by omega) (by omega)) (hFg.1 _ (by omega) (by omega) (by omega) (by omega) (by omega))
          refine rn_aload_n dX4_readPair_33 rfl rfl ?_
          refine rn_getR (r := 20) dX4_readPair_34 fd_4_30 (sk_l hs 18 (by decide)) (sk_k18 hs) rfl (sk_r18_3 hs) ?_
          refine rn_iload_n dX4_readPair_37 rfl rfl ?_
          refine rn_aaloadN dX4_readPair_38 (sk_l hs 20 (by decide)) (sk_k20 hs) (by omega) (by omega) ?_
          refine rn_topv (y := .ref (21 + 2 * sl)) (by rw [(sk_ds hs (k := sl) (by omega)).1]; rfl) ?_
          refine rn_astore (ls' := [some (.ref 18), some (.int (nI (8 - k))), some (.int (nI sl)), some (.int (nI 7)), some (.int (nI s)), some (.ref (21 + 2 * sl)), none, none]) dX4_readPair_39 (by decide) rfl rfl ?_
          refine rn_aload_n dX4_readPair_41 rfl rfl ?_
          refine rn_getR (r := 20) dX4_readPair_42 fd_4_30 (sk_l hs 18 (by decide)) (sk_k18 hs) rfl (sk_r18_3 hs) ?_
          refine rn_iload_n dX4_readPair_45 rfl rfl ?_
          refine rn_iconst (v := nI 1) dX4_readPair_46 (by decide) ?_
          refine rn_iadd dX4_readPair_47 ?_
          refine rn_top (nI_add _ _) ?_
          refine rn_aaloadN dX4_readPair_48 (sk_l hs 20 (by decide)) (sk_k20 hs) (by omega) (by omega) ?_
          refine rn_topv (y := .ref (21 + 2 * (sl + 1))) (by rw [(sk_ds hs (k := sl + 1) (by omega)).1]; rfl) ?_
          refine rn_astore (ls' := [some (.ref 18), some (.int (nI (8 - k))), some (.int (nI sl)), some (.int (nI 7)), some (.int (nI s)), some (.ref (21 + 2 * sl)), some (.ref (21 + 2 * (sl + 1))), none]) dX4_readPair_49 (by decide) rfl rfl ?_
          refine rn_iload_n dX4_readPair_51 rfl rfl ?_
          refine rn_iconst (v := nI 5) dX4_readPair_52 (by decide) ?_
          refine rn_icmp_neN (tgt := 68) dX4_readPair_53 (by decide) (by omega) (by omega) (fun c_53 => ?_) (fun c_53 => ?_)
          · refine rn_iload_n dX4_readPair_68 rfl rfl ?_
            refine rn_bipush (v := nI 6) dX4_readPair_69 (by decide) ?_
            refine rn_icmp_neN (tgt := 86) dX4_readPair_71 (by decide) (by omega) (by omega) (fun c_71 => ?_) (fun c_71 => ?_)
            · refine rn_aload dX4_readPair_86 rfl ?_
              refine rn_aload dX4_readPair_88 rfl ?_
              refine rn_callV0 (st := []) dX4_readPair_90 cf_4_118 (c_ovrD_s hd hd2 (by omega) (by omega) hOd.1 hOg.1 hDd2 hDg ho) (by omega) hd.1 hd.2.1 rfl rfl (Nat.le_of_ble_eq_true rfl) (fun r1 S1 I3 hq => ?_)
              obtain ⟨rfl, rfl, hD3, hF3⟩ := hq
              refine rn_istore (ls' := [some (.ref 18), some (.int (nI (8 - k))), some (.int (nI sl)), some (.int (nI 7)), some (.int (nI s)), some (.ref (21 + 2 * sl)), some (.ref (21 + 2 * (sl + 1))), some (.int (nI 1))]) dX4_readPair_93 (by decide) rfl rfl ?_
              refine rn_iload dX4_readPair_95 rfl ?_
              refine rn_if_neN (tgt := 113) dX4_readPair_97 (by decide) (by omega) (fun c_97 => ?_) (fun c_97 => ?_)
              · refine rn_iconst (v := nI 1) dX4_readPair_113 (by decide) ?_
                refine rn_goto (tgt := 118) dX4_readPair_114 (by decide) ?_
                refine rn_ireturn dX4_readPair_118 rfl (by decide) ?_
                exact ⟨rfl, (hFd.trans hFg.down).dd hsl hF3, Or.inr ⟨_, rfl, rfl, by rw [hF3 16 (by omega) (by omega), h16g, h16d], hD3, by rw [hF3 19 (by omega) (by omega)]; exact h4g⟩⟩
              · exact absurd c_97 (by decide)
            · exact absurd c_71 (by decide)
          · exact absurd c_53 (by decide)
        · exact absurd c_28 (by decide)
set_option maxHeartbeats 1000000 in
set_option maxRecDepth 100000 in
theorem c_X4_readRow {S : am_S} (hs : sk S) {I : am_I} {n : Nat} {B : Nat → Nat} (hT : tX n B I) (hB : okB n B) {Sh : Nat → Option Dw} (hS : ShX Sh S I) {k : Nat} (hR : RO S n B Sh k) {p s : Nat} {sl : Nat} (hsl : sl ≤ 8) (hslk : sl + k ≤ 8) (hp : p ≤ n) (h4 : I 19 4 = nI p) : am_Mt (7 + 2 * k) Y_X4_readRow (0, 0) [.ref 18, .int (nI (8 - k)), .int (nI sl), .int (nI s)] S I (RX S sl I (bnd (pN n B 1 8 p) (fun a => bnd (pE n B Sh k a.2) (fun d => opt (4, s) ((oRow a.1 d.1).map (fun D => (D, d.2))))))) := by
  have h200 := hB.1
  have hok := hS.2
  have hd := (sk_ds hs (k := sl) (by omega)).2
  rcases hXa : pN n B 1 8 p with e | a
  · refine am_mt ⟨by decide +kernel, rfl⟩ (Nat.le_of_ble_eq_true rfl) rfl ?_
    refine rn_aload_n dX4_readRow_0 rfl rfl ?_
    refine rn_iconst (v := nI 1) dX4_readRow_1 (by decide) ?_
    refine rn_bipush (v := nI 8) dX4_readRow_2 (by decide) ?_
    refine rn_callV0 (st := []) dX4_readRow_4 cf_4_93 (c_X4_readNumber hs hT hB (p := p) (lo := 1) (hi := 8) hp h4 (by decide) (by decide)) (by omega) (sk_l hs 18 (by decide)) (sk_k18 hs) rfl rfl (Nat.le_of_ble_eq_true rfl) (fun r1 S1 I1 hq => ?_)
    obtain ⟨rfl, rfl, hFa, hE2a, hE3a⟩ := hq.l hXa
    refine rn_istore (ls' := [some (.ref 18), some (.int (nI (8 - k))), some (.int (nI sl)), some (.int (nI s)), some (.int (-1)), none]) dX4_readRow_7 (by decide) rfl rfl ?_
    refine rn_iload dX4_readRow_9 rfl ?_
    refine rn_iconst (v := (-1)) dX4_readRow_11 (by decide) ?_
    refine rn_icmp_eq (tgt := 24) dX4_readRow_12 (by decide) (fun c_12 => ?_) (fun c_12 => ?_)
    · refine rn_iconst (v := nI 0) dX4_readRow_24 (by decide) ?_
      refine rn_ireturn dX4_readRow_25 rfl (by decide) ?_
      exact ⟨rfl, hFa.fr _, Or.inl ⟨e, rfl, rfl, hE2a, hE3a⟩⟩
    · exact absurd rfl c_12
  rw [bnd_r]
  rcases hXd : pE n B Sh k a.2 with e | d
  · refine am_mt ⟨by decide +kernel, rfl⟩ (Nat.le_of_ble_eq_true rfl) rfl ?_
    refine rn_aload_n dX4_readRow_0 rfl rfl ?_
    refine rn_iconst (v := nI 1) dX4_readRow_1 (by decide) ?_
    refine rn_bipush (v := nI 8) dX4_readRow_2 (by decide) ?_
    refine rn_callV0 (st := []) dX4_readRow_4 cf_4_93 (c_X4_readNumber hs hT hB (p := p) (lo := 1) (hi := 8) hp h4 (by decide) (by decide)) (by omega) (sk_l hs 18 (by decide)) (sk_k18 hs) rfl rfl (Nat.le_of_ble_eq_true rfl) (fun r1 S1 I1 hq => ?_)
    obtain ⟨rfl, rfl, hFa, h16a, h4a, h0a⟩ := hq.r hXa
    have hPa := pN_pos n B hp hXa
    refine rn_istore (ls' := [some (.ref 18), some (.int (nI (8 - k))), some (.int (nI sl)), some (.int (nI s)), some (.int (nI a.1)), none]) dX4_readRow_7 (by decide) rfl rfl ?_
    refine rn_iload dX4_readRow_9 rfl ?_
    refine rn_iconst (v := (-1)) dX4_readRow_11 (by decide) ?_
    refine rn_icmp_eq (tgt := 24) dX4_readRow_12 (by decide) (fun c_12 => ?_) (fun c_12 => ?_)
    · exact absurd c_12 (fun h9 => by rw [z_eq, z_nI (by omega), z_m1] at h9; omega)
    · refine rn_aload_n dX4_readRow_15 rfl rfl ?_
      refine rn_iload_n dX4_readRow_16 rfl rfl ?_
      refine rn_iload_n dX4_readRow_17 rfl rfl ?_
      refine rn_callV0 (st := []) dX4_readRow_18 cf_4_46 (hR (sl) (a.2) I1 (by omega) hPa.1.2 ((hFa.fr 0).tx hT) ((hFa.fr 0).sh hs hS) h4a) (by omega) (sk_l hs 18 (by decide)) (sk_k18 hs) rfl rfl (Nat.le_of_ble_eq_true rfl) (fun r1 S1 I2 hq => ?_)
      obtain ⟨rfl, rfl, hFd, hE2d, hE3d⟩ := hq.l hXd
      refine rn_if_neN (tgt := 26) dX4_readRow_21 (by decide) (by omega) (fun c_21 => ?_) (fun c_21 => ?_)
      · exact absurd c_21 (by decide)
      · refine rn_iconst (v := nI 0) dX4_readRow_24 (by decide) ?_
        refine rn_ireturn dX4_readRow_25 rfl (by decide) ?_
        exact ⟨rfl, (hFa.fr sl).trans hFd, Or.inl ⟨e, rfl, rfl, hE2d, hE3d⟩⟩
  rw [bnd_r]
  obtain ⟨⟨w, h, M⟩, q⟩ := d
  refine am_mt ⟨by decide +kernel, rfl⟩ (Nat.le_of_ble_eq_true rfl) rfl ?_
  refine rn_aload_n dX4_readRow_0 rfl rfl ?_
  refine rn_iconst (v := nI 1) dX4_readRow_1 (by decide) ?_
  refine rn_bipush (v := nI 8) dX4_readRow_2 (by decide) ?_
  refine rn_callV0 (st := []) dX4_readRow_4 cf_4_93 (c_X4_readNumber hs hT hB (p := p) (lo := 1) (hi := 8) hp h4 (by decide) (by decide)) (by omega) (sk_l hs 18 (by decide)) (sk_k18 hs) rfl rfl (Nat.le_of_ble_eq_true rfl) (fun r1 S1 I1 hq => ?_)
  obtain ⟨rfl, rfl, hFa, h16a, h4a, h0a⟩ := hq.r hXa
  have hPa := pN_pos n B hp hXa
  refine rn_istore (ls' := [some (.ref 18), some (.int (nI (8 - k))), some (.int (nI sl)), some (.int (nI s)), some (.int (nI a.1)), none]) dX4_readRow_7 (by decide) rfl rfl ?_
  refine rn_iload dX4_readRow_9 rfl ?_
  refine rn_iconst (v := (-1)) dX4_readRow_11 (by decide) ?_
  refine rn_icmp_eq (tgt := 24) dX4_readRow_12 (by decide) (fun c_12 => ?_) (fun c_12 => ?_)
  · exact absurd c_12 (fun h9 => by rw [z_eq, z_nI (by omega), z_m1] at h9; omega)
  · refine rn_aload_n dX4_readRow_15 rfl rfl ?_
    refine rn_iload_n dX4_readRow_16 rfl rfl ?_
    refine rn_iload_n dX4_readRow_17 rfl rfl ?_
    refine rn_callV0 (st := []) dX4_readRow_18 cf_4_46 (hR (sl) (a.2) I1 (by omega) hPa.1.2 ((hFa.fr 0).tx hT) ((hFa.fr 0).sh hs hS) h4a) (by omega) (sk_l hs 18 (by decide)) (sk_k18 hs) rfl rfl (Nat.le_of_ble_eq_true rfl) (fun r1 S1 I2 hq => ?_)
    obtain ⟨rfl, rfl, hFd, h16d, hDd, h4d⟩ := hq.r hXd
    have hOd := pE_ok n B Sh hok k _ _ _ hPa.1.2 hXd
    refine rn_if_neN (tgt := 26) dX4_readRow_21 (by decide) (by omega) (fun c_21 => ?_) (fun c_21 => ?_)
    · refine rn_aload_n dX4_readRow_26 rfl rfl ?_
      refine rn_getR (r := 39) dX4_readRow_27 fd_4_34 (sk_l hs 18 (by decide)) (sk_k18 hs) rfl (sk_r18_4 hs) ?_
      refine rn_aload_n dX4_readRow_30 rfl rfl ?_
      refine rn_getR (r := 20) dX4_readRow_31 fd_4_30 (sk_l hs 18 (by decide)) (sk_k18 hs) rfl (sk_r18_3 hs) ?_
      refine rn_iload_n dX4_readRow_34 rfl rfl ?_
      refine rn_aaloadN dX4_readRow_35 (sk_l hs 20 (by decide)) (sk_k20 hs) (by omega) (by omega) ?_
      refine rn_topv (y := .ref (21 + 2 * sl)) (by rw [(sk_ds hs (k := sl) (by omega)).1]; rfl) ?_
      refine rn_callV0 (st := []) dX4_readRow_36 cf_4_64 (c_copyD (sk_d39 hs) hd (by omega) hDd) (by omega) (sk_l hs 39 (by decide)) (sk_k39 hs) rfl rfl (Nat.le_of_ble_eq_true rfl) (fun r1 S1 I3 hq => ?_)
      obtain ⟨rfl, rfl, hD3, hF3⟩ := hq
      refine rn_iconst (v := nI 1) dX4_readRow_39 (by decide) ?_
      refine rn_istore (ls' := [some (.ref 18), some (.int (nI (8 - k))), some (.int (nI sl)), some (.int (nI s)), some (.int (nI a.1)), some (.int (nI 1))]) dX4_readRow_40 (by decide) rfl rfl ?_
      have LP : ∀ y, y ≤ a.1 → 1 ≤ y → ∀ I4 : am_I, FR sl I I4 → I4 16 = I 16 → I4 19 4 = nI q → w * y ≤ 8 → isDD I4 (21 + 2 * sl) (22 + 2 * sl) (w * y, h, rwM w h M y) → isDD I4 39 40 (w, h, M) → am_Rn (7 + 2 * k) Y_X4_readRow (0, 0) 42 [some (.ref 18), some (.int (nI (8 - k))), some (.int (nI sl)), some (.int (nI s)), some (.int (nI a.1)), some (.int (nI y))] [] S1 I4 (RX S1 sl I (opt (4, s) ((oRow a.1 (w, h, M)).map (fun D => (D, q))))) := by
        refine am_loop a.1 (fun y hy9 ih => ?_)
        intro hy1 I4 hFi h16i h4i hw8 hDy hDs
        refine rn_iload dX4_readRow_42 rfl ?_
        refine rn_iload dX4_readRow_44 rfl ?_
        refine rn_icmp_geN (tgt := 81) dX4_readRow_46 (by decide) (by omega) (by omega) (fun c_46 => ?_) (fun c_46 => ?_)
        · refine rn_iconst (v := nI 1) dX4_readRow_81 (by decide) ?_
          refine rn_ireturn dX4_readRow_82 rfl (by decide) ?_
          obtain rfl : y = a.1 := by omega
          have hso : oRow a.1 (w, h, M) = some (w * a.1, h, rwM w h M a.1) := if_pos hw8
          rw [hso]
          exact ⟨rfl, hFi, Or.inr ⟨_, rfl, rfl, h16i, hDy, h4i⟩⟩
        · have hokr : okD (w * y, h, rwM w h M y) := ⟨⟨Nat.mul_pos hOd.1.1.1 (by omega), hw8⟩, hOd.1.2.1, okM_rw hOd.1.2.2 _ _ _⟩
          by_cases hw9 : w * (y + 1) ≤ 8
          · obtain ⟨D9, ho, e1, e2, e3⟩ := bes_row (h := h) (M := M) hw9
            refine rn_aload_n dX4_readRow_49 rfl rfl ?_
            refine rn_getR (r := 20) dX4_readRow_50 fd_4_30 (sk_l hs 18 (by decide)) (sk_k18 hs) rfl (sk_r18_3 hs) ?_
            refine rn_iload_n dX4_readRow_53 rfl rfl ?_
            refine rn_aaloadN dX4_readRow_54 (sk_l hs 20 (by decide)) (sk_k20 hs) (by omega) (by omega) ?_
            refine rn_topv (y := .ref (21 + 2 * sl)) (by rw [(sk_ds hs (k := sl) (by omega)).1]; rfl) ?_
            refine rn_aload_n dX4_readRow_55 rfl rfl ?_
            refine rn_getR (r := 39) dX4_readRow_56 fd_4_34 (sk_l hs 18 (by decide)) (sk_k18 hs) rfl (sk_r18_4 hs) ?_
            refine rn_callV0 (st := []) dX4_readRow_59 cf_4_108 (c_besD_s hd (sk_d39 hs) (by omega) (by omega) hokr hOd.1 hDy hDs ho) (by omega) hd.1 hd.2.1 rfl rfl (Nat.le_of_ble_eq_true rfl) (fun r1 S1 I5 hq => ?_)
            obtain ⟨rfl, rfl, hD5, hF5⟩ := hq
            refine rn_if_neN (tgt := 75) dX4_readRow_62 (by decide) (by omega) (fun c_62 => ?_) (fun c_62 => ?_)
            · refine rn_iinc (v := nI (y + 1)) (ls' := [some (.ref 18), some (.int (nI (8 - k))), some (.int (nI sl)), some (.int (nI s)), some (.int (nI a.1)), some (.int (nI (y + 1)))]) dX4_readRow_75 rfl (nI_add _ 1) (by decide) rfl rfl ?_
              refine rn_goto (tgt := 42) dX4_readRow_78 (by decide) ?_
              refine ih c_46 (by omega) I5 (hFi.dd hsl hF5) (by rw [hF5 16 (by omega) (by omega)]; exact h16i) (by rw [hF5 19 (by omega) (by omega)]; exact h4i) hw9 ?_ (hDs.kept (hF5 39 (by omega) (by omega)) (hF5 40 (by omega) (by omega)))
              obtain ⟨w9, h9, M9⟩ := D9
              have e1 : w9 = w * (y + 1) := e1
              have e2 : h9 = h := e2
              subst e1 e2
              exact isDr.congr hD5 (fun i j _ => e3 i j)
            · exact absurd c_62 (by decide)
          · have ho := bes_row_n (h := h) (M := M) (M' := rwM w h M y) hw9
            refine rn_aload_n dX4_readRow_49 rfl rfl ?_
            refine rn_getR (r := 20) dX4_readRow_50 fd_4_30 (sk_l hs 18 (by decide)) (sk_k18 hs) rfl (sk_r18_3 hs) ?_
            refine rn_iload_n dX4_readRow_53 rfl rfl ?_
            refine rn_aaloadN dX4_readRow_54 (sk_l hs 20 (by decide)) (sk_k20 hs) (by omega) (by omega) ?_
            refine rn_topv (y := .ref (21 + 2 * sl)) (by rw [(sk_ds hs (k := sl) (by omega)).1]; rfl) ?_
            refine rn_aload_n dX4_readRow_55 rfl rfl ?_
            refine rn_getR (r := 39) dX4_readRow_56 fd_4_34 (sk_l hs 18 (by decide)) (sk_k18 hs) rfl (sk_r18_4 hs) ?_
            refine rn_callVq (st := []) dX4_readRow_59 cf_4_108 (c_besD_n hd (sk_d39 hs) (by omega) (by omega) hokr hOd.1 hDy hDs ho) (by omega) hd.1 hd.2.1 rfl rfl (Nat.le_of_ble_eq_true rfl) ?_
            refine rn_if_neN (tgt := 75) dX4_readRow_62 (by decide) (by omega) (fun c_62 => ?_) (fun c_62 => ?_)
            · exact absurd c_62 (by decide)
            · refine rn_aload_n dX4_readRow_65 rfl rfl ?_
              refine rn_getR (r := 16) dX4_readRow_66 fd_4_9 (sk_l hs 18 (by decide)) (sk_k18 hs) rfl (sk_r18_0 hs) ?_
              refine rn_iconst (v := nI 4) dX4_readRow_69 (by decide) ?_
              refine rn_iload_n dX4_readRow_70 rfl rfl ?_
              refine rn_callVq (st := []) dX4_readRow_71 cf_4_61 (c_X3_fail hs _ _) (by omega) (sk_l hs 16 (by decide)) (sk_k16 hs) rfl rfl (Nat.le_of_ble_eq_true rfl) ?_
              refine rn_ireturn dX4_readRow_74 rfl (by decide) ?_
              have hno : oRow a.1 (w, h, M) = none := if_neg (fun q9 => hw9 (Nat.le_trans (Nat.mul_le_mul_left w (by omega)) q9))
              rw [hno]
              exact ⟨rfl, hFi.fail _ _, Or.inl ⟨(4, s), rfl, rfl, by rw [am_up_k _ _ (by decide), am_up_at], by rw [am_up_at]⟩⟩
      refine LP 1 hPa.2.1 (Nat.le_refl _) I3 (((hFa.fr sl).trans hFd).ds hF3) (by rw [hF3 16 (by decide) (by decide), h16d, h16a]) (by rw [hF3 19 (by decide) (by decide)]; exact h4d) (by rw [Nat.mul_one]; exact hOd.1.1.2) ?_ hD3
      have hDs1 := hDd.kept (hF3 (21 + 2 * sl) (by omega) (by omega)) (hF3 (22 + 2 * sl) (by omega) (by omega))
      show isDr I3 _ _ (w * 1) h (rwM w h M 1)
      rw [Nat.mul_one]
      exact isDr.congr hDs1 (fun i j hin => by rw [rw_one]; exact (if_pos hin).symm)
    · exact absurd c_21 (by decide)
