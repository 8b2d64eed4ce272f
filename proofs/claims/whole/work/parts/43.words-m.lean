set_option maxHeartbeats 1000000 in
set_option maxRecDepth 100000 in
theorem c_X8_add (S : am_S) (I : am_I) {a c e : Nat} (ha : a < 4294967296) (hc : c < 256) (he : e < 256) : am_Mt 0 Y_X8_add (0, 0) [.long (lN a), .int (nI c), .int (nI e)] S I (am_q (some (.long (lN ((a * 256 + c) * 256 + e)))) S I) := by
  refine am_mt ⟨by decide +kernel, rfl⟩ (Nat.le_of_ble_eq_true rfl) rfl ?_
  refine rn_lload_n dX8_add_0 rfl rfl ?_
  refine rn_bipush (v := nI 8) dX8_add_1 (by decide) ?_
  refine rn_lshl dX8_add_3 ?_
  refine rn_iload_n dX8_add_4 rfl rfl ?_
  refine rn_i2l dX8_add_5 ?_
  refine rn_lor dX8_add_6 ?_
  refine rn_topv (y := .long (lN (a * 256 + c))) (by rw [lN_sh (by omega) hc]) ?_
  refine rn_bipush (v := nI 8) dX8_add_7 (by decide) ?_
  refine rn_lshl dX8_add_9 ?_
  refine rn_iload_n dX8_add_10 rfl rfl ?_
  refine rn_i2l dX8_add_11 ?_
  refine rn_lor dX8_add_12 ?_
  refine rn_topv (y := .long (lN ((a * 256 + c) * 256 + e))) (by rw [lN_sh (by omega) he]) ?_
  refine rn_lreturn dX8_add_13 rfl ?_
  exact ⟨rfl, rfl, rfl⟩
set_option maxHeartbeats 1000000 in
set_option maxRecDepth 100000 in
theorem c_X8_wordOf (S : am_S) (I : am_I) (x : Int64) : am_Mt 1 Y_X8_wordOf (0, 0) [.long x] S I (am_q (some (.int (nI (wOf x)))) S I) := by
  refine am_mt ⟨by decide +kernel, rfl⟩ (Nat.le_of_ble_eq_true rfl) rfl ?_
  refine rn_lload_n dX8_wordOf_0 rfl rfl ?_
  refine rn_ldc2 dX8_wordOf_1 kl_8_136 ?_
  refine rn_topv (y := .long (lN 112)) rfl ?_
  refine rn_bipush (v := nI 108) dX8_wordOf_4 (by decide) ?_
  refine rn_bipush (v := nI 97) dX8_wordOf_6 (by decide) ?_
  refine rn_callSq (st := [.long x]) dX8_wordOf_8 cf_8_138 (c_X8_add S I (a := 112) (c := 108) (e := 97) (by decide) (by decide) (by decide)) (by decide) rfl rfl (Nat.le_of_ble_eq_true rfl) ?_
  refine rn_topv (y := .long (lN 7367777)) (rfl) ?_
  refine rn_bipush (v := nI 105) dX8_wordOf_11 (by decide) ?_
  refine rn_bipush (v := nI 110) dX8_wordOf_13 (by decide) ?_
  refine rn_callSq (st := [.long x]) dX8_wordOf_15 cf_8_138 (c_X8_add S I (a := 7367777) (c := 105) (e := 110) (by decide) (by decide) (by decide)) (by decide) rfl rfl (Nat.le_of_ble_eq_true rfl) ?_
  refine rn_topv (y := .long (lN 482854660462)) (rfl) ?_
  refine rn_lcmp dX8_wordOf_18 ?_
  refine rn_if_ne (tgt := 24) dX8_wordOf_19 (by decide) (fun c_19 => ?_) (fun c_19 => ?_)
  · refine rn_lload_n dX8_wordOf_24 rfl rfl ?_
    refine rn_lconst (v := lN 0) dX8_wordOf_25 (by decide) ?_
    refine rn_bipush (v := nI 107) dX8_wordOf_26 (by decide) ?_
    refine rn_bipush (v := nI 101) dX8_wordOf_28 (by decide) ?_
    refine rn_callSq (st := [.long x]) dX8_wordOf_30 cf_8_138 (c_X8_add S I (a := 0) (c := 107) (e := 101) (by decide) (by decide) (by decide)) (by decide) rfl rfl (Nat.le_of_ble_eq_true rfl) ?_
    refine rn_topv (y := .long (lN 27493)) (rfl) ?_
    refine rn_bipush (v := nI 112) dX8_wordOf_33 (by decide) ?_
    refine rn_bipush (v := nI 116) dX8_wordOf_35 (by decide) ?_
    refine rn_callSq (st := [.long x]) dX8_wordOf_37 cf_8_138 (c_X8_add S I (a := 27493) (c := 112) (e := 116) (by decide) (by decide) (by decide)) (by decide) rfl rfl (Nat.le_of_ble_eq_true rfl) ?_
    refine rn_topv (y := .long (lN 1801810036)) (rfl) ?_
    refine rn_lcmp dX8_wordOf_40 ?_
    refine rn_if_ne (tgt := 46) dX8_wordOf_41 (by decide) (fun c_41 => ?_) (fun c_41 => ?_)
    · refine rn_lload_n dX8_wordOf_46 rfl rfl ?_
      refine rn_ldc2 dX8_wordOf_47 kl_8_142 ?_
      refine rn_topv (y := .long (lN 115)) rfl ?_
      refine rn_bipush (v := nI 101) dX8_wordOf_50 (by decide) ?_
      refine rn_bipush (v := nI 116) dX8_wordOf_52 (by decide) ?_
      refine rn_callSq (st := [.long x]) dX8_wordOf_54 cf_8_138 (c_X8_add S I (a := 115) (c := 101) (e := 116) (by decide) (by decide) (by decide)) (by decide) rfl rfl (Nat.le_of_ble_eq_true rfl) ?_
      refine rn_topv (y := .long (lN 7562612)) (rfl) ?_
      refine rn_lcmp dX8_wordOf_57 ?_
      refine rn_if_ne (tgt := 63) dX8_wordOf_58 (by decide) (fun c_58 => ?_) (fun c_58 => ?_)
      · refine rn_lload_n dX8_wordOf_63 rfl rfl ?_
        refine rn_lconst (v := lN 0) dX8_wordOf_64 (by decide) ?_
        refine rn_bipush (v := nI 116) dX8_wordOf_65 (by decide) ?_
        refine rn_bipush (v := nI 117) dX8_wordOf_67 (by decide) ?_
        refine rn_callSq (st := [.long x]) dX8_wordOf_69 cf_8_138 (c_X8_add S I (a := 0) (c := 116) (e := 117) (by decide) (by decide) (by decide)) (by decide) rfl rfl (Nat.le_of_ble_eq_true rfl) ?_
        refine rn_topv (y := .long (lN 29813)) (rfl) ?_
        refine rn_bipush (v := nI 114) dX8_wordOf_72 (by decide) ?_
        refine rn_bipush (v := nI 110) dX8_wordOf_74 (by decide) ?_
        refine rn_callSq (st := [.long x]) dX8_wordOf_76 cf_8_138 (c_X8_add S I (a := 29813) (c := 114) (e := 110) (by decide) (by decide) (by decide)) (by decide) rfl rfl (Nat.le_of_ble_eq_true rfl) ?_
        refine rn_topv (y := .long (lN 1953854062)) (rfl) ?_
        refine rn_lcmp dX8_wordOf_79 ?_
        refine rn_if_ne (tgt := 86) dX8_wordOf_80 (by decide) (fun c_80 => ?_) (fun c_80 => ?_)
        · refine rn_lload_n dX8_wordOf_86 rfl rfl ?_
          refine rn_lconst (v := lN 0) dX8_wordOf_87 (by decide) ?_
          refine rn_bipush (v := nI 102) dX8_wordOf_88 (by decide) ?_
          refine rn_bipush (v := nI 108) dX8_wordOf_90 (by decide) ?_
          refine rn_callSq (st := [.long x]) dX8_wordOf_92 cf_8_138 (c_X8_add S I (a := 0) (c := 102) (e := 108) (by decide) (by decide) (by decide)) (by decide) rfl rfl (Nat.le_of_ble_eq_true rfl) ?_
          refine rn_topv (y := .long (lN 26220)) (rfl) ?_
          refine rn_bipush (v := nI 105) dX8_wordOf_95 (by decide) ?_
          refine rn_bipush (v := nI 112) dX8_wordOf_97 (by decide) ?_
          refine rn_callSq (st := [.long x]) dX8_wordOf_99 cf_8_138 (c_X8_add S I (a := 26220) (c := 105) (e := 112) (by decide) (by decide) (by decide)) (by decide) rfl rfl (Nat.le_of_ble_eq_true rfl) ?_
          refine rn_topv (y := .long (lN 1718380912)) (rfl) ?_
          refine rn_lcmp dX8_wordOf_102 ?_
          refine rn_if_ne (tgt := 109) dX8_wordOf_103 (by decide) (fun c_103 => ?_) (fun c_103 => ?_)
          · refine rn_lload_n dX8_wordOf_109 rfl rfl ?_
            refine rn_ldc2 dX8_wordOf_110 kl_8_144 ?_
            refine rn_topv (y := .long (lN 114)) rfl ?_
            refine rn_bipush (v := nI 111) dX8_wordOf_113 (by decide) ?_
            refine rn_bipush (v := nI 119) dX8_wordOf_115 (by decide) ?_
            refine rn_callSq (st := [.long x]) dX8_wordOf_117 cf_8_138 (c_X8_add S I (a := 114) (c := 111) (e := 119) (by decide) (by decide) (by decide)) (by decide) rfl rfl (Nat.le_of_ble_eq_true rfl) ?_
            refine rn_topv (y := .long (lN 7499639)) (rfl) ?_
            refine rn_lcmp dX8_wordOf_120 ?_
            refine rn_if_ne (tgt := 127) dX8_wordOf_121 (by decide) (fun c_121 => ?_) (fun c_121 => ?_)
            · refine rn_lload_n dX8_wordOf_127 rfl rfl ?_
              refine rn_lconst (v := lN 0) dX8_wordOf_128 (by decide) ?_
              refine rn_bipush (v := nI 98) dX8_wordOf_129 (by decide) ?_
              refine rn_bipush (v := nI 101) dX8_wordOf_131 (by decide) ?_
              refine rn_callSq (st := [.long x]) dX8_wordOf_133 cf_8_138 (c_X8_add S I (a := 0) (c := 98) (e := 101) (by decide) (by decide) (by decide)) (by decide) rfl rfl (Nat.le_of_ble_eq_true rfl) ?_
              refine rn_topv (y := .long (lN 25189)) (rfl) ?_
              refine rn_bipush (v := nI 115) dX8_wordOf_136 (by decide) ?_
              refine rn_bipush (v := nI 105) dX8_wordOf_138 (by decide) ?_
              refine rn_callSq (st := [.long x]) dX8_wordOf_140 cf_8_138 (c_X8_add S I (a := 25189) (c := 115) (e := 105) (by decide) (by decide) (by decide)) (by decide) rfl rfl (Nat.le_of_ble_eq_true rfl) ?_
              refine rn_topv (y := .long (lN 1650815849)) (rfl) ?_
              refine rn_bipush (v := nI 100) dX8_wordOf_143 (by decide) ?_
              refine rn_bipush (v := nI 101) dX8_wordOf_145 (by decide) ?_
              refine rn_callSq (st := [.long x]) dX8_wordOf_147 cf_8_138 (c_X8_add S I (a := 1650815849) (c := 100) (e := 101) (by decide) (by decide) (by decide)) (by decide) rfl rfl (Nat.le_of_ble_eq_true rfl) ?_
              refine rn_topv (y := .long (lN 108187867505765)) (rfl) ?_
              refine rn_lcmp dX8_wordOf_150 ?_
              refine rn_if_ne (tgt := 157) dX8_wordOf_151 (by decide) (fun c_151 => ?_) (fun c_151 => ?_)
              · refine rn_lload_n dX8_wordOf_157 rfl rfl ?_
                refine rn_ldc2 dX8_wordOf_158 kl_8_146 ?_
                refine rn_topv (y := .long (lN 97)) rfl ?_
                refine rn_bipush (v := nI 98) dX8_wordOf_161 (by decide) ?_
                refine rn_bipush (v := nI 111) dX8_wordOf_163 (by decide) ?_
                refine rn_callSq (st := [.long x]) dX8_wordOf_165 cf_8_138 (c_X8_add S I (a := 97) (c := 98) (e := 111) (by decide) (by decide) (by decide)) (by decide) rfl rfl (Nat.le_of_ble_eq_true rfl) ?_
                refine rn_topv (y := .long (lN 6382191)) (rfl) ?_
                refine rn_bipush (v := nI 118) dX8_wordOf_168 (by decide) ?_
                refine rn_bipush (v := nI 101) dX8_wordOf_170 (by decide) ?_
                refine rn_callSq (st := [.long x]) dX8_wordOf_172 cf_8_138 (c_X8_add S I (a := 6382191) (c := 118) (e := 101) (by decide) (by decide) (by decide)) (by decide) rfl rfl (Nat.le_of_ble_eq_true rfl) ?_
                refine rn_topv (y := .long (lN 418263299685)) (rfl) ?_
                refine rn_lcmp dX8_wordOf_175 ?_
                refine rn_if_ne (tgt := 182) dX8_wordOf_176 (by decide) (fun c_176 => ?_) (fun c_176 => ?_)
                · refine rn_lload_n dX8_wordOf_182 rfl rfl ?_
                  refine rn_lconst (v := lN 0) dX8_wordOf_183 (by decide) ?_
                  refine rn_bipush (v := nI 111) dX8_wordOf_184 (by decide) ?_
                  refine rn_bipush (v := nI 118) dX8_wordOf_186 (by decide) ?_
                  refine rn_callSq (st := [.long x]) dX8_wordOf_188 cf_8_138 (c_X8_add S I (a := 0) (c := 111) (e := 118) (by decide) (by decide) (by decide)) (by decide) rfl rfl (Nat.le_of_ble_eq_true rfl) ?_
                  refine rn_topv (y := .long (lN 28534)) (rfl) ?_
                  refine rn_bipush (v := nI 101) dX8_wordOf_191 (by decide) ?_
                  refine rn_bipush (v := nI 114) dX8_wordOf_193 (by decide) ?_
                  refine rn_callSq (st := [.long x]) dX8_wordOf_195 cf_8_138 (c_X8_add S I (a := 28534) (c := 101) (e := 114) (by decide) (by decide) (by decide)) (by decide) rfl rfl (Nat.le_of_ble_eq_true rfl) ?_
                  refine rn_topv (y := .long (lN 1870030194)) (rfl) ?_
                  refine rn_lcmp dX8_wordOf_198 ?_
                  refine rn_if_ne (tgt := 207) dX8_wordOf_199 (by decide) (fun c_199 => ?_) (fun c_199 => ?_)
                  · refine rn_iconst (v := nI 2) dX8_wordOf_207 (by decide) ?_
                    refine rn_ireturn dX8_wordOf_208 rfl (vp_nar_int _) ?_
                    exact ⟨by unfold wOf cPlain cKept cSet cTurn cFlip cRow cBeside cAbove cOver; rw [if_neg (fun q => c_19 ((lg_cmp_eq _ _).mpr q)), if_neg (fun q => c_41 ((lg_cmp_eq _ _).mpr q)), if_neg (fun q => c_58 ((lg_cmp_eq _ _).mpr q)), if_neg (fun q => c_80 ((lg_cmp_eq _ _).mpr q)), if_neg (fun q => c_103 ((lg_cmp_eq _ _).mpr q)), if_neg (fun q => c_121 ((lg_cmp_eq _ _).mpr q)), if_neg (fun q => c_151 ((lg_cmp_eq _ _).mpr q)), if_neg (fun q => c_176 ((lg_cmp_eq _ _).mpr q)), if_neg (fun q => c_199 ((lg_cmp_eq _ _).mpr q))], rfl, rfl⟩
                  · refine rn_bipush (v := nI 11) dX8_wordOf_202 (by decide) ?_
                    refine rn_goto (tgt := 208) dX8_wordOf_204 (by decide) ?_
                    refine rn_ireturn dX8_wordOf_208 rfl (vp_nar_int _) ?_
                    exact ⟨by unfold wOf cPlain cKept cSet cTurn cFlip cRow cBeside cAbove cOver; rw [if_neg (fun q => c_19 ((lg_cmp_eq _ _).mpr q)), if_neg (fun q => c_41 ((lg_cmp_eq _ _).mpr q)), if_neg (fun q => c_58 ((lg_cmp_eq _ _).mpr q)), if_neg (fun q => c_80 ((lg_cmp_eq _ _).mpr q)), if_neg (fun q => c_103 ((lg_cmp_eq _ _).mpr q)), if_neg (fun q => c_121 ((lg_cmp_eq _ _).mpr q)), if_neg (fun q => c_151 ((lg_cmp_eq _ _).mpr q)), if_neg (fun q => c_176 ((lg_cmp_eq _ _).mpr q)), if_pos ((lg_cmp_eq _ _).mp c_199)], rfl, rfl⟩
                · refine rn_bipush (v := nI 10) dX8_wordOf_179 (by decide) ?_
                  refine rn_ireturn dX8_wordOf_181 rfl (vp_nar_int _) ?_
                  exact ⟨by unfold wOf cPlain cKept cSet cTurn cFlip cRow cBeside cAbove cOver; rw [if_neg (fun q => c_19 ((lg_cmp_eq _ _).mpr q)), if_neg (fun q => c_41 ((lg_cmp_eq _ _).mpr q)), if_neg (fun q => c_58 ((lg_cmp_eq _ _).mpr q)), if_neg (fun q => c_80 ((lg_cmp_eq _ _).mpr q)), if_neg (fun q => c_103 ((lg_cmp_eq _ _).mpr q)), if_neg (fun q => c_121 ((lg_cmp_eq _ _).mpr q)), if_neg (fun q => c_151 ((lg_cmp_eq _ _).mpr q)), if_pos ((lg_cmp_eq _ _).mp c_176)], rfl, rfl⟩
              · refine rn_bipush (v := nI 9) dX8_wordOf_154 (by decide) ?_
                refine rn_ireturn dX8_wordOf_156 rfl (vp_nar_int _) ?_
                exact ⟨by unfold wOf cPlain cKept cSet cTurn cFlip cRow cBeside cAbove cOver; rw [if_neg (fun q => c_19 ((lg_cmp_eq _ _).mpr q)), if_neg (fun q => c_41 ((lg_cmp_eq _ _).mpr q)), if_neg (fun q => c_58 ((lg_cmp_eq _ _).mpr q)), if_neg (fun q => c_80 ((lg_cmp_eq _ _).mpr q)), if_neg (fun q => c_103 ((lg_cmp_eq _ _).mpr q)), if_neg (fun q => c_121 ((lg_cmp_eq _ _).mpr q)), if_pos ((lg_cmp_eq _ _).mp c_151)], rfl, rfl⟩
            · refine rn_bipush (v := nI 8) dX8_wordOf_124 (by decide) ?_
              refine rn_ireturn dX8_wordOf_126 rfl (vp_nar_int _) ?_
              exact ⟨by unfold wOf cPlain cKept cSet cTurn cFlip cRow cBeside cAbove cOver; rw [if_neg (fun q => c_19 ((lg_cmp_eq _ _).mpr q)), if_neg (fun q => c_41 ((lg_cmp_eq _ _).mpr q)), if_neg (fun q => c_58 ((lg_cmp_eq _ _).mpr q)), if_neg (fun q => c_80 ((lg_cmp_eq _ _).mpr q)), if_neg (fun q => c_103 ((lg_cmp_eq _ _).mpr q)), if_pos ((lg_cmp_eq _ _).mp c_121)], rfl, rfl⟩
          · refine rn_bipush (v := nI 7) dX8_wordOf_106 (by decide) ?_
            refine rn_ireturn dX8_wordOf_108 rfl (vp_nar_int _) ?_
            exact ⟨by unfold wOf cPlain cKept cSet cTurn cFlip cRow cBeside cAbove cOver; rw [if_neg (fun q => c_19 ((lg_cmp_eq _ _).mpr q)), if_neg (fun q => c_41 ((lg_cmp_eq _ _).mpr q)), if_neg (fun q => c_58 ((lg_cmp_eq _ _).mpr q)), if_neg (fun q => c_80 ((lg_cmp_eq _ _).mpr q)), if_pos ((lg_cmp_eq _ _).mp c_103)], rfl, rfl⟩
        · refine rn_bipush (v := nI 6) dX8_wordOf_83 (by decide) ?_
          refine rn_ireturn dX8_wordOf_85 rfl (vp_nar_int _) ?_
          exact ⟨by unfold wOf cPlain cKept cSet cTurn cFlip cRow cBeside cAbove cOver; rw [if_neg (fun q => c_19 ((lg_cmp_eq _ _).mpr q)), if_neg (fun q => c_41 ((lg_cmp_eq _ _).mpr q)), if_neg (fun q => c_58 ((lg_cmp_eq _ _).mpr q)), if_pos ((lg_cmp_eq _ _).mp c_80)], rfl, rfl⟩
      · refine rn_iconst (v := nI 5) dX8_wordOf_61 (by decide) ?_
        refine rn_ireturn dX8_wordOf_62 rfl (vp_nar_int _) ?_
        exact ⟨by unfold wOf cPlain cKept cSet cTurn cFlip cRow cBeside cAbove cOver; rw [if_neg (fun q => c_19 ((lg_cmp_eq _ _).mpr q)), if_neg (fun q => c_41 ((lg_cmp_eq _ _).mpr q)), if_pos ((lg_cmp_eq _ _).mp c_58)], rfl, rfl⟩
    · refine rn_iconst (v := nI 4) dX8_wordOf_44 (by decide) ?_
      refine rn_ireturn dX8_wordOf_45 rfl (vp_nar_int _) ?_
      exact ⟨by unfold wOf cPlain cKept cSet cTurn cFlip cRow cBeside cAbove cOver; rw [if_neg (fun q => c_19 ((lg_cmp_eq _ _).mpr q)), if_pos ((lg_cmp_eq _ _).mp c_41)], rfl, rfl⟩
  · refine rn_iconst (v := nI 3) dX8_wordOf_22 (by decide) ?_
    refine rn_ireturn dX8_wordOf_23 rfl (vp_nar_int _) ?_
    exact ⟨by unfold wOf cPlain cKept cSet cTurn cFlip cRow cBeside cAbove cOver; rw [if_pos ((lg_cmp_eq _ _).mp c_19)], rfl, rfl⟩
theorem bk_iff {n : Nat} {B : Nat → Nat} (hB : okB n B) (q : Nat) : (bV n B q = nI 32 ∨ bV n B q = nI 10) ↔ (q < n ∧ isBk B q = true) := decide_eq_decide.mp (bV_bk hB q)
theorem c_X8_digitV {S : am_S} {I : am_I} {n q : Nat} {B : Nat → Nat} (hB : okB n B) : am_Mt 1 Y_X8_isDigit (0, 0) [.int (bV n B q)] S I (am_q (some (.int (am_b (decide (q < n ∧ isDg B q = true))))) S I) := by
  rw [← bV_dg hB]; exact c_X8_isDigit _ _ _
theorem c_X8_letterV {S : am_S} {I : am_I} {n q : Nat} {B : Nat → Nat} (hB : okB n B) : am_Mt 0 Y_X8_isIn (0, 0) [.int (bV n B q), .int (nI 97), .int (nI 122)] S I (am_q (some (.int (am_b (decide (q < n ∧ isLt B q = true))))) S I) := by
  rw [← bV_lt hB]
  have h1 := c_X8_isIn S I (bV n B q) (nI 97) (nI 122)
  exact h1
theorem tM2.kept {n : Nat} {B : Nat → Nat} {I I' : am_I} (h : tM2 n B I) (h1 : I' 44 14 = I 44 14) (h2 : I' 55 = I 55) : tM2 n B I' := ⟨by rw [h1]; exact h.1, fun k hk => by rw [h2]; exact h.2 k hk⟩
/-- the reference's token, once it is read from p on -/
def SN (n : Nat) (B : Nat → Nat) (p : Nat) (I : am_I) : Prop := I 44 18 = nI (tS n B p) ∧ I 44 19 = nI (tK n B (tS n B p)) ∧ (tK n B (tS n B p) ≠ 2 → I 44 17 = nI (tE n B (tS n B p))) ∧ (tK n B (tS n B p) = 1 → ∃ r, I 44 20 = nI r ∧ r < 10000 ∧ cap r = tN n B (tS n B p))
/-- what reading a token may change -/
def KT (I I' : am_I) : Prop := (∀ b, b ≠ 44 → I' b = I b) ∧ ∀ k, k < 17 ∨ 20 < k → I' 44 k = I 44 k
theorem KT.rf {I : am_I} : KT I I := ⟨fun _ _ => rfl, fun _ _ => rfl⟩
theorem KT.up {I I' : am_I} (h : KT I I') {k : Nat} (hk : 17 ≤ k ∧ k ≤ 20) (v : Int32) : KT I (am_up I' 44 k v) := ⟨fun b hb => by rw [am_up_a _ _ hb]; exact h.1 b hb, fun x hx => by rw [am_up_k _ _ (by omega)]; exact h.2 x hx⟩
theorem KT.tm {n : Nat} {B : Nat → Nat} {I I' : am_I} (h : KT I I') (hT : tM2 n B I) : tM2 n B I' := hT.kept (h.2 14 (by decide)) (h.1 55 (by decide))
def mn7 (x : Nat) : Nat := if x < 7 then x else 7
set_option maxHeartbeats 1000000 in
set_option maxRecDepth 100000 in
theorem c_X8_nextToken {S : am_S} (hs : sk S) {I : am_I} {n : Nat} {B : Nat → Nat} (hT : tM2 n B I) (hB : okB n B) {p : Nat} (hp : p ≤ n) (h17 : I 44 17 = nI p) : am_Mt 2 Y_X8_nextToken (0, 0) [.ref 44] S I (fun r S' I' => r = none ∧ S' = S ∧ KT I I' ∧ SN n B p I') := by
  have h200 := hB.1
  have hsn : tS n B p ≤ n := tS_le hp
  have LD : tS n B p < n → isDg B (tS n B p) = true → ∀ m q, n - q ≤ m → tS n B p ≤ q → q ≤ n → scn (isDg B) n q = scn (isDg B) n (tS n B p) → ∀ I1 : am_I, KT I I1 → I1 44 17 = nI q → I1 44 18 = nI (tS n B p) → I1 44 19 = nI 1 → I1 44 20 = nI (rvl B (tS n B p) (q - tS n B p)) → am_Rn 2 Y_X8_nextToken (0, 0) 85 [some (.ref 44), some (.int (bV n B (tS n B p))), none, none] [] S I1 (fun r S' I' => r = none ∧ S' = S ∧ KT I I' ∧ SN n B p I') := by
    intro hs1 hd1 m
    induction m with
    | zero =>
      intro q hm hsq hqn hsc I1 hK h17 h18 h19 h20
      have hT1 := hK.tm hT
      refine rn_aload_n dX8_nextToken_85 rfl rfl ?_
      refine rn_aload_n dX8_nextToken_86 rfl rfl ?_
      refine rn_getI dX8_nextToken_87 fd_8_148 (sk_l hs 44 (by decide)) (sk_k44 hs) rfl ?_
      refine rn_top (y := nI q) (h17) ?_
      refine rn_callVq (st := []) dX8_nextToken_90 cf_8_151 (c_X8_seeV hs hT1 hB (by omega)) (by decide) (sk_l hs 44 (by decide)) (sk_k44 hs) rfl rfl (Nat.le_of_ble_eq_true rfl) ?_
      refine rn_callSq (st := []) dX8_nextToken_93 cf_8_160 (c_X8_digitV hB) (by decide) rfl rfl (Nat.le_of_ble_eq_true rfl) ?_
      refine rn_if_eqB (tgt := 262) dX8_nextToken_96 (by decide) (fun c_96 => ?_) (fun c_96 => ?_)
      · refine rn_return dX8_nextToken_262 rfl ?_
        have hqe : q = scn (isDg B) n (tS n B p) := by rw [← hsc]; exact (scn_e (fun h9 => absurd (decide_eq_true h9) (by rw [c_96]; decide))).symm
        have ht1 : tK n B (tS n B p) = 1 := tK_1.mpr ⟨hs1, hd1⟩
        refine ⟨rfl, rfl, hK, h18, by rw [h19, ht1], fun _ => ?_, fun _ => ⟨_, h20, ?_, ?_⟩⟩
        · rw [h17, hqe]; unfold tE; rw [if_pos ⟨hs1, hd1⟩]
        · exact (rvl_ok (B := B) (s := tS n B p) _ (fun x hx => (of_decide_eq_true (scn_in (P := isDg B) (n := n) (p := tS n B p) (q := tS n B p + x) (by omega) (by omega)).2 : 48 ≤ B (tS n B p + x) ∧ B (tS n B p + x) ≤ 57).2)).1
        · unfold tN; rw [← hqe]; exact rvl_cap (fun x hx => (of_decide_eq_true (scn_in (P := isDg B) (n := n) (p := tS n B p) (q := tS n B p + x) (by omega) (by omega)).2 : 48 ≤ B (tS n B p + x) ∧ B (tS n B p + x) ≤ 57).2)
      · exact absurd (of_decide_eq_true c_96).1 (by omega)
    | succ m ih =>
      intro q hm hsq hqn hsc I1 hK h17 h18 h19 h20
      have hT1 := hK.tm hT
      refine rn_aload_n dX8_nextToken_85 rfl rfl ?_
      refine rn_aload_n dX8_nextToken_86 rfl rfl ?_
      refine rn_getI dX8_nextToken_87 fd_8_148 (sk_l hs 44 (by decide)) (sk_k44 hs) rfl ?_
      refine rn_top (y := nI q) (h17) ?_
      refine rn_callVq (st := []) dX8_nextToken_90 cf_8_151 (c_X8_seeV hs hT1 hB (by omega)) (by decide) (sk_l hs 44 (by decide)) (sk_k44 hs) rfl rfl (Nat.le_of_ble_eq_true rfl) ?_
      refine rn_callSq (st := []) dX8_nextToken_93 cf_8_160 (c_X8_digitV hB) (by decide) rfl rfl (Nat.le_of_ble_eq_true rfl) ?_
      refine rn_if_eqB (tgt := 262) dX8_nextToken_96 (by decide) (fun c_96 => ?_) (fun c_96 => ?_)
      · refine rn_return dX8_nextToken_262 rfl ?_
        have hqe : q = scn (isDg B) n (tS n B p) := by rw [← hsc]; exact (scn_e (fun h9 => absurd (decide_eq_true h9) (by rw [c_96]; decide))).symm
        have ht1 : tK n B (tS n B p) = 1 := tK_1.mpr ⟨hs1, hd1⟩
        refine ⟨rfl, rfl, hK, h18, by rw [h19, ht1], fun _ => ?_, fun _ => ⟨_, h20, ?_, ?_⟩⟩
        · rw [h17, hqe]; unfold tE; rw [if_pos ⟨hs1, hd1⟩]
        · exact (rvl_ok (B := B) (s := tS n B p) _ (fun x hx => (of_decide_eq_true (scn_in (P := isDg B) (n := n) (p := tS n B p) (q := tS n B p + x) (by omega) (by omega)).2 : 48 ≤ B (tS n B p + x) ∧ B (tS n B p + x) ≤ 57).2)).1
        · unfold tN; rw [← hqe]; exact rvl_cap (fun x hx => (of_decide_eq_true (scn_in (P := isDg B) (n := n) (p := tS n B p) (q := tS n B p + x) (by omega) (by omega)).2 : 48 ≤ B (tS n B p + x) ∧ B (tS n B p + x) ≤ 57).2)
      · have hqq := of_decide_eq_true c_96
        have hbb := hB.2 q hqq.1
        have hdg : 48 ≤ B q ∧ B q ≤ 57 := of_decide_eq_true hqq.2
        have hr9 := (rvl_ok (B := B) (s := tS n B p) (q - tS n B p) (fun x hx => (of_decide_eq_true (scn_in (P := isDg B) (n := n) (p := tS n B p) (q := tS n B p + x) (by omega) (by have := scn_ge (P := isDg B) (n := n) (p := q); omega)).2 : 48 ≤ B (tS n B p + x) ∧ B (tS n B p + x) ≤ 57).2)).1
        refine rn_aload_n dX8_nextToken_99 rfl rfl ?_
        refine rn_getI dX8_nextToken_100 fd_8_163 (sk_l hs 44 (by decide)) (sk_k44 hs) rfl ?_
        refine rn_top (y := nI (rvl B (tS n B p) (q - tS n B p))) (h20) ?_
        refine rn_sipush (v := nI 1000) dX8_nextToken_103 (by decide) ?_
        refine rn_icmp_geN (tgt := 132) dX8_nextToken_106 (by decide) (by omega) (by omega) (fun c_106 => ?_) (fun c_106 => ?_)
        · refine rn_aload_n dX8_nextToken_132 rfl rfl ?_
          refine rn_dup dX8_nextToken_133 rfl ?_
          refine rn_getI dX8_nextToken_134 fd_8_148 (sk_l hs 44 (by decide)) (sk_k44 hs) rfl ?_
          refine rn_top (y := nI q) (h17) ?_
          refine rn_iconst (v := nI 1) dX8_nextToken_137 (by decide) ?_
          refine rn_iadd dX8_nextToken_138 ?_
          refine rn_top (nI_add _ _) ?_
          refine rn_putI dX8_nextToken_139 fd_8_148 (sk_l hs 44 (by decide)) (sk_k44 hs) rfl rfl (vp_nar_int _) rfl ?_
          refine rn_goto (tgt := 85) dX8_nextToken_142 (by decide) ?_
          exact ih (q + 1) (by omega) (by omega) (by omega) (by rw [← scn_s hqq.1 hqq.2]; exact hsc) _ (hK.up (by decide) _) (by rw [am_up_at]) (by rw [am_up_k _ _ (by decide)]; exact h18) (by rw [am_up_k _ _ (by decide)]; exact h19) (by rw [am_up_k _ _ (by decide), h20, show q + 1 - tS n B p = q - tS n B p + 1 by omega, rvl, if_neg (by omega)])
        · refine rn_aload_n dX8_nextToken_109 rfl rfl ?_
          refine rn_bipush (v := nI 10) dX8_nextToken_110 (by decide) ?_
          refine rn_aload_n dX8_nextToken_112 rfl rfl ?_
          refine rn_getI dX8_nextToken_113 fd_8_163 (sk_l hs 44 (by decide)) (sk_k44 hs) rfl ?_
          refine rn_top (y := nI (rvl B (tS n B p) (q - tS n B p))) (h20) ?_
          refine rn_imul dX8_nextToken_116 ?_
          refine rn_top (pk_mul _ _) ?_
          refine rn_aload_n dX8_nextToken_117 rfl rfl ?_
          refine rn_aload_n dX8_nextToken_118 rfl rfl ?_
          refine rn_getI dX8_nextToken_119 fd_8_148 (sk_l hs 44 (by decide)) (sk_k44 hs) rfl ?_
          refine rn_top (y := nI q) (h17) ?_
          refine rn_callVq (st := [.int (nI (10 * (rvl B (tS n B p) (q - tS n B p)))), .ref 44]) dX8_nextToken_122 cf_8_151 (c_X8_seeV hs hT1 hB (by omega)) (by decide) (sk_l hs 44 (by decide)) (sk_k44 hs) rfl rfl (Nat.le_of_ble_eq_true rfl) ?_
          refine rn_top (y := nI (B q)) (bV_in hqq.1) ?_
          refine rn_iadd dX8_nextToken_125 ?_
          refine rn_top (nI_add _ _) ?_
          refine rn_bipush (v := nI 48) dX8_nextToken_126 (by decide) ?_
          refine rn_isub dX8_nextToken_128 ?_
          refine rn_top (pk_sub (by omega)) ?_
          refine rn_putI dX8_nextToken_129 fd_8_163 (sk_l hs 44 (by decide)) (sk_k44 hs) rfl rfl (vp_nar_int _) rfl ?_
          refine rn_aload_n dX8_nextToken_132 rfl rfl ?_
          refine rn_dup dX8_nextToken_133 rfl ?_
          refine rn_getI dX8_nextToken_134 fd_8_148 (sk_l hs 44 (by decide)) (sk_k44 hs) rfl ?_
          refine rn_top (y := nI q) (by have h9 := h17; simp [am_up, va_up, h9]) ?_
          refine rn_iconst (v := nI 1) dX8_nextToken_137 (by decide) ?_
          refine rn_iadd dX8_nextToken_138 ?_
          refine rn_top (nI_add _ _) ?_
          refine rn_putI dX8_nextToken_139 fd_8_148 (sk_l hs 44 (by decide)) (sk_k44 hs) rfl rfl (vp_nar_int _) rfl ?_
          refine rn_goto (tgt := 85) dX8_nextToken_142 (by decide) ?_
          exact ih (q + 1) (by omega) (by omega) (by omega) (by rw [← scn_s hqq.1 hqq.2]; exact hsc) _ ((hK.up (by decide) _).up (by decide) _) (by rw [am_up_at]) (by rw [am_up_k _ _ (by decide), am_up_k _ _ (by decide)]; exact h18) (by rw [am_up_k _ _ (by decide), am_up_k _ _ (by decide)]; exact h19) (by rw [am_up_k _ _ (by decide), am_up_at, show q + 1 - tS n B p = q - tS n B p + 1 by omega, rvl, if_pos (by omega), show tS n B p + (q - tS n B p) = q by omega]; congr 1; omega)
  have LL : tS n B p < n → isLt B (tS n B p) = true → ∀ m q, n - q ≤ m → tS n B p ≤ q → q ≤ n → scn (isLt B) n q = scn (isLt B) n (tS n B p) → ∀ I1 : am_I, KT I I1 → I1 44 17 = nI q → I1 44 18 = nI (tS n B p) → am_Rn 2 Y_X8_nextToken (0, 0) 158 [some (.ref 44), some (.int (bV n B (tS n B p))), some (.long (lN (pkB B (tS n B p) (mn7 (q - tS n B p))))), none] [] S I1 (fun r S' I' => r = none ∧ S' = S ∧ KT I I' ∧ SN n B p I') := by
    intro hs1 hl1 m
    induction m with
    | zero =>
      intro q hm hsq hqn hsc I1 hK h17 h18
      have hT1 := hK.tm hT
      have hal : ∀ x, x < q - tS n B p → 97 ≤ B (tS n B p + x) ∧ B (tS n B p + x) ≤ 122 := fun x hx => of_decide_eq_true (scn_in (P := isLt B) (n := n) (p := tS n B p) (q := tS n B p + x) (by omega) (by have := scn_ge (P := isLt B) (n := n) (p := q); omega)).2
      refine rn_aload_n dX8_nextToken_158 rfl rfl ?_
      refine rn_aload_n dX8_nextToken_159 rfl rfl ?_
      refine rn_getI dX8_nextToken_160 fd_8_148 (sk_l hs 44 (by decide)) (sk_k44 hs) rfl ?_
      refine rn_top (y := nI q) (h17) ?_
      refine rn_callVq (st := []) dX8_nextToken_163 cf_8_151 (c_X8_seeV hs hT1 hB (by omega)) (by decide) (sk_l hs 44 (by decide)) (sk_k44 hs) rfl rfl (Nat.le_of_ble_eq_true rfl) ?_
      refine rn_bipush (v := nI 97) dX8_nextToken_166 (by decide) ?_
      refine rn_bipush (v := nI 122) dX8_nextToken_168 (by decide) ?_
      refine rn_callSq (st := []) dX8_nextToken_170 cf_8_70 (c_X8_letterV hB) (by decide) rfl rfl (Nat.le_of_ble_eq_true rfl) ?_
      refine rn_if_eqB (tgt := 218) dX8_nextToken_173 (by decide) (fun c_173 => ?_) (fun c_173 => ?_)
      · have hqe : q = scn (isLt B) n (tS n B p) := by rw [← hsc]; exact (scn_e (fun h9 => absurd (decide_eq_true h9) (by rw [c_173]; decide))).symm
        have hnd : ¬ isDg B (tS n B p) = true := fun h9 => dg_not_lt h9 hl1
        have htk : tK n B (tS n B p) = tW B (tS n B p) q := by unfold tK; rw [if_pos hs1, if_neg hnd, if_pos hl1, hqe]
        refine rn_aload_n dX8_nextToken_218 rfl rfl ?_
        refine rn_aload_n dX8_nextToken_219 rfl rfl ?_
        refine rn_getI dX8_nextToken_220 fd_8_148 (sk_l hs 44 (by decide)) (sk_k44 hs) rfl ?_
        refine rn_top (y := nI q) (h17) ?_
        refine rn_aload_n dX8_nextToken_223 rfl rfl ?_
        refine rn_getI dX8_nextToken_224 fd_8_154 (sk_l hs 44 (by decide)) (sk_k44 hs) rfl ?_
        refine rn_top (y := nI (tS n B p)) (h18) ?_
        refine rn_isub dX8_nextToken_227 ?_
        refine rn_top (pk_sub (by omega)) ?_
        refine rn_bipush (v := nI 6) dX8_nextToken_228 (by decide) ?_
        refine rn_icmp_leN (tgt := 237) dX8_nextToken_230 (by decide) (by omega) (by omega) (fun c_230 => ?_) (fun c_230 => ?_)
        · refine rn_lload_n dX8_nextToken_237 rfl rfl ?_
          refine rn_callSq (st := [.ref 44]) dX8_nextToken_238 cf_8_166 (c_X8_wordOf _ _ _) (by decide) rfl rfl (Nat.le_of_ble_eq_true rfl) ?_
          refine rn_putI dX8_nextToken_241 fd_8_157 (sk_l hs 44 (by decide)) (sk_k44 hs) rfl rfl (vp_nar_int _) rfl ?_
          refine rn_goto (tgt := 262) dX8_nextToken_244 (by decide) ?_
          refine rn_return dX8_nextToken_262 rfl ?_
          refine ⟨rfl, rfl, hK.up (by decide) _, by rw [am_up_k _ _ (by decide)]; exact h18, ?_, fun _ => ?_, fun h9 => ?_⟩
          · rw [am_up_at, htk]; first | rw [tW_long (by omega)] | (rw [show mn7 (q - tS n B p) = q - tS n B p from if_pos (by omega), wOf_tW (by omega) hal, show tS n B p + (q - tS n B p) = q by omega])
          · rw [am_up_k _ _ (by decide), h17, hqe]; unfold tE; rw [if_neg (fun h8 => hnd h8.2)]
          · exact absurd (tK_1.mp h9).2 hnd
        · refine rn_iconst (v := nI 2) dX8_nextToken_233 (by decide) ?_
          refine rn_goto (tgt := 241) dX8_nextToken_234 (by decide) ?_
          refine rn_putI dX8_nextToken_241 fd_8_157 (sk_l hs 44 (by decide)) (sk_k44 hs) rfl rfl (vp_nar_int _) rfl ?_
          refine rn_goto (tgt := 262) dX8_nextToken_244 (by decide) ?_
          refine rn_return dX8_nextToken_262 rfl ?_
          refine ⟨rfl, rfl, hK.up (by decide) _, by rw [am_up_k _ _ (by decide)]; exact h18, ?_, fun _ => ?_, fun h9 => ?_⟩
          · rw [am_up_at, htk]; first | rw [tW_long (by omega)] | (rw [show mn7 (q - tS n B p) = q - tS n B p from if_pos (by omega), wOf_tW (by omega) hal, show tS n B p + (q - tS n B p) = q by omega])
          · rw [am_up_k _ _ (by decide), h17, hqe]; unfold tE; rw [if_neg (fun h8 => hnd h8.2)]
          · exact absurd (tK_1.mp h9).2 hnd
      · exact absurd (of_decide_eq_true c_173).1 (by omega)
    | succ m ih =>
      intro q hm hsq hqn hsc I1 hK h17 h18
      have hT1 := hK.tm hT
      have hal : ∀ x, x < q - tS n B p → 97 ≤ B (tS n B p + x) ∧ B (tS n B p + x) ≤ 122 := fun x hx => of_decide_eq_true (scn_in (P := isLt B) (n := n) (p := tS n B p) (q := tS n B p + x) (by omega) (by have := scn_ge (P := isLt B) (n := n) (p := q); omega)).2
      refine rn_aload_n dX8_nextToken_158 rfl rfl ?_
      refine rn_aload_n dX8_nextToken_159 rfl rfl ?_
      refine rn_getI dX8_nextToken_160 fd_8_148 (sk_l hs 44 (by decide)) (sk_k44 hs) rfl ?_
      refine rn_top (y := nI q) (h17) ?_
      refine rn_callVq (st := []) dX8_nextToken_163 cf_8_151 (c_X8_seeV hs hT1 hB (by omega)) (by decide) (sk_l hs 44 (by decide)) (sk_k44 hs) rfl rfl (Nat.le_of_ble_eq_true rfl) ?_
      refine rn_bipush (v := nI 97) dX8_nextToken_166 (by decide) ?_
      refine rn_bipush (v := nI 122) dX8_nextToken_168 (by decide) ?_
      refine rn_callSq (st := []) dX8_nextToken_170 cf_8_70 (c_X8_letterV hB) (by decide) rfl rfl (Nat.le_of_ble_eq_true rfl) ?_
      refine rn_if_eqB (tgt := 218) dX8_nextToken_173 (by decide) (fun c_173 => ?_) (fun c_173 => ?_)
      · have hqe : q = scn (isLt B) n (tS n B p) := by rw [← hsc]; exact (scn_e (fun h9 => absurd (decide_eq_true h9) (by rw [c_173]; decide))).symm
        have hnd : ¬ isDg B (tS n B p) = true := fun h9 => dg_not_lt h9 hl1
        have htk : tK n B (tS n B p) = tW B (tS n B p) q := by unfold tK; rw [if_pos hs1, if_neg hnd, if_pos hl1, hqe]
        refine rn_aload_n dX8_nextToken_218 rfl rfl ?_
        refine rn_aload_n dX8_nextToken_219 rfl rfl ?_
        refine rn_getI dX8_nextToken_220 fd_8_148 (sk_l hs 44 (by decide)) (sk_k44 hs) rfl ?_
        refine rn_top (y := nI q) (h17) ?_
        refine rn_aload_n dX8_nextToken_223 rfl rfl ?_
        refine rn_getI dX8_nextToken_224 fd_8_154 (sk_l hs 44 (by decide)) (sk_k44 hs) rfl ?_
        refine rn_top (y := nI (tS n B p)) (h18) ?_
        refine rn_isub dX8_nextToken_227 ?_
        refine rn_top (pk_sub (by omega)) ?_
        refine rn_bipush (v := nI 6) dX8_nextToken_228 (by decide) ?_
        refine rn_icmp_leN (tgt := 237) dX8_nextToken_230 (by decide) (by omega) (by omega) (fun c_230 => ?_) (fun c_230 => ?_)
        · refine rn_lload_n dX8_nextToken_237 rfl rfl ?_
          refine rn_callSq (st := [.ref 44]) dX8_nextToken_238 cf_8_166 (c_X8_wordOf _ _ _) (by decide) rfl rfl (Nat.le_of_ble_eq_true rfl) ?_
          refine rn_putI dX8_nextToken_241 fd_8_157 (sk_l hs 44 (by decide)) (sk_k44 hs) rfl rfl (vp_nar_int _) rfl ?_
          refine rn_goto (tgt := 262) dX8_nextToken_244 (by decide) ?_
          refine rn_return dX8_nextToken_262 rfl ?_
          refine ⟨rfl, rfl, hK.up (by decide) _, by rw [am_up_k _ _ (by decide)]; exact h18, ?_, fun _ => ?_, fun h9 => ?_⟩
          · rw [am_up_at, htk]; first | rw [tW_long (by omega)] | (rw [show mn7 (q - tS n B p) = q - tS n B p from if_pos (by omega), wOf_tW (by omega) hal, show tS n B p + (q - tS n B p) = q by omega])
          · rw [am_up_k _ _ (by decide), h17, hqe]; unfold tE; rw [if_neg (fun h8 => hnd h8.2)]
          · exact absurd (tK_1.mp h9).2 hnd
        · refine rn_iconst (v := nI 2) dX8_nextToken_233 (by decide) ?_
          refine rn_goto (tgt := 241) dX8_nextToken_234 (by decide) ?_
          refine rn_putI dX8_nextToken_241 fd_8_157 (sk_l hs 44 (by decide)) (sk_k44 hs) rfl rfl (vp_nar_int _) rfl ?_
          refine rn_goto (tgt := 262) dX8_nextToken_244 (by decide) ?_
          refine rn_return dX8_nextToken_262 rfl ?_
          refine ⟨rfl, rfl, hK.up (by decide) _, by rw [am_up_k _ _ (by decide)]; exact h18, ?_, fun _ => ?_, fun h9 => ?_⟩
          · rw [am_up_at, htk]; first | rw [tW_long (by omega)] | (rw [show mn7 (q - tS n B p) = q - tS n B p from if_pos (by omega), wOf_tW (by omega) hal, show tS n B p + (q - tS n B p) = q by omega])
          · rw [am_up_k _ _ (by decide), h17, hqe]; unfold tE; rw [if_neg (fun h8 => hnd h8.2)]
          · exact absurd (tK_1.mp h9).2 hnd
      · have hqq := of_decide_eq_true c_173
        have hbb := hB.2 q hqq.1
        refine rn_aload_n dX8_nextToken_176 rfl rfl ?_
        refine rn_getI dX8_nextToken_177 fd_8_148 (sk_l hs 44 (by decide)) (sk_k44 hs) rfl ?_
        refine rn_top (y := nI q) (h17) ?_
        refine rn_aload_n dX8_nextToken_180 rfl rfl ?_
        refine rn_getI dX8_nextToken_181 fd_8_154 (sk_l hs 44 (by decide)) (sk_k44 hs) rfl ?_
        refine rn_top (y := nI (tS n B p)) (h18) ?_
        refine rn_isub dX8_nextToken_184 ?_
        refine rn_top (pk_sub (by omega)) ?_
        refine rn_bipush (v := nI 7) dX8_nextToken_185 (by decide) ?_
        refine rn_icmp_geN (tgt := 205) dX8_nextToken_187 (by decide) (by omega) (by omega) (fun c_187 => ?_) (fun c_187 => ?_)
        · refine rn_aload_n dX8_nextToken_205 rfl rfl ?_
          refine rn_dup dX8_nextToken_206 rfl ?_
          refine rn_getI dX8_nextToken_207 fd_8_148 (sk_l hs 44 (by decide)) (sk_k44 hs) rfl ?_
          refine rn_top (y := nI q) (h17) ?_
          refine rn_iconst (v := nI 1) dX8_nextToken_210 (by decide) ?_
          refine rn_iadd dX8_nextToken_211 ?_
          refine rn_top (nI_add _ _) ?_
          refine rn_putI dX8_nextToken_212 fd_8_148 (sk_l hs 44 (by decide)) (sk_k44 hs) rfl rfl (vp_nar_int _) rfl ?_
          refine rn_goto (tgt := 158) dX8_nextToken_215 (by decide) ?_
          rw [show mn7 (q - tS n B p) = mn7 (q + 1 - tS n B p) by unfold mn7; rw [if_neg (by omega), if_neg (by omega)]]
          exact ih (q + 1) (by omega) (by omega) (by omega) (by rw [← scn_s hqq.1 hqq.2]; exact hsc) _ (hK.up (by decide) _) (by rw [am_up_at]) (by rw [am_up_k _ _ (by decide)]; exact h18)
        · have hm7 : mn7 (q - tS n B p) = q - tS n B p := if_pos (by omega)
          have hpb := pkB_lt (B := B) (s := tS n B p) (q - tS n B p) (fun x hx => by have := hal x hx; omega)
          have hp6 : 256 ^ (q - tS n B p) ≤ 256 ^ 6 := Nat.pow_le_pow_right (by decide) (by omega)
          have hp7 : (256 : Nat) ^ 6 = 281474976710656 := by decide
          refine rn_lload_n dX8_nextToken_190 rfl rfl ?_
          refine rn_bipush (v := nI 8) dX8_nextToken_191 (by decide) ?_
          refine rn_lshl dX8_nextToken_193 ?_
          refine rn_aload_n dX8_nextToken_194 rfl rfl ?_
          refine rn_aload_n dX8_nextToken_195 rfl rfl ?_
          refine rn_getI dX8_nextToken_196 fd_8_148 (sk_l hs 44 (by decide)) (sk_k44 hs) rfl ?_
          refine rn_top (y := nI q) (h17) ?_
          refine rn_callVq (st := [.long ((lN (pkB B (tS n B p) (mn7 (q - tS n B p)))) <<< ((nI 8).toInt64 &&& 63))]) dX8_nextToken_199 cf_8_151 (c_X8_seeV hs hT1 hB (by omega)) (by decide) (sk_l hs 44 (by decide)) (sk_k44 hs) rfl rfl (Nat.le_of_ble_eq_true rfl) ?_
          refine rn_top (y := nI (B q)) (bV_in hqq.1) ?_
          refine rn_i2l dX8_nextToken_202 ?_
          refine rn_lor dX8_nextToken_203 ?_
          refine rn_topv (y := .long (lN (pkB B (tS n B p) (mn7 (q + 1 - tS n B p))))) (by rw [hm7, lN_sh (by omega) hbb, show mn7 (q + 1 - tS n B p) = q - tS n B p + 1 by unfold mn7; split <;> omega, pkB, show tS n B p + (q - tS n B p) = q by omega]) ?_
          refine rn_lstore_n (ls' := [some (.ref 44), some (.int (bV n B (tS n B p))), some (.long (lN (pkB B (tS n B p) (mn7 (q + 1 - tS n B p))))), none]) dX8_nextToken_204 rfl (by decide) rfl rfl ?_
          refine rn_aload_n dX8_nextToken_205 rfl rfl ?_
          refine rn_dup dX8_nextToken_206 rfl ?_
          refine rn_getI dX8_nextToken_207 fd_8_148 (sk_l hs 44 (by decide)) (sk_k44 hs) rfl ?_
          refine rn_top (y := nI q) (h17) ?_
          refine rn_iconst (v := nI 1) dX8_nextToken_210 (by decide) ?_
          refine rn_iadd dX8_nextToken_211 ?_
          refine rn_top (nI_add _ _) ?_
          refine rn_putI dX8_nextToken_212 fd_8_148 (sk_l hs 44 (by decide)) (sk_k44 hs) rfl rfl (vp_nar_int _) rfl ?_
          refine rn_goto (tgt := 158) dX8_nextToken_215 (by decide) ?_
          exact ih (q + 1) (by omega) (by omega) (by omega) (by rw [← scn_s hqq.1 hqq.2]; exact hsc) _ (hK.up (by decide) _) (by rw [am_up_at]) (by rw [am_up_k _ _ (by decide)]; exact h18)
  have K39 : ∀ I1 : am_I, KT I I1 → I1 44 17 = nI (tS n B p) → am_Rn 2 Y_X8_nextToken (0, 0) 39 [some (.ref 44), none, none, none] [] S I1 (fun r S' I' => r = none ∧ S' = S ∧ KT I I' ∧ SN n B p I') := by
    intro I1 hK h17
    have hT1 := hK.tm hT
    refine rn_aload_n dX8_nextToken_39 rfl rfl ?_
    refine rn_aload_n dX8_nextToken_40 rfl rfl ?_
    refine rn_getI dX8_nextToken_41 fd_8_148 (sk_l hs 44 (by decide)) (sk_k44 hs) rfl ?_
    refine rn_top (y := nI (tS n B p)) (h17) ?_
    refine rn_putI dX8_nextToken_44 fd_8_154 (sk_l hs 44 (by decide)) (sk_k44 hs) rfl rfl (vp_nar_int _) rfl ?_
    refine rn_aload_n dX8_nextToken_47 rfl rfl ?_
    refine rn_aload_n dX8_nextToken_48 rfl rfl ?_
    refine rn_getI dX8_nextToken_49 fd_8_148 (sk_l hs 44 (by decide)) (sk_k44 hs) rfl ?_
    refine rn_top (y := nI (tS n B p)) (by have h9 := h17; simp [am_up, va_up, h9]) ?_
    refine rn_callVq (st := []) dX8_nextToken_52 cf_8_151 (c_X8_seeV hs (KT.tm (hK.up (by decide) _) hT) hB (by omega)) (by decide) (sk_l hs 44 (by decide)) (sk_k44 hs) rfl rfl (Nat.le_of_ble_eq_true rfl) ?_
    refine rn_istore_n (ls' := [some (.ref 44), some (.int (bV n B (tS n B p))), none, none]) dX8_nextToken_55 rfl (by decide) rfl rfl ?_
    refine rn_iload_n dX8_nextToken_56 rfl rfl ?_
    refine rn_if_ge (tgt := 68) dX8_nextToken_57 (by decide) (fun c_57 => ?_) (fun c_57 => ?_)
    · have hs1 : tS n B p < n := Decidable.byContradiction (fun q9 => absurd c_57 (by rw [bV_out (by omega)]; decide))
      refine rn_iload_n dX8_nextToken_68 rfl rfl ?_
      refine rn_callSq (st := []) dX8_nextToken_69 cf_8_160 (c_X8_digitV hB) (by decide) rfl rfl (Nat.le_of_ble_eq_true rfl) ?_
      refine rn_if_eqB (tgt := 145) dX8_nextToken_72 (by decide) (fun c_72 => ?_) (fun c_72 => ?_)
      · refine rn_iload_n dX8_nextToken_145 rfl rfl ?_
        refine rn_bipush (v := nI 97) dX8_nextToken_146 (by decide) ?_
        refine rn_bipush (v := nI 122) dX8_nextToken_148 (by decide) ?_
        refine rn_callSq (st := []) dX8_nextToken_150 cf_8_70 (c_X8_letterV hB) (by decide) rfl rfl (Nat.le_of_ble_eq_true rfl) ?_
        refine rn_if_eqB (tgt := 247) dX8_nextToken_153 (by decide) (fun c_153 => ?_) (fun c_153 => ?_)
        · refine rn_aload_n dX8_nextToken_247 rfl rfl ?_
          refine rn_iconst (v := nI 2) dX8_nextToken_248 (by decide) ?_
          refine rn_putI dX8_nextToken_249 fd_8_157 (sk_l hs 44 (by decide)) (sk_k44 hs) rfl rfl (vp_nar_int _) rfl ?_
          refine rn_aload_n dX8_nextToken_252 rfl rfl ?_
          refine rn_dup dX8_nextToken_253 rfl ?_
          refine rn_getI dX8_nextToken_254 fd_8_148 (sk_l hs 44 (by decide)) (sk_k44 hs) rfl ?_
          refine rn_top (y := nI (tS n B p)) (by have h9 := h17; simp [am_up, va_up, h9]) ?_
          refine rn_iconst (v := nI 1) dX8_nextToken_257 (by decide) ?_
          refine rn_iadd dX8_nextToken_258 ?_
          refine rn_top (nI_add _ _) ?_
          refine rn_putI dX8_nextToken_259 fd_8_148 (sk_l hs 44 (by decide)) (sk_k44 hs) rfl rfl (vp_nar_int _) rfl ?_
          refine rn_return dX8_nextToken_262 rfl ?_
          have ht2 : tK n B (tS n B p) = 2 := by unfold tK; rw [if_pos hs1, if_neg (fun h8 => absurd (decide_eq_true (And.intro hs1 h8)) (by rw [c_72]; decide)), if_neg (fun h8 => absurd (decide_eq_true (And.intro hs1 h8)) (by rw [c_153]; decide))]
          refine ⟨rfl, rfl, ((hK.up (by decide) _).up (by decide) _).up (by decide) _, by rw [am_up_k _ _ (by decide), am_up_k _ _ (by decide), am_up_at], by rw [am_up_k _ _ (by decide), am_up_at, ht2], fun h9 => absurd ht2 h9, fun h9 => by omega⟩
        · refine rn_lconst (v := lN 0) dX8_nextToken_156 (by decide) ?_
          refine rn_lstore_n (ls' := [some (.ref 44), some (.int (bV n B (tS n B p))), some (.long (lN 0)), none]) dX8_nextToken_157 rfl (by decide) rfl rfl ?_
          have hl9 := LL hs1 (of_decide_eq_true c_153).2 _ (tS n B p) (Nat.le_refl _) (Nat.le_refl _) hsn rfl _ (hK.up (k := 18) (by decide) (nI (tS n B p))) (by rw [am_up_k _ _ (by decide)]; exact h17) (by rw [am_up_at])
          rw [Nat.sub_self] at hl9
          exact hl9
      · refine rn_aload_n dX8_nextToken_75 rfl rfl ?_
        refine rn_iconst (v := nI 1) dX8_nextToken_76 (by decide) ?_
        refine rn_putI dX8_nextToken_77 fd_8_157 (sk_l hs 44 (by decide)) (sk_k44 hs) rfl rfl (vp_nar_int _) rfl ?_
        refine rn_aload_n dX8_nextToken_80 rfl rfl ?_
        refine rn_iconst (v := nI 0) dX8_nextToken_81 (by decide) ?_
        refine rn_putI dX8_nextToken_82 fd_8_163 (sk_l hs 44 (by decide)) (sk_k44 hs) rfl rfl (vp_nar_int _) rfl ?_
        exact LD hs1 (of_decide_eq_true c_72).2 _ (tS n B p) (Nat.le_refl _) (Nat.le_refl _) hsn rfl _ (((hK.up (by decide) _).up (by decide) _).up (by decide) _) (by rw [am_up_k _ _ (by decide), am_up_k _ _ (by decide), am_up_k _ _ (by decide)]; exact h17) (by rw [am_up_k _ _ (by decide), am_up_k _ _ (by decide), am_up_at]) (by rw [am_up_k _ _ (by decide), am_up_at]) (by rw [am_up_at, Nat.sub_self]; rfl)
    · have hs1 : n ≤ tS n B p := Decidable.byContradiction (fun q9 => c_57 (by have := hB.2 (tS n B p) (by omega); rw [bV_in (by omega), z_le, z_nI (by omega), z_0]; omega))
      refine rn_aload_n dX8_nextToken_60 rfl rfl ?_
      refine rn_iconst (v := nI 0) dX8_nextToken_61 (by decide) ?_
      refine rn_putI dX8_nextToken_62 fd_8_157 (sk_l hs 44 (by decide)) (sk_k44 hs) rfl rfl (vp_nar_int _) rfl ?_
      refine rn_goto (tgt := 262) dX8_nextToken_65 (by decide) ?_
      refine rn_return dX8_nextToken_262 rfl ?_
      have ht0 : tK n B (tS n B p) = 0 := tK_0 hs1
      refine ⟨rfl, rfl, (hK.up (by decide) _).up (by decide) _, by rw [am_up_k _ _ (by decide), am_up_at], by rw [am_up_at, ht0], fun _ => ?_, fun h9 => by omega⟩
      rw [am_up_k _ _ (by decide), am_up_k _ _ (by decide), h17]
      unfold tE
      rw [if_neg (by omega), scn_e (by omega)]
  have L1 : ∀ m q, n - q ≤ m → p ≤ q → q ≤ n → scn (isBk B) n q = tS n B p → ∀ I1 : am_I, KT I I1 → I1 44 17 = nI q → am_Rn 2 Y_X8_nextToken (0, 0) 0 [some (.ref 44), none, none, none] [] S I1 (fun r S' I' => r = none ∧ S' = S ∧ KT I I' ∧ SN n B p I') := by
    intro m
    induction m with
    | zero =>
      intro q hm hpq hqn hsc I1 hK h17
      have hT1 := hK.tm hT
      refine rn_aload_n dX8_nextToken_0 rfl rfl ?_
      refine rn_aload_n dX8_nextToken_1 rfl rfl ?_
      refine rn_getI dX8_nextToken_2 fd_8_148 (sk_l hs 44 (by decide)) (sk_k44 hs) rfl ?_
      refine rn_top (y := nI q) (h17) ?_
      refine rn_callVq (st := []) dX8_nextToken_5 cf_8_151 (c_X8_seeV hs hT1 hB (by omega)) (by decide) (sk_l hs 44 (by decide)) (sk_k44 hs) rfl rfl (Nat.le_of_ble_eq_true rfl) ?_
      refine rn_bipush (v := nI 32) dX8_nextToken_8 (by decide) ?_
      refine rn_icmp_eq (tgt := 26) dX8_nextToken_10 (by decide) (fun c_10 => ?_) (fun c_10 => ?_)
      · refine rn_aload_n dX8_nextToken_26 rfl rfl ?_
        refine rn_dup dX8_nextToken_27 rfl ?_
        refine rn_getI dX8_nextToken_28 fd_8_148 (sk_l hs 44 (by decide)) (sk_k44 hs) rfl ?_
        refine rn_top (y := nI q) (h17) ?_
        refine rn_iconst (v := nI 1) dX8_nextToken_31 (by decide) ?_
        refine rn_iadd dX8_nextToken_32 ?_
        refine rn_top (nI_add _ _) ?_
        refine rn_putI dX8_nextToken_33 fd_8_148 (sk_l hs 44 (by decide)) (sk_k44 hs) rfl rfl (vp_nar_int _) rfl ?_
        refine rn_goto (tgt := 0) dX8_nextToken_36 (by decide) ?_
        have hqq := (bk_iff hB q).mp (by first | exact Or.inl c_10 | exact Or.inr c_23)
        omega
      · refine rn_aload_n dX8_nextToken_13 rfl rfl ?_
        refine rn_aload_n dX8_nextToken_14 rfl rfl ?_
        refine rn_getI dX8_nextToken_15 fd_8_148 (sk_l hs 44 (by decide)) (sk_k44 hs) rfl ?_
        refine rn_top (y := nI q) (h17) ?_
        refine rn_callVq (st := []) dX8_nextToken_18 cf_8_151 (c_X8_seeV hs hT1 hB (by omega)) (by decide) (sk_l hs 44 (by decide)) (sk_k44 hs) rfl rfl (Nat.le_of_ble_eq_true rfl) ?_
        refine rn_bipush (v := nI 10) dX8_nextToken_21 (by decide) ?_
        refine rn_icmp_ne (tgt := 39) dX8_nextToken_23 (by decide) (fun c_23 => ?_) (fun c_23 => ?_)
        · have hqe : q = tS n B p := by rw [← hsc]; exact (scn_e (fun h9 => by rcases (bk_iff hB q).mpr h9 with h8 | h8; exact c_10 h8; exact c_23 h8)).symm
          exact K39 I1 hK (by rw [h17, hqe])
        · refine rn_aload_n dX8_nextToken_26 rfl rfl ?_
          refine rn_dup dX8_nextToken_27 rfl ?_
          refine rn_getI dX8_nextToken_28 fd_8_148 (sk_l hs 44 (by decide)) (sk_k44 hs) rfl ?_
          refine rn_top (y := nI q) (h17) ?_
          refine rn_iconst (v := nI 1) dX8_nextToken_31 (by decide) ?_
          refine rn_iadd dX8_nextToken_32 ?_
          refine rn_top (nI_add _ _) ?_
          refine rn_putI dX8_nextToken_33 fd_8_148 (sk_l hs 44 (by decide)) (sk_k44 hs) rfl rfl (vp_nar_int _) rfl ?_
          refine rn_goto (tgt := 0) dX8_nextToken_36 (by decide) ?_
          have hqq := (bk_iff hB q).mp (by first | exact Or.inl c_10 | exact Or.inr c_23)
          omega
    | succ m ih =>
      intro q hm hpq hqn hsc I1 hK h17
      have hT1 := hK.tm hT
      refine rn_aload_n dX8_nextToken_0 rfl rfl ?_
      refine rn_aload_n dX8_nextToken_1 rfl rfl ?_
      refine rn_getI dX8_nextToken_2 fd_8_148 (sk_l hs 44 (by decide)) (sk_k44 hs) rfl ?_
      refine rn_top (y := nI q) (h17) ?_
      refine rn_callVq (st := []) dX8_nextToken_5 cf_8_151 (c_X8_seeV hs hT1 hB (by omega)) (by decide) (sk_l hs 44 (by decide)) (sk_k44 hs) rfl rfl (Nat.le_of_ble_eq_true rfl) ?_
      refine rn_bipush (v := nI 32) dX8_nextToken_8 (by decide) ?_
      refine rn_icmp_eq (tgt := 26) dX8_nextToken_10 (by decide) (fun c_10 => ?_) (fun c_10 => ?_)
      · refine rn_aload_n dX8_nextToken_26 rfl rfl ?_
        refine rn_dup dX8_nextToken_27 rfl ?_
        refine rn_getI dX8_nextToken_28 fd_8_148 (sk_l hs 44 (by decide)) (sk_k44 hs) rfl ?_
        refine rn_top (y := nI q) (h17) ?_
        refine rn_iconst (v := nI 1) dX8_nextToken_31 (by decide) ?_
        refine rn_iadd dX8_nextToken_32 ?_
        refine rn_top (nI_add _ _) ?_
        refine rn_putI dX8_nextToken_33 fd_8_148 (sk_l hs 44 (by decide)) (sk_k44 hs) rfl rfl (vp_nar_int _) rfl ?_
        refine rn_goto (tgt := 0) dX8_nextToken_36 (by decide) ?_
        have hqq := (bk_iff hB q).mp (by first | exact Or.inl c_10 | exact Or.inr c_23)
        exact ih (q + 1) (by omega) (by omega) (by omega) (by rw [← scn_s hqq.1 hqq.2]; exact hsc) _ (hK.up (by decide) _) (by rw [am_up_at])
      · refine rn_aload_n dX8_nextToken_13 rfl rfl ?_
        refine rn_aload_n dX8_nextToken_14 rfl rfl ?_
        refine rn_getI dX8_nextToken_15 fd_8_148 (sk_l hs 44 (by decide)) (sk_k44 hs) rfl ?_
        refine rn_top (y := nI q) (h17) ?_
        refine rn_callVq (st := []) dX8_nextToken_18 cf_8_151 (c_X8_seeV hs hT1 hB (by omega)) (by decide) (sk_l hs 44 (by decide)) (sk_k44 hs) rfl rfl (Nat.le_of_ble_eq_true rfl) ?_
        refine rn_bipush (v := nI 10) dX8_nextToken_21 (by decide) ?_
        refine rn_icmp_ne (tgt := 39) dX8_nextToken_23 (by decide) (fun c_23 => ?_) (fun c_23 => ?_)
        · have hqe : q = tS n B p := by rw [← hsc]; exact (scn_e (fun h9 => by rcases (bk_iff hB q).mpr h9 with h8 | h8; exact c_10 h8; exact c_23 h8)).symm
          exact K39 I1 hK (by rw [h17, hqe])
        · refine rn_aload_n dX8_nextToken_26 rfl rfl ?_
          refine rn_dup dX8_nextToken_27 rfl ?_
          refine rn_getI dX8_nextToken_28 fd_8_148 (sk_l hs 44 (by decide)) (sk_k44 hs) rfl ?_
          refine rn_top (y := nI q) (h17) ?_
          refine rn_iconst (v := nI 1) dX8_nextToken_31 (by decide) ?_
          refine rn_iadd dX8_nextToken_32 ?_
          refine rn_top (nI_add _ _) ?_
          refine rn_putI dX8_nextToken_33 fd_8_148 (sk_l hs 44 (by decide)) (sk_k44 hs) rfl rfl (vp_nar_int _) rfl ?_
          refine rn_goto (tgt := 0) dX8_nextToken_36 (by decide) ?_
          have hqq := (bk_iff hB q).mp (by first | exact Or.inl c_10 | exact Or.inr c_23)
          exact ih (q + 1) (by omega) (by omega) (by omega) (by rw [← scn_s hqq.1 hqq.2]; exact hsc) _ (hK.up (by decide) _) (by rw [am_up_at])
  refine am_mt ⟨by decide +kernel, rfl⟩ (Nat.le_of_ble_eq_true rfl) rfl ?_
  exact L1 _ p (Nat.le_refl _) (Nat.le_refl _) hp rfl I KT.rf h17
