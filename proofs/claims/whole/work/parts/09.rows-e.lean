section AME
variable {d : Nat} {Y : am_Y} {b : Nat × Nat} {pc : Nat} {ls : List (Option Value)} {st : List Value} {S : am_S} {I : am_I} {Q : Option Value → am_S → am_I → Prop}
/-- a row of numbers is copied -/
theorem rn_copy {i a0 a n0 n1 : Nat} {sp dp n : Int32} (hdg : decode Y.2.2.1 pc = .ok (.invokestatic i, 3)) (hw : Cond.methodLink (am_R Y.2.1) i arraycopyName ∈ am_gw ∧ Cond.native arraycopyName ∈ am_gw ∧ Cond.static arraycopyName ∈ am_gw ∧ Cond.initialized "java/lang/System" ∈ am_gw)
    (ha0 : a0 < S.1) (ha : a < S.1) (hk0 : S.2.1 a0 = .inl (0, n0)) (hk : S.2.1 a = .inl (0, n1)) (h1 : ¬ sp < 0) (h2 : ¬ dp < 0) (h3 : ¬ n < 0) (h4 : sp.toNatClampNeg + n.toNatClampNeg ≤ n0) (h5 : dp.toNatClampNeg + n.toNatClampNeg ≤ n1) (hd : 1 ≤ d) (hr : (st.map fun v => v.category).sum ≤ 8)
    (kk : am_Rn d Y b (pc + 3) ls st S (va_up I a (va_cpy (I a0) (I a) sp.toNatClampNeg dp.toNatClampNeg n.toNatClampNeg)) Q) : am_Rn d Y b pc ls (.int n :: .int dp :: .ref a :: .int sp :: .ref a0 :: st) S I Q := by
  intro g p l e R s m args below meth c H locs cells slots mc ms cl C L
  obtain ⟨hF, hMm, hR, hB, hW, hS, hH⟩ := id C
  have haB : a < am_B := Nat.lt_of_lt_of_le ha hH.2.1
  have nn : ∀ z : Int32, ¬ z < 0 → z.toInt = (z.toNatClampNeg : Int) := by
    intro z hz
    have hz0 : (0 : Int) ≤ z.toInt := by
      have := Int32.not_lt.mp hz
      simpa using Int32.le_iff_toInt_le.mp this
    show z.toInt = ((z.toInt.toNat : Nat) : Int)
    omega
  intro T hT X
  have hc0 := am_arr hH ha0 hk0
  have hc1 := am_arr hH ha hk
  obtain ⟨-, k0, hq0, cm0, hkk0⟩ := (am_ao hW).1 n0 (fun j => .int (I a0 j))
  obtain ⟨-, k1, hq1, cm1, hkk1⟩ := (am_ao hW).1 n1 (fun j => .int (I a j))
  obtain ⟨vm', X', step⟩ := X.arraycopy hF.1 hF.2.2.2.1 (hF.2.2.2.2 _ hw.1) (hF.2.2.2.2 _ hw.2.1) (hF.2.2.2.2 _ hw.2.2.1) (hF.2.2.2.2 _ hw.2.2.2) (src := am_ad g a0) (dst := am_ad g a) (cs := arrV (g.2.2.1 0) n0 (fun j => .int (I a0 j))) (cd := arrV (g.2.2.1 0) n1 (fun j => .int (I a j))) (srcPos := sp) (destPos := dp) (n := n) (by rw [hT]; exact hc0) (by rw [hT]; exact hc1)
    (fun _ h => by cases h) (fun _ h => by cases h) (fun h => by cases h) (fun h => by cases h) hq0 hq1 hkk0 hkk1 (by simp [refKind]) h1 h2 h3
    (by rw [nn sp h1, nn n h3, arrV_size]; omega)
    (by rw [nn dp h2, nn n h3, arrV_size]; omega)
    (fun vm₁ _ j hj => by
      have e : (arrV (g.2.2.1 0) n0 (fun j => Value.int (I a0 j))).slots.getD (sp.toNatClampNeg + j) .null = .int (I a0 (sp.toNatClampNeg + j)) := by
        rw [Array.getD_eq_getD_getElem?, arrV_read _ _ (by omega)]
        rfl
      refine ⟨?_, ?_⟩
      · rw [e]; rfl
      · rw [e]; exact trivial)
    (g := F0 m pc cl ((.int n :: .int dp :: .ref a :: .int sp :: .ref a0 :: st).map (am_v g))) rfl (by rw [hF.2.2.1]; exact L.size) (rest := st.map (am_v g)) rfl (by rw [hF.2.1]; exact hdg) (by omega) (by
      have h1 := lv_room (m := m) (pc := pc) (ls := cl) (rest := st) (st := st.map (am_v g)) (by rw [am_cat]; exact hr)
      have h2 : 60 ≤ R.locals := by omega
      have h3 : nativeFrameWords "java/lang/System" "arraycopy" 5 + 11 ≤ 52 := by decide +kernel
      exact Nat.le_trans (Nat.add_le_add h1 h3) (by omega))
  have e1 : copied (arrV (g.2.2.1 0) n0 (fun j => Value.int (I a0 j))) (arrV (g.2.2.1 0) n1 (fun j => Value.int (I a j))) sp dp n = arrV (g.2.2.1 0) n1 (fun j => .int (va_cpy (I a0) (I a) sp.toNatClampNeg dp.toNatClampNeg n.toNatClampNeg j)) := va_copied (fun z => .int z) (g.2.2.1 0) (g.2.2.1 0) (I a0) (I a) h4
  rw [e1] at X' step
  have hl : am_ad g a < H.size := (Array.getElem?_eq_some_iff.mp hc1).1
  have hheap : ((T.setVm vm').setCell (am_ad g a) (arrV (g.2.2.1 0) n1 (fun j => .int (va_cpy (I a0) (I a) sp.toNatClampNeg dp.toNatClampNeg n.toNatClampNeg j)))).heap = H.setIfInBounds (am_ad g a) (arrV (g.2.2.1 0) n1 (fun j => .int (va_cpy (I a0) (I a) sp.toNatClampNeg dp.toNatClampNeg n.toNatClampNeg j))) := by rw [← hT]; rfl
  have oq : ∀ q : Nat, q ≠ am_ad g a → (H.setIfInBounds (am_ad g a) (arrV (g.2.2.1 0) n1 (fun j => Value.int (va_cpy (I a0) (I a) sp.toNatClampNeg dp.toNatClampNeg n.toNatClampNeg j))))[q]? = H[q]? := fun q hq => by simp [Array.getElem?_setIfInBounds, Ne.symm hq]
  obtain ⟨t, a1, b1⟩ := kk g p l e R s m args below meth c _ _ cells slots mc ms cl ⟨hF, hMm, hR, hB, hW, ⟨by simp; exact hS.1, fun q g1 g2 => by
      rw [oq q (fun e => g2 (by rw [e]; exact am_ina hH ha))]
      exact hS.2.1 q g1 g2, fun q hq => by
      rcases List.mem_append.mp hq with h | h
      · exact hS.2.2 q h
      · obtain ⟨z, -, hz⟩ := List.mem_map.mp h
        rw [← hz]
        exact am_ina hH ha⟩, by simp; exact hH.1, hH.2.1, fun q hq => by
      have hqB : q < am_B := Nat.lt_of_lt_of_le hq hH.2.1
      by_cases hqa : q = a
      · subst hqa
        unfold am_at
        rw [hk]
        show (H.setIfInBounds (am_ad g q) _)[am_ad g q]? = _
        simp [Array.getElem?_setIfInBounds, hl, va_up]
      · exact am_at.keep (oq _ (am_ad_ne hqB haB hqa)) rfl (fun _ => rfl) (fun j => by simp [va_up, hqa]) (hH.2.2 q hq)⟩ L _ hheap X'
  exact ⟨t, step t a1, b1⟩
/-! text constants: number i of them is am_B + i, its bytes are 2 am_B + i -/
theorem am_adK {g : am_G} {i : Nat} (h : i < 9) : am_ad g (am_B + i) = g.2.2.2.1 i := by
  unfold am_ad
  rw [if_neg (by omega), if_pos (by simp only [am_B]; omega), Nat.add_sub_cancel_left]
theorem am_adV {g : am_G} {i : Nat} : am_ad g (2 * am_B + i) = g.2.2.2.2 i := by
  unfold am_ad
  rw [if_neg (by simp only [am_B]; omega), if_neg (by omega), Nat.add_sub_cancel_left]
theorem rn_ldcS {i : Nat} (hi : i < 9) (hY : Y.2.1 = 5) (hdg : decode Y.2.2.1 pc = .ok (.ldc (am_six.getD i 0), 2)) (kk : am_Rn d Y b (pc + 2) ls (.ref (am_B + i) :: st) S I Q) : am_Rn d Y b pc ls st S I Q := by
  intro g p l e R s m args below meth c H locs cells slots mc ms cl C L
  obtain ⟨hF, hMm, hR, hB, hW, hS, hH⟩ := id C
  have h := kk g p l e R s m args below meth c H locs cells slots mc ms cl C L
  refine va_ldcS (own := RX5) hF.1 hF.2.1 (by have := hF.2.2.2.1; rw [hY] at this; exact this) (hW.2.2.1.2.1 i hi) hdg ?_
  rw [← am_adK (g := g) hi]
  exact h
theorem rn_strValue {i j : Nat} (hi : i < 9) (hdg : decode Y.2.2.1 pc = .ok (.getfield j, 3)) (hw : Cond.fieldLink (am_R Y.2.1) j "java/lang/String" "value" "[B" ∈ am_gw) (kk : am_Rn d Y b (pc + 3) ls (.ref (2 * am_B + i) :: st) S I Q) : am_Rn d Y b pc ls (.ref (am_B + i) :: st) S I Q := by
  intro g p l e R s m args below meth c H locs cells slots mc ms cl C L
  obtain ⟨hF, hMm, hR, hB, hW, hS, hH⟩ := id C
  have h := kk g p l e R s m args below meth c H locs cells slots mc ms cl C L
  have h2 : am_v g (.ref (2 * am_B + i)) = .ref (g.2.2.2.2 i) := by show Value.ref _ = _; rw [am_adV]
  have h1 : am_v g (.ref (am_B + i)) = .ref (g.2.2.2.1 i) := by show Value.ref _ = _; rw [am_adK hi]
  rw [List.map_cons, h2] at h
  rw [List.map_cons, h1]
  exact vk_getf hF.1 hF.2.1 (hW.2.2.1.1.1 i hi).2.2.1 hS hF.2.2.2.1 (hF.2.2.2.2 _ hw) (fun x h => h) hdg h
theorem rn_strCoder {i j : Nat} (hi : i < 9) (hdg : decode Y.2.2.1 pc = .ok (.getfield j, 3)) (hw : Cond.fieldLink (am_R Y.2.1) j "java/lang/String" "coder" "B" ∈ am_gw) (kk : am_Rn d Y b (pc + 3) ls (.int 0 :: st) S I Q) : am_Rn d Y b pc ls (.ref (am_B + i) :: st) S I Q := by
  intro g p l e R s m args below meth c H locs cells slots mc ms cl C L
  obtain ⟨hF, hMm, hR, hB, hW, hS, hH⟩ := id C
  have h := kk g p l e R s m args below meth c H locs cells slots mc ms cl C L
  have h1 : am_v g (.ref (am_B + i)) = .ref (g.2.2.2.1 i) := by show Value.ref _ = _; rw [am_adK hi]
  rw [List.map_cons, h1]
  exact vk_getf hF.1 hF.2.1 (hW.2.2.1.1.1 i hi).2.1 hS hF.2.2.2.1 (hF.2.2.2.2 _ hw) (fun x h => h) hdg h
theorem rn_strCompact {j : Nat} (hdg : decode Y.2.2.1 pc = .ok (.getstatic j, 3)) (hw : Cond.fieldLink (am_R Y.2.1) j "java/lang/String" "COMPACT_STRINGS" "Z" ∈ am_gw) (kk : am_Rn d Y b (pc + 3) ls (.int 1 :: st) S I Q) : am_Rn d Y b pc ls st S I Q := by
  intro g p l e R s m args below meth c H locs cells slots mc ms cl C L
  obtain ⟨hF, hMm, hR, hB, hW, hS, hH⟩ := id C
  exact va_gets hF.1 hF.2.1 hW.2.2.1.2.2.1 hS hF.2.2.2.1 (hF.2.2.2.2 _ hw) (fun x h => h) hdg (kk g p l e R s m args below meth c H locs cells slots mc ms cl C L)
theorem rn_strForm {j : Nat} (hdg : decode Y.2.2.1 pc = .ok (.getstatic j, 3)) (hw : Cond.fieldLink (am_R Y.2.1) j "jdk/internal/util/Preconditions" "SIOOBE_FORMATTER" "Ljava/util/function/BiFunction;" ∈ am_gw) (kk : am_Rn d Y b (pc + 3) ls (.ref (2 * am_B + 9) :: st) S I Q) (kn : am_Rn d Y b (pc + 3) ls (.null :: st) S I Q) : am_Rn d Y b pc ls st S I Q := by
  intro g p l e R s m args below meth c H locs cells slots mc ms cl C L
  obtain ⟨hF, hMm, hR, hB, hW, hS, hH⟩ := id C
  rcases hW.2.2.1.2.2.2 with hz | hz
  · exact va_gets hF.1 hF.2.1 hz hS hF.2.2.2.1 (hF.2.2.2.2 _ hw) (fun x h => h) hdg (kn g p l e R s m args below meth c H locs cells slots mc ms cl C L)
  · have h := kk g p l e R s m args below meth c H locs cells slots mc ms cl C L
    have h2 : am_v g (.ref (2 * am_B + 9)) = .ref (g.2.2.2.2 9) := by show Value.ref _ = _; rw [am_adV]
    rw [List.map_cons, h2] at h
    exact va_gets hF.1 hF.2.1 hz hS hF.2.2.2.1 (hF.2.2.2.2 _ hw) (fun x h => h) hdg h
theorem rn_strAlen {i : Nat} (hi : i < 9) (hdg : decode Y.2.2.1 pc = .ok (.arraylength, 1)) (kk : am_Rn d Y b (pc + 1) ls (.int (nI (am_len.getD i 0)) :: st) S I Q) : am_Rn d Y b pc ls (.ref (2 * am_B + i) :: st) S I Q := by
  intro g p l e R s m args below meth c H locs cells slots mc ms cl C L
  obtain ⟨hF, hMm, hR, hB, hW, hS, hH⟩ := id C
  have h := kk g p l e R s m args below meth c H locs cells slots mc ms cl C L
  have h2 : am_v g (.ref (2 * am_B + i)) = .ref (g.2.2.2.2 i) := by show Value.ref _ = _; rw [am_adV]
  rw [List.map_cons, h2]
  exact va_tlen hF.1 hF.2.1 (hW.2.2.1.1.1 i hi).2.2.2 hS rfl hdg h
theorem rn_strByte {i : Nat} {x : Int32} (hi : i < 9) (hx : vp_in x (am_len.getD i 0)) (hdg : decode Y.2.2.1 pc = .ok (.baload, 1)) (kk : am_Rn d Y b (pc + 1) ls (.int ((am_byt.getD i []).getD x.toNatClampNeg 0) :: st) S I Q) : am_Rn d Y b pc ls (.int x :: .ref (2 * am_B + i) :: st) S I Q := by
  intro g p l e R s m args below meth c H locs cells slots mc ms cl C L
  obtain ⟨hF, hMm, hR, hB, hW, hS, hH⟩ := id C
  have h := kk g p l e R s m args below meth c H locs cells slots mc ms cl C L
  have h2 : am_v g (.ref (2 * am_B + i)) = .ref (g.2.2.2.2 i) := by show Value.ref _ = _; rw [am_adV]
  rw [List.map_cons, List.map_cons, h2]
  exact va_tb hF.1 hF.2.1 (hW.2.2.1.1.1 i hi).2.2.2 hS hx rfl hdg h
theorem rn_i2c {x v : Int32} (hdg : decode Y.2.2.1 pc = .ok (.i2c, 1)) (hv : (x.toUInt32 % 65536).toInt32 = v) (k : am_Rn d Y b (pc + 1) ls (.int v :: st) S I Q) : am_Rn d Y b pc ls (.int x :: st) S I Q := by
  intro g p l e R s m args below meth c H locs cells slots mc ms cl C L
  exact lv_i2c C.1.1 C.1.2.1 hdg hv (k g p l e R s m args below meth c H locs cells slots mc ms cl C L)
variable {Z : am_Y} {d' n i : Nat} {b' : Nat × Nat} {as stk : List Value} {Q' : Option Value → am_S → am_I → Prop}
def am_cT (o i : Nat) (Z : am_Y) (n : Nat) : Prop := am_cb Z n ∧ Cond.methodLink (am_R o) i Z.1 ∈ am_gw ∧ Cond.instanceMethod Z.1 ∈ am_gw ∧ Cond.selects "java/lang/String" Z.1 Z.1 ∈ am_gw
/-- a method of a text constant -/
theorem rn_callT {j : Nat} (hj : j < 9) (hdg : decode Y.2.2.1 pc = .ok (.invokevirtual i, 3)) (hc : am_cT Y.2.1 i Z n) (hM : am_Mt d' Z b' (.ref (am_B + j) :: as) S I Q') (hd : d' < d) (hb : b'.1 ≤ b.1 ∧ b'.2 ≤ b.2) (hn : as.length = n) (hs : as.reverse ++ .ref (am_B + j) :: st = stk) (hr : (st.map fun v => v.category).sum ≤ 8)
    (kk : ∀ r S' I', Q' r S' I' → am_Rn d Y (b.1 - b'.1, b.2 - b'.2) (pc + 3) ls (r.toList ++ st) S' I' Q) : am_Rn d Y b pc ls stk S I Q := by
  intro g p l e R s m args below meth c H locs cells slots mc ms cl C L
  obtain ⟨hF, hMm, hR, hB, hW, hS, hH⟩ := id C
  have cw := callB_of (R := R) (rm := am_rm d' b') (mc := b'.1) (ms := b'.2) n hF.2.2.2.2 (am_gin hc.1) rfl rfl rfl (hF.2.2.2.2 _ hc.1.2.1) (hF.2.2.2.2 _ hc.2.1) hc.1.2.2.1 ⟨by show d' + 1 ≤ _; omega, by have := hc.1.2.2.2; show 8 + (Z.2.2.2.2 + 11) + 60 * d' ≤ _; omega⟩
  refine am_after (va_runV (b := am_ad g (am_B + j)) (C := "java/lang/String") (As := as.map (am_v g)) (rest := st.map (am_v g)) hF (hM g l) ⟨cw, hF.2.2.2.2 _ hc.2.2.1, hF.2.2.2.2 _ hc.2.2.2⟩ ⟨am_Pc.blind g (.ref (am_B + j) :: as) S I, by rw [am_adK hj]; exact vk_recv hW.2.2.1.1 hj hS, am_pre (as := .ref (am_B + j) :: as) hW hS hH⟩ rfl (by simpa using hn) L.size (by rw [← hs]; simp [am_v]) (lv_room (by rw [am_cat]; exact hr)) hdg ⟨by omega, by omega⟩) hS (fun r S' I' H1 locs1 hq hH1 hS1 => ?_)
  have := kk r S' I' hq g p l e R s m args below meth c H1 locs1 (cells + b'.1) (slots + b'.2) mc ms cl ⟨hF, hMm, hR, ⟨by dsimp only; omega, by dsimp only; omega⟩, hW, hS1, hH1⟩ L
  cases r <;> exact this
end AME
