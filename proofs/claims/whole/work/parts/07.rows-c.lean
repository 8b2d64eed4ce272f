section AMC
variable {d : Nat} {Y : am_Y} {b : Nat × Nat} {pc : Nat} {ls : List (Option Value)} {st : List Value} {S : am_S} {I : am_I} {Q : Option Value → am_S → am_I → Prop}
theorem am_ina {g : am_G} {H : Heap} {a : Nat} (hH : am_H g S I H) (ha : a < S.1) : am_A g (am_ad g a) := by
  show g.1 ≤ am_ad g a
  rw [am_ad_lt (Nat.lt_of_lt_of_le ha hH.2.1)]
  omega
/-! arrays of numbers -/
theorem am_ao {g : am_G} {s : State} (hW : am_Wd g s) : ArrOfT s (g.2.2.1 0) .int ∧ ArrOfT s (g.2.2.1 1) .byte ∧ ArrOfT s (g.2.2.1 2) .boolean ∧ ArrOfT s (g.2.2.1 3) (.object RX0) := ⟨(hW.1.2 0 _ rfl).1, (hW.1.2 1 _ rfl).1, (hW.1.2 2 _ rfl).1, (hW.1.2 3 _ rfl).1⟩
theorem rn_iaload {a n : Nat} {i : Int32} (hdg : decode Y.2.2.1 pc = .ok (.iaload, 1)) (ha : a < S.1) (hk : S.2.1 a = .inl (0, n)) (hin : vp_in i n) (kk : am_Rn d Y b (pc + 1) ls (.int (I a i.toNatClampNeg) :: st) S I Q) : am_Rn d Y b pc ls (.int i :: .ref a :: st) S I Q := by
  intro g p l e R s m args below meth c H locs cells slots mc ms cl C L
  obtain ⟨hF, hM, hR, hB, hW, hS, hH⟩ := id C
  refine W.iald hF.1 hF.2.1 (am_arr hH ha hk) ((am_ao hW).1 n _) (fun q => by cases q) (by rw [arrV_size]; exact hin) (v := .int (I a i.toNatClampNeg)) (arrV_read _ _ (Nat.not_le.mp fun q => hin (Or.inr q))) rfl rfl hdg ?_
  exact kk g p l e R s m args below meth c H locs cells slots mc ms cl C L
theorem rn_baload {a t n : Nat} {i : Int32} (hdg : decode Y.2.2.1 pc = .ok (.baload, 1)) (ha : a < S.1) (hk : S.2.1 a = .inl (t, n)) (ht : t = 1 ∨ t = 2) (hin : vp_in i n) (kk : am_Rn d Y b (pc + 1) ls (.int (I a i.toNatClampNeg) :: st) S I Q) : am_Rn d Y b pc ls (.int i :: .ref a :: st) S I Q := by
  intro g p l e R s m args below meth c H locs cells slots mc ms cl C L
  obtain ⟨hF, hM, hR, hB, hW, hS, hH⟩ := id C
  rcases ht with rfl | rfl
  · refine W.bald hF.1 hF.2.1 (am_arr hH ha hk) ((am_ao hW).2.1 n _) (fun q => by cases q) (by rw [arrV_size]; exact hin) (v := .int (I a i.toNatClampNeg)) (arrV_read _ _ (Nat.not_le.mp fun q => hin (Or.inr q))) rfl rfl hdg ?_
    exact kk g p l e R s m args below meth c H locs cells slots mc ms cl C L
  · refine W.zald hF.1 hF.2.1 (am_arr hH ha hk) ((am_ao hW).2.2.1 n _) (fun q => by cases q) (by rw [arrV_size]; exact hin) (v := .int (I a i.toNatClampNeg)) (arrV_read _ _ (Nat.not_le.mp fun q => hin (Or.inr q))) rfl rfl hdg ?_
    exact kk g p l e R s m args below meth c H locs cells slots mc ms cl C L
/-- the world behind a store into an array -/
theorem am_stH {g : am_G} {H H' : Heap} {a t n k : Nat} {x : Int32} (hH : am_H g S I H) (ha : a < S.1) (hk : S.2.1 a = .inl (t, n)) (e1 : H'[am_ad g a]? = some ((arrV (g.2.2.1 t) n (fun j => .int (I a j))).setSlot k (.int x))) (e2 : H'.size = H.size) (e3 : ∀ q, q ≠ am_ad g a → H'[q]? = H[q]?) : am_H g S (am_up I a k x) H' := by
  have haB : a < am_B := Nat.lt_of_lt_of_le ha hH.2.1
  refine ⟨by rw [e2]; exact hH.1, hH.2.1, fun q hq => ?_⟩
  have hqB : q < am_B := Nat.lt_of_lt_of_le hq hH.2.1
  by_cases hqa : q = a
  · subst hqa
    unfold am_at
    rw [hk]
    show H'[am_ad g q]? = _
    rw [e1, arrV_store]
    congr 2
    funext j
    by_cases hj : j = k
    · subst hj; simp [updV, am_up_at]
    · simp [updV, hj, am_up_k I x hj]
  · exact am_at.keep (e3 _ (am_ad_ne hqB haB hqa)) rfl (fun _ => rfl) (fun j => by rw [am_up_a I x hqa]) (hH.2.2 q hq)
theorem rn_iastore {a n : Nat} {i x : Int32} (hdg : decode Y.2.2.1 pc = .ok (.iastore, 1)) (ha : a < S.1) (hk : S.2.1 a = .inl (0, n)) (hin : vp_in i n) (kk : am_Rn d Y b (pc + 1) ls st S (am_up I a i.toNatClampNeg x) Q) : am_Rn d Y b pc ls (.int x :: .int i :: .ref a :: st) S I Q := by
  intro g p l e R s m args below meth c H locs cells slots mc ms cl C L
  obtain ⟨hF, hM, hR, hB, hW, hS, hH⟩ := id C
  refine W.iast hF.1 hF.2.1 (am_arr hH ha hk) ((am_ao hW).1 n _) (fun q => by cases q) (by rw [arrV_size]; exact hin) rfl rfl hdg fun H' e1 e2 e3 => ?_
  exact kk g p l e R s m args below meth c H' _ cells slots mc ms cl ⟨hF, hM, hR, hB, hW, hS.put e2 e3 (am_ina hH ha), am_stH hH ha hk e1 e2 e3⟩ L
theorem rn_bastore {a n : Nat} {i x : Int32} (hdg : decode Y.2.2.1 pc = .ok (.bastore, 1)) (ha : a < S.1) (hk : S.2.1 a = .inl (1, n)) (hin : vp_in i n) (kk : am_Rn d Y b (pc + 1) ls st S (am_up I a i.toNatClampNeg x.toInt8.toInt32) Q) : am_Rn d Y b pc ls (.int x :: .int i :: .ref a :: st) S I Q := by
  intro g p l e R s m args below meth c H locs cells slots mc ms cl C L
  obtain ⟨hF, hM, hR, hB, hW, hS, hH⟩ := id C
  refine W.bast hF.1 hF.2.1 (am_arr hH ha hk) ((am_ao hW).2.1 n _) (fun q => by cases q) (by rw [arrV_size]; exact hin) rfl rfl hdg fun H' e1 e2 e3 => ?_
  exact kk g p l e R s m args below meth c H' _ cells slots mc ms cl ⟨hF, hM, hR, hB, hW, hS.put e2 e3 (am_ina hH ha), am_stH hH ha hk e1 e2 e3⟩ L
theorem rn_zastore {a n : Nat} {i x : Int32} (hdg : decode Y.2.2.1 pc = .ok (.bastore, 1)) (ha : a < S.1) (hk : S.2.1 a = .inl (2, n)) (hin : vp_in i n) (hx : narrow .boolean (.int x) = .int x) (kk : am_Rn d Y b (pc + 1) ls st S (am_up I a i.toNatClampNeg x) Q) : am_Rn d Y b pc ls (.int x :: .int i :: .ref a :: st) S I Q := by
  intro g p l e R s m args below meth c H locs cells slots mc ms cl C L
  obtain ⟨hF, hM, hR, hB, hW, hS, hH⟩ := id C
  refine W.zast hF.1 hF.2.1 (am_arr hH ha hk) ((am_ao hW).2.2.1 n _) (fun q => by cases q) (by rw [arrV_size]; exact hin) rfl rfl hdg fun H' e1 e2 e3 => ?_
  rw [hx] at e1
  exact kk g p l e R s m args below meth c H' _ cells slots mc ms cl ⟨hF, hM, hR, hB, hW, hS.put e2 e3 (am_ina hH ha), am_stH hH ha hk e1 e2 e3⟩ L
theorem rn_alen {a t n : Nat} (hdg : decode Y.2.2.1 pc = .ok (.arraylength, 1)) (ha : a < S.1) (hk : S.2.1 a = .inl (t, n)) (ht : t < 3) (kk : am_Rn d Y b (pc + 1) ls (.int (nI n) :: st) S I Q) : am_Rn d Y b pc ls (.ref a :: st) S I Q := by
  intro g p l e R s m args below meth c H locs cells slots mc ms cl C L
  obtain ⟨hF, hM, hR, hB, hW, hS, hH⟩ := id C
  have hz : (arrV (g.2.2.1 t) n (fun j => Value.int (I a j))).slots.size.toInt32 = nI n := by rw [arrV_size]; rfl
  have fin := kk g p l e R s m args below meth c H locs cells slots mc ms cl C L
  rcases (show t = 0 ∨ t = 1 ∨ t = 2 by omega) with rfl | rfl | rfl
  · exact W.alen hF.1 hF.2.1 (am_arr hH ha hk) ((am_ao hW).1 n _) hz rfl rfl hdg fin
  · exact W.alen hF.1 hF.2.1 (am_arr hH ha hk) ((am_ao hW).2.1 n _) hz rfl rfl hdg fin
  · exact W.alen hF.1 hF.2.1 (am_arr hH ha hk) ((am_ao hW).2.2.1 n _) hz rfl rfl hdg fin
theorem rn_alenq {a n : Nat} (hdg : decode Y.2.2.1 pc = .ok (.arraylength, 1)) (ha : a < S.1) (hk : S.2.1 a = .inr (.inl n)) (kk : am_Rn d Y b (pc + 1) ls (.int (nI n) :: st) S I Q) : am_Rn d Y b pc ls (.ref a :: st) S I Q := by
  intro g p l e R s m args below meth c H locs cells slots mc ms cl C L
  obtain ⟨hF, hM, hR, hB, hW, hS, hH⟩ := id C
  exact W.alen hF.1 hF.2.1 (am_arq hH ha hk) ((am_ao hW).2.2.2 n _) (by rw [arrV_size]; rfl) rfl rfl hdg (kk g p l e R s m args below meth c H locs cells slots mc ms cl C L)
theorem rn_aaload {a n : Nat} {i : Int32} (hdg : decode Y.2.2.1 pc = .ok (.aaload, 1)) (ha : a < S.1) (hk : S.2.1 a = .inr (.inl n)) (hin : vp_in i n) (kk : am_Rn d Y b (pc + 1) ls (va_rf (S.2.2 a i.toNatClampNeg) :: st) S I Q) : am_Rn d Y b pc ls (.int i :: .ref a :: st) S I Q := by
  intro g p l e R s m args below meth c H locs cells slots mc ms cl C L
  obtain ⟨hF, hM, hR, hB, hW, hS, hH⟩ := id C
  refine W.aald hF.1 hF.2.1 (am_arq hH ha hk) ((am_ao hW).2.2.2 n _) rfl (fun q => by cases q) (by rw [arrV_size]; exact hin) (v := am_v g (va_rf (S.2.2 a i.toNatClampNeg))) (arrV_read _ _ (Nat.not_le.mp fun q => hin (Or.inr q))) rfl rfl hdg ?_
  exact kk g p l e R s m args below meth c H locs cells slots mc ms cl C L
theorem rn_aastore {a n v : Nat} {i : Int32} (hdg : decode Y.2.2.1 pc = .ok (.aastore, 1)) (ha : a < S.1) (hk : S.2.1 a = .inr (.inl n)) (hv : v < S.1) (hkv : S.2.1 v = .inr (.inr 0)) (hin : vp_in i n) (kk : am_Rn d Y b (pc + 1) ls st (S.1, S.2.1, am_up S.2.2 a i.toNatClampNeg (some v)) I Q) : am_Rn d Y b pc ls (.ref v :: .int i :: .ref a :: st) S I Q := by
  intro g p l e R s m args below meth c H locs cells slots mc ms cl C L
  obtain ⟨hF, hM, hR, hB, hW, hS, hH⟩ := id C
  have haB : a < am_B := Nat.lt_of_lt_of_le ha hH.2.1
  have hlt : i.toNatClampNeg < n := Nat.not_le.mp fun q => hin (Or.inr q)
  have h0 : ¬ i < 0 := fun q => hin (Or.inl q)
  obtain ⟨-, cellV, g1, g2, g3, -⟩ := am_obj hH hv hkv
  have hcls := (hW.1.1 0 _ (am_cl (by omega))).2
  obtain ⟨kA, comp, k1, k2, k3, -⟩ := (hW.1.2 3 _ rfl).2
  have hcomp : comp = g.2.1.1 0 := Option.some.inj (k3.symm.trans hcls.1)
  subst hcomp
  obtain ⟨kC, hkC, -⟩ := hcls.2
  refine W.aast hF.1 hF.2.1 (am_arq hH ha hk) (fun q h => by cases h) (fun h => by cases h) k1 k2 rfl hkC ⟨h0, by rw [arrV_size]; exact hlt⟩ g1 (fun q h => by rw [g3] at h; cases h) (by rw [g2]; exact hkC) (by rw [g2]; exact va_assign hcls) rfl rfl hdg fun H' e1 e2 e3 => ?_
  refine kk g p l e R s m args below meth c H' _ cells slots mc ms cl ⟨hF, hM, hR, hB, hW, hS.put e2 e3 (am_ina hH ha), by rw [e2]; exact hH.1, hH.2.1, fun q hq => ?_⟩ L
  have hqB : q < am_B := Nat.lt_of_lt_of_le hq hH.2.1
  by_cases hqa : q = a
  · subst hqa
    unfold am_at
    simp only [hk]
    rw [e1, arrV_store]
    congr 2
    funext j
    by_cases hj : j = i.toNatClampNeg
    · subst hj; simp [updV, am_up_at, va_rf, am_v]
    · simp [updV, hj, am_up_k S.2.2 _ hj]
  · exact am_at.keep (S := S) (e3 _ (am_ad_ne hqB haB hqa)) rfl (fun j => by show am_up S.2.2 a _ _ q j = _; rw [am_up_a S.2.2 _ hqa]) (fun j => rfl) (hH.2.2 q hq)
/-! cells that are made -/
theorem am_dv {c k : Nat} (hc : c < 9) (hk : k < am_n c) : defaultValue (am_ty c k) = if am_isR (am_ty c k) = true then .null else .int 0 := by
  revert hk
  revert k
  rcases (show c = 0 ∨ c = 1 ∨ c = 2 ∨ c = 3 ∨ c = 4 ∨ c = 5 ∨ c = 6 ∨ c = 7 ∨ c = 8 by omega) with rfl | rfl | rfl | rfl | rfl | rfl | rfl | rfl | rfl <;> decide +kernel
theorem rn_new {i c : Nat} (hdg : decode Y.2.2.1 pc = .ok (.new i, 3)) (hc : c < 9) (hw : Cond.classLink (am_R Y.2.1) i (am_R c) ∈ am_gw ∧ Cond.instantiable (am_R c) (am_n c) ∈ am_gw ∧ Cond.initialized (am_R c) ∈ am_gw) (hB1 : S.1 < am_B) (hb : 1 ≤ b.1 ∧ am_n c ≤ b.2)
    (kk : am_Rn d Y (b.1 - 1, b.2 - am_n c) (pc + 3) ls (.ref S.1 :: st) (S.1 + 1, va_up S.2.1 S.1 (.inr (.inr c)), va_up S.2.2 S.1 (fun _ => none)) (va_up I S.1 (fun _ => 0)) Q) : am_Rn d Y b pc ls st S I Q := by
  intro g p l e R s m args below meth c0 H locs cells slots mc ms cl C L
  obtain ⟨hF, hM, hR, hB, hW, hS, hH⟩ := id C
  have hKn := hW.1.1 c _ (am_cl hc)
  have hsz : H.size = am_ad g S.1 := by rw [am_ad_lt hB1]; exact hH.1
  refine W.newcK hF.1 hF.2.1 hF.2.2.2.1 (hF.2.2.2.2 _ hw.1) (hF.2.2.2.2 _ hw.2.1) (hF.2.2.2.2 _ hw.2.2) rfl hdg (by omega) (by omega) hKn.2.1 hsz fun H1 kC hkC e1 z1 o1 => ?_
  refine kk g p l e R s m args below meth c0 H1 locs (cells + 1) (slots + am_n c) mc ms cl ⟨hF, hM, hR, ⟨by dsimp only; omega, by dsimp only; omega⟩, hW, ⟨Nat.le_trans hS.1 (by omega), fun x h1 h2 => (o1 x (by have := hS.1; omega)).trans (hS.2.1 x h1 h2), hS.2.2⟩, ?_, ?_, fun q hq => ?_⟩ L
  · show H1.size = g.1 + (S.1 + 1)
    rw [z1, am_ad_lt hB1]; omega
  · show S.1 + 1 ≤ am_B
    omega
  · have hq' : q < S.1 + 1 := hq
    by_cases hqa : q = S.1
    · subst hqa
      have hkk : (va_up S.2.1 S.1 (.inr (.inr c)) : Nat → am_Kd) S.1 = .inr (.inr c) := by simp [va_up]
      unfold am_at
      simp only [hkk]
      refine ⟨hc, (u_born (am_ty c) hF.2.2.2.2 (am_lays c hc) hKn hkC e1 (am_tyok hc)).to (fun k hk => ?_)⟩
      rw [am_dv hc hk]
      simp only [am_fv, va_up, if_true]
      split <;> rfl
    · have hqB : q < am_B := by omega
      have hlt : q < S.1 := by omega
      exact am_at.keep (o1 _ (by rw [am_ad_lt hB1, am_ad_lt hqB]; omega)) (by simp [va_up, hqa]) (fun j => by simp [va_up, hqa]) (fun j => by simp [va_up, hqa]) (hH.2.2 q hlt)
end AMC
