section AMD
variable {d : Nat} {Y : am_Y} {b : Nat × Nat} {pc : Nat} {ls : List (Option Value)} {st : List Value} {S : am_S} {I : am_I} {Q : Option Value → am_S → am_I → Prop}
theorem am_at.grow {g : am_G} {H H1 : Heap} {K0 : am_Kd} {G0 : Nat → Option Nat} {I0 : Nat → Int32} (hB1 : S.1 < am_B) (hH : am_H g S I H) (hS : H1.size = H.size + 1) (o1 : ∀ q, q < H.size → H1[q]? = H[q]?) (hn : am_at g (S.1 + 1, va_up S.2.1 S.1 K0, va_up S.2.2 S.1 G0) (va_up I S.1 I0) H1 S.1) :
    am_H g (S.1 + 1, va_up S.2.1 S.1 K0, va_up S.2.2 S.1 G0) (va_up I S.1 I0) H1 := by
  refine ⟨?_, ?_, fun q hq => ?_⟩
  · show H1.size = g.1 + (S.1 + 1)
    rw [hS, hH.1]; omega
  · show S.1 + 1 ≤ am_B
    omega
  · have hq' : q < S.1 + 1 := hq
    by_cases hqa : q = S.1
    · subst hqa; exact hn
    · have hqB : q < am_B := by omega
      have hlt : q < S.1 := by omega
      exact am_at.keep (o1 _ (by rw [hH.1, am_ad_lt hqB]; omega)) (by simp [va_up, hqa]) (fun j => by simp [va_up, hqa]) (fun j => by simp [va_up, hqa]) (hH.2.2 q hlt)
def am_at3 (t : Nat) : ArrayType := match t with
  | 0 => .int
  | 1 => .byte
  | _ => .boolean
theorem rn_newarray {t N : Nat} {n : Int32} (ht : t < 3) (hdg : decode Y.2.2.1 pc = .ok (.newarray (am_at3 t), 2)) (hw : Cond.arrayClass (newarray.typeOf (am_at3 t)) ∈ am_gw) (hn : ¬ n < 0) (hN : n.toNatClampNeg = N) (hs : N ≤ 100000) (hB1 : S.1 < am_B) (hb : 1 ≤ b.1 ∧ N ≤ b.2)
    (kk : am_Rn d Y (b.1 - 1, b.2 - N) (pc + 2) ls (.ref S.1 :: st) (S.1 + 1, va_up S.2.1 S.1 (.inl (t, N)), va_up S.2.2 S.1 (fun _ => none)) (va_up I S.1 (fun _ => 0)) Q) : am_Rn d Y b pc ls (.int n :: st) S I Q := by
  intro g p l e R s m args below meth c0 H locs cells slots mc ms cl C L
  obtain ⟨hF, hM, hR, hB, hW, hS, hH⟩ := id C
  have hsz : H.size = am_ad g S.1 := by rw [am_ad_lt hB1]; exact hH.1
  have hcb : N * componentBytes (newarray.typeOf (am_at3 t)) ≤ 536870912 := by
    have : componentBytes (newarray.typeOf (am_at3 t)) ≤ 4 := by
      rcases (show t = 0 ∨ t = 1 ∨ t = 2 by omega) with rfl | rfl | rfl <;> decide
    exact Nat.le_trans (Nat.mul_le_mul hs this) (by decide)
  refine va_newaK hF.1 hF.2.1 (hF.2.2.2.2 _ hw) rfl hdg rfl hn hN hcb (by omega) (by omega) hsz fun H1 cA e1 z1 o1 _ hfc => ?_
  have hcA : cA = g.2.2.1 t := by
    rcases (show t = 0 ∨ t = 1 ∨ t = 2 by omega) with rfl | rfl | rfl
    · exact Option.some.inj (hfc.symm.trans (hW.1.2 0 _ rfl).2)
    · exact Option.some.inj (hfc.symm.trans (hW.1.2 1 _ rfl).2)
    · exact Option.some.inj (hfc.symm.trans (hW.1.2 2 _ rfl).2)
  subst hcA
  have z2 : H1.size = H.size + 1 := by rw [z1, hsz]
  have o2 : ∀ q, q < H.size → H1[q]? = H[q]? := fun q hq => o1 q (by rw [← hsz]; exact hq)
  refine kk g p l e R s m args below meth c0 H1 locs (cells + 1) (slots + N) mc ms cl ⟨hF, hM, hR, ⟨by dsimp only; omega, by dsimp only; omega⟩, hW, ⟨Nat.le_trans hS.1 (by omega), fun x h1 h2 => (o2 x (Nat.lt_of_lt_of_le h1 hS.1)).trans (hS.2.1 x h1 h2), hS.2.2⟩, am_at.grow hB1 hH z2 o2 ?_⟩ L
  have hkk : (va_up S.2.1 S.1 (.inl (t, N)) : Nat → am_Kd) S.1 = .inl (t, N) := by simp [va_up]
  unfold am_at
  simp only [hkk]
  rw [e1]
  have : defaultValue (newarray.typeOf (am_at3 t)) = .int 0 := by
    rcases (show t = 0 ∨ t = 1 ∨ t = 2 by omega) with rfl | rfl | rfl <;> rfl
  rw [this]
  simp [va_up]
theorem rn_anewarray {i N : Nat} {n : Int32} (hdg : decode Y.2.2.1 pc = .ok (.anewarray i, 3)) (hw : Cond.classLink (am_R Y.2.1) i RX0 ∈ am_gw) (hn : ¬ n < 0) (hN : n.toNatClampNeg = N) (hs : N ≤ 100000) (hB1 : S.1 < am_B) (hb : 1 ≤ b.1 ∧ N ≤ b.2)
    (kk : am_Rn d Y (b.1 - 1, b.2 - N) (pc + 3) ls (.ref S.1 :: st) (S.1 + 1, va_up S.2.1 S.1 (.inr (.inl N)), va_up S.2.2 S.1 (fun _ => none)) (va_up I S.1 (fun _ => 0)) Q) : am_Rn d Y b pc ls (.int n :: st) S I Q := by
  intro g p l e R s m args below meth c0 H locs cells slots mc ms cl C L
  obtain ⟨hF, hM, hR, hB, hW, hS, hH⟩ := id C
  have hsz : H.size = am_ad g S.1 := by rw [am_ad_lt hB1]; exact hH.1
  refine W.anew hF.1 hF.2.1 hF.2.2.2.1 (hF.2.2.2.2 _ hw) (va_AO.use hW.2.2.2.2) rfl hdg rfl hn (by omega) (by omega) (by omega) fun cA kA comp hfc hkA hkind hcomp => ?_
  obtain ⟨kA', comp', k1, k2, k3, k4⟩ := (hW.1.2 3 _ rfl).2
  have hcA : cA = g.2.2.1 3 := Option.some.inj (hfc.symm.trans k4)
  subst hcA
  have z2 : (H.push { cls := g.2.2.1 3, slots := Array.replicate n.toNatClampNeg .null, vm := .none }).size = H.size + 1 := by simp
  have o2 : ∀ q, q < H.size → (H.push { cls := g.2.2.1 3, slots := Array.replicate n.toNatClampNeg .null, vm := .none })[q]? = H[q]? := fun q hq => by rw [Array.getElem?_push, if_neg (Nat.ne_of_lt hq)]
  rw [hN] at z2 o2 ⊢
  have hgo := kk g p l e R s m args below meth c0 (H.push { cls := g.2.2.1 3, slots := Array.replicate N .null, vm := .none }) locs (cells + 1) (slots + N) mc ms cl ⟨hF, hM, hR, ⟨by dsimp only; omega, by dsimp only; omega⟩, hW, ⟨Nat.le_trans hS.1 (by rw [z2]; omega), fun x h1 h2 => (o2 x (Nat.lt_of_lt_of_le h1 hS.1)).trans (hS.2.1 x h1 h2), hS.2.2⟩, am_at.grow hB1 hH z2 o2 (by
    have hkk : (va_up S.2.1 S.1 (.inr (.inl N)) : Nat → am_Kd) S.1 = .inr (.inl N) := by simp [va_up]
    unfold am_at
    simp only [hkk]
    rw [← hsz, Array.getElem?_push, if_pos rfl, arrV_new]
    simp [va_up, va_rf, am_v])⟩ L
  rw [hsz]
  exact hgo
/-! calls -/
/-- behind a call -/
theorem am_after {p : Program} {l : Launch} {e : Env} {R : Room} {s : State} {m : MethodId} {args a : Array Value} {below : List Frame} {meth : Method} {c : Code} {H : Heap} {locs : List Loc} {cells slots mc ms : Nat} {QQ : State → Prop} {cl : Array Slot} {st0 rest : List Value} {g : am_G} {Q' : Option Value → am_S → am_I → Prop}
    (hr : va_Run p l e R s m args below meth c H locs cells slots mc ms (F0 m pc cl st0) rest (am_Qc g Q' a) (am_A g)) (hS : va_S (am_A g) s.heap H locs)
    (kk : ∀ (r : Option Value) (S' : am_S) (I' : am_I) (H1 : Heap) (locs1 : List Loc), Q' r S' I' → am_H g S' I' H1 → va_S (am_A g) s.heap H1 locs1 → W p l e R s m args below meth c H1 locs1 (cells + mc) (slots + ms) QQ (F0 m (pc + 3) cl ((r.map (am_v g)).toList ++ rest))) : W p l e R s m args below meth c H locs cells slots QQ (F0 m pc cl st0) := by
  intro T hT X
  obtain ⟨v, st₀, t, T', L, h0, X', hL, e1, e2, ⟨⟨r, S', I', hv, hp, hb⟩, hz, hk⟩, stp⟩ := hr T hT X
  cases hv
  rw [h0] at hz hk
  obtain ⟨t2, a1, b1⟩ := kk r S' I' T'.heap (locs ++ L) hp (by rw [e1]; exact hb)
    ⟨Nat.le_trans hS.1 (by rw [e1]; exact hz), fun q h1 h2 => by rw [e1, hk q (Nat.lt_of_lt_of_le h1 hS.1) h2]; exact hS.2.1 q h1 h2, fun q hq => by
      rcases List.mem_append.mp hq with h | h
      · exact hS.2.2 q h
      · exact hL q h⟩ T' rfl X'
  exact ⟨t2, stp t2 a1, b1⟩
/-- what a call's row of the pool says: the callee's code, its owner ready, how many it takes -/
def am_cb (Z : am_Y) (n : Nat) : Prop := Cond.code Z.1 Z.2.2.1 Z.2.2.2.2 Z.2.2.2.1 ∈ am_gw ∧ Cond.initialized Z.1.cls ∈ am_gw ∧ (Z.1.cls ≠ "java/lang/invoke/MethodHandle" ∧ Z.1.cls ≠ "java/lang/invoke/VarHandle" ∧ (parseMethodDescriptor Z.1.desc).map (fun d => d.parameters.length) = some n) ∧ Z.2.2.2.2 ≤ 41
def am_cS (o i : Nat) (Z : am_Y) (n : Nat) : Prop := am_cb Z n ∧ Cond.methodLink (am_R o) i Z.1 ∈ am_gw ∧ Cond.static Z.1 ∈ am_gw
def am_cV (o i : Nat) (Z : am_Y) (n : Nat) : Prop := am_cb Z n ∧ Cond.methodLink (am_R o) i Z.1 ∈ am_gw ∧ Cond.instanceMethod Z.1 ∈ am_gw ∧ Cond.selects Z.1.cls Z.1 Z.1 ∈ am_gw ∧ Z.1.cls = am_R Z.2.1 ∧ Z.2.1 < 9
def am_cI (o i : Nat) (Z : am_Y) (n : Nat) : Prop := am_cb Z n ∧ Cond.methodLink (am_R o) i Z.1 ∈ am_gw ∧ Cond.instanceMethod Z.1 ∈ am_gw ∧ Z.1.name = "<init>" ∧ Z.2.2.2.1 = none
def am_cSN (o i : Nat) (Z : am_Y) (n : Nat) : Prop := am_cb Z n ∧ (o, i, Z.1) ∈ am_nw ∧ Cond.static Z.1 ∈ am_gw
def am_cIN (o i : Nat) (Z : am_Y) (n : Nat) : Prop := am_cb Z n ∧ (o, i, Z.1) ∈ am_nw ∧ Cond.instanceMethod Z.1 ∈ am_gw ∧ Z.1.name = "<init>" ∧ Z.2.2.2.1 = none
theorem am_gin {Z : am_Y} {n : Nat} (h : am_cb Z n) : GoodIn am_gw (.code Z.1 Z.2.2.1 Z.2.2.2.2 Z.2.2.2.1 :: am_gw) := fun w hw => by
  rcases List.mem_cons.mp hw with rfl | hw
  · exact am_good h.1
  · exact am_good hw
theorem am_pre {g : am_G} {s : State} {H : Heap} {locs : List Loc} {as : List Value} (hW : am_Wd g s) (hS : va_S (am_A g) s.heap H locs) (hH : am_H g S I H) : ∀ U : State, U.heap = H → s.WarmedH U.vm → am_Pc g as S I (as.map (am_v g)).toArray U := fun U hU hv => ⟨rfl, hW.moved hv hU hS, by rw [hU]; exact hH⟩
theorem am_cat (g : am_G) (st : List Value) : ((st.map (am_v g)).map fun v => v.category) = st.map fun v => v.category := by
  rw [List.map_map]
  congr 1
  funext v
  exact am_v_cat g v
variable {Z : am_Y} {d' n i : Nat} {b' : Nat × Nat} {as stk : List Value} {Q' : Option Value → am_S → am_I → Prop}
theorem rn_callS (hdg : decode Y.2.2.1 pc = .ok (.invokestatic i, 3)) (hc : am_cS Y.2.1 i Z n) (hM : am_Mt d' Z b' as S I Q') (hd : d' < d) (hb : b'.1 ≤ b.1 ∧ b'.2 ≤ b.2) (hn : as.length = n) (hs : as.reverse ++ st = stk) (hr : (st.map fun v => v.category).sum ≤ 8)
    (kk : ∀ r S' I', Q' r S' I' → am_Rn d Y (b.1 - b'.1, b.2 - b'.2) (pc + 3) ls (r.toList ++ st) S' I' Q) : am_Rn d Y b pc ls stk S I Q := by
  intro g p l e R s m args below meth c H locs cells slots mc ms cl C L
  obtain ⟨hF, hMm, hR, hB, hW, hS, hH⟩ := id C
  have cw := callB_of (R := R) (rm := am_rm d' b') (mc := b'.1) (ms := b'.2) n hF.2.2.2.2 (am_gin hc.1) rfl rfl rfl (hF.2.2.2.2 _ hc.1.2.1) (hF.2.2.2.2 _ hc.2.1) hc.1.2.2.1 ⟨by show d' + 1 ≤ _; omega, by have := hc.1.2.2.2; show 8 + (Z.2.2.2.2 + 11) + 60 * d' ≤ _; omega⟩
  refine am_after (va_runS (As := as.map (am_v g)) (rest := st.map (am_v g)) hF (hM g l) ⟨cw, hF.2.2.2.2 _ hc.2.2⟩ ⟨am_Pc.blind g as S I, am_pre hW hS hH⟩ rfl (by simpa using hn) L.size (by rw [← hs]; simp) (lv_room (by rw [am_cat]; exact hr)) hdg ⟨by omega, by omega⟩) hS (fun r S' I' H1 locs1 hq hH1 hS1 => ?_)
  have := kk r S' I' hq g p l e R s m args below meth c H1 locs1 (cells + b'.1) (slots + b'.2) mc ms cl ⟨hF, hMm, hR, ⟨by dsimp only; omega, by dsimp only; omega⟩, hW, hS1, hH1⟩ L
  cases r <;> exact this
theorem rn_callSN (hdg : decode Y.2.2.1 pc = .ok (.invokestatic i, 3)) (hc : am_cSN Y.2.1 i Z n) (hM : am_Mt d' Z b' as S I Q') (hd : d' < d) (hb : b'.1 ≤ b.1 ∧ b'.2 ≤ b.2) (hn : as.length = n) (hs : as.reverse ++ st = stk) (hr : (st.map fun v => v.category).sum ≤ 8)
    (kk : ∀ r S' I', Q' r S' I' → am_Rn d Y (b.1 - b'.1, b.2 - b'.2) (pc + 3) ls (r.toList ++ st) S' I' Q) : am_Rn d Y b pc ls stk S I Q := by
  intro g p l e R s m args below meth c H locs cells slots mc ms cl C L
  obtain ⟨hF, hMm, hR, hB, hW, hS, hH⟩ := id C
  have cw := va_cnB (R := R) (rm := am_rm d' b') (mc := b'.1) (ms := b'.2) n hF.2.2.2.2 (am_gin hc.1) rfl rfl rfl (hW.2.1 _ hc.2.1) (hF.2.2.2.2 _ hc.1.2.1) hc.1.2.2.1 ⟨by show d' + 1 ≤ _; omega, by have := hc.1.2.2.2; show 8 + (Z.2.2.2.2 + 11) + 60 * d' ≤ _; omega⟩
  refine am_after (va_runSN (As := as.map (am_v g)) (rest := st.map (am_v g)) hF (hM g l) ⟨cw, hF.2.2.2.2 _ hc.2.2, trivial⟩ ⟨am_Pc.blind g as S I, am_pre hW hS hH⟩ rfl (by simpa using hn) L.size (by rw [← hs]; simp) (lv_room (by rw [am_cat]; exact hr)) hdg ⟨by omega, by omega⟩) hS (fun r S' I' H1 locs1 hq hH1 hS1 => ?_)
  have := kk r S' I' hq g p l e R s m args below meth c H1 locs1 (cells + b'.1) (slots + b'.2) mc ms cl ⟨hF, hMm, hR, ⟨by dsimp only; omega, by dsimp only; omega⟩, hW, hS1, hH1⟩ L
  cases r <;> exact this
theorem rn_callV {a : Nat} (hdg : decode Y.2.2.1 pc = .ok (.invokevirtual i, 3)) (hc : am_cV Y.2.1 i Z n) (hM : am_Mt d' Z b' (.ref a :: as) S I Q') (hd : d' < d) (hb : b'.1 ≤ b.1 ∧ b'.2 ≤ b.2) (ha : a < S.1) (hk : S.2.1 a = .inr (.inr Z.2.1)) (hn : as.length = n) (hs : as.reverse ++ .ref a :: st = stk) (hr : (st.map fun v => v.category).sum ≤ 8)
    (kk : ∀ r S' I', Q' r S' I' → am_Rn d Y (b.1 - b'.1, b.2 - b'.2) (pc + 3) ls (r.toList ++ st) S' I' Q) : am_Rn d Y b pc ls stk S I Q := by
  intro g p l e R s m args below meth c H locs cells slots mc ms cl C L
  obtain ⟨hF, hMm, hR, hB, hW, hS, hH⟩ := id C
  have cw := callB_of (R := R) (rm := am_rm d' b') (mc := b'.1) (ms := b'.2) n hF.2.2.2.2 (am_gin hc.1) rfl rfl rfl (hF.2.2.2.2 _ hc.1.2.1) (hF.2.2.2.2 _ hc.2.1) hc.1.2.2.1 ⟨by show d' + 1 ≤ _; omega, by have := hc.1.2.2.2; show 8 + (Z.2.2.2.2 + 11) + 60 * d' ≤ _; omega⟩
  obtain ⟨-, cell, q1, q2, q3, -⟩ := am_obj hH ha hk
  have hfc := (hW.1.1 Z.2.1 _ (am_cl hc.2.2.2.2.2)).2.1
  refine am_after (va_runV (b := am_ad g a) (C := Z.1.cls) (As := as.map (am_v g)) (rest := st.map (am_v g)) hF (hM g l) ⟨cw, hF.2.2.2.2 _ hc.2.2.1, hF.2.2.2.2 _ hc.2.2.2.1⟩ ⟨am_Pc.blind g (.ref a :: as) S I, ⟨cell, q1, by rw [q3]; rfl, by rw [hc.2.2.2.2.1, q2]; exact hfc⟩, am_pre (as := .ref a :: as) hW hS hH⟩ rfl (by simpa using hn) L.size (by rw [← hs]; simp [am_v]) (lv_room (by rw [am_cat]; exact hr)) hdg ⟨by omega, by omega⟩) hS (fun r S' I' H1 locs1 hq hH1 hS1 => ?_)
  have := kk r S' I' hq g p l e R s m args below meth c H1 locs1 (cells + b'.1) (slots + b'.2) mc ms cl ⟨hF, hMm, hR, ⟨by dsimp only; omega, by dsimp only; omega⟩, hW, hS1, hH1⟩ L
  cases r <;> exact this
theorem rn_callI {a : Nat} (hdg : decode Y.2.2.1 pc = .ok (.invokespecial i, 3)) (hc : am_cI Y.2.1 i Z n) (hM : am_Mt d' Z b' (.ref a :: as) S I Q') (hd : d' < d) (hb : b'.1 ≤ b.1 ∧ b'.2 ≤ b.2) (hn : as.length = n) (hs : as.reverse ++ .ref a :: st = stk) (hr : (st.map fun v => v.category).sum ≤ 8)
    (kk : ∀ r S' I', Q' r S' I' → am_Rn d Y (b.1 - b'.1, b.2 - b'.2) (pc + 3) ls (r.toList ++ st) S' I' Q) : am_Rn d Y b pc ls stk S I Q := by
  intro g p l e R s m args below meth c H locs cells slots mc ms cl C L
  obtain ⟨hF, hMm, hR, hB, hW, hS, hH⟩ := id C
  have hMg := hM g l
  have hgi := am_gin hc.1
  have hcb := hc.1
  rw [hc.2.2.2.2] at hMg hgi
  have cw := cwI (R := R) (rm := am_rm d' b') (mc := b'.1) (ms := b'.2) n hF.2.2.2.2 hgi rfl rfl rfl (hF.2.2.2.2 _ hc.1.2.1) (hF.2.2.2.2 _ hc.2.1) (hF.2.2.2.2 _ hc.2.2.1) hc.2.2.2.1 hc.1.2.2.1 ⟨by show d' + 1 ≤ _; omega, by have := hc.1.2.2.2; show 8 + (Z.2.2.2.2 + 11) + 60 * d' ≤ _; omega⟩
  refine am_after (va_runI (b := am_ad g a) (As := as.map (am_v g)) (rest := st.map (am_v g)) hF hMg cw ⟨am_Pc.blind g (.ref a :: as) S I, am_pre (as := .ref a :: as) hW hS hH⟩ rfl (by simpa using hn) L.size (by rw [← hs]; simp [am_v]) (lv_room (by rw [am_cat]; exact hr)) hdg ⟨by omega, by omega⟩) hS (fun r S' I' H1 locs1 hq hH1 hS1 => ?_)
  have := kk r S' I' hq g p l e R s m args below meth c H1 locs1 (cells + b'.1) (slots + b'.2) mc ms cl ⟨hF, hMm, hR, ⟨by dsimp only; omega, by dsimp only; omega⟩, hW, hS1, hH1⟩ L
  cases r <;> exact this
theorem rn_callIN {a : Nat} (hdg : decode Y.2.2.1 pc = .ok (.invokespecial i, 3)) (hc : am_cIN Y.2.1 i Z n) (hM : am_Mt d' Z b' (.ref a :: as) S I Q') (hd : d' < d) (hb : b'.1 ≤ b.1 ∧ b'.2 ≤ b.2) (hn : as.length = n) (hs : as.reverse ++ .ref a :: st = stk) (hr : (st.map fun v => v.category).sum ≤ 8)
    (kk : ∀ r S' I', Q' r S' I' → am_Rn d Y (b.1 - b'.1, b.2 - b'.2) (pc + 3) ls (r.toList ++ st) S' I' Q) : am_Rn d Y b pc ls stk S I Q := by
  intro g p l e R s m args below meth c H locs cells slots mc ms cl C L
  obtain ⟨hF, hMm, hR, hB, hW, hS, hH⟩ := id C
  have hMg := hM g l
  have hgi := am_gin hc.1
  rw [hc.2.2.2.2] at hMg hgi
  have cw := va_cnB (R := R) (rm := am_rm d' b') (mc := b'.1) (ms := b'.2) n hF.2.2.2.2 hgi rfl rfl rfl (hW.2.1 _ hc.2.1) (hF.2.2.2.2 _ hc.1.2.1) hc.1.2.2.1 ⟨by show d' + 1 ≤ _; omega, by have := hc.1.2.2.2; show 8 + (Z.2.2.2.2 + 11) + 60 * d' ≤ _; omega⟩
  refine am_after (va_runIN (b := am_ad g a) (As := as.map (am_v g)) (rest := st.map (am_v g)) hF hMg ⟨cw, hc.2.2.2.1, hF.2.2.2.2 _ hc.2.2.1⟩ ⟨am_Pc.blind g (.ref a :: as) S I, am_pre (as := .ref a :: as) hW hS hH⟩ rfl (by simpa using hn) L.size (by rw [← hs]; simp [am_v]) (lv_room (by rw [am_cat]; exact hr)) hdg ⟨by omega, by omega⟩) hS (fun r S' I' H1 locs1 hq hH1 hS1 => ?_)
  have := kk r S' I' hq g p l e R s m args below meth c H1 locs1 (cells + b'.1) (slots + b'.2) mc ms cl ⟨hF, hMm, hR, ⟨by dsimp only; omega, by dsimp only; omega⟩, hW, hS1, hH1⟩ L
  cases r <;> exact this
/-- Object's own start -/
theorem rn_objInit {a : Nat} (hdg : decode Y.2.2.1 pc = .ok (.invokespecial i, 3)) (hw : Cond.methodLink (am_R Y.2.1) i Lib.objectInit ∈ am_gw ∧ Cond.instanceMethod Lib.objectInit ∈ am_gw ∧ Cond.code Lib.objectInit ⟨#[0xb1]⟩ 1 none ∈ am_gw) (hd : 1 ≤ d) (hr : (st.map fun v => v.category).sum ≤ 8) (kk : am_Rn d Y b (pc + 3) ls st S I Q) : am_Rn d Y b pc ls (.ref a :: st) S I Q := by
  intro g p l e R s m args below meth c H locs cells slots mc ms cl C L
  obtain ⟨hF, hMm, hR, hB, hW, hS, hH⟩ := id C
  refine W.objInit hF.1 hF.2.1 hF.2.2.2.1 (hF.2.2.2.2 _ hw.1) (hF.2.2.2.2 _ hw.2.1) (hF.2.2.2.2 _ hw.2.2) rfl (by rw [hF.2.2.1]; exact L.size) rfl hdg (by omega) ?_ ?_
  · have h1 := lv_room (m := m) (pc := pc) (ls := cl) (rest := st) (st := st.map (am_v g)) (by rw [am_cat]; exact hr)
    have h2 : 60 ≤ R.locals := by omega
    exact Nat.le_trans (Nat.add_le_add_right h1 12) (by omega)
  · exact kk g p l e R s m args below meth c H locs cells slots mc ms cl C L
theorem rn_max {x y : Int32} (hdg : decode Y.2.2.1 pc = .ok (.invokestatic i, 3)) (hw : Cond.methodLink (am_R Y.2.1) i Lib.Math.max.name ∈ am_gw ∧ Cond.static Lib.Math.max.name ∈ am_gw ∧ Cond.initialized "java/lang/Math" ∈ am_gw ∧ Cond.code Lib.Math.max.name Lib.Math.max.code 2 (some .int) ∈ am_gw) (hd : 1 ≤ d) (hr : (st.map fun v => v.category).sum ≤ 8) (kk : am_Rn d Y b (pc + 3) ls (.int (if x < y then y else x) :: st) S I Q) : am_Rn d Y b pc ls (.int y :: .int x :: st) S I Q := by
  intro g p l e R s m args below meth c H locs cells slots mc ms cl C L
  obtain ⟨hF, hMm, hR, hB, hW, hS, hH⟩ := id C
  exact va_mmax hF.1 hF.2.1 (by rw [hF.2.2.1]; exact L.size.symm) hF.2.2.2.1 (hF.2.2.2.2 _ hw.1) (hF.2.2.2.2 _ hw.2.1) (hF.2.2.2.2 _ hw.2.2.1) (hF.2.2.2.2 _ hw.2.2.2) (by omega) (by rw [am_cat]; omega) (by omega) (by omega) hdg (kk g p l e R s m args below meth c H locs cells slots mc ms cl C L)
theorem rn_min {x y : Int32} (hdg : decode Y.2.2.1 pc = .ok (.invokestatic i, 3)) (hw : Cond.methodLink (am_R Y.2.1) i Lib.Math.min.name ∈ am_gw ∧ Cond.static Lib.Math.min.name ∈ am_gw ∧ Cond.initialized "java/lang/Math" ∈ am_gw ∧ Cond.code Lib.Math.min.name Lib.Math.min.code 2 (some .int) ∈ am_gw) (hd : 1 ≤ d) (hr : (st.map fun v => v.category).sum ≤ 8) (kk : am_Rn d Y b (pc + 3) ls (.int (if y < x then y else x) :: st) S I Q) : am_Rn d Y b pc ls (.int y :: .int x :: st) S I Q := by
  intro g p l e R s m args below meth c H locs cells slots mc ms cl C L
  obtain ⟨hF, hMm, hR, hB, hW, hS, hH⟩ := id C
  exact va_mmin hF.1 hF.2.1 (by rw [hF.2.2.1]; exact L.size.symm) hF.2.2.2.1 (hF.2.2.2.2 _ hw.1) (hF.2.2.2.2 _ hw.2.1) (hF.2.2.2.2 _ hw.2.2.1) (hF.2.2.2.2 _ hw.2.2.2) (by omega) (by rw [am_cat]; omega) (by omega) (by omega) hdg (kk g p l e R s m args below meth c H locs cells slots mc ms cl C L)
end AMD
