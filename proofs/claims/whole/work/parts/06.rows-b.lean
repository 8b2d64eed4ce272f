section AMB
variable {d : Nat} {Y : am_Y} {b : Nat × Nat} {pc : Nat} {ls : List (Option Value)} {st : List Value} {S : am_S} {I : am_I} {Q : Option Value → am_S → am_I → Prop}
theorem rn_goto {off : Int} {tgt : Nat} (hdg : decode Y.2.2.1 pc = .ok (.goto off, 3)) (ht : (pc : Int) + off = (tgt : Int)) (k : am_Rn d Y b tgt ls st S I Q) : am_Rn d Y b pc ls st S I Q := by
  intro g p l e R s m args below meth c H locs cells slots mc ms cl C L
  exact lv_goto C.1.1 C.1.2.1 hdg ht (k g p l e R s m args below meth c H locs cells slots mc ms cl C L)
theorem rn_if_eq {x : Int32} {off : Int} {tgt : Nat} (hdg : decode Y.2.2.1 pc = .ok (.ifCond .eq off, 3)) (ht : (pc : Int) + off = (tgt : Int)) (kt : x = 0 → am_Rn d Y b tgt ls st S I Q) (kf : ¬ x = 0 → am_Rn d Y b (pc + 3) ls st S I Q) : am_Rn d Y b pc ls (.int x :: st) S I Q := by
  intro g p l e R s m args below meth c H locs cells slots mc ms cl C L
  exact lv_if_eq C.1.1 C.1.2.1 hdg ht (fun h => kt h g p l e R s m args below meth c H locs cells slots mc ms cl C L) (fun h => kf h g p l e R s m args below meth c H locs cells slots mc ms cl C L)
theorem rn_if_ne {x : Int32} {off : Int} {tgt : Nat} (hdg : decode Y.2.2.1 pc = .ok (.ifCond .ne off, 3)) (ht : (pc : Int) + off = (tgt : Int)) (kt : ¬ x = 0 → am_Rn d Y b tgt ls st S I Q) (kf : x = 0 → am_Rn d Y b (pc + 3) ls st S I Q) : am_Rn d Y b pc ls (.int x :: st) S I Q := by
  intro g p l e R s m args below meth c H locs cells slots mc ms cl C L
  exact lv_if_ne C.1.1 C.1.2.1 hdg ht (fun h => kt h g p l e R s m args below meth c H locs cells slots mc ms cl C L) (fun h => kf h g p l e R s m args below meth c H locs cells slots mc ms cl C L)
theorem rn_if_lt {x : Int32} {off : Int} {tgt : Nat} (hdg : decode Y.2.2.1 pc = .ok (.ifCond .lt off, 3)) (ht : (pc : Int) + off = (tgt : Int)) (kt : x < 0 → am_Rn d Y b tgt ls st S I Q) (kf : ¬ x < 0 → am_Rn d Y b (pc + 3) ls st S I Q) : am_Rn d Y b pc ls (.int x :: st) S I Q := by
  intro g p l e R s m args below meth c H locs cells slots mc ms cl C L
  exact lv_if_lt C.1.1 C.1.2.1 hdg ht (fun h => kt h g p l e R s m args below meth c H locs cells slots mc ms cl C L) (fun h => kf h g p l e R s m args below meth c H locs cells slots mc ms cl C L)
theorem rn_if_ge {x : Int32} {off : Int} {tgt : Nat} (hdg : decode Y.2.2.1 pc = .ok (.ifCond .ge off, 3)) (ht : (pc : Int) + off = (tgt : Int)) (kt : 0 ≤ x → am_Rn d Y b tgt ls st S I Q) (kf : ¬ 0 ≤ x → am_Rn d Y b (pc + 3) ls st S I Q) : am_Rn d Y b pc ls (.int x :: st) S I Q := by
  intro g p l e R s m args below meth c H locs cells slots mc ms cl C L
  exact lv_if_ge C.1.1 C.1.2.1 hdg ht (fun h => kt h g p l e R s m args below meth c H locs cells slots mc ms cl C L) (fun h => kf h g p l e R s m args below meth c H locs cells slots mc ms cl C L)
theorem rn_if_gt {x : Int32} {off : Int} {tgt : Nat} (hdg : decode Y.2.2.1 pc = .ok (.ifCond .gt off, 3)) (ht : (pc : Int) + off = (tgt : Int)) (kt : 0 < x → am_Rn d Y b tgt ls st S I Q) (kf : ¬ 0 < x → am_Rn d Y b (pc + 3) ls st S I Q) : am_Rn d Y b pc ls (.int x :: st) S I Q := by
  intro g p l e R s m args below meth c H locs cells slots mc ms cl C L
  exact lv_if_gt C.1.1 C.1.2.1 hdg ht (fun h => kt h g p l e R s m args below meth c H locs cells slots mc ms cl C L) (fun h => kf h g p l e R s m args below meth c H locs cells slots mc ms cl C L)
theorem rn_if_le {x : Int32} {off : Int} {tgt : Nat} (hdg : decode Y.2.2.1 pc = .ok (.ifCond .le off, 3)) (ht : (pc : Int) + off = (tgt : Int)) (kt : x ≤ 0 → am_Rn d Y b tgt ls st S I Q) (kf : ¬ x ≤ 0 → am_Rn d Y b (pc + 3) ls st S I Q) : am_Rn d Y b pc ls (.int x :: st) S I Q := by
  intro g p l e R s m args below meth c H locs cells slots mc ms cl C L
  exact lv_if_le C.1.1 C.1.2.1 hdg ht (fun h => kt h g p l e R s m args below meth c H locs cells slots mc ms cl C L) (fun h => kf h g p l e R s m args below meth c H locs cells slots mc ms cl C L)
theorem rn_icmp_eq {x y : Int32} {off : Int} {tgt : Nat} (hdg : decode Y.2.2.1 pc = .ok (.if_icmp .eq off, 3)) (ht : (pc : Int) + off = (tgt : Int)) (kt : x = y → am_Rn d Y b tgt ls st S I Q) (kf : ¬ x = y → am_Rn d Y b (pc + 3) ls st S I Q) : am_Rn d Y b pc ls (.int y :: .int x :: st) S I Q := by
  intro g p l e R s m args below meth c H locs cells slots mc ms cl C L
  exact lv_icmp_eq C.1.1 C.1.2.1 hdg ht (fun h => kt h g p l e R s m args below meth c H locs cells slots mc ms cl C L) (fun h => kf h g p l e R s m args below meth c H locs cells slots mc ms cl C L)
theorem rn_icmp_ne {x y : Int32} {off : Int} {tgt : Nat} (hdg : decode Y.2.2.1 pc = .ok (.if_icmp .ne off, 3)) (ht : (pc : Int) + off = (tgt : Int)) (kt : ¬ x = y → am_Rn d Y b tgt ls st S I Q) (kf : x = y → am_Rn d Y b (pc + 3) ls st S I Q) : am_Rn d Y b pc ls (.int y :: .int x :: st) S I Q := by
  intro g p l e R s m args below meth c H locs cells slots mc ms cl C L
  exact lv_icmp_ne C.1.1 C.1.2.1 hdg ht (fun h => kt h g p l e R s m args below meth c H locs cells slots mc ms cl C L) (fun h => kf h g p l e R s m args below meth c H locs cells slots mc ms cl C L)
theorem rn_icmp_lt {x y : Int32} {off : Int} {tgt : Nat} (hdg : decode Y.2.2.1 pc = .ok (.if_icmp .lt off, 3)) (ht : (pc : Int) + off = (tgt : Int)) (kt : x < y → am_Rn d Y b tgt ls st S I Q) (kf : ¬ x < y → am_Rn d Y b (pc + 3) ls st S I Q) : am_Rn d Y b pc ls (.int y :: .int x :: st) S I Q := by
  intro g p l e R s m args below meth c H locs cells slots mc ms cl C L
  exact lv_icmp_lt C.1.1 C.1.2.1 hdg ht (fun h => kt h g p l e R s m args below meth c H locs cells slots mc ms cl C L) (fun h => kf h g p l e R s m args below meth c H locs cells slots mc ms cl C L)
theorem rn_icmp_ge {x y : Int32} {off : Int} {tgt : Nat} (hdg : decode Y.2.2.1 pc = .ok (.if_icmp .ge off, 3)) (ht : (pc : Int) + off = (tgt : Int)) (kt : y ≤ x → am_Rn d Y b tgt ls st S I Q) (kf : ¬ y ≤ x → am_Rn d Y b (pc + 3) ls st S I Q) : am_Rn d Y b pc ls (.int y :: .int x :: st) S I Q := by
  intro g p l e R s m args below meth c H locs cells slots mc ms cl C L
  exact lv_icmp_ge C.1.1 C.1.2.1 hdg ht (fun h => kt h g p l e R s m args below meth c H locs cells slots mc ms cl C L) (fun h => kf h g p l e R s m args below meth c H locs cells slots mc ms cl C L)
theorem rn_icmp_gt {x y : Int32} {off : Int} {tgt : Nat} (hdg : decode Y.2.2.1 pc = .ok (.if_icmp .gt off, 3)) (ht : (pc : Int) + off = (tgt : Int)) (kt : y < x → am_Rn d Y b tgt ls st S I Q) (kf : ¬ y < x → am_Rn d Y b (pc + 3) ls st S I Q) : am_Rn d Y b pc ls (.int y :: .int x :: st) S I Q := by
  intro g p l e R s m args below meth c H locs cells slots mc ms cl C L
  exact lv_icmp_gt C.1.1 C.1.2.1 hdg ht (fun h => kt h g p l e R s m args below meth c H locs cells slots mc ms cl C L) (fun h => kf h g p l e R s m args below meth c H locs cells slots mc ms cl C L)
theorem rn_icmp_le {x y : Int32} {off : Int} {tgt : Nat} (hdg : decode Y.2.2.1 pc = .ok (.if_icmp .le off, 3)) (ht : (pc : Int) + off = (tgt : Int)) (kt : x ≤ y → am_Rn d Y b tgt ls st S I Q) (kf : ¬ x ≤ y → am_Rn d Y b (pc + 3) ls st S I Q) : am_Rn d Y b pc ls (.int y :: .int x :: st) S I Q := by
  intro g p l e R s m args below meth c H locs cells slots mc ms cl C L
  exact lv_icmp_le C.1.1 C.1.2.1 hdg ht (fun h => kt h g p l e R s m args below meth c H locs cells slots mc ms cl C L) (fun h => kf h g p l e R s m args below meth c H locs cells slots mc ms cl C L)
theorem rn_ifnull {a : Nat} {off : Int} (hdg : decode Y.2.2.1 pc = .ok (.ifnull off, 3)) (k : am_Rn d Y b (pc + 3) ls st S I Q) : am_Rn d Y b pc ls (.ref a :: st) S I Q := by
  intro g p l e R s m args below meth c H locs cells slots mc ms cl C L
  exact lv_ifnull C.1.1 C.1.2.1 hdg (k g p l e R s m args below meth c H locs cells slots mc ms cl C L)
theorem rn_ifnullN {off : Int} {tgt : Nat} (hdg : decode Y.2.2.1 pc = .ok (.ifnull off, 3)) (ht : (pc : Int) + off = (tgt : Int)) (k : am_Rn d Y b tgt ls st S I Q) : am_Rn d Y b pc ls (.null :: st) S I Q := by
  intro g p l e R s m args below meth c H locs cells slots mc ms cl C L
  exact lv_ifnullN C.1.1 C.1.2.1 hdg ht (k g p l e R s m args below meth c H locs cells slots mc ms cl C L)
theorem rn_ifnonnull {a : Nat} {off : Int} {tgt : Nat} (hdg : decode Y.2.2.1 pc = .ok (.ifnonnull off, 3)) (ht : (pc : Int) + off = (tgt : Int)) (k : am_Rn d Y b tgt ls st S I Q) : am_Rn d Y b pc ls (.ref a :: st) S I Q := by
  intro g p l e R s m args below meth c H locs cells slots mc ms cl C L
  exact lv_ifnonnull C.1.1 C.1.2.1 hdg ht (k g p l e R s m args below meth c H locs cells slots mc ms cl C L)
theorem rn_ifnonnullN {off : Int} (hdg : decode Y.2.2.1 pc = .ok (.ifnonnull off, 3)) (k : am_Rn d Y b (pc + 3) ls st S I Q) : am_Rn d Y b pc ls (.null :: st) S I Q := by
  intro g p l e R s m args below meth c H locs cells slots mc ms cl C L
  exact lv_ifnonnullN C.1.1 C.1.2.1 hdg (k g p l e R s m args below meth c H locs cells slots mc ms cl C L)
theorem rn_tableIn {dflt lo hi : Int} {offs : Array Int} {len : Nat} {x : Int32} {off : Int} {tgt : Nat} (hdg : decode Y.2.2.1 pc = .ok (.tableswitch dflt lo hi offs, len)) (h1 : ¬ x.toInt < lo) (h2 : ¬ hi < x.toInt) (ho : offs[(x.toInt - lo).toNat]? = some off) (ht : (pc : Int) + off = (tgt : Int)) (k : am_Rn d Y b tgt ls st S I Q) : am_Rn d Y b pc ls (.int x :: st) S I Q := by
  intro g p l e R s m args below meth c H locs cells slots mc ms cl C L
  exact lv_tableIn C.1.1 C.1.2.1 hdg h1 h2 ho ht (k g p l e R s m args below meth c H locs cells slots mc ms cl C L)
theorem rn_tableOut {dflt lo hi : Int} {offs : Array Int} {len : Nat} {x : Int32} {tgt : Nat} (hdg : decode Y.2.2.1 pc = .ok (.tableswitch dflt lo hi offs, len)) (h : x.toInt < lo ∨ hi < x.toInt) (ht : (pc : Int) + dflt = (tgt : Int)) (k : am_Rn d Y b tgt ls st S I Q) : am_Rn d Y b pc ls (.int x :: st) S I Q := by
  intro g p l e R s m args below meth c H locs cells slots mc ms cl C L
  exact lv_tableOut C.1.1 C.1.2.1 hdg h ht (k g p l e R s m args below meth c H locs cells slots mc ms cl C L)
theorem rn_lookup {dflt : Int} {ps : Array (Int × Int)} {len : Nat} {x : Int32} {off : Int} {tgt : Nat} (hdg : decode Y.2.2.1 pc = .ok (.lookupswitch dflt ps, len)) (hp : (ps.toList.zip (ps.toList.drop 1)).all (fun (a, next) => a.1 < next.1) = true) (ho : Op.lookupswitch.offset ps.toList dflt x.toInt = off) (ht : (pc : Int) + off = (tgt : Int)) (k : am_Rn d Y b tgt ls st S I Q) : am_Rn d Y b pc ls (.int x :: st) S I Q := by
  intro g p l e R s m args below meth c H locs cells slots mc ms cl C L
  exact lv_lookup C.1.1 C.1.2.1 hdg hp ho ht (k g p l e R s m args below meth c H locs cells slots mc ms cl C L)
/-! the ends -/
theorem rn_ireturn {v : Int32} {ty : FieldType} (hdg : decode Y.2.2.1 pc = .ok (.ireturn, 1)) (hr : Y.2.2.2.1 = some ty) (hn : narrow ty (.int v) = .int v) (hq : Q (some (.int v)) S I) : am_Rn d Y b pc ls [.int v] S I Q := by
  intro g p l e R s m args below meth c H locs cells slots mc ms cl C L
  obtain ⟨hF, hM, hR, hB, hW, hS, hH⟩ := C
  refine W.widen (k := mc) (n := ms) (by omega) (by omega) ?_
  exact W.zret hF.1 hF.2.1 (hM.1.trans hr) hn (fun t ht hv => ⟨⟨some (.int v), S, I, rfl, hq, by rw [ht]; exact hH⟩, hS.F ht⟩) hS.2.2 hdg hM.2.1
theorem rn_lreturn {v : Int64} (hdg : decode Y.2.2.1 pc = .ok (.lreturn, 1)) (hr : Y.2.2.2.1 = some .long) (hq : Q (some (.long v)) S I) : am_Rn d Y b pc ls [.long v] S I Q := by
  intro g p l e R s m args below meth c H locs cells slots mc ms cl C L
  obtain ⟨hF, hM, hR, hB, hW, hS, hH⟩ := C
  refine W.widen (k := mc) (n := ms) (by omega) (by omega) ?_
  exact W.lret hF.1 hF.2.1 (hM.1.trans hr) (fun t ht hv => ⟨⟨some (.long v), S, I, rfl, hq, by rw [ht]; exact hH⟩, hS.F ht⟩) hS.2.2 hdg hM.2.1
theorem rn_return (hdg : decode Y.2.2.1 pc = .ok (.return_, 1)) (hr : Y.2.2.2.1 = none) (hq : Q none S I) : am_Rn d Y b pc ls [] S I Q := by
  intro g p l e R s m args below meth c H locs cells slots mc ms cl C L
  obtain ⟨hF, hM, hR, hB, hW, hS, hH⟩ := C
  refine W.widen (k := mc) (n := ms) (by omega) (by omega) ?_
  exact W.vret hF.1 hF.2.1 (hM.1.trans hr) (fun t ht hv => ⟨⟨none, S, I, rfl, hq, by rw [ht]; exact hH⟩, hS.F ht⟩) hS.2.2 hdg hM.2.1
/-! cells of the world -/
theorem am_ad_lt {g : am_G} {a : Nat} (h : a < am_B) : am_ad g a = g.1 + a := if_pos h
theorem am_ad_ne {g : am_G} {a q : Nat} (h : a < am_B) (hq : q < am_B) (hn : a ≠ q) : am_ad g a ≠ am_ad g q := by
  rw [am_ad_lt h, am_ad_lt hq]
  omega
theorem am_at.keep {g : am_G} {S' : am_S} {I' : am_I} {H H' : Heap} {a : Nat} (hH : H'[am_ad g a]? = H[am_ad g a]?) (hK : S'.2.1 a = S.2.1 a) (hG : ∀ j, S'.2.2 a j = S.2.2 a j) (hI : ∀ j, I' a j = I a j) (h : am_at g S I H a) : am_at g S' I' H' a := by
  unfold am_at at h ⊢
  rw [hK]
  have e1 : (fun j => Value.int (I' a j)) = fun j => Value.int (I a j) := by funext j; rw [hI]
  have e2 : (fun j => am_v g (va_rf (S'.2.2 a j))) = fun j => am_v g (va_rf (S.2.2 a j)) := by funext j; rw [hG]
  have e3 : ∀ c, (fun k => am_v g (am_fv S' I' a c k)) = fun k => am_v g (am_fv S I a c k) := by intro c; funext k; simp only [am_fv, hG, hI]
  split at h
  · rw [hH, e1]; exact h
  · rw [hH, e2]; exact h
  · rw [e3]; exact ⟨h.1, h.2.kept hH⟩
def am_fd (o i c k : Nat) : Prop := Cond.fieldLink (am_R o) i (am_R c) (am_T c k).2.1 (am_T c k).2.2.1 ∈ am_gw ∧ (am_T c k).1 = am_R c ∧ c < 9 ∧ k < am_n c
theorem am_obj {g : am_G} {H : Heap} {a c : Nat} (hH : am_H g S I H) (ha : a < S.1) (hk : S.2.1 a = .inr (.inr c)) : c < 9 ∧ t_OB (am_ad g a) (g.2.1.1 c) (am_n c) (g.2.1.2 c) H (fun k => am_v g (am_fv S I a c k)) := by
  have h := hH.2.2 a ha
  unfold am_at at h
  rw [hk] at h
  exact h
theorem am_arr {g : am_G} {H : Heap} {a t n : Nat} (hH : am_H g S I H) (ha : a < S.1) (hk : S.2.1 a = .inl (t, n)) : H[am_ad g a]? = some (arrV (g.2.2.1 t) n (fun j => .int (I a j))) := by
  have h := hH.2.2 a ha
  unfold am_at at h
  rw [hk] at h
  exact h
theorem am_arq {g : am_G} {H : Heap} {a n : Nat} (hH : am_H g S I H) (ha : a < S.1) (hk : S.2.1 a = .inr (.inl n)) : H[am_ad g a]? = some (arrV (g.2.2.1 3) n (fun j => am_v g (va_rf (S.2.2 a j)))) := by
  have h := hH.2.2 a ha
  unfold am_at at h
  rw [hk] at h
  exact h
/-- a field is read -/
theorem rn_getV {i a c k : Nat} (hdg : decode Y.2.2.1 pc = .ok (.getfield i, 3)) (hf : am_fd Y.2.1 i c k) (ha : a < S.1) (hk : S.2.1 a = .inr (.inr c)) (kk : am_Rn d Y b (pc + 3) ls (am_fv S I a c k :: st) S I Q) : am_Rn d Y b pc ls (.ref a :: st) S I Q := by
  intro g p l e R s m args below meth c0 H locs cells slots mc ms cl C L
  obtain ⟨hF, hM, hR, hB, hW, hS, hH⟩ := id C
  obtain ⟨h9, hO⟩ := am_obj hH ha hk
  have hP : va_P g.2.1 vwCl [(am_ad g a, .inr (c, (List.range (am_n c)).map (fun j => am_v g (am_fv S I a c j))))] H := by
    intro q x hq
    have hz : q < 1 := (List.getElem?_eq_some_iff.mp hq).1
    rw [show q = 0 by omega] at hq
    cases hq
    exact ⟨_, am_cl h9, hO.to (fun j hj => by simp [vp_V, hj])⟩
  exact va_get (C := am_R c) (T := am_T c) (N := am_n c) (ci := c) (ref := am_R c) hF.1 hF.2.1 hF.2.2.2.2 (am_lays c h9) hF.2.2.2.1 hW.1 hP 0 rfl (am_cl h9) k hf.2.2.2 (hF.2.2.2.2 _ hf.1) (fun x h => by rw [← hf.2.1]; exact h) (v := am_v g (am_fv S I a c k)) (by simp [hf.2.2.2]) hdg (kk g p l e R s m args below meth c0 H locs cells slots mc ms cl C L)
theorem rn_getI {i a c k : Nat} (hdg : decode Y.2.2.1 pc = .ok (.getfield i, 3)) (hf : am_fd Y.2.1 i c k) (ha : a < S.1) (hk : S.2.1 a = .inr (.inr c)) (ht : am_isR (am_ty c k) = false) (kk : am_Rn d Y b (pc + 3) ls (.int (I a k) :: st) S I Q) : am_Rn d Y b pc ls (.ref a :: st) S I Q := by
  refine rn_getV hdg hf ha hk ?_
  have e : am_fv S I a c k = .int (I a k) := by simp [am_fv, ht]
  rw [e]
  exact kk
theorem rn_getR {i a c k r : Nat} (hdg : decode Y.2.2.1 pc = .ok (.getfield i, 3)) (hf : am_fd Y.2.1 i c k) (ha : a < S.1) (hk : S.2.1 a = .inr (.inr c)) (ht : am_isR (am_ty c k) = true) (hr : S.2.2 a k = some r) (kk : am_Rn d Y b (pc + 3) ls (.ref r :: st) S I Q) : am_Rn d Y b pc ls (.ref a :: st) S I Q := by
  refine rn_getV hdg hf ha hk ?_
  have e : am_fv S I a c k = .ref r := by simp [am_fv, ht, hr, va_rf]
  rw [e]
  exact kk
/-- one number, one reference is changed -/
def am_up {α : Type} (f : Nat → Nat → α) (a k : Nat) (v : α) : Nat → Nat → α := va_up f a (va_up (f a) k v)
theorem am_up_at {α : Type} (f : Nat → Nat → α) (a k : Nat) (v : α) : am_up f a k v a k = v := by simp [am_up, va_up]
theorem am_up_k {α : Type} (f : Nat → Nat → α) {a k j : Nat} (v : α) (h : j ≠ k) : am_up f a k v a j = f a j := by simp [am_up, va_up, h]
theorem am_up_a {α : Type} (f : Nat → Nat → α) {a k q : Nat} (v : α) (h : q ≠ a) : am_up f a k v q = f q := by simp [am_up, va_up, h]
theorem am_up_row {α : Type} (f : Nat → Nat → α) (a k : Nat) (v : α) : am_up f a k v a = va_up (f a) k v := by simp [am_up, va_up]
/-- a field is written -/
theorem rn_putV {i a c k : Nat} {v : Value} {S' : am_S} {I' : am_I} (hdg : decode Y.2.2.1 pc = .ok (.putfield i, 3)) (hf : am_fd Y.2.1 i c k) (ha : a < S.1) (hk : S.2.1 a = .inr (.inr c)) (hfin : (am_T c k).2.2.2 = false ∨ (Y.1.name = "<init>" ∧ c = Y.2.1)) (hn : ∀ g, narrow (am_ty c k) (am_v g v) = am_v g v) (hfit : ∀ g, fits (am_ty c k) (am_v g v) = true)
    (hz : S'.1 = S.1) (hK : S'.2.1 = S.2.1) (hG : ∀ q, q ≠ a → ∀ j, S'.2.2 q j = S.2.2 q j) (hI : ∀ q, q ≠ a → ∀ j, I' q j = I q j) (hv : ∀ j, j < am_n c → am_fv S' I' a c j = updV (am_fv S I a c) k v j)
    (kk : am_Rn d Y b (pc + 3) ls st S' I' Q) : am_Rn d Y b pc ls (v :: .ref a :: st) S I Q := by
  intro g p l e R s m args below meth c0 H locs cells slots mc ms cl C L
  obtain ⟨hF, hM, hR, hB, hW, hS, hH⟩ := id C
  obtain ⟨h9, cell, q1, q2, q3, q4⟩ := am_obj hH ha hk
  have hap := va_apart (own := am_R Y.2.1) hF.2.2.2.2 (am_lays c h9) (am_ty c) (am_tyok h9) (am_nmok h9) hW.1 (am_cl h9)
  obtain ⟨hSl, hfc, kC, hkC, hkind⟩ := hW.1.1 c _ (am_cl h9)
  obtain ⟨cf, kf, fi, f, hi, hsl⟩ := hSl k hf.2.2.2
  have hlay := hF.2.2.2.2 _ (am_lays c h9 _ (u_in_lay hf.2.2.2))
  have hst := (u_facts hfc hkC (u_lays hF.2.2.2.2 (am_lays c h9) hf.2.2.2) hi).1
  have hi' : s.fieldFound? (am_R c) (am_T c k).2.1 (am_T c k).2.2.1 = some (cf, kf, fi, f) := by rw [← hf.2.1]; exact hi
  have fin : ∀ H' : Heap, H'[am_ad g a]? = some (cell.setSlot f.slot (am_v g v)) → H'.size = H.size → (∀ q, q ≠ am_ad g a → H'[q]? = H[q]?) → W p l e R s m args below meth c0 H' (locs ++ [⟨am_ad g a, f.slot⟩]) cells slots (MQ below (am_Qc g Q) args s mc ms (am_A g)) (F0 m (pc + 3) cl (st.map (am_v g))) := by
    intro H' e1 e2 e3
    have haB : a < am_B := Nat.lt_of_lt_of_le ha hH.2.1
    refine kk g p l e R s m args below meth c0 H' _ cells slots mc ms cl ⟨hF, hM, hR, hB, hW, ?_, ?_⟩ L
    · exact hS.put e2 e3 (show g.1 ≤ am_ad g a by rw [am_ad_lt haB]; omega)
    · refine ⟨by rw [e2, hz]; exact hH.1, by rw [hz]; exact hH.2.1, fun q hq => ?_⟩
      rw [hz] at hq
      have hqB : q < am_B := Nat.lt_of_lt_of_le hq hH.2.1
      by_cases hqa : q = a
      · subst hqa
        unfold am_at
        rw [hK, hk]
        refine ⟨h9, ?_⟩
        rw [hsl] at e1
        refine t_OB.to (V := updV (fun j => am_v g (am_fv S I q c j)) k (am_v g v)) ⟨_, e1, q2, q3, t_set q4 hap hf.2.2.2 (am_v g v)⟩ (fun j hj => ?_)
        rw [hv j hj]
        by_cases hjk : j = k
        · subst hjk; simp [updV]
        · simp [updV, hjk]
      · exact am_at.keep (e3 _ (am_ad_ne hqB haB hqa)) (by rw [hK]) (hG q hqa) (hI q hqa) (hH.2.2 q hq)
  by_cases hfn : (am_T c k).2.2.2 = false
  · unfold u_lay at hlay
    rw [if_neg (by rw [hfn]; decide)] at hlay
    have h6 := u_store hfc hkC hkind hlay hi (am_tyok h9 k hf.2.2.2) (hn g) (hfit g)
    exact W.putK hF.1 hF.2.1 (f := f) ⟨hF.2.2.2.1, hF.2.2.2.2 _ hf.1, ⟨_, _, _, hi'⟩, hst⟩ (by rw [q2]; exact h6) q1 q3 (by rw [hsl]; exact k2_hasslot (q4 k hf.2.2.2)) rfl rfl hdg fin
  · have hin := (hfin.resolve_left hfn).1
    have hco := (hfin.resolve_left hfn).2
    have h6 := u_fits hfc hkC hkind (u_lays hF.2.2.2.2 (am_lays c h9) hf.2.2.2) hi (am_tyok h9 k hf.2.2.2) (hn g) (hfit g)
    have hcf : m.cls = cf := by
      have h7 : (am_T c k).2.2.2 = true := by simpa using hfn
      unfold u_lay at hlay
      rw [if_pos h7] at hlay
      rw [hf.2.1] at hlay hi
      exact laid_decl (by rw [hco]; exact hF.2.2.2.1) hlay hi
    exact W.putFinK hF.1 hF.2.1 hF.2.2.2.1 (hF.2.2.2.2 _ hf.1) hi' hst hcf (hM.2.2.trans hin) (by rw [q2]; exact h6) q1 q3 (by rw [hsl]; exact k2_hasslot (q4 k hf.2.2.2)) rfl rfl hdg fin
theorem rn_putI {i a c k : Nat} {v : Int32} (hdg : decode Y.2.2.1 pc = .ok (.putfield i, 3)) (hf : am_fd Y.2.1 i c k) (ha : a < S.1) (hk : S.2.1 a = .inr (.inr c)) (hfin : (am_T c k).2.2.2 = false) (ht : am_isR (am_ty c k) = false) (hn : narrow (am_ty c k) (.int v) = .int v) (hfit : fits (am_ty c k) (.int v) = true)
    (kk : am_Rn d Y b (pc + 3) ls st S (am_up I a k v) Q) : am_Rn d Y b pc ls (.int v :: .ref a :: st) S I Q := by
  refine rn_putV (S' := S) hdg hf ha hk (Or.inl hfin) (fun _ => hn) (fun _ => hfit) rfl rfl (fun _ _ _ => rfl) (fun q hq j => by rw [am_up_a I v hq]) (fun j hj => ?_) kk
  by_cases hjk : j = k
  · subst hjk
    simp [am_fv, ht, updV, am_up_at]
  · simp only [am_fv, updV, hjk, if_false, am_up_k I v hjk]
theorem rn_putR {i a c k r : Nat} (hdg : decode Y.2.2.1 pc = .ok (.putfield i, 3)) (hf : am_fd Y.2.1 i c k) (ha : a < S.1) (hk : S.2.1 a = .inr (.inr c)) (hfin : (am_T c k).2.2.2 = false ∨ (Y.1.name = "<init>" ∧ c = Y.2.1)) (ht : am_isR (am_ty c k) = true)
    (kk : am_Rn d Y b (pc + 3) ls st (S.1, S.2.1, am_up S.2.2 a k (some r)) I Q) : am_Rn d Y b pc ls (.ref r :: .ref a :: st) S I Q := by
  refine rn_putV (S' := (S.1, S.2.1, am_up S.2.2 a k (some r))) hdg hf ha hk hfin (fun g => ?_) (fun g => ?_) rfl rfl (fun q hq j => by show am_up S.2.2 a k (some r) q j = _; rw [am_up_a S.2.2 _ hq]) (fun _ _ _ => rfl) (fun j hj => ?_) kk
  · revert ht; cases am_ty c k <;> simp [am_isR, am_v, narrow]
  · revert ht; cases am_ty c k <;> simp [am_isR, am_v, fits]
  · by_cases hjk : j = k
    · subst hjk
      simp [am_fv, ht, updV, am_up_at, va_rf]
    · simp only [am_fv, updV, hjk, if_false, am_up_k S.2.2 _ hjk]
end AMB
