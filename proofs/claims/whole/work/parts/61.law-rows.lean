/-! THE CLAIM OUT OF ONE WALK OF THE LAW'S BODY. Your part is whole_start (and what it stands on); all else here is the same for every law, but numbers. -/
def R_law : String := "ThresholdLinesLaw"
def lw_P (b : Addr) (xs : List Int32) (args : Array Value) (s : State) : Prop := args = #[.ref b] ∧ s.IntsAt b xs ∧ xs.length ≤ 3074 ∧ (Jvm.Cond.and given_1 narrow_1).before args s = true
def lw_Q (_ : Array Value) (s : State) (o : Outcome) (t : State) : Prop := o = .returned (some (.int 1)) ∧ Framed s o t [] 600000 7302250
def lw_Z (below : List Frame) (a : Array Value) (s : State) : State → Prop := fun t => ∃ o, t.status = .running ∧ Ended t below o ∧ lw_Q a s o t
/-- the law's own end, with 1 on the stack, nothing written that was there before, its room as the claim has it -/
theorem lw_ret {p : Program} {l : Launch} {e : Env} {s : State} {m : MethodId} {below : List Frame} {meth : Method} {c : Code} {b : Nat} (hx : p.tables.exec = Jvm.exec) (hb : c.code = code) (hr : meth.sig.returnType = ret) (hlocks : meth.locks = false) {pc : Nat} {H : Heap} {ls : Array Slot} (hdg : decode code pc = .ok (.ireturn, 1)) : W p l e room_1 s m #[Value.ref b] below meth c H [] 600000 7302250 (lw_Z below #[Value.ref b] s) (F0 m pc ls [.int 1]) := by
  intro T hT X
  obtain ⟨fs, hret, hrun, hended, hW, hframe⟩ := X.leave (v := some (.int 1)) (hlocks := hlocks) (fun h => by rw [hr] at h; cases h)
  have hmeth' : T.vm.method? m = some meth := X.method'
  refine ⟨T.setFrames fs, ?_, .returned (some (.int 1)), hrun, hended, rfl, ⟨_, rfl⟩, hW, hframe⟩
  jvm_step X.here [X.here.top, hx, hb, hdg, hmeth', hr, ret, narrow_b1]
  (try refine ⟨rfl, ?_⟩); (try refine ⟨rfl, ?_⟩)
  first | (intro acts; rw [hret _ acts rfl rfl rfl]) | rw [hret _ _ rfl rfl rfl]
  exact Steps.refl _
/-- what holds at the law's entry: the machine, the code, the tables' words (any of lw_tbl by 'hts w (by decide +kernel)'), the script of L ints xs at the cell b, what the Statement gives of the start (any of its parts by flat_of_before) -/
def lw_At (p : Program) (s : State) (m : MethodId) (meth : Method) (c : Code) (b L : Nat) (xs : Nat → Int32) : Prop :=
  p.tables.exec = Jvm.exec ∧ c.code = code ∧ meth.sig.returnType = ret ∧ c.maxLocals = 4 ∧ s.vm.findClass R_law = some m.cls ∧ (∀ w ∈ lw_tbl, w.before #[Value.ref b] s = true) ∧ va_X b L xs s s.heap ∧ b < s.heap.size ∧ meth.locks = false ∧ (Jvm.Cond.and given_1 narrow_1).before #[Value.ref b] s = true ∧ meth.name = "law"
/-- the judgement with a premise of the start and any end -/
def am_Rg (P : am_G → Room → State → Array Value → Nat → Nat → Prop) (Zf : am_G → List Frame → Array Value → State → Nat → Nat → State → Prop) (d : Nat) (Y : am_Y) (b : Nat × Nat) (pc : Nat) (ls : List (Option Value)) (st : List Value) (S : am_S) (I : am_I) : Prop :=
  ∀ (g : am_G) (p : Program) (l : Launch) (e : Env) (R : Room) (s : State) (m : MethodId) (args : Array Value) (below : List Frame) (meth : Method) (c : Code) (H : Heap) (locs : List Loc) (cells slots mc ms : Nat) (cl : Array Slot), P g R s args mc ms →
    am_Cx d Y b g p R s m args meth c H locs cells slots mc ms S I → am_L g cl Y.2.2.2.2 ls →
    W p l e R s m args below meth c H locs cells slots (Zf g below args s mc ms) (F0 m pc cl (st.map (am_v g)))
section LR
variable {P : am_G → Room → State → Array Value → Nat → Nat → Prop} {Zf : am_G → List Frame → Array Value → State → Nat → Nat → State → Prop} {d : Nat} {Y : am_Y} {b : Nat × Nat} {pc : Nat} {ls : List (Option Value)} {st : List Value} {S : am_S} {I : am_I}
theorem lr_top {x y : Int32} (h : x = y) (k : am_Rg P Zf d Y b pc ls (.int y :: st) S I) : am_Rg P Zf d Y b pc ls (.int x :: st) S I := h ▸ k
theorem lr_topv {x y : Value} (h : x = y) (k : am_Rg P Zf d Y b pc ls (y :: st) S I) : am_Rg P Zf d Y b pc ls (x :: st) S I := h ▸ k
theorem lr_S {S' : am_S} (h : S = S') (k : am_Rg P Zf d Y b pc ls st S' I) : am_Rg P Zf d Y b pc ls st S I := h ▸ k
theorem lr_b {b' : Nat × Nat} (h : b = b') (k : am_Rg P Zf d Y b' pc ls st S I) : am_Rg P Zf d Y b pc ls st S I := h ▸ k
theorem lr_wide {b' : Nat × Nat} (h : b'.1 ≤ b.1 ∧ b'.2 ≤ b.2) (k : am_Rg P Zf d Y b' pc ls st S I) : am_Rg P Zf d Y b pc ls st S I := by
  intro g p l e R s m args below meth c H locs cells slots mc ms cl X C L
  obtain ⟨hF, hM, hR, hB, hW, hS, hH⟩ := C
  exact W.widen (k := cells + (b.1 - b'.1)) (n := slots + (b.2 - b'.2)) (by omega) (by omega) (k g p l e R s m args below meth c H locs _ _ mc ms cl X ⟨hF, hM, hR, ⟨by omega, by omega⟩, hW, hS, hH⟩ L)
theorem lr_iconst {n : Int} {v : Int32} (hdg : decode Y.2.2.1 pc = .ok (.iconst n, 1)) (hv : Int32.ofInt n = v) (k : am_Rg P Zf d Y b (pc + 1) ls (.int v :: st) S I) : am_Rg P Zf d Y b pc ls (st) S I := by
  intro g p l e R s m args below meth c H locs cells slots mc ms cl X C L
  exact lv_iconst C.1.1 C.1.2.1 hdg hv (k g p l e R s m args below meth c H locs cells slots mc ms cl X C L)
theorem lr_bipush {n : Int} {v : Int32} (hdg : decode Y.2.2.1 pc = .ok (.bipush n, 2)) (hv : (Int8.ofInt n).toInt32 = v) (k : am_Rg P Zf d Y b (pc + 2) ls (.int v :: st) S I) : am_Rg P Zf d Y b pc ls (st) S I := by
  intro g p l e R s m args below meth c H locs cells slots mc ms cl X C L
  exact lv_bipush C.1.1 C.1.2.1 hdg hv (k g p l e R s m args below meth c H locs cells slots mc ms cl X C L)
theorem lr_iload_n {n : Fin 4} {i : Nat} {x : Int32} (hdg : decode Y.2.2.1 pc = .ok (.iload_n n, 1)) (hi : (n : Nat) = i) (hl : ls[i]? = some (some (.int x))) (k : am_Rg P Zf d Y b (pc + 1) ls (.int x :: st) S I) : am_Rg P Zf d Y b pc ls (st) S I := by
  intro g p l e R s m args below meth c H locs cells slots mc ms cl X C L
  exact lv_iload_n C.1.1 C.1.2.1 hdg hi (L.at hl) (k g p l e R s m args below meth c H locs cells slots mc ms cl X C L)
theorem lr_aload_n {n : Fin 4} {i : Nat} {x : Nat} (hdg : decode Y.2.2.1 pc = .ok (.aload_n n, 1)) (hi : (n : Nat) = i) (hl : ls[i]? = some (some (.ref x))) (k : am_Rg P Zf d Y b (pc + 1) ls (.ref x :: st) S I) : am_Rg P Zf d Y b pc ls (st) S I := by
  intro g p l e R s m args below meth c H locs cells slots mc ms cl X C L
  exact lv_aload_n C.1.1 C.1.2.1 hdg hi (L.at hl) (k g p l e R s m args below meth c H locs cells slots mc ms cl X C L)
theorem lr_iadd {x y : Int32} (hdg : decode Y.2.2.1 pc = .ok (.iadd, 1)) (k : am_Rg P Zf d Y b (pc + 1) ls (.int (x + y) :: st) S I) : am_Rg P Zf d Y b pc ls (.int y :: .int x :: st) S I := by
  intro g p l e R s m args below meth c H locs cells slots mc ms cl X C L
  exact lv_iadd C.1.1 C.1.2.1 hdg (k g p l e R s m args below meth c H locs cells slots mc ms cl X C L)
theorem lr_isub {x y : Int32} (hdg : decode Y.2.2.1 pc = .ok (.isub, 1)) (k : am_Rg P Zf d Y b (pc + 1) ls (.int (x - y) :: st) S I) : am_Rg P Zf d Y b pc ls (.int y :: .int x :: st) S I := by
  intro g p l e R s m args below meth c H locs cells slots mc ms cl X C L
  exact lv_isub C.1.1 C.1.2.1 hdg (k g p l e R s m args below meth c H locs cells slots mc ms cl X C L)
theorem lr_iand {x y : Int32} (hdg : decode Y.2.2.1 pc = .ok (.iand, 1)) (k : am_Rg P Zf d Y b (pc + 1) ls (.int (x &&& y) :: st) S I) : am_Rg P Zf d Y b pc ls (.int y :: .int x :: st) S I := by
  intro g p l e R s m args below meth c H locs cells slots mc ms cl X C L
  exact lv_iand C.1.1 C.1.2.1 hdg (k g p l e R s m args below meth c H locs cells slots mc ms cl X C L)
theorem lr_dup {v : Value} (hdg : decode Y.2.2.1 pc = .ok (.dup, 1)) (hv : v.category = 1) (k : am_Rg P Zf d Y b (pc + 1) ls (v :: v :: st) S I) : am_Rg P Zf d Y b pc ls (v :: st) S I := by
  intro g p l e R s m args below meth c H locs cells slots mc ms cl X C L
  exact lv_dup C.1.1 C.1.2.1 hdg ((am_v_cat g v).trans hv) (k g p l e R s m args below meth c H locs cells slots mc ms cl X C L)
theorem lr_istore_n {i : Nat} {ls' : List (Option Value)} {n : Fin 4} {x : Int32} (hdg : decode Y.2.2.1 pc = .ok (.istore_n n, 1)) (hi : (n : Nat) = i) (hn : i < Y.2.2.2.2) (hc : am_ok1 ls i = true) (hs : ls.set i (some (.int x)) = ls') (k : am_Rg P Zf d Y b (pc + 1) ls' st S I) : am_Rg P Zf d Y b pc ls (.int x :: st) S I := by
  intro g p l e R s m args below meth c H locs cells slots mc ms cl X C L
  obtain ⟨h0, lv, h1, h2⟩ := L
  subst hs
  exact lv_istore_n C.1.1 C.1.2.1 hdg hi h1 hn rfl (fun cl' h' => k g p l e R s m args below meth c H locs cells slots mc ms cl' X C ⟨by simpa using h0, _, h', am_c1 h2 (am_ok1_spec hc)⟩)
theorem lr_astore_n {i : Nat} {ls' : List (Option Value)} {n : Fin 4} {x : Nat} (hdg : decode Y.2.2.1 pc = .ok (.astore_n n, 1)) (hi : (n : Nat) = i) (hn : i < Y.2.2.2.2) (hc : am_ok1 ls i = true) (hs : ls.set i (some (.ref x)) = ls') (k : am_Rg P Zf d Y b (pc + 1) ls' st S I) : am_Rg P Zf d Y b pc ls (.ref x :: st) S I := by
  intro g p l e R s m args below meth c H locs cells slots mc ms cl X C L
  obtain ⟨h0, lv, h1, h2⟩ := L
  subst hs
  exact lv_astore_n C.1.1 C.1.2.1 hdg hi h1 hn rfl (fun cl' h' => k g p l e R s m args below meth c H locs cells slots mc ms cl' X C ⟨by simpa using h0, _, h', am_c1 h2 (am_ok1_spec hc)⟩)
theorem lr_iinc {i : Nat} {n : Int} {x v : Int32} {ls' : List (Option Value)} (hdg : decode Y.2.2.1 pc = .ok (.iinc i n, 3)) (hl : ls[i]? = some (some (.int x))) (hv : x + Int32.ofInt n = v) (hn : i < Y.2.2.2.2) (hc : am_ok1 ls i = true) (hs : ls.set i (some (.int v)) = ls') (k : am_Rg P Zf d Y b (pc + 3) ls' st S I) : am_Rg P Zf d Y b pc ls st S I := by
  intro g p l e R s m args below meth c H locs cells slots mc ms cl X C L
  obtain ⟨h0, lv, h1, h2⟩ := L
  subst hs
  obtain ⟨q, hq⟩ := List.getElem?_of_mem (h2 i _ hl)
  exact lv_iinc C.1.1 C.1.2.1 hdg h1 hq hv hn rfl (fun cl' h' => k g p l e R s m args below meth c H locs cells slots mc ms cl' X C ⟨by simpa using h0, _, h', am_c1 (x := .int v) h2 (am_ok1_spec hc)⟩)
theorem lr_goto {off : Int} {tgt : Nat} (hdg : decode Y.2.2.1 pc = .ok (.goto off, 3)) (ht : (pc : Int) + off = (tgt : Int)) (k : am_Rg P Zf d Y b tgt ls st S I) : am_Rg P Zf d Y b pc ls st S I := by
  intro g p l e R s m args below meth c H locs cells slots mc ms cl X C L
  exact lv_goto C.1.1 C.1.2.1 hdg ht (k g p l e R s m args below meth c H locs cells slots mc ms cl X C L)
theorem lr_if_eq {x : Int32} {off : Int} {tgt : Nat} (hdg : decode Y.2.2.1 pc = .ok (.ifCond .eq off, 3)) (ht : (pc : Int) + off = (tgt : Int)) (kt : x = 0 → am_Rg P Zf d Y b tgt ls st S I) (kf : ¬ x = 0 → am_Rg P Zf d Y b (pc + 3) ls st S I) : am_Rg P Zf d Y b pc ls (.int x :: st) S I := by
  intro g p l e R s m args below meth c H locs cells slots mc ms cl X C L
  exact lv_if_eq C.1.1 C.1.2.1 hdg ht (fun h => kt h g p l e R s m args below meth c H locs cells slots mc ms cl X C L) (fun h => kf h g p l e R s m args below meth c H locs cells slots mc ms cl X C L)
theorem lr_icmp_eq {x y : Int32} {off : Int} {tgt : Nat} (hdg : decode Y.2.2.1 pc = .ok (.if_icmp .eq off, 3)) (ht : (pc : Int) + off = (tgt : Int)) (kt : x = y → am_Rg P Zf d Y b tgt ls st S I) (kf : ¬ x = y → am_Rg P Zf d Y b (pc + 3) ls st S I) : am_Rg P Zf d Y b pc ls (.int y :: .int x :: st) S I := by
  intro g p l e R s m args below meth c H locs cells slots mc ms cl X C L
  exact lv_icmp_eq C.1.1 C.1.2.1 hdg ht (fun h => kt h g p l e R s m args below meth c H locs cells slots mc ms cl X C L) (fun h => kf h g p l e R s m args below meth c H locs cells slots mc ms cl X C L)
theorem lr_icmp_gt {x y : Int32} {off : Int} {tgt : Nat} (hdg : decode Y.2.2.1 pc = .ok (.if_icmp .gt off, 3)) (ht : (pc : Int) + off = (tgt : Int)) (kt : y < x → am_Rg P Zf d Y b tgt ls st S I) (kf : ¬ y < x → am_Rg P Zf d Y b (pc + 3) ls st S I) : am_Rg P Zf d Y b pc ls (.int y :: .int x :: st) S I := by
  intro g p l e R s m args below meth c H locs cells slots mc ms cl X C L
  exact lv_icmp_gt C.1.1 C.1.2.1 hdg ht (fun h => kt h g p l e R s m args below meth c H locs cells slots mc ms cl X C L) (fun h => kf h g p l e R s m args below meth c H locs cells slots mc ms cl X C L)
theorem lr_icmp_ge {x y : Int32} {off : Int} {tgt : Nat} (hdg : decode Y.2.2.1 pc = .ok (.if_icmp .ge off, 3)) (ht : (pc : Int) + off = (tgt : Int)) (kt : y ≤ x → am_Rg P Zf d Y b tgt ls st S I) (kf : ¬ y ≤ x → am_Rg P Zf d Y b (pc + 3) ls st S I) : am_Rg P Zf d Y b pc ls (.int y :: .int x :: st) S I := by
  intro g p l e R s m args below meth c H locs cells slots mc ms cl X C L
  exact lv_icmp_ge C.1.1 C.1.2.1 hdg ht (fun h => kt h g p l e R s m args below meth c H locs cells slots mc ms cl X C L) (fun h => kf h g p l e R s m args below meth c H locs cells slots mc ms cl X C L)
theorem lr_tableIn {dflt lo hi : Int} {offs : Array Int} {len : Nat} {x : Int32} {off : Int} {tgt : Nat} (hdg : decode Y.2.2.1 pc = .ok (.tableswitch dflt lo hi offs, len)) (h1 : ¬ x.toInt < lo) (h2 : ¬ hi < x.toInt) (ho : offs[(x.toInt - lo).toNat]? = some off) (ht : (pc : Int) + off = (tgt : Int)) (k : am_Rg P Zf d Y b tgt ls st S I) : am_Rg P Zf d Y b pc ls (.int x :: st) S I := by
  intro g p l e R s m args below meth c H locs cells slots mc ms cl X C L
  exact lv_tableIn C.1.1 C.1.2.1 hdg h1 h2 ho ht (k g p l e R s m args below meth c H locs cells slots mc ms cl X C L)
theorem lr_tableOut {dflt lo hi : Int} {offs : Array Int} {len : Nat} {x : Int32} {tgt : Nat} (hdg : decode Y.2.2.1 pc = .ok (.tableswitch dflt lo hi offs, len)) (h : x.toInt < lo ∨ hi < x.toInt) (ht : (pc : Int) + dflt = (tgt : Int)) (k : am_Rg P Zf d Y b tgt ls st S I) : am_Rg P Zf d Y b pc ls (.int x :: st) S I := by
  intro g p l e R s m args below meth c H locs cells slots mc ms cl X C L
  exact lv_tableOut C.1.1 C.1.2.1 hdg h ht (k g p l e R s m args below meth c H locs cells slots mc ms cl X C L)
theorem lr_new {i c : Nat} (hdg : decode Y.2.2.1 pc = .ok (.new i, 3)) (hc : c < 9) (hw : Cond.classLink (am_R Y.2.1) i (am_R c) ∈ am_gw ∧ Cond.instantiable (am_R c) (am_n c) ∈ am_gw ∧ Cond.initialized (am_R c) ∈ am_gw) (hB1 : S.1 < am_B) (hb : 1 ≤ b.1 ∧ am_n c ≤ b.2)
    (kk : am_Rg P Zf d Y (b.1 - 1, b.2 - am_n c) (pc + 3) ls (.ref S.1 :: st) (S.1 + 1, va_up S.2.1 S.1 (.inr (.inr c)), va_up S.2.2 S.1 (fun _ => none)) (va_up I S.1 (fun _ => 0))) : am_Rg P Zf d Y b pc ls st S I := by
  intro g p l e R s m args below meth c0 H locs cells slots mc ms cl X C L
  obtain ⟨hF, hM, hR, hB, hW, hS, hH⟩ := id C
  have hKn := hW.1.1 c _ (am_cl hc)
  have hsz : H.size = am_ad g S.1 := by rw [am_ad_lt hB1]; exact hH.1
  refine W.newcK hF.1 hF.2.1 hF.2.2.2.1 (hF.2.2.2.2 _ hw.1) (hF.2.2.2.2 _ hw.2.1) (hF.2.2.2.2 _ hw.2.2) rfl hdg (by omega) (by omega) hKn.2.1 hsz fun H1 kC hkC e1 z1 o1 => ?_
  refine kk g p l e R s m args below meth c0 H1 locs (cells + 1) (slots + am_n c) mc ms cl X ⟨hF, hM, hR, ⟨by dsimp only; omega, by dsimp only; omega⟩, hW, ⟨Nat.le_trans hS.1 (by omega), fun x h1 h2 => (o1 x (by have := hS.1; omega)).trans (hS.2.1 x h1 h2), hS.2.2⟩, ?_, ?_, fun q hq => ?_⟩ L
  · show H1.size = g.1 + (S.1 + 1)
    rw [z1, am_ad_lt hB1]; omega
  · show S.1 + 1 ≤ am_B
    omega
  · have hq' : q < S.1 + 1 := hq
    by_cases hqa : q = S.1
    · subst hqa
      have hkk : (va_up S.2.1 S.1 (.inr (.inr c)) : Nat → am_Kd) S.1 = .inr (.inr c) := by simp [va_up]
      unfold am_at
      simp only [hkk]
      refine ⟨hc, (u_born (am_ty c) hF.2.2.2.2 (am_lays c hc) hKn hkC e1 (am_tyok hc)).to (fun k hk => ?_)⟩
      rw [am_dv hc hk]
      simp only [am_fv, va_up, if_true]
      split <;> rfl
    · have hqB : q < am_B := by omega
      have hlt : q < S.1 := by omega
      exact am_at.keep (o1 _ (by rw [am_ad_lt hB1, am_ad_lt hqB]; omega)) (by simp [va_up, hqa]) (fun j => by simp [va_up, hqa]) (fun j => by simp [va_up, hqa]) (hH.2.2 q hlt)
variable {Z : am_Y} {d' n i : Nat} {b' : Nat × Nat} {as stk : List Value} {Q' : Option Value → am_S → am_I → Prop}
theorem lr_callV {a : Nat} (hdg : decode Y.2.2.1 pc = .ok (.invokevirtual i, 3)) (hc : am_cV Y.2.1 i Z n) (hM : am_Mt d' Z b' (.ref a :: as) S I Q') (hd : d' < d) (hb : b'.1 ≤ b.1 ∧ b'.2 ≤ b.2) (ha : a < S.1) (hk : S.2.1 a = .inr (.inr Z.2.1)) (hn : as.length = n) (hs : as.reverse ++ .ref a :: st = stk) (hr : (st.map fun v => v.category).sum ≤ 8)
    (kk : ∀ r S' I', Q' r S' I' → am_Rg P Zf d Y (b.1 - b'.1, b.2 - b'.2) (pc + 3) ls (r.toList ++ st) S' I') : am_Rg P Zf d Y b pc ls stk S I := by
  intro g p l e R s m args below meth c H locs cells slots mc ms cl X C L
  obtain ⟨hF, hMm, hR, hB, hW, hS, hH⟩ := id C
  have cw := callB_of (R := R) (rm := am_rm d' b') (mc := b'.1) (ms := b'.2) n hF.2.2.2.2 (am_gin hc.1) rfl rfl rfl (hF.2.2.2.2 _ hc.1.2.1) (hF.2.2.2.2 _ hc.2.1) hc.1.2.2.1 ⟨by show d' + 1 ≤ _; omega, by have := hc.1.2.2.2; show 8 + (Z.2.2.2.2 + 11) + 60 * d' ≤ _; omega⟩
  obtain ⟨-, cell, q1, q2, q3, -⟩ := am_obj hH ha hk
  have hfc := (hW.1.1 Z.2.1 _ (am_cl hc.2.2.2.2.2)).2.1
  refine am_after (va_runV (b := am_ad g a) (C := Z.1.cls) (As := as.map (am_v g)) (rest := st.map (am_v g)) hF (hM g l) ⟨cw, hF.2.2.2.2 _ hc.2.2.1, hF.2.2.2.2 _ hc.2.2.2.1⟩ ⟨am_Pc.blind g (.ref a :: as) S I, ⟨cell, q1, by rw [q3]; rfl, by rw [hc.2.2.2.2.1, q2]; exact hfc⟩, am_pre (as := .ref a :: as) hW hS hH⟩ rfl (by simpa using hn) L.size (by rw [← hs]; simp [am_v]) (lv_room (by rw [am_cat]; exact hr)) hdg ⟨by omega, by omega⟩) hS (fun r S' I' H1 locs1 hq hH1 hS1 => ?_)
  have := kk r S' I' hq g p l e R s m args below meth c H1 locs1 (cells + b'.1) (slots + b'.2) mc ms cl X ⟨hF, hMm, hR, ⟨by dsimp only; omega, by dsimp only; omega⟩, hW, hS1, hH1⟩ L
  cases r <;> exact this
theorem lr_callI {a : Nat} (hdg : decode Y.2.2.1 pc = .ok (.invokespecial i, 3)) (hc : am_cI Y.2.1 i Z n) (hM : am_Mt d' Z b' (.ref a :: as) S I Q') (hd : d' < d) (hb : b'.1 ≤ b.1 ∧ b'.2 ≤ b.2) (hn : as.length = n) (hs : as.reverse ++ .ref a :: st = stk) (hr : (st.map fun v => v.category).sum ≤ 8)
    (kk : ∀ r S' I', Q' r S' I' → am_Rg P Zf d Y (b.1 - b'.1, b.2 - b'.2) (pc + 3) ls (r.toList ++ st) S' I') : am_Rg P Zf d Y b pc ls stk S I := by
  intro g p l e R s m args below meth c H locs cells slots mc ms cl X C L
  obtain ⟨hF, hMm, hR, hB, hW, hS, hH⟩ := id C
  have hMg := hM g l
  have hgi := am_gin hc.1
  have hcb := hc.1
  rw [hc.2.2.2.2] at hMg hgi
  have cw := cwI (R := R) (rm := am_rm d' b') (mc := b'.1) (ms := b'.2) n hF.2.2.2.2 hgi rfl rfl rfl (hF.2.2.2.2 _ hc.1.2.1) (hF.2.2.2.2 _ hc.2.1) (hF.2.2.2.2 _ hc.2.2.1) hc.2.2.2.1 hc.1.2.2.1 ⟨by show d' + 1 ≤ _; omega, by have := hc.1.2.2.2; show 8 + (Z.2.2.2.2 + 11) + 60 * d' ≤ _; omega⟩
  refine am_after (va_runI (b := am_ad g a) (As := as.map (am_v g)) (rest := st.map (am_v g)) hF hMg cw ⟨am_Pc.blind g (.ref a :: as) S I, am_pre (as := .ref a :: as) hW hS hH⟩ rfl (by simpa using hn) L.size (by rw [← hs]; simp [am_v]) (lv_room (by rw [am_cat]; exact hr)) hdg ⟨by omega, by omega⟩) hS (fun r S' I' H1 locs1 hq hH1 hS1 => ?_)
  have := kk r S' I' hq g p l e R s m args below meth c H1 locs1 (cells + b'.1) (slots + b'.2) mc ms cl X ⟨hF, hMm, hR, ⟨by dsimp only; omega, by dsimp only; omega⟩, hW, hS1, hH1⟩ L
  cases r <;> exact this
theorem lr_callV0 {a : Nat} (hdg : decode Y.2.2.1 pc = .ok (.invokevirtual i, 3)) (hc : am_cV Y.2.1 i Z n) (hM : am_Mt d' Z (0, 0) (.ref a :: as) S I Q') (hd : d' < d) (ha : a < S.1) (hk : S.2.1 a = .inr (.inr Z.2.1)) (hn : as.length = n) (hs : as.reverse ++ .ref a :: st = stk) (hr : (st.map fun v => v.category).sum ≤ 8) (kk : ∀ r S' I', Q' r S' I' → am_Rg P Zf d Y b (pc + 3) ls (r.toList ++ st) S' I') : am_Rg P Zf d Y b pc ls stk S I :=
  lr_callV hdg hc hM hd ⟨Nat.zero_le _, Nat.zero_le _⟩ ha hk hn hs hr kk
theorem lr_newC {c : Nat} {S' : am_S} {I' : am_I} (hdg : decode Y.2.2.1 pc = .ok (.new i, 3)) (hc : c < 9) (hw : Cond.classLink (am_R Y.2.1) i (am_R c) ∈ am_gw ∧ Cond.instantiable (am_R c) (am_n c) ∈ am_gw ∧ Cond.initialized (am_R c) ∈ am_gw) (hn : S.1 = n) (hS : S' = (n + 1, va_up S.2.1 n (.inr (.inr c)), va_up S.2.2 n (fun _ => none))) (hI : I' = va_up I n (fun _ => 0)) (hB1 : n < am_B) (hb : 1 ≤ b.1 ∧ am_n c ≤ b.2) (hb' : b' = (b.1 - 1, b.2 - am_n c))
    (kk : am_Rg P Zf d Y b' (pc + 3) ls (.ref n :: st) S' I') : am_Rg P Zf d Y b pc ls st S I := by
  subst hn hS hI hb'
  exact lr_new hdg hc hw hB1 hb kk
end LR
/-! the script, which is older than the world -/
def scX (sL : Nat) (xs : Nat → Int32) (g : am_G) (U : State) : Prop := va_X (g.2.2.2.2 10) sL xs U U.heap ∧ g.2.2.2.2 10 < U.heap.size ∧ ¬ am_A g (g.2.2.2.2 10)
theorem scX.moved {sL : Nat} {xs : Nat → Int32} {g : am_G} {s U : State} {H : Heap} {locs : List Loc} (hW : s.WarmedH U.vm) (hU : U.heap = H) (hS : va_S (am_A g) s.heap H locs) (h : scX sL xs g s) : scX sL xs g U := by
  obtain ⟨h1, h2, h3⟩ := h
  subst hU
  exact ⟨va_X.moved hW.alike (h1.kept (hS.2.1 _ h2 h3)), Nat.lt_of_lt_of_le h2 hS.1, h3⟩
def am_PX (sL : Nat) (xs : Nat → Int32) : am_G → Room → State → Array Value → Nat → Nat → Prop := fun g _ s _ _ _ => scX sL xs g s
def am_ZQ (Q : Option Value → am_S → am_I → Prop) : am_G → List Frame → Array Value → State → Nat → Nat → State → Prop := fun g below args s mc ms => MQ below (am_Qc g Q) args s mc ms (am_A g)
section SC
variable {sL : Nat} {xs : Nat → Int32} {P : am_G → Room → State → Array Value → Nat → Nat → Prop} {Zf : am_G → List Frame → Array Value → State → Nat → Nat → State → Prop} {d : Nat} {Y : am_Y} {b : Nat × Nat} {pc : Nat} {ls : List (Option Value)} {st : List Value} {S : am_S} {I : am_I}
theorem lr_sload (hP : ∀ g R s args mc ms, P g R s args mc ms → scX sL xs g s) {e : Nat} (hdg : decode Y.2.2.1 pc = .ok (.iaload, 1)) (he : e < sL) (hs : sL < 2147483648) (k : am_Rg P Zf d Y b (pc + 1) ls (.int (xs e) :: st) S I) : am_Rg P Zf d Y b pc ls (.int (nI e) :: .ref (2 * am_B + 10) :: st) S I := by
  intro g p l e0 R s m args below meth c H locs cells slots mc ms cl X C L
  obtain ⟨hF, hM, hR, hB, hW, hS, hH⟩ := id C
  obtain ⟨h1, h2, h3⟩ := hP _ _ _ _ _ _ X
  have h := k g p l e0 R s m args below meth c H locs cells slots mc ms cl X C L
  have h9 : am_v g (.ref (2 * am_B + 10)) = .ref (g.2.2.2.2 10) := by show Value.ref _ = _; rw [am_adV]
  rw [List.map_cons, List.map_cons, h9]
  refine va_sld hF.1 hF.2.1 h1 h2 h3 hS (vp_in_nI he hs) hdg ?_
  rw [nI_clamp (by omega)]
  exact h
theorem lr_slen (hP : ∀ g R s args mc ms, P g R s args mc ms → scX sL xs g s) (hdg : decode Y.2.2.1 pc = .ok (.arraylength, 1)) (k : am_Rg P Zf d Y b (pc + 1) ls (.int (nI sL) :: st) S I) : am_Rg P Zf d Y b pc ls (.ref (2 * am_B + 10) :: st) S I := by
  intro g p l e0 R s m args below meth c H locs cells slots mc ms cl X C L
  obtain ⟨hF, hM, hR, hB, hW, hS, hH⟩ := id C
  obtain ⟨h1, h2, h3⟩ := hP _ _ _ _ _ _ X
  have h := k g p l e0 R s m args below meth c H locs cells slots mc ms cl X C L
  have h9 : am_v g (.ref (2 * am_B + 10)) = .ref (g.2.2.2.2 10) := by show Value.ref _ = _; rw [am_adV]
  rw [List.map_cons, h9]
  exact va_slen hF.1 hF.2.1 h1 h2 h3 hS hdg h
theorem am_mtX {as : List Value} {Q : Option Value → am_S → am_I → Prop} (hy : plainName Y.1.cls = true ∧ Y.1.cls = am_R Y.2.1) (hl : (am_ent as).length ≤ Y.2.2.2.2) (hls : am_ent as ++ List.replicate (Y.2.2.2.2 - (am_ent as).length) none = ls)
    (h : am_Rg (am_PX sL xs) (am_ZQ Q) d Y b 0 ls [] S I) : ∀ (g : am_G) (l : Launch), Met l Y.1 (.code Y.1 Y.2.2.1 Y.2.2.2.2 Y.2.2.2.1 :: am_gw) (am_rm d b) (fun v U => am_Pc g as S I v U ∧ scX sL xs g U) (am_Qc g Q) b.1 b.2 (am_A g) := by
  intro g l
  refine Met.ofW (cc := Y.2.2.1) (maxL := Y.2.2.2.2) (ret := Y.2.2.2.1) hy.1 rfl ?_
  intro p e s m args below meth c s₁ B hml hv
  obtain ⟨⟨rfl, hW, hH⟩, hX⟩ := hv
  have hts := atoms_spec (ws := .code Y.1 Y.2.2.1 Y.2.2.2.2 Y.2.2.2.1 :: am_gw) B.pre
  have hown : s.vm.findClass (am_R Y.2.1) = some m.cls := by rw [← hy.2]; exact findClass_of_methodNamed B.named
  rw [lg_entry_eq]
  refine h g p l e _ s m _ below meth c s.heap [] 0 0 b.1 b.2 _ hX ⟨⟨B.exec, B.bytes, hml, hown, fun w hw => hts w (List.mem_cons_of_mem _ hw)⟩, ⟨B.returns, B.notSynchronized, (name_of_methodNamed B.named B.method).1⟩, ⟨Nat.le_refl _, Nat.le_refl _, Nat.le_refl _, Nat.le_refl _⟩, ⟨Nat.zero_add _, Nat.zero_add _⟩, hW, va_S.rf, hH⟩ ⟨?_, _, lv_entry (as.map (am_v g)) (by rw [am_ent_len]; exact hl), ?_⟩
  · rw [← hls]
    simp
    omega
  · intro i v hv
    rw [← hls] at hv
    have hv' : (am_ent as)[i]? = some (some v) := by
      by_cases hi : i < (am_ent as).length
      · rwa [List.getElem?_append_left hi] at hv
      · rw [List.getElem?_append_right (by omega)] at hv
        exact absurd (List.eq_of_mem_replicate (List.mem_of_getElem? hv)) (by simp)
    have := am_ent_in g as 0 i v hv'
    rwa [Nat.zero_add] at this
variable {Z : am_Y} {d' n i : Nat} {as stk : List Value} {Q' : Option Value → am_S → am_I → Prop}
theorem lr_callX (hP : ∀ g R s args mc ms, P g R s args mc ms → scX sL xs g s) (hdg : decode Y.2.2.1 pc = .ok (.invokestatic i, 3)) (hc : am_cS Y.2.1 i Z n) (hM : ∀ (g : am_G) (l : Launch), Met l Z.1 (.code Z.1 Z.2.2.1 Z.2.2.2.2 Z.2.2.2.1 :: am_gw) (am_rm d' (0, 0)) (fun v U => am_Pc g as S I v U ∧ scX sL xs g U) (am_Qc g Q') 0 0 (am_A g)) (hd : d' < d) (hn : as.length = n) (hs : as.reverse ++ st = stk) (hr : (st.map fun v => v.category).sum ≤ 8)
    (kk : ∀ r S' I', Q' r S' I' → am_Rg P Zf d Y b (pc + 3) ls (r.toList ++ st) S' I') : am_Rg P Zf d Y b pc ls stk S I := by
  intro g p l e R s m args below meth c H locs cells slots mc ms cl X C L
  obtain ⟨hF, hMm, hR, hB, hW, hS, hH⟩ := id C
  have cw := callB_of (R := R) (rm := am_rm d' (0, 0)) (mc := 0) (ms := 0) n hF.2.2.2.2 (am_gin hc.1) rfl rfl rfl (hF.2.2.2.2 _ hc.1.2.1) (hF.2.2.2.2 _ hc.2.1) hc.1.2.2.1 ⟨by show d' + 1 ≤ _; omega, by have := hc.1.2.2.2; show 8 + (Z.2.2.2.2 + 11) + 60 * d' ≤ _; omega⟩
  refine am_after (va_runS (As := as.map (am_v g)) (rest := st.map (am_v g)) hF (hM g l) ⟨cw, hF.2.2.2.2 _ hc.2.2⟩ ⟨fun _ _ f mk h => ⟨am_Pc.blind g as S I _ _ f mk h.1, va_X.moved (Vm.Alike.refl _) h.2.1, h.2.2⟩, fun U hU hv => ⟨am_pre hW hS hH U hU hv, (hP _ _ _ _ _ _ X).moved hv hU hS⟩⟩ rfl (by simpa using hn) L.size (by rw [← hs]; simp) (lv_room (by rw [am_cat]; exact hr)) hdg ⟨by omega, by omega⟩) hS (fun r S' I' H1 locs1 hq hH1 hS1 => ?_)
  have := kk r S' I' hq g p l e R s m args below meth c H1 locs1 cells slots mc ms cl X ⟨hF, hMm, hR, hB, hW, hS1, hH1⟩ L
  cases r <;> exact this
end SC
theorem am_Rn.rg {P : am_G → Room → State → Array Value → Nat → Nat → Prop} {d : Nat} {Y : am_Y} {b : Nat × Nat} {pc : Nat} {ls : List (Option Value)} {st : List Value} {S : am_S} {I : am_I} {Q : Option Value → am_S → am_I → Prop} (h : am_Rn d Y b pc ls st S I Q) : am_Rg P (am_ZQ Q) d Y b pc ls st S I := by
  intro g p l e R s m args below meth c H locs cells slots mc ms cl X C L
  exact h g p l e R s m args below meth c H locs cells slots mc ms cl C L
/-- the script's int k, 0 behind its end -/
def scV (sL : Nat) (xs : Nat → Int32) (k : Nat) : Int32 := if k < sL then xs k else nI 0
set_option maxHeartbeats 1000000 in
set_option maxRecDepth 100000 in
theorem c_L_cell {sL : Nat} {xs : Nat → Int32} (hs : sL < 2147483648) {S : am_S} {I : am_I} {k : Nat} (hk : k < 2147483648) : ∀ (g : am_G) (l : Launch), Met l Y_L_cell.1 (.code Y_L_cell.1 Y_L_cell.2.2.1 Y_L_cell.2.2.2.2 Y_L_cell.2.2.2.1 :: am_gw) (am_rm 0 (0, 0)) (fun v U => am_Pc g [.ref (2 * am_B + 10), .int (nI k)] S I v U ∧ scX sL xs g U) (am_Qc g (am_q (some (.int (scV sL xs k))) S I)) 0 0 (am_A g) := by
  have hP : ∀ (g : am_G) (R : Room) (s : State) (args : Array Value) (mc ms : Nat), am_PX sL xs g R s args mc ms → scX sL xs g s := fun _ _ _ _ _ _ h => h
  refine am_mtX (Y := Y_L_cell) (d := 0) (b := (0, 0)) (as := [.ref (2 * am_B + 10), .int (nI k)]) (ls := [some (.ref (2 * am_B + 10)), some (.int (nI k))]) ⟨by decide +kernel, rfl⟩ (Nat.le_of_ble_eq_true rfl) rfl ?_
  refine lr_iload_n dL_cell_0 rfl rfl ?_
  refine lr_aload_n dL_cell_1 rfl rfl ?_
  refine lr_slen hP dL_cell_2 ?_
  refine lr_icmp_ge (tgt := 12) dL_cell_3 (by decide) (fun c_3 => ?_) (fun c_3 => ?_)
  · refine lr_iconst (v := nI 0) dL_cell_12 (by decide) ?_
    refine am_Rn.rg (rn_ireturn dL_cell_13 rfl (vp_nar_int _) ?_)
    rw [nI_leI hs hk] at c_3
    exact ⟨by unfold scV; rw [if_neg (by omega)], rfl, rfl⟩
  · rw [nI_leI hs hk] at c_3
    refine lr_aload_n dL_cell_6 rfl rfl ?_
    refine lr_iload_n dL_cell_7 rfl rfl ?_
    refine lr_sload hP dL_cell_8 (by omega) hs ?_
    refine lr_goto (tgt := 13) dL_cell_9 (by decide) ?_
    refine am_Rn.rg (rn_ireturn dL_cell_13 rfl (vp_nar_int _) ?_)
    exact ⟨by unfold scV; rw [if_pos (by omega)], rfl, rfl⟩
abbrev Y_L_law : am_Y := (yL_law, 9, cL_law, ret, 4)
/-- what holds all through the law -/
def am_PL (sL : Nat) (xs : Nat → Int32) : am_G → Room → State → Array Value → Nat → Nat → Prop := fun g R s args mc ms => R = room_1 ∧ scX sL xs g s ∧ g.1 = s.heap.size ∧ args = #[Value.ref (g.2.2.2.2 10)] ∧ mc = 600000 ∧ ms = 7302250
def am_ZL : am_G → List Frame → Array Value → State → Nat → Nat → State → Prop := fun _ below args s _ _ => lw_Z below args s
theorem am_PL.sc {sL : Nat} {xs : Nat → Int32} : ∀ g R s args mc ms, am_PL sL xs g R s args mc ms → scX sL xs g s := fun _ _ _ _ _ _ h => h.2.1
theorem lr_end {sL : Nat} {xs : Nat → Int32} {d : Nat} {b : Nat × Nat} {pc : Nat} {ls : List (Option Value)} {S : am_S} {I : am_I} (hdg : decode code pc = .ok (.ireturn, 1)) : am_Rg (am_PL sL xs) am_ZL d Y_L_law b pc ls [.int (nI 1)] S I := by
  intro g p l e R s m args below meth c H locs cells slots mc ms cl X C L
  obtain ⟨rfl, hx, hg, rfl, rfl, rfl⟩ := X
  obtain ⟨hF, hM, hR, hB, hW, hS, hH⟩ := C
  refine va_forget (fun q hq => by rw [← hg]; exact hS.2.2 q hq) (W.widen (k := 600000) (n := 7302250) (by omega) (by omega) ?_)
  exact lw_ret hF.1 hF.2.1 hM.1 hM.2.1 hdg
