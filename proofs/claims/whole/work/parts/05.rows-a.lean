section AMROWS
variable {d : Nat} {Y : am_Y} {b : Nat × Nat} {pc : Nat} {ls : List (Option Value)} {st : List Value} {S : am_S} {I : am_I} {Q : Option Value → am_S → am_I → Prop}
theorem rn_iconst {n : Int} {v : Int32} (hdg : decode Y.2.2.1 pc = .ok (.iconst n, 1)) (hv : Int32.ofInt n = v) (k : am_Rn d Y b (pc + 1) ls (.int v :: st) S I Q) : am_Rn d Y b pc ls (st) S I Q := by
  intro g p l e R s m args below meth c H locs cells slots mc ms cl C L
  exact lv_iconst C.1.1 C.1.2.1 hdg hv (k g p l e R s m args below meth c H locs cells slots mc ms cl C L)
theorem rn_bipush {n : Int} {v : Int32} (hdg : decode Y.2.2.1 pc = .ok (.bipush n, 2)) (hv : (Int8.ofInt n).toInt32 = v) (k : am_Rn d Y b (pc + 2) ls (.int v :: st) S I Q) : am_Rn d Y b pc ls (st) S I Q := by
  intro g p l e R s m args below meth c H locs cells slots mc ms cl C L
  exact lv_bipush C.1.1 C.1.2.1 hdg hv (k g p l e R s m args below meth c H locs cells slots mc ms cl C L)
theorem rn_sipush {n : Int} {v : Int32} (hdg : decode Y.2.2.1 pc = .ok (.sipush n, 3)) (hv : (Int16.ofInt n).toInt32 = v) (k : am_Rn d Y b (pc + 3) ls (.int v :: st) S I Q) : am_Rn d Y b pc ls (st) S I Q := by
  intro g p l e R s m args below meth c H locs cells slots mc ms cl C L
  exact lv_sipush C.1.1 C.1.2.1 hdg hv (k g p l e R s m args below meth c H locs cells slots mc ms cl C L)
theorem rn_lconst {n : Fin 2} {v : Int64} (hdg : decode Y.2.2.1 pc = .ok (.lconst n, 1)) (hv : Int64.ofNat (n : Nat) = v) (k : am_Rn d Y b (pc + 1) ls (.long v :: st) S I Q) : am_Rn d Y b pc ls (st) S I Q := by
  intro g p l e R s m args below meth c H locs cells slots mc ms cl C L
  exact lv_lconst C.1.1 C.1.2.1 hdg hv (k g p l e R s m args below meth c H locs cells slots mc ms cl C L)
theorem rn_iload_n {n : Fin 4} {i : Nat} {x : Int32} (hdg : decode Y.2.2.1 pc = .ok (.iload_n n, 1)) (hi : (n : Nat) = i) (hl : ls[i]? = some (some (.int x))) (k : am_Rn d Y b (pc + 1) ls (.int x :: st) S I Q) : am_Rn d Y b pc ls (st) S I Q := by
  intro g p l e R s m args below meth c H locs cells slots mc ms cl C L
  exact lv_iload_n C.1.1 C.1.2.1 hdg hi (L.at hl) (k g p l e R s m args below meth c H locs cells slots mc ms cl C L)
theorem rn_iload {i : Nat} {x : Int32} (hdg : decode Y.2.2.1 pc = .ok (.iload i, 2)) (hl : ls[i]? = some (some (.int x))) (k : am_Rn d Y b (pc + 2) ls (.int x :: st) S I Q) : am_Rn d Y b pc ls (st) S I Q := by
  intro g p l e R s m args below meth c H locs cells slots mc ms cl C L
  exact lv_iload C.1.1 C.1.2.1 hdg (L.at hl) (k g p l e R s m args below meth c H locs cells slots mc ms cl C L)
theorem rn_lload_n {n : Fin 4} {i : Nat} {x : Int64} (hdg : decode Y.2.2.1 pc = .ok (.lload_n n, 1)) (hi : (n : Nat) = i) (hl : ls[i]? = some (some (.long x))) (k : am_Rn d Y b (pc + 1) ls (.long x :: st) S I Q) : am_Rn d Y b pc ls (st) S I Q := by
  intro g p l e R s m args below meth c H locs cells slots mc ms cl C L
  exact lv_lload_n C.1.1 C.1.2.1 hdg hi (L.at hl) (k g p l e R s m args below meth c H locs cells slots mc ms cl C L)
theorem rn_aload_n {n : Fin 4} {i : Nat} {x : Nat} (hdg : decode Y.2.2.1 pc = .ok (.aload_n n, 1)) (hi : (n : Nat) = i) (hl : ls[i]? = some (some (.ref x))) (k : am_Rn d Y b (pc + 1) ls (.ref x :: st) S I Q) : am_Rn d Y b pc ls (st) S I Q := by
  intro g p l e R s m args below meth c H locs cells slots mc ms cl C L
  exact lv_aload_n C.1.1 C.1.2.1 hdg hi (L.at hl) (k g p l e R s m args below meth c H locs cells slots mc ms cl C L)
theorem rn_aload {i : Nat} {x : Nat} (hdg : decode Y.2.2.1 pc = .ok (.aload i, 2)) (hl : ls[i]? = some (some (.ref x))) (k : am_Rn d Y b (pc + 2) ls (.ref x :: st) S I Q) : am_Rn d Y b pc ls (st) S I Q := by
  intro g p l e R s m args below meth c H locs cells slots mc ms cl C L
  exact lv_aload C.1.1 C.1.2.1 hdg (L.at hl) (k g p l e R s m args below meth c H locs cells slots mc ms cl C L)
theorem rn_aload_nN {n : Fin 4} {i : Nat} (hdg : decode Y.2.2.1 pc = .ok (.aload_n n, 1)) (hi : (n : Nat) = i) (hl : ls[i]? = some (some .null)) (k : am_Rn d Y b (pc + 1) ls (.null :: st) S I Q) : am_Rn d Y b pc ls (st) S I Q := by
  intro g p l e R s m args below meth c H locs cells slots mc ms cl C L
  exact lv_aload_nN C.1.1 C.1.2.1 hdg hi (L.at hl) (k g p l e R s m args below meth c H locs cells slots mc ms cl C L)
theorem rn_iadd {x y : Int32} (hdg : decode Y.2.2.1 pc = .ok (.iadd, 1)) (k : am_Rn d Y b (pc + 1) ls (.int (x + y) :: st) S I Q) : am_Rn d Y b pc ls (.int y :: .int x :: st) S I Q := by
  intro g p l e R s m args below meth c H locs cells slots mc ms cl C L
  exact lv_iadd C.1.1 C.1.2.1 hdg (k g p l e R s m args below meth c H locs cells slots mc ms cl C L)
theorem rn_isub {x y : Int32} (hdg : decode Y.2.2.1 pc = .ok (.isub, 1)) (k : am_Rn d Y b (pc + 1) ls (.int (x - y) :: st) S I Q) : am_Rn d Y b pc ls (.int y :: .int x :: st) S I Q := by
  intro g p l e R s m args below meth c H locs cells slots mc ms cl C L
  exact lv_isub C.1.1 C.1.2.1 hdg (k g p l e R s m args below meth c H locs cells slots mc ms cl C L)
theorem rn_imul {x y : Int32} (hdg : decode Y.2.2.1 pc = .ok (.imul, 1)) (k : am_Rn d Y b (pc + 1) ls (.int (x * y) :: st) S I Q) : am_Rn d Y b pc ls (.int y :: .int x :: st) S I Q := by
  intro g p l e R s m args below meth c H locs cells slots mc ms cl C L
  exact lv_imul C.1.1 C.1.2.1 hdg (k g p l e R s m args below meth c H locs cells slots mc ms cl C L)
theorem rn_iand {x y : Int32} (hdg : decode Y.2.2.1 pc = .ok (.iand, 1)) (k : am_Rn d Y b (pc + 1) ls (.int (x &&& y) :: st) S I Q) : am_Rn d Y b pc ls (.int y :: .int x :: st) S I Q := by
  intro g p l e R s m args below meth c H locs cells slots mc ms cl C L
  exact lv_iand C.1.1 C.1.2.1 hdg (k g p l e R s m args below meth c H locs cells slots mc ms cl C L)
theorem rn_idiv {x y : Int32} (hdg : decode Y.2.2.1 pc = .ok (.idiv, 1)) (hne : ¬ y = 0) (k : am_Rn d Y b (pc + 1) ls (.int (x / y) :: st) S I Q) : am_Rn d Y b pc ls (.int y :: .int x :: st) S I Q := by
  intro g p l e R s m args below meth c H locs cells slots mc ms cl C L
  exact lv_idiv C.1.1 C.1.2.1 hdg hne (k g p l e R s m args below meth c H locs cells slots mc ms cl C L)
theorem rn_irem {x y : Int32} (hdg : decode Y.2.2.1 pc = .ok (.irem, 1)) (hne : ¬ y = 0) (k : am_Rn d Y b (pc + 1) ls (.int (x - x / y * y) :: st) S I Q) : am_Rn d Y b pc ls (.int y :: .int x :: st) S I Q := by
  intro g p l e R s m args below meth c H locs cells slots mc ms cl C L
  exact lv_irem C.1.1 C.1.2.1 hdg hne (k g p l e R s m args below meth c H locs cells slots mc ms cl C L)
theorem rn_ineg {x : Int32} (hdg : decode Y.2.2.1 pc = .ok (.ineg, 1)) (k : am_Rn d Y b (pc + 1) ls (.int (-x) :: st) S I Q) : am_Rn d Y b pc ls (.int x :: st) S I Q := by
  intro g p l e R s m args below meth c H locs cells slots mc ms cl C L
  exact lv_ineg C.1.1 C.1.2.1 hdg (k g p l e R s m args below meth c H locs cells slots mc ms cl C L)
theorem rn_ishr {x y : Int32} (hdg : decode Y.2.2.1 pc = .ok (.ishr, 1)) (k : am_Rn d Y b (pc + 1) ls (.int (x >>> (y &&& 31)) :: st) S I Q) : am_Rn d Y b pc ls (.int y :: .int x :: st) S I Q := by
  intro g p l e R s m args below meth c H locs cells slots mc ms cl C L
  exact lv_ishr C.1.1 C.1.2.1 hdg (k g p l e R s m args below meth c H locs cells slots mc ms cl C L)
theorem rn_iushr {x y v : Int32} (hdg : decode Y.2.2.1 pc = .ok (.iushr, 1)) (hv : (x.toUInt32 >>> (y.toUInt32 &&& Int32.toUInt32 31)).toInt32 = v) (k : am_Rn d Y b (pc + 1) ls (.int v :: st) S I Q) : am_Rn d Y b pc ls (.int y :: .int x :: st) S I Q := by
  intro g p l e R s m args below meth c H locs cells slots mc ms cl C L
  exact lv_iushr C.1.1 C.1.2.1 hdg hv (k g p l e R s m args below meth c H locs cells slots mc ms cl C L)
theorem rn_i2l {x : Int32} (hdg : decode Y.2.2.1 pc = .ok (.i2l, 1)) (k : am_Rn d Y b (pc + 1) ls (.long x.toInt64 :: st) S I Q) : am_Rn d Y b pc ls (.int x :: st) S I Q := by
  intro g p l e R s m args below meth c H locs cells slots mc ms cl C L
  exact lv_i2l C.1.1 C.1.2.1 hdg rfl (k g p l e R s m args below meth c H locs cells slots mc ms cl C L)
theorem rn_i2b {x : Int32} (hdg : decode Y.2.2.1 pc = .ok (.i2b, 1)) (k : am_Rn d Y b (pc + 1) ls (.int x.toInt8.toInt32 :: st) S I Q) : am_Rn d Y b pc ls (.int x :: st) S I Q := by
  intro g p l e R s m args below meth c H locs cells slots mc ms cl C L
  exact lv_i2b C.1.1 C.1.2.1 hdg rfl (k g p l e R s m args below meth c H locs cells slots mc ms cl C L)
theorem rn_lshl {x : Int64} {y : Int32} (hdg : decode Y.2.2.1 pc = .ok (.lshl, 1)) (k : am_Rn d Y b (pc + 1) ls (.long (x <<< (y.toInt64 &&& 63)) :: st) S I Q) : am_Rn d Y b pc ls (.int y :: .long x :: st) S I Q := by
  intro g p l e R s m args below meth c H locs cells slots mc ms cl C L
  exact lv_lshl C.1.1 C.1.2.1 hdg rfl (k g p l e R s m args below meth c H locs cells slots mc ms cl C L)
theorem rn_lor {x y : Int64} (hdg : decode Y.2.2.1 pc = .ok (.lor, 1)) (k : am_Rn d Y b (pc + 1) ls (.long (x ||| y) :: st) S I Q) : am_Rn d Y b pc ls (.long y :: .long x :: st) S I Q := by
  intro g p l e R s m args below meth c H locs cells slots mc ms cl C L
  exact lv_lor C.1.1 C.1.2.1 hdg (k g p l e R s m args below meth c H locs cells slots mc ms cl C L)
theorem rn_lcmp {x y : Int64} (hdg : decode Y.2.2.1 pc = .ok (.lcmp, 1)) (k : am_Rn d Y b (pc + 1) ls (.int (lg_cmp x y) :: st) S I Q) : am_Rn d Y b pc ls (.long y :: .long x :: st) S I Q := by
  intro g p l e R s m args below meth c H locs cells slots mc ms cl C L
  exact W.lcmp C.1.1 C.1.2.1 hdg (k g p l e R s m args below meth c H locs cells slots mc ms cl C L)
theorem rn_dup {v : Value} (hdg : decode Y.2.2.1 pc = .ok (.dup, 1)) (hv : v.category = 1) (k : am_Rn d Y b (pc + 1) ls (v :: v :: st) S I Q) : am_Rn d Y b pc ls (v :: st) S I Q := by
  intro g p l e R s m args below meth c H locs cells slots mc ms cl C L
  exact lv_dup C.1.1 C.1.2.1 hdg ((am_v_cat g v).trans hv) (k g p l e R s m args below meth c H locs cells slots mc ms cl C L)
theorem rn_pop {v : Value} (hdg : decode Y.2.2.1 pc = .ok (.pop, 1)) (hv : v.category = 1) (k : am_Rn d Y b (pc + 1) ls (st) S I Q) : am_Rn d Y b pc ls (v :: st) S I Q := by
  intro g p l e R s m args below meth c H locs cells slots mc ms cl C L
  exact lv_pop C.1.1 C.1.2.1 hdg ((am_v_cat g v).trans hv) (k g p l e R s m args below meth c H locs cells slots mc ms cl C L)
theorem rn_ldc2 {i : Nat} {v : Int64} (hdg : decode Y.2.2.1 pc = .ok (.ldc2_w i, 3)) (hw : Jvm.Cond.constantLong (am_R Y.2.1) i v ∈ am_gw) (k : am_Rn d Y b (pc + 3) ls (.long v :: st) S I Q) : am_Rn d Y b pc ls (st) S I Q := by
  intro g p l e R s m args below meth c H locs cells slots mc ms cl C L
  exact lv_ldc2 C.1.1 C.1.2.1 C.1.2.2.2.1 (C.1.2.2.2.2 _ hw) hdg (k g p l e R s m args below meth c H locs cells slots mc ms cl C L)
theorem am_c1 {g : am_G} {ls : List (Option Value)} {lv : List (Nat × Value)} {i : Nat} {x : Value} (h2 : ∀ (j : Nat) (v : Value), ls[j]? = some (some v) → (j, am_v g v) ∈ lv) (hc : ∀ (j : Nat) (v : Value), j + 1 = i → ls[j]? = some (some v) → v.category = 1) :
    ∀ (j : Nat) (v : Value), (ls.set i (some x))[j]? = some (some v) → (j, am_v g v) ∈ (i, am_v g x) :: lv.filter (fun q => !(q.1 == i) && !(q.1 + 1 == i && q.2.category == 2)) := by
  intro j v hv
  by_cases hj : j = i
  · subst hj
    rw [List.getElem?_set] at hv
    simp only [if_true] at hv
    split at hv
    · simp only [Option.some.injEq] at hv
      subst hv
      exact List.mem_cons_self
    · cases hv
  · rw [List.getElem?_set_ne (fun h => hj h.symm)] at hv
    refine List.mem_cons_of_mem _ (List.mem_filter.mpr ⟨h2 j v hv, ?_⟩)
    have h1 : (j == i) = false := by simpa using hj
    by_cases hji : j + 1 = i
    · have hcv := hc j v hji hv
      simp [h1, am_v_cat, hcv]
    · have h3 : (j + 1 == i) = false := by simpa using hji
      simp [h1, h3]
/-- the place before i holds no wide value -/
def am_ok1 (ls : List (Option Value)) (i : Nat) : Bool := match i with
  | 0 => true
  | j + 1 => match ls[j]? with
    | some (some v) => v.category == 1
    | _ => true
theorem am_ok1_spec {ls : List (Option Value)} {i : Nat} (h : am_ok1 ls i = true) : ∀ (j : Nat) (v : Value), j + 1 = i → ls[j]? = some (some v) → v.category = 1 := by
  intro j v hj hv
  subst hj
  simp only [am_ok1, hv] at h
  simpa using h
theorem rn_istore_n {i : Nat} {ls' : List (Option Value)} {n : Fin 4} {x : Int32} (hdg : decode Y.2.2.1 pc = .ok (.istore_n n, 1)) (hi : (n : Nat) = i) (hn : i < Y.2.2.2.2) (hc : am_ok1 ls i = true) (hs : ls.set i (some (.int x)) = ls') (k : am_Rn d Y b (pc + 1) ls' st S I Q) : am_Rn d Y b pc ls (.int x :: st) S I Q := by
  intro g p l e R s m args below meth c H locs cells slots mc ms cl C L
  obtain ⟨h0, lv, h1, h2⟩ := L
  subst hs
  exact lv_istore_n C.1.1 C.1.2.1 hdg hi h1 hn rfl (fun cl' h' => k g p l e R s m args below meth c H locs cells slots mc ms cl' C ⟨by simpa using h0, _, h', am_c1 h2 (am_ok1_spec hc)⟩)
theorem rn_istore {i : Nat} {ls' : List (Option Value)} {x : Int32} (hdg : decode Y.2.2.1 pc = .ok (.istore i, 2)) (hn : i < Y.2.2.2.2) (hc : am_ok1 ls i = true) (hs : ls.set i (some (.int x)) = ls') (k : am_Rn d Y b (pc + 2) ls' st S I Q) : am_Rn d Y b pc ls (.int x :: st) S I Q := by
  intro g p l e R s m args below meth c H locs cells slots mc ms cl C L
  obtain ⟨h0, lv, h1, h2⟩ := L
  subst hs
  exact lv_istore C.1.1 C.1.2.1 hdg h1 hn rfl (fun cl' h' => k g p l e R s m args below meth c H locs cells slots mc ms cl' C ⟨by simpa using h0, _, h', am_c1 h2 (am_ok1_spec hc)⟩)
theorem rn_astore_n {i : Nat} {ls' : List (Option Value)} {n : Fin 4} {x : Nat} (hdg : decode Y.2.2.1 pc = .ok (.astore_n n, 1)) (hi : (n : Nat) = i) (hn : i < Y.2.2.2.2) (hc : am_ok1 ls i = true) (hs : ls.set i (some (.ref x)) = ls') (k : am_Rn d Y b (pc + 1) ls' st S I Q) : am_Rn d Y b pc ls (.ref x :: st) S I Q := by
  intro g p l e R s m args below meth c H locs cells slots mc ms cl C L
  obtain ⟨h0, lv, h1, h2⟩ := L
  subst hs
  exact lv_astore_n C.1.1 C.1.2.1 hdg hi h1 hn rfl (fun cl' h' => k g p l e R s m args below meth c H locs cells slots mc ms cl' C ⟨by simpa using h0, _, h', am_c1 h2 (am_ok1_spec hc)⟩)
theorem rn_astore {i : Nat} {ls' : List (Option Value)} {x : Nat} (hdg : decode Y.2.2.1 pc = .ok (.astore i, 2)) (hn : i < Y.2.2.2.2) (hc : am_ok1 ls i = true) (hs : ls.set i (some (.ref x)) = ls') (k : am_Rn d Y b (pc + 2) ls' st S I Q) : am_Rn d Y b pc ls (.ref x :: st) S I Q := by
  intro g p l e R s m args below meth c H locs cells slots mc ms cl C L
  obtain ⟨h0, lv, h1, h2⟩ := L
  subst hs
  exact lv_astore C.1.1 C.1.2.1 hdg h1 hn rfl (fun cl' h' => k g p l e R s m args below meth c H locs cells slots mc ms cl' C ⟨by simpa using h0, _, h', am_c1 h2 (am_ok1_spec hc)⟩)
theorem rn_astore_nN {i : Nat} {ls' : List (Option Value)} {n : Fin 4} (hdg : decode Y.2.2.1 pc = .ok (.astore_n n, 1)) (hi : (n : Nat) = i) (hn : i < Y.2.2.2.2) (hc : am_ok1 ls i = true) (hs : ls.set i (some (.null)) = ls') (k : am_Rn d Y b (pc + 1) ls' st S I Q) : am_Rn d Y b pc ls (.null :: st) S I Q := by
  intro g p l e R s m args below meth c H locs cells slots mc ms cl C L
  obtain ⟨h0, lv, h1, h2⟩ := L
  subst hs
  exact lv_astore_nN C.1.1 C.1.2.1 hdg hi h1 hn rfl (fun cl' h' => k g p l e R s m args below meth c H locs cells slots mc ms cl' C ⟨by simpa using h0, _, h', am_c1 h2 (am_ok1_spec hc)⟩)
theorem rn_iinc {i : Nat} {n : Int} {x v : Int32} {ls' : List (Option Value)} (hdg : decode Y.2.2.1 pc = .ok (.iinc i n, 3)) (hl : ls[i]? = some (some (.int x))) (hv : x + Int32.ofInt n = v) (hn : i < Y.2.2.2.2) (hc : am_ok1 ls i = true) (hs : ls.set i (some (.int v)) = ls') (k : am_Rn d Y b (pc + 3) ls' st S I Q) : am_Rn d Y b pc ls st S I Q := by
  intro g p l e R s m args below meth c H locs cells slots mc ms cl C L
  obtain ⟨h0, lv, h1, h2⟩ := L
  subst hs
  obtain ⟨q, hq⟩ := List.getElem?_of_mem (h2 i _ hl)
  exact lv_iinc C.1.1 C.1.2.1 hdg h1 hq hv hn rfl (fun cl' h' => k g p l e R s m args below meth c H locs cells slots mc ms cl' C ⟨by simpa using h0, _, h', am_c1 (x := .int v) h2 (am_ok1_spec hc)⟩)
theorem rn_lstore_n {n : Fin 4} {i : Nat} {x : Int64} {ls' : List (Option Value)} (hdg : decode Y.2.2.1 pc = .ok (.lstore_n n, 1)) (hi : (n : Nat) = i) (hn : i + 1 < Y.2.2.2.2) (hc : am_ok1 ls i = true) (hs : (ls.set i (some (.long x))).set (i + 1) none = ls') (k : am_Rn d Y b (pc + 1) ls' st S I Q) : am_Rn d Y b pc ls (.long x :: st) S I Q := by
  intro g p l e R s m args below meth c H locs cells slots mc ms cl C L
  obtain ⟨h0, lv, h1, h2⟩ := L
  subst hs
  refine lv_lstore_n C.1.1 C.1.2.1 hdg hi h1 hn rfl (fun cl' h' => k g p l e R s m args below meth c H locs cells slots mc ms cl' C ⟨by simpa using h0, _, h', ?_⟩)
  intro j v hv
  by_cases hj : j = i + 1
  · subst hj
    rw [List.getElem?_set] at hv
    simp only [if_true] at hv
    split at hv <;> cases hv
  · rw [List.getElem?_set_ne (fun h => hj h.symm)] at hv
    have := am_c1 (x := .long x) h2 (am_ok1_spec hc) j v hv
    rcases List.mem_cons.mp this with h | h
    · rw [h]; exact List.mem_cons_self
    · obtain ⟨h3, h4⟩ := List.mem_filter.mp h
      refine List.mem_cons_of_mem _ (List.mem_filter.mpr ⟨h3, ?_⟩)
      have h5 : (j == i + 1) = false := by simpa using hj
      simp only [h5, Bool.not_false, Bool.true_and]
      exact h4
end AMROWS
