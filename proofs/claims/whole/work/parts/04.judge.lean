/-! THE JUDGEMENT. The cells that the law has made since its start are numbered 0, 1, 2 ..; a number stands for the cell at that distance from the heap's old end. A world: how many cells, the kind of each (an array of numbers with its type and length, an array of references with its length, an object with the number of its kind in vwCl), the references (by cell and place), the numbers (by cell and place). -/
abbrev am_Kd : Type := (Nat × Nat) ⊕ (Nat ⊕ Nat)
abbrev am_S : Type := Nat × (Nat → am_Kd) × (Nat → Nat → Option Nat)
abbrev am_I : Type := Nat → Nat → Int32
/-- what a run has fixed: the heap's old end, the numbers of the kinds and slots, the array kinds, the places of the text constants and of their bytes -/
abbrev am_G : Type := Nat × va_G × (Nat → ClassId) × (Nat → Nat) × (Nat → Nat)
/-- a method: its name, the number of its owner, its bytes, what it returns, how many places its frame has -/
abbrev am_Y : Type := MethodName × Nat × ByteArray × Option FieldType × Nat
def am_B : Nat := 1000000
def am_ad (g : am_G) (k : Nat) : Nat := if k < am_B then g.1 + k else if k < 2 * am_B then g.2.2.2.1 (k - am_B) else g.2.2.2.2 (k - 2 * am_B)
def am_v (g : am_G) : Value → Value
  | .ref k => .ref (am_ad g k)
  | .int x => .int x
  | .long x => .long x
  | .null => .null
  | .float x => .float x
  | .double x => .double x
  | .retAddr x => .retAddr x
theorem am_v_cat (g : am_G) (v : Value) : (am_v g v).category = v.category := by cases v <;> rfl
def am_R (c : Nat) : String := match c with
  | 0 => RX0
  | 1 => RX1
  | 2 => RX2
  | 3 => RX3
  | 4 => RX4
  | 5 => RX5
  | 6 => RX6
  | 7 => RX7
  | 8 => RX8
  | 9 => RL
  | 10 => RJ7
  | 11 => RJ0
  | 12 => RJ1
  | 13 => RJ3
  | _ => RJ9
def am_T (c : Nat) : u_T := match c with
  | 0 => TX0
  | 1 => TX1
  | 2 => TX2
  | 3 => TX3
  | 4 => TX4
  | 5 => TX5
  | 6 => TX6
  | 7 => TX7
  | _ => TX8
def am_ty (c : Nat) : Nat → FieldType := match c with
  | 0 => tyX0
  | 1 => tyX1
  | 2 => tyX2
  | 3 => tyX3
  | 4 => tyX4
  | 5 => tyX5
  | 6 => tyX6
  | 7 => tyX7
  | _ => tyX8
def am_n (c : Nat) : Nat := match c with
  | 0 => 3
  | 1 => 4
  | 2 => 5
  | 3 => 5
  | 4 => 5
  | 5 => 5
  | 6 => 6
  | 7 => 11
  | _ => 30
theorem am_cl {c : Nat} (h : c < 9) : vwCl[c]? = some (am_R c, am_T c, am_n c) := by
  rcases (show c = 0 ∨ c = 1 ∨ c = 2 ∨ c = 3 ∨ c = 4 ∨ c = 5 ∨ c = 6 ∨ c = 7 ∨ c = 8 by omega) with rfl | rfl | rfl | rfl | rfl | rfl | rfl | rfl | rfl <;> rfl
theorem am_tyok {c : Nat} (h : c < 9) : ∀ k, k < am_n c → parseFieldDescriptor (am_T c k).2.2.1 = some (am_ty c k) := by
  rcases (show c = 0 ∨ c = 1 ∨ c = 2 ∨ c = 3 ∨ c = 4 ∨ c = 5 ∨ c = 6 ∨ c = 7 ∨ c = 8 by omega) with rfl | rfl | rfl | rfl | rfl | rfl | rfl | rfl | rfl
  · exact tyX0_ok
  · exact tyX1_ok
  · exact tyX2_ok
  · exact tyX3_ok
  · exact tyX4_ok
  · exact tyX5_ok
  · exact tyX6_ok
  · exact tyX7_ok
  · exact tyX8_ok
theorem am_nmok {c : Nat} (h : c < 9) : ∀ a, a < am_n c → ∀ b, b < am_n c → a ≠ b → (am_T c a).2.1 ≠ (am_T c b).2.1 := by
  rcases (show c = 0 ∨ c = 1 ∨ c = 2 ∨ c = 3 ∨ c = 4 ∨ c = 5 ∨ c = 6 ∨ c = 7 ∨ c = 8 by omega) with rfl | rfl | rfl | rfl | rfl | rfl | rfl | rfl | rfl
  · exact nmX0
  · exact nmX1
  · exact nmX2
  · exact nmX3
  · exact nmX4
  · exact nmX5
  · exact nmX6
  · exact nmX7
  · exact nmX8
/-- the words that every method is given -/
def am_gw : List Cond := lw_tbl.filter goodWord
theorem am_gwm {w : Cond} (h : w ∈ lw_tbl) (hg : goodWord w = true) : w ∈ am_gw := List.mem_filter.mpr ⟨h, hg⟩
theorem am_gwt {w : Cond} (h : w ∈ am_gw) : w ∈ lw_tbl := (List.mem_filter.mp h).1
theorem am_good {w : Cond} (h : w ∈ am_gw) : w ∈ am_gw ∧ ((w.onTables && w.keeps) = true ∨ ∃ ty, w = .arrayClass ty) := ⟨h, good_of_word (List.mem_filter.mp h).2⟩
set_option maxRecDepth 100000 in
theorem am_lays : ∀ c, c < 9 → ∀ w ∈ u_ws (am_R c) (am_T c) (am_n c), w ∈ am_gw := by
  intro c hc
  rcases (show c = 0 ∨ c = 1 ∨ c = 2 ∨ c = 3 ∨ c = 4 ∨ c = 5 ∨ c = 6 ∨ c = 7 ∨ c = 8 by omega) with rfl | rfl | rfl | rfl | rfl | rfl | rfl | rfl | rfl <;> decide +kernel
def am_nw : List (Nat × Nat × MethodName) := [(7, 9, yX0_init), (0, 22, yX7_isDots), (7, 42, yX2_init), (7, 49, yX1_init), (7, 56, yX3_init), (4, 33, yX0_init), (0, 40, yX7_placeOf), (1, 33, yX7_placeOf), (6, 89, yX7_placeOf)]
def am_isR : FieldType → Bool
  | .object _ => true
  | .array _ => true
  | _ => false
def am_fv (S : am_S) (I : am_I) (a c k : Nat) : Value := if am_isR (am_ty c k) = true then va_rf (S.2.2 a k) else .int (I a k)
def am_A (g : am_G) : Nat → Prop := fun q => g.1 ≤ q
/-- a cell of the world, in the heap -/
def am_at (g : am_G) (S : am_S) (I : am_I) (H : Heap) (a : Nat) : Prop := match S.2.1 a with
  | .inl (t, n) => H[am_ad g a]? = some (arrV (g.2.2.1 t) n (fun j => .int (I a j)))
  | .inr (.inl n) => H[am_ad g a]? = some (arrV (g.2.2.1 3) n (fun j => am_v g (va_rf (S.2.2 a j))))
  | .inr (.inr c) => c < 9 ∧ t_OB (am_ad g a) (g.2.1.1 c) (am_n c) (g.2.1.2 c) H (fun k => am_v g (am_fv S I a c k))
def am_H (g : am_G) (S : am_S) (I : am_I) (H : Heap) : Prop := H.size = g.1 + S.1 ∧ S.1 ≤ am_B ∧ ∀ a, a < S.1 → am_at g S I H a
def am_tys (g : am_G) : List (ClassId × FieldType) := [(g.2.2.1 0, .int), (g.2.2.1 1, .byte), (g.2.2.1 2, .boolean), (g.2.2.1 3, .object RX0)]
def am_len : List Nat := [5, 3, 4, 4, 6, 5, 4, 3, 4]
def am_byt : List (List Int32) := [[112, 108, 97, 105, 110], [115, 101, 116], [116, 117, 114, 110], [102, 108, 105, 112], [98, 101, 115, 105, 100, 101], [97, 98, 111, 118, 101], [111, 118, 101, 114], [114, 111, 119], [107, 101, 112, 116]]
def am_six : List Nat := [57, 63, 65, 67, 69, 71, 73, 75, 77]
def am_stx : List String := ["plain", "set", "turn", "flip", "beside", "above", "over", "row", "kept"]
/-- the text constants and the statics that their methods read -/
def am_Str (g : am_G) (s : State) : Prop :=
  vk_S 9 am_len am_byt g.2.2.2.1 g.2.2.2.2 (am_A g) s s.heap ∧ (∀ i, i < 9 → vk_R RX5 (am_six.getD i 0) (am_stx.getD i "") (g.2.2.2.1 i) s) ∧
  va_Z "java/lang/String" "COMPACT_STRINGS" "Z" (.int 1) (am_A g) s s.heap ∧ (va_Z "jdk/internal/util/Preconditions" "SIOOBE_FORMATTER" "Ljava/util/function/BiFunction;" .null (am_A g) s s.heap ∨ va_Z "jdk/internal/util/Preconditions" "SIOOBE_FORMATTER" "Ljava/util/function/BiFunction;" (.ref (g.2.2.2.2 9)) (am_A g) s s.heap)
/-- what a method's start has of the tables -/
def am_Wd (g : am_G) (s : State) : Prop :=
  va_K g.2.1 vwCl (am_tys g) s ∧ (∀ q ∈ am_nw, va_Nw (.methodLinkNest (am_R q.1) q.2.1 q.2.2 RX7) s) ∧ am_Str g s ∧ g.1 ≤ s.heap.size ∧ va_AO RX0 s
theorem am_Wd.moved {g : am_G} {s U : State} {H : Heap} {locs : List Loc} (hW : s.WarmedH U.vm) (hU : U.heap = H) (hS : va_S (am_A g) s.heap H locs) (h : am_Wd g s) : am_Wd g U := by
  obtain ⟨h1, h2, ⟨h3, h4, h5, h6⟩, h7, h8⟩ := h
  subst hU
  exact ⟨h1.moved hW.alike, fun q hq => (h2 q hq).warmM hW, ⟨(h3.kept hS.2.1).moved hW.alike, fun i hi => (h4 i hi).warm hW, (h5.kept hS.2.1).moved hW.alike, h6.imp (fun h6 => (h6.kept hS.2.1).moved hW.alike) (fun h6 => (h6.kept hS.2.1).moved hW.alike)⟩, Nat.le_trans h7 hS.1, h8.moved hW.alike⟩
theorem am_Wd.blind {g : am_G} {U : State} (f : JFrame) (mk : MethodId) (a : Array Value) (h : am_Wd g U) : am_Wd g (U.calling f mk a) := by
  obtain ⟨h1, h2, ⟨h3, h4, h5, h6⟩, h7, h8⟩ := h
  exact ⟨va_K.moved (u := U) (U := U.calling f mk a) (Vm.Alike.refl U.vm) h1, fun q hq => va_Nw.same rfl (u := U) (U := U.calling f mk a) rfl (h2 q hq), ⟨vk_S.moved (u := U) (U := U.calling f mk a) (Vm.Alike.refl U.vm) h3, fun i hi => vk_R.same (u := U) (U := U.calling f mk a) rfl (h4 i hi), va_Z.moved (u := U) (U := U.calling f mk a) (Vm.Alike.refl U.vm) h5, h6.imp (fun h6 => va_Z.moved (u := U) (U := U.calling f mk a) (Vm.Alike.refl U.vm) h6) (fun h6 => va_Z.moved (u := U) (U := U.calling f mk a) (Vm.Alike.refl U.vm) h6)⟩, h7, va_AO.moved (u := U) (U := U.calling f mk a) (Vm.Alike.refl U.vm) h8⟩
/-- a method's start and end -/
def am_Pc (g : am_G) (as : List Value) (S : am_S) (I : am_I) : Array Value → State → Prop := fun v U => v = (as.map (am_v g)).toArray ∧ am_Wd g U ∧ am_H g S I U.heap
def am_Qc (g : am_G) (Q : Option Value → am_S → am_I → Prop) : Array Value → State → Outcome → State → Prop := fun _ st o t =>
  (∃ (r : Option Value) (S' : am_S) (I' : am_I), o = .returned (r.map (am_v g)) ∧ Q r S' I' ∧ am_H g S' I' t.heap) ∧ va_F (am_A g) st t
theorem am_Pc.blind (g : am_G) (as : List Value) (S : am_S) (I : am_I) : FrameBlind (am_Pc g as S I) := fun _ _ f mk h => ⟨h.1, h.2.1.blind f mk _, h.2.2⟩
def am_rm (d : Nat) (b : Nat × Nat) : Room := { frames := d, cells := b.1, slots := b.2, locals := 60 * d }
/-- a method's contract: with these arguments in this world it returns, and Q holds of its answer and of the world behind it -/
def am_Mt (d : Nat) (Y : am_Y) (b : Nat × Nat) (as : List Value) (S : am_S) (I : am_I) (Q : Option Value → am_S → am_I → Prop) : Prop :=
  ∀ (g : am_G) (l : Launch), Met l Y.1 (.code Y.1 Y.2.2.1 Y.2.2.2.2 Y.2.2.2.1 :: am_gw) (am_rm d b) (am_Pc g as S I) (am_Qc g Q) b.1 b.2 (am_A g)
/-- the frame's places -/
def am_L (g : am_G) (cl : Array Slot) (nL : Nat) (ls : List (Option Value)) : Prop :=
  ls.length = nL ∧ ∃ lv : List (Nat × Value), lv_has cl nL lv ∧ ∀ (i : Nat) (v : Value), ls[i]? = some (some v) → (i, am_v g v) ∈ lv
theorem am_L.at {g : am_G} {cl : Array Slot} {nL : Nat} {ls : List (Option Value)} (h : am_L g cl nL ls) {i : Nat} {v : Value} (hv : ls[i]? = some (some v)) : cl[i]? = some (.val (am_v g v)) := by
  obtain ⟨_, lv, h1, h2⟩ := h
  exact h1.2.2 _ (h2 i v hv)
theorem am_L.size {g : am_G} {cl : Array Slot} {nL : Nat} {ls : List (Option Value)} (h : am_L g cl nL ls) : cl.size = nL := by
  obtain ⟨_, lv, h1, h2⟩ := h
  exact h1.1
/-- fewer known places -/
theorem am_L.sub {g : am_G} {cl : Array Slot} {nL : Nat} {ls ls' : List (Option Value)} (h : am_L g cl nL ls) (hl : ls'.length = ls.length) (hs : ∀ (i : Nat) (v : Value), ls'[i]? = some (some v) → ls[i]? = some (some v)) : am_L g cl nL ls' := by
  obtain ⟨h0, lv, h1, h2⟩ := h
  exact ⟨hl.trans h0, lv, h1, fun i v hv => h2 i v (hs i v hv)⟩
/-- what holds in a frame -/
def am_Cx (d : Nat) (Y : am_Y) (b : Nat × Nat) (g : am_G) (p : Program) (R : Room) (s : State) (m : MethodId) (args : Array Value) (meth : Method) (c : Code) (H : Heap) (locs : List Loc) (cells slots mc ms : Nat) (S : am_S) (I : am_I) : Prop :=
  CallFix p m c Y.2.2.1 Y.2.2.2.2 s args am_gw (am_R Y.2.1) ∧ (meth.sig.returnType = Y.2.2.2.1 ∧ meth.locks = false ∧ meth.name = Y.1.name) ∧
  (d ≤ R.frames ∧ 60 * d ≤ R.locals ∧ mc ≤ R.cells ∧ ms ≤ R.slots) ∧ (cells + b.1 = mc ∧ slots + b.2 = ms) ∧ am_Wd g s ∧ va_S (am_A g) s.heap H locs ∧ am_H g S I H
def am_Rn (d : Nat) (Y : am_Y) (b : Nat × Nat) (pc : Nat) (ls : List (Option Value)) (st : List Value) (S : am_S) (I : am_I) (Q : Option Value → am_S → am_I → Prop) : Prop :=
  ∀ (g : am_G) (p : Program) (l : Launch) (e : Env) (R : Room) (s : State) (m : MethodId) (args : Array Value) (below : List Frame) (meth : Method) (c : Code) (H : Heap) (locs : List Loc) (cells slots mc ms : Nat) (cl : Array Slot),
    am_Cx d Y b g p R s m args meth c H locs cells slots mc ms S I → am_L g cl Y.2.2.2.2 ls →
    W p l e R s m args below meth c H locs cells slots (MQ below (am_Qc g Q) args s mc ms (am_A g)) (F0 m pc cl (st.map (am_v g)))
/-- the places at a method's start -/
def am_ent : List Value → List (Option Value)
  | [] => []
  | v :: r => if v.category = 2 then some v :: none :: am_ent r else some v :: am_ent r
theorem am_ent_len (g : am_G) : ∀ as : List Value, (lg_sl (as.map (am_v g))).length = (am_ent as).length := by
  intro as
  induction as with
  | nil => rfl
  | cons v r ih =>
    by_cases h : v.category = 2
    · simp only [List.map_cons, lg_sl, List.flatMap_cons, am_v_cat, h, if_true, am_ent] at ih ⊢
      simp only [List.length_append, List.length_cons, List.length_nil, ih]
      omega
    · simp only [List.map_cons, lg_sl, List.flatMap_cons, am_v_cat, h, if_false, am_ent] at ih ⊢
      simp only [List.length_append, List.length_cons, List.length_nil, ih]
      omega
theorem am_ent_in (g : am_G) : ∀ (as : List Value) (n i : Nat) (v : Value), (am_ent as)[i]? = some (some v) → (n + i, am_v g v) ∈ lv_args n (as.map (am_v g)) := by
  intro as
  induction as with
  | nil => intro n i v h; simp [am_ent] at h
  | cons w r ih =>
    intro n i v h
    by_cases hc : w.category = 2
    · simp only [am_ent, hc, if_true] at h
      simp only [List.map_cons, lv_args, am_v_cat, hc, if_true]
      match i, h with
      | 0, h => simp at h; subst h; exact List.mem_cons_self
      | 1, h => simp at h
      | i + 2, h =>
        have h' : (am_ent r)[i]? = some (some v) := by simpa using h
        have := ih (n + 2) i v h'
        exact List.mem_cons_of_mem _ (by rw [show n + (i + 2) = n + 2 + i by omega]; exact this)
    · simp only [am_ent, hc, if_false] at h
      simp only [List.map_cons, lv_args, am_v_cat, hc, if_false]
      match i, h with
      | 0, h => simp at h; subst h; exact List.mem_cons_self
      | i + 1, h =>
        have h' : (am_ent r)[i]? = some (some v) := by simpa using h
        have := ih (n + 1) i v h'
        exact List.mem_cons_of_mem _ (by rw [show n + (i + 1) = n + 1 + i by omega]; exact this)
/-- a contract out of the walk from the method's first row -/
theorem am_mt {d : Nat} {Y : am_Y} {b : Nat × Nat} {as : List Value} {ls : List (Option Value)} {S : am_S} {I : am_I} {Q : Option Value → am_S → am_I → Prop} (hy : plainName Y.1.cls = true ∧ Y.1.cls = am_R Y.2.1) (hl : (am_ent as).length ≤ Y.2.2.2.2) (hls : am_ent as ++ List.replicate (Y.2.2.2.2 - (am_ent as).length) none = ls)
    (h : am_Rn d Y b 0 ls [] S I Q) : am_Mt d Y b as S I Q := by
  intro g l
  refine Met.ofW (cc := Y.2.2.1) (maxL := Y.2.2.2.2) (ret := Y.2.2.2.1) hy.1 rfl ?_
  intro p e s m args below meth c s₁ B hml hv
  obtain ⟨rfl, hW, hH⟩ := hv
  have hts := atoms_spec (ws := .code Y.1 Y.2.2.1 Y.2.2.2.2 Y.2.2.2.1 :: am_gw) B.pre
  have hown : s.vm.findClass (am_R Y.2.1) = some m.cls := by rw [← hy.2]; exact findClass_of_methodNamed B.named
  rw [lg_entry_eq]
  refine h g p l e _ s m _ below meth c s.heap [] 0 0 b.1 b.2 _ ⟨⟨B.exec, B.bytes, hml, hown, fun w hw => hts w (List.mem_cons_of_mem _ hw)⟩, ⟨B.returns, B.notSynchronized, (name_of_methodNamed B.named B.method).1⟩, ⟨Nat.le_refl _, Nat.le_refl _, Nat.le_refl _, Nat.le_refl _⟩, ⟨Nat.zero_add _, Nat.zero_add _⟩, hW, va_S.rf, hH⟩ ⟨?_, _, lv_entry (as.map (am_v g)) (by rw [am_ent_len]; exact hl), ?_⟩
  · rw [← hls]
    simp
    omega
  · intro i v hv
    rw [← hls] at hv
    have hv' : (am_ent as)[i]? = some (some v) := by
      by_cases hi : i < (am_ent as).length
      · rwa [List.getElem?_append_left hi] at hv
      · rw [List.getElem?_append_right (by omega)] at hv
        exact absurd (List.eq_of_mem_replicate (List.mem_of_getElem? hv)) (by simp)
    have := am_ent_in g as 0 i v hv'
    rwa [Nat.zero_add] at this
