/-! THE ROAD: one judgement over the kit's W. A heap is a list of cells, a reference a place in it (Value.ref k: the k-th cell; Value.retAddr k: the k-th table that nobody writes: 0 the script, 1 ABOVE, 2 BODIES). Locals are a list by place; .null there says nothing. -/
abbrev k_E : Type := (Nat × ((Nat → Int32) ⊕ ((Nat → Int64) ⊕ (Nat → Int32)))) ⊕ (Nat × List Value)
abbrev k_H : Type := List k_E
abbrev k_Z : Type := Nat × (Nat → Nat) × (Nat × Nat × ClassId)
/-- cells behind ours that a contract leaves alone: how many, from where on; the class of rows of bytes -/
abbrev gp (Z : k_Z) : Nat := Z.2.2.1
abbrev ho (Z : k_Z) : Nat := Z.2.2.2.1
abbrev cB (Z : k_Z) : ClassId := Z.2.2.2.2
abbrev k_X : Type := Option (Nat × (Nat → Int32))
def kb (Z : k_Z) : Value → Value
  | .ref a => .ref (Z.1 + a)
  | .retAddr k => .ref (Z.2.1 k)
  | v => v
def k_ce (Z : k_Z) (cI cJ : ClassId) : k_E → va_E
  | .inl (n, .inl f) => .inl (cI, (n, .inl f))
  | .inl (n, .inr (.inl f)) => .inl (cJ, (n, .inr (.inl f)))
  | .inl (n, .inr (.inr f)) => .inl (cB Z, (n, .inl f))
  | .inr (c, fs) => .inr (c, fs.map (kb Z))
def k_ws (Z : k_Z) (cI cJ : ClassId) (h : k_H) : va_W := h.mapIdx (fun k e => (Z.1 + k, k_ce Z cI cJ e))
def lenJ : List Nat := [4, 5, 3, 2]
def bytJ : List (List Int32) := [[119, 63, 116, 47], [43, 106, 43, 108, 42], [59, 103, 60], [63, 115]]
def k_tb (X : k_X) : Nat → Nat × (Nat → Int32)
  | 0 => X.getD (0, fun _ => 0)
  | 1 => (100, fun j => nI (48 + j / 10))
  | _ => (100, fun j => nI (48 + j % 10))
abbrev k_A (Z : k_Z) : Nat → Prop := fun q => Z.1 ≤ q ∧ ¬ (ho Z ≤ q ∧ q < ho Z + gp Z)
/-- which tables are there: the script's only for the law -/
def k_on (X : k_X) : Nat → Prop
  | 0 => X ≠ none
  | 1 => True
  | 2 => True
  | _ => False
def k_ty : Nat → FieldType
  | 0 => .int
  | _ => .byte
def k_tn : Nat → String
  | 1 => "DigitTens"
  | _ => "DigitOnes"
def ldx : Nat → Nat
  | 0 => 76
  | 1 => 85
  | 2 => 87
  | _ => 89
def ltx : Nat → String
  | 0 => "w?t/"
  | 1 => "+j+l*"
  | 2 => ";g<"
  | _ => "?s"
def k_RO (Z : k_Z) (X : k_X) (U : State) (H : Heap) : Prop := (∀ k, k_on X k → va_T (k_ty k) (Z.2.1 k) (k_tb X k).1 (fun j => .int ((k_tb X k).2 j)) (k_A Z) U H) ∧ (∀ k, (k = 1 ∨ k = 2) → va_Z "java/lang/Integer" (k_tn k) "[B" (.ref (Z.2.1 k)) (k_A Z) U H) ∧ va_Z "java/lang/String" "COMPACT_STRINGS" "Z" (.int 1) (k_A Z) U H ∧ (∃ v : Value, (v = .null ∨ v = .retAddr 30) ∧ va_Z "jdk/internal/util/Preconditions" "SIOOBE_FORMATTER" "Ljava/util/function/BiFunction;" (kb Z v) (k_A Z) U H) ∧ vk_S 4 lenJ bytJ (fun i => Z.2.1 (10 + i)) (fun i => Z.2.1 (20 + i)) (k_A Z) U H ∧ (X ≠ none → ∀ i, i < 4 → vk_R "FitOnDayLaw" (ldx i) (ltx i) (Z.2.1 (10 + i)) U)
def k_tG : List Cond := (lw_selJ ++ lw_tbl).filter goodWord
theorem k_inG {w : Cond} (h : w ∈ lw_tbl) (g : goodWord w = true) : w ∈ k_tG := List.mem_filter.mpr ⟨List.mem_append_right _ h, g⟩
theorem k_inJ {w : Cond} (h : w ∈ lw_selJ) (g : goodWord w = true) : w ∈ k_tG := List.mem_filter.mpr ⟨List.mem_append_left _ h, g⟩
theorem k_isG (w : Cond) (i : Nat) (h : lw_tbl[i]? = some w) (g : goodWord w = true) : w ∈ k_tG := k_inG (List.mem_of_getElem? h) g
/-- what stays the same while a frame of M stands -/
def k_C (M : k_M) (d : Nat) (X : k_X) (p : Program) (R : Room) (s : State) (m : MethodId) (args : Array Value) (meth : Method) (c : Code) (Z : k_Z) (cI cJ : ClassId) (D : va_G) : Prop :=
  p.tables.exec = Jvm.exec ∧ c.code = M.2.1 ∧ c.maxLocals = M.2.2.1 ∧ s.vm.findClass M.1.cls = some m.cls ∧ meth.name = M.1.name ∧ (∀ w ∈ k_tG, w.before args s = true) ∧ (∀ w ∈ k_tN, va_Nw w s) ∧ va_K D vwCl [(cI, .int), (cJ, .long), (cB Z, .byte)] s ∧ k_RO Z X s s.heap ∧ Z.1 ≤ s.heap.size ∧ d ≤ R.frames ∧ 37 * d ≤ R.locals
def k_Sz (Z : k_Z) (h : k_H) (H : Heap) : Prop := H.size = Z.1 + h.length + gp Z ∧ (gp Z ≠ 0 → Z.1 + h.length = ho Z)
theorem k_Sz.set {Z : k_Z} {h : k_H} {H H2 : Heap} {a : Nat} {e : k_E} (h1 : k_Sz Z h H) (z : H2.size = H.size) : k_Sz Z (h.set a e) H2 := by
  unfold k_Sz at h1 ⊢
  rw [List.length_set, z]
  exact h1
def k_D (Z : k_Z) (cI cJ : ClassId) (D : va_G) (s : State) (h : k_H) (H : Heap) (locs : List Loc) : Prop :=
  va_P D vwCl (k_ws Z cI cJ h) H ∧ k_Sz Z h H ∧ va_S (k_A Z) s.heap H locs
def k_Lo (Z : k_Z) (n : Nat) (L : List Value) (ls : Array Slot) : Prop := L.length = n ∧ ls.size = n ∧ lv_wf ls ∧ ∀ (i : Nat) (v : Value), L[i]? = some v → v ≠ .null → ls[i]? = some (.val (kb Z v))
def k_ret (M : k_M) (pc : Nat) : Option Value → Prop
  | none => M.2.2.2 = none ∧ decode M.2.1 pc = .ok (.return_, 1)
  | some (.int v) => ∃ ty, M.2.2.2 = some ty ∧ narrow ty (.int v) = .int v ∧ decode M.2.1 pc = .ok (.ireturn, 1)
  | some (.long _) => M.2.2.2 = some .long ∧ decode M.2.1 pc = .ok (.lreturn, 1)
  | some (.ref _) => (∃ rt, M.2.2.2 = some rt ∧ ((∃ n, rt = .object n) ∨ ∃ t, rt = .array t)) ∧ decode M.2.1 pc = .ok (.areturn, 1)
  | _ => False
/-- THE JUDGEMENT: at pc, with these locals, this stack, this heap, M comes to its return with an answer and a heap of which Po holds; at most bc cells and bs slots come on the way, at most d frames above -/
def AW (X : k_X) (M : k_M) (d bc bs : Nat) (pc : Nat) (L st : List Value) (h : k_H) (Po : Option Value → k_H → Prop) : Prop :=
  ∀ (p : Program) (l : Launch) (e : Env) (R : Room) (s : State) (m : MethodId) (args : Array Value) (below : List Frame) (meth : Method) (c : Code) (Z : k_Z) (cI cJ : ClassId) (D : va_G) (H : Heap) (locs : List Loc) (cells slots : Nat) (ls : Array Slot) (Q : State → Prop),
    k_C M d X p R s m args meth c Z cI cJ D → k_D Z cI cJ D s h H locs → k_Lo Z M.2.2.1 L ls → (cells + bc ≤ R.cells ∧ (bc ≠ 0 → gp Z = 0)) → slots + bs ≤ R.slots →
    (∀ (pc' : Nat) (H' : Heap) (locs' : List Loc) (cells' slots' : Nat) (ls' : Array Slot) (r : Option Value) (h' : k_H), k_ret M pc' r → Po r h' → k_D Z cI cJ D s h' H' locs' → cells' ≤ R.cells → slots' ≤ R.slots → W p l e R s m args below meth c H' locs' cells' slots' Q (F0 m pc' ls' (r.toList.map (kb Z)))) →
    W p l e R s m args below meth c H locs cells slots Q (F0 m pc ls (st.map (kb Z)))
/-- an instruction, its length, the place behind it -/
def k_dc (M : k_M) (pc : Nat) (i : Instr) (len n : Nat) : Prop := decode M.2.1 pc = .ok (i, len) ∧ pc + len = n
theorem k_dcG (M : k_M) (pc : Nat) (i : Instr) (len n : Nat) (h : decode M.2.1 pc = .ok (i, len)) (e : (pc + len == n) = true) : k_dc M pc i len n := ⟨h, by simpa using e⟩

theorem k_cat0 (Z : k_Z) (v : Value) : (kb Z v).category = v.category := by cases v <;> rfl
theorem k_catsum0 (Z : k_Z) (st : List Value) : ((st.map (kb Z)).map fun v => v.category).sum = (st.map fun v => v.category).sum := by
  rw [List.map_map]
  congr 1
  exact List.map_congr_left (fun v _ => k_cat0 Z v)
theorem bytJ_fit : ∀ i, i < 4 → sb_Fit (fun j => (bytJ.getD i []).getD j 0)
  | 0, _ => fun j => by
    match j with
    | 0 | 1 | 2 | 3 => rfl
    | j + 4 => rfl
  | 1, _ => fun j => by
    match j with
    | 0 | 1 | 2 | 3 | 4 => rfl
    | j + 5 => rfl
  | 2, _ => fun j => by
    match j with
    | 0 | 1 | 2 => rfl
    | j + 3 => rfl
  | 3, _ => fun j => by
    match j with
    | 0 | 1 => rfl
    | j + 2 => rfl
  | i + 4, h => absurd h (by omega)
section KR
variable {X : k_X} {M : k_M} {d bc bs pc n : Nat} {L st : List Value} {h : k_H} {Po : Option Value → k_H → Prop}
theorem k_iconst {z : Int} {v : Int32} (hd : k_dc M pc (.iconst z) 1 n) (hv : Int32.ofInt z = v) (k : AW X M d bc bs n L (.int v :: st) h Po) : AW X M d bc bs pc L (st) h Po := by
  obtain ⟨hd, rfl⟩ := hd
  intro p l e R s m args below meth c Z cI cJ D H locs cells slots ls Q C Y hL h1 h2 E
  exact lv_iconst C.1 C.2.1 hd hv (k p l e R s m args below meth c Z cI cJ D H locs cells slots ls Q C Y hL h1 h2 E)
theorem k_bipush {z : Int} {v : Int32} (hd : k_dc M pc (.bipush z) 2 n) (hv : (Int8.ofInt z).toInt32 = v) (k : AW X M d bc bs n L (.int v :: st) h Po) : AW X M d bc bs pc L (st) h Po := by
  obtain ⟨hd, rfl⟩ := hd
  intro p l e R s m args below meth c Z cI cJ D H locs cells slots ls Q C Y hL h1 h2 E
  exact lv_bipush C.1 C.2.1 hd hv (k p l e R s m args below meth c Z cI cJ D H locs cells slots ls Q C Y hL h1 h2 E)
theorem k_sipush {z : Int} {v : Int32} (hd : k_dc M pc (.sipush z) 3 n) (hv : (Int16.ofInt z).toInt32 = v) (k : AW X M d bc bs n L (.int v :: st) h Po) : AW X M d bc bs pc L (st) h Po := by
  obtain ⟨hd, rfl⟩ := hd
  intro p l e R s m args below meth c Z cI cJ D H locs cells slots ls Q C Y hL h1 h2 E
  exact lv_sipush C.1 C.2.1 hd hv (k p l e R s m args below meth c Z cI cJ D H locs cells slots ls Q C Y hL h1 h2 E)
theorem k_lconst {z : Fin 2} {v : Int64} (hd : k_dc M pc (.lconst z) 1 n) (hv : Int64.ofNat (z : Nat) = v) (k : AW X M d bc bs n L (.long v :: st) h Po) : AW X M d bc bs pc L (st) h Po := by
  obtain ⟨hd, rfl⟩ := hd
  intro p l e R s m args below meth c Z cI cJ D H locs cells slots ls Q C Y hL h1 h2 E
  exact lv_lconst C.1 C.2.1 hd hv (k p l e R s m args below meth c Z cI cJ D H locs cells slots ls Q C Y hL h1 h2 E)
theorem k_iadd {x y : Int32} (hd : k_dc M pc .iadd 1 n) (k : AW X M d bc bs n L (.int (x + y) :: st) h Po) : AW X M d bc bs pc L (.int y :: .int x :: st) h Po := by
  obtain ⟨hd, rfl⟩ := hd
  intro p l e R s m args below meth c Z cI cJ D H locs cells slots ls Q C Y hL h1 h2 E
  exact lv_iadd C.1 C.2.1 hd (k p l e R s m args below meth c Z cI cJ D H locs cells slots ls Q C Y hL h1 h2 E)
theorem k_isub {x y : Int32} (hd : k_dc M pc .isub 1 n) (k : AW X M d bc bs n L (.int (x - y) :: st) h Po) : AW X M d bc bs pc L (.int y :: .int x :: st) h Po := by
  obtain ⟨hd, rfl⟩ := hd
  intro p l e R s m args below meth c Z cI cJ D H locs cells slots ls Q C Y hL h1 h2 E
  exact lv_isub C.1 C.2.1 hd (k p l e R s m args below meth c Z cI cJ D H locs cells slots ls Q C Y hL h1 h2 E)
theorem k_imul {x y : Int32} (hd : k_dc M pc .imul 1 n) (k : AW X M d bc bs n L (.int (x * y) :: st) h Po) : AW X M d bc bs pc L (.int y :: .int x :: st) h Po := by
  obtain ⟨hd, rfl⟩ := hd
  intro p l e R s m args below meth c Z cI cJ D H locs cells slots ls Q C Y hL h1 h2 E
  exact lv_imul C.1 C.2.1 hd (k p l e R s m args below meth c Z cI cJ D H locs cells slots ls Q C Y hL h1 h2 E)
theorem k_iand {x y : Int32} (hd : k_dc M pc .iand 1 n) (k : AW X M d bc bs n L (.int (x &&& y) :: st) h Po) : AW X M d bc bs pc L (.int y :: .int x :: st) h Po := by
  obtain ⟨hd, rfl⟩ := hd
  intro p l e R s m args below meth c Z cI cJ D H locs cells slots ls Q C Y hL h1 h2 E
  exact lv_iand C.1 C.2.1 hd (k p l e R s m args below meth c Z cI cJ D H locs cells slots ls Q C Y hL h1 h2 E)
theorem k_ior {x y : Int32} (hd : k_dc M pc .ior 1 n) (k : AW X M d bc bs n L (.int (x ||| y) :: st) h Po) : AW X M d bc bs pc L (.int y :: .int x :: st) h Po := by
  obtain ⟨hd, rfl⟩ := hd
  intro p l e R s m args below meth c Z cI cJ D H locs cells slots ls Q C Y hL h1 h2 E
  exact lv_ior C.1 C.2.1 hd (k p l e R s m args below meth c Z cI cJ D H locs cells slots ls Q C Y hL h1 h2 E)
theorem k_ixor {x y : Int32} (hd : k_dc M pc .ixor 1 n) (k : AW X M d bc bs n L (.int (x ^^^ y) :: st) h Po) : AW X M d bc bs pc L (.int y :: .int x :: st) h Po := by
  obtain ⟨hd, rfl⟩ := hd
  intro p l e R s m args below meth c Z cI cJ D H locs cells slots ls Q C Y hL h1 h2 E
  exact lv_ixor C.1 C.2.1 hd (k p l e R s m args below meth c Z cI cJ D H locs cells slots ls Q C Y hL h1 h2 E)
theorem k_idiv {x y : Int32} (hd : k_dc M pc .idiv 1 n) (hne : ¬ y = 0) (k : AW X M d bc bs n L (.int (x / y) :: st) h Po) : AW X M d bc bs pc L (.int y :: .int x :: st) h Po := by
  obtain ⟨hd, rfl⟩ := hd
  intro p l e R s m args below meth c Z cI cJ D H locs cells slots ls Q C Y hL h1 h2 E
  exact lv_idiv C.1 C.2.1 hd hne (k p l e R s m args below meth c Z cI cJ D H locs cells slots ls Q C Y hL h1 h2 E)
theorem k_irem {x y : Int32} (hd : k_dc M pc .irem 1 n) (hne : ¬ y = 0) (k : AW X M d bc bs n L (.int (x - x / y * y) :: st) h Po) : AW X M d bc bs pc L (.int y :: .int x :: st) h Po := by
  obtain ⟨hd, rfl⟩ := hd
  intro p l e R s m args below meth c Z cI cJ D H locs cells slots ls Q C Y hL h1 h2 E
  exact lv_irem C.1 C.2.1 hd hne (k p l e R s m args below meth c Z cI cJ D H locs cells slots ls Q C Y hL h1 h2 E)
theorem k_ineg {x : Int32} (hd : k_dc M pc .ineg 1 n) (k : AW X M d bc bs n L (.int (-x) :: st) h Po) : AW X M d bc bs pc L (.int x :: st) h Po := by
  obtain ⟨hd, rfl⟩ := hd
  intro p l e R s m args below meth c Z cI cJ D H locs cells slots ls Q C Y hL h1 h2 E
  exact lv_ineg C.1 C.2.1 hd (k p l e R s m args below meth c Z cI cJ D H locs cells slots ls Q C Y hL h1 h2 E)
theorem k_ladd {x y : Int64} (hd : k_dc M pc .ladd 1 n) (k : AW X M d bc bs n L (.long (x + y) :: st) h Po) : AW X M d bc bs pc L (.long y :: .long x :: st) h Po := by
  obtain ⟨hd, rfl⟩ := hd
  intro p l e R s m args below meth c Z cI cJ D H locs cells slots ls Q C Y hL h1 h2 E
  exact lv_ladd C.1 C.2.1 hd (k p l e R s m args below meth c Z cI cJ D H locs cells slots ls Q C Y hL h1 h2 E)
theorem k_lsub {x y : Int64} (hd : k_dc M pc .lsub 1 n) (k : AW X M d bc bs n L (.long (x - y) :: st) h Po) : AW X M d bc bs pc L (.long y :: .long x :: st) h Po := by
  obtain ⟨hd, rfl⟩ := hd
  intro p l e R s m args below meth c Z cI cJ D H locs cells slots ls Q C Y hL h1 h2 E
  exact lv_lsub C.1 C.2.1 hd (k p l e R s m args below meth c Z cI cJ D H locs cells slots ls Q C Y hL h1 h2 E)
theorem k_lmul {x y : Int64} (hd : k_dc M pc .lmul 1 n) (k : AW X M d bc bs n L (.long (x * y) :: st) h Po) : AW X M d bc bs pc L (.long y :: .long x :: st) h Po := by
  obtain ⟨hd, rfl⟩ := hd
  intro p l e R s m args below meth c Z cI cJ D H locs cells slots ls Q C Y hL h1 h2 E
  exact lv_lmul C.1 C.2.1 hd (k p l e R s m args below meth c Z cI cJ D H locs cells slots ls Q C Y hL h1 h2 E)
theorem k_land {x y : Int64} (hd : k_dc M pc .land 1 n) (k : AW X M d bc bs n L (.long (x &&& y) :: st) h Po) : AW X M d bc bs pc L (.long y :: .long x :: st) h Po := by
  obtain ⟨hd, rfl⟩ := hd
  intro p l e R s m args below meth c Z cI cJ D H locs cells slots ls Q C Y hL h1 h2 E
  exact lv_land C.1 C.2.1 hd (k p l e R s m args below meth c Z cI cJ D H locs cells slots ls Q C Y hL h1 h2 E)
theorem k_lor {x y : Int64} (hd : k_dc M pc .lor 1 n) (k : AW X M d bc bs n L (.long (x ||| y) :: st) h Po) : AW X M d bc bs pc L (.long y :: .long x :: st) h Po := by
  obtain ⟨hd, rfl⟩ := hd
  intro p l e R s m args below meth c Z cI cJ D H locs cells slots ls Q C Y hL h1 h2 E
  exact lv_lor C.1 C.2.1 hd (k p l e R s m args below meth c Z cI cJ D H locs cells slots ls Q C Y hL h1 h2 E)
theorem k_ldiv {x y : Int64} (hd : k_dc M pc .ldiv 1 n) (hne : ¬ y = 0) (k : AW X M d bc bs n L (.long (x / y) :: st) h Po) : AW X M d bc bs pc L (.long y :: .long x :: st) h Po := by
  obtain ⟨hd, rfl⟩ := hd
  intro p l e R s m args below meth c Z cI cJ D H locs cells slots ls Q C Y hL h1 h2 E
  exact lv_ldiv C.1 C.2.1 hd hne (k p l e R s m args below meth c Z cI cJ D H locs cells slots ls Q C Y hL h1 h2 E)
theorem k_ishl {x y : Int32} (hd : k_dc M pc .ishl 1 n) (k : AW X M d bc bs n L (.int (x <<< (y &&& 31)) :: st) h Po) : AW X M d bc bs pc L (.int y :: .int x :: st) h Po := by
  obtain ⟨hd, rfl⟩ := hd
  intro p l e R s m args below meth c Z cI cJ D H locs cells slots ls Q C Y hL h1 h2 E
  exact lv_ishl C.1 C.2.1 hd (k p l e R s m args below meth c Z cI cJ D H locs cells slots ls Q C Y hL h1 h2 E)
theorem k_ishr {x y : Int32} (hd : k_dc M pc .ishr 1 n) (k : AW X M d bc bs n L (.int (x >>> (y &&& 31)) :: st) h Po) : AW X M d bc bs pc L (.int y :: .int x :: st) h Po := by
  obtain ⟨hd, rfl⟩ := hd
  intro p l e R s m args below meth c Z cI cJ D H locs cells slots ls Q C Y hL h1 h2 E
  exact lv_ishr C.1 C.2.1 hd (k p l e R s m args below meth c Z cI cJ D H locs cells slots ls Q C Y hL h1 h2 E)
theorem k_iushr {x y : Int32} (hd : k_dc M pc .iushr 1 n) (k : AW X M d bc bs n L (.int (x.toUInt32 >>> (y.toUInt32 &&& Int32.toUInt32 31)).toInt32 :: st) h Po) : AW X M d bc bs pc L (.int y :: .int x :: st) h Po := by
  obtain ⟨hd, rfl⟩ := hd
  intro p l e R s m args below meth c Z cI cJ D H locs cells slots ls Q C Y hL h1 h2 E
  exact lv_iushr C.1 C.2.1 hd rfl (k p l e R s m args below meth c Z cI cJ D H locs cells slots ls Q C Y hL h1 h2 E)
theorem k_lshl {x : Int64} {y : Int32} (hd : k_dc M pc .lshl 1 n) (k : AW X M d bc bs n L (.long (x <<< (y.toInt64 &&& 63)) :: st) h Po) : AW X M d bc bs pc L (.int y :: .long x :: st) h Po := by
  obtain ⟨hd, rfl⟩ := hd
  intro p l e R s m args below meth c Z cI cJ D H locs cells slots ls Q C Y hL h1 h2 E
  exact lv_lshl C.1 C.2.1 hd rfl (k p l e R s m args below meth c Z cI cJ D H locs cells slots ls Q C Y hL h1 h2 E)
theorem k_i2l {x : Int32} (hd : k_dc M pc .i2l 1 n) (k : AW X M d bc bs n L (.long x.toInt64 :: st) h Po) : AW X M d bc bs pc L (.int x :: st) h Po := by
  obtain ⟨hd, rfl⟩ := hd
  intro p l e R s m args below meth c Z cI cJ D H locs cells slots ls Q C Y hL h1 h2 E
  exact lv_i2l C.1 C.2.1 hd rfl (k p l e R s m args below meth c Z cI cJ D H locs cells slots ls Q C Y hL h1 h2 E)
theorem k_l2i {x : Int64} (hd : k_dc M pc .l2i 1 n) (k : AW X M d bc bs n L (.int x.toInt32 :: st) h Po) : AW X M d bc bs pc L (.long x :: st) h Po := by
  obtain ⟨hd, rfl⟩ := hd
  intro p l e R s m args below meth c Z cI cJ D H locs cells slots ls Q C Y hL h1 h2 E
  exact lv_l2i C.1 C.2.1 hd rfl (k p l e R s m args below meth c Z cI cJ D H locs cells slots ls Q C Y hL h1 h2 E)
theorem k_i2b {x : Int32} (hd : k_dc M pc .i2b 1 n) (k : AW X M d bc bs n L (.int x.toInt8.toInt32 :: st) h Po) : AW X M d bc bs pc L (.int x :: st) h Po := by
  obtain ⟨hd, rfl⟩ := hd
  intro p l e R s m args below meth c Z cI cJ D H locs cells slots ls Q C Y hL h1 h2 E
  exact lv_i2b C.1 C.2.1 hd rfl (k p l e R s m args below meth c Z cI cJ D H locs cells slots ls Q C Y hL h1 h2 E)
theorem k_i2s {x : Int32} (hd : k_dc M pc .i2s 1 n) (k : AW X M d bc bs n L (.int x.toInt16.toInt32 :: st) h Po) : AW X M d bc bs pc L (.int x :: st) h Po := by
  obtain ⟨hd, rfl⟩ := hd
  intro p l e R s m args below meth c Z cI cJ D H locs cells slots ls Q C Y hL h1 h2 E
  exact lv_i2s C.1 C.2.1 hd rfl (k p l e R s m args below meth c Z cI cJ D H locs cells slots ls Q C Y hL h1 h2 E)
theorem k_i2c {x : Int32} (hd : k_dc M pc .i2c 1 n) (k : AW X M d bc bs n L (.int (x.toUInt32 % 65536).toInt32 :: st) h Po) : AW X M d bc bs pc L (.int x :: st) h Po := by
  obtain ⟨hd, rfl⟩ := hd
  intro p l e R s m args below meth c Z cI cJ D H locs cells slots ls Q C Y hL h1 h2 E
  exact lv_i2c C.1 C.2.1 hd rfl (k p l e R s m args below meth c Z cI cJ D H locs cells slots ls Q C Y hL h1 h2 E)
theorem k_null  (hd : k_dc M pc .aconst_null 1 n) (k : AW X M d bc bs n L (.null :: st) h Po) : AW X M d bc bs pc L (st) h Po := by
  obtain ⟨hd, rfl⟩ := hd
  intro p l e R s m args below meth c Z cI cJ D H locs cells slots ls Q C Y hL h1 h2 E
  exact lv_null C.1 C.2.1 hd (k p l e R s m args below meth c Z cI cJ D H locs cells slots ls Q C Y hL h1 h2 E)
theorem k_lcmp {x y : Int64} (hd : k_dc M pc .lcmp 1 n) (k : AW X M d bc bs n L (.int (lg_cmp x y) :: st) h Po) : AW X M d bc bs pc L (.long y :: .long x :: st) h Po := by
  obtain ⟨hd, rfl⟩ := hd
  intro p l e R s m args below meth c Z cI cJ D H locs cells slots ls Q C Y hL h1 h2 E
  exact W.lcmp C.1 C.2.1 hd (k p l e R s m args below meth c Z cI cJ D H locs cells slots ls Q C Y hL h1 h2 E)
theorem k_cat (Z : k_Z) (v : Value) : (kb Z v).category = v.category := by cases v <;> rfl
theorem k_dup {v : Value} (hd : k_dc M pc .dup 1 n) (hv : v.category = 1) (k : AW X M d bc bs n L (v :: v :: st) h Po) : AW X M d bc bs pc L (v :: st) h Po := by
  obtain ⟨hd, rfl⟩ := hd
  intro p l e R s m args below meth c Z cI cJ D H locs cells slots ls Q C Y hL h1 h2 E
  exact lv_dup C.1 C.2.1 hd ((k_cat _ _).trans hv) (k p l e R s m args below meth c Z cI cJ D H locs cells slots ls Q C Y hL h1 h2 E)
theorem k_pop {v : Value} (hd : k_dc M pc .pop 1 n) (hv : v.category = 1) (k : AW X M d bc bs n L (st) h Po) : AW X M d bc bs pc L (v :: st) h Po := by
  obtain ⟨hd, rfl⟩ := hd
  intro p l e R s m args below meth c Z cI cJ D H locs cells slots ls Q C Y hL h1 h2 E
  exact lv_pop C.1 C.2.1 hd ((k_cat _ _).trans hv) (k p l e R s m args below meth c Z cI cJ D H locs cells slots ls Q C Y hL h1 h2 E)
theorem k_at {Z : k_Z} {n i : Nat} {ls : Array Slot} {v : Value} (hL : k_Lo Z n L ls) (hl : L[i]? = some v) (hn : v ≠ .null) : ls[i]? = some (.val (kb Z v)) := hL.2.2.2 i v hl hn
theorem k_iload_n {z : Fin 4} {x : Int32} (hd : k_dc M pc (.iload_n z) 1 n) (hl : L[(z : Nat)]? = some (.int x)) (k : AW X M d bc bs n L (.int x :: st) h Po) : AW X M d bc bs pc L (st) h Po := by
  obtain ⟨hd, rfl⟩ := hd
  intro p l e R s m args below meth c Z cI cJ D H locs cells slots ls Q C Y hL h1 h2 E
  exact lv_iload_n C.1 C.2.1 hd rfl (k_at hL hl (by intro q; cases q)) (k p l e R s m args below meth c Z cI cJ D H locs cells slots ls Q C Y hL h1 h2 E)
theorem k_iload {z : Nat} {x : Int32} (hd : k_dc M pc (.iload z) 2 n) (hl : L[z]? = some (.int x)) (k : AW X M d bc bs n L (.int x :: st) h Po) : AW X M d bc bs pc L (st) h Po := by
  obtain ⟨hd, rfl⟩ := hd
  intro p l e R s m args below meth c Z cI cJ D H locs cells slots ls Q C Y hL h1 h2 E
  exact lv_iload C.1 C.2.1 hd (k_at hL hl (by intro q; cases q)) (k p l e R s m args below meth c Z cI cJ D H locs cells slots ls Q C Y hL h1 h2 E)
theorem k_lload_n {z : Fin 4} {x : Int64} (hd : k_dc M pc (.lload_n z) 1 n) (hl : L[(z : Nat)]? = some (.long x)) (k : AW X M d bc bs n L (.long x :: st) h Po) : AW X M d bc bs pc L (st) h Po := by
  obtain ⟨hd, rfl⟩ := hd
  intro p l e R s m args below meth c Z cI cJ D H locs cells slots ls Q C Y hL h1 h2 E
  exact lv_lload_n C.1 C.2.1 hd rfl (k_at hL hl (by intro q; cases q)) (k p l e R s m args below meth c Z cI cJ D H locs cells slots ls Q C Y hL h1 h2 E)
theorem k_lload {z : Nat} {x : Int64} (hd : k_dc M pc (.lload z) 2 n) (hl : L[z]? = some (.long x)) (k : AW X M d bc bs n L (.long x :: st) h Po) : AW X M d bc bs pc L (st) h Po := by
  obtain ⟨hd, rfl⟩ := hd
  intro p l e R s m args below meth c Z cI cJ D H locs cells slots ls Q C Y hL h1 h2 E
  exact lv_lload C.1 C.2.1 hd (k_at hL hl (by intro q; cases q)) (k p l e R s m args below meth c Z cI cJ D H locs cells slots ls Q C Y hL h1 h2 E)
theorem k_aload_n {z : Fin 4} {x : Nat} (hd : k_dc M pc (.aload_n z) 1 n) (hl : L[(z : Nat)]? = some (.ref x)) (k : AW X M d bc bs n L (.ref x :: st) h Po) : AW X M d bc bs pc L (st) h Po := by
  obtain ⟨hd, rfl⟩ := hd
  intro p l e R s m args below meth c Z cI cJ D H locs cells slots ls Q C Y hL h1 h2 E
  exact lv_aload_n C.1 C.2.1 hd rfl (k_at hL hl (by intro q; cases q)) (k p l e R s m args below meth c Z cI cJ D H locs cells slots ls Q C Y hL h1 h2 E)
theorem k_aload {z : Nat} {x : Nat} (hd : k_dc M pc (.aload z) 2 n) (hl : L[z]? = some (.ref x)) (k : AW X M d bc bs n L (.ref x :: st) h Po) : AW X M d bc bs pc L (st) h Po := by
  obtain ⟨hd, rfl⟩ := hd
  intro p l e R s m args below meth c Z cI cJ D H locs cells slots ls Q C Y hL h1 h2 E
  exact lv_aload C.1 C.2.1 hd (k_at hL hl (by intro q; cases q)) (k p l e R s m args below meth c Z cI cJ D H locs cells slots ls Q C Y hL h1 h2 E)
theorem k_aloadT {z : Fin 4} {x : Nat} (hd : k_dc M pc (.aload_n z) 1 n) (hl : L[(z : Nat)]? = some (.retAddr x)) (k : AW X M d bc bs n L (.retAddr x :: st) h Po) : AW X M d bc bs pc L (st) h Po := by
  obtain ⟨hd, rfl⟩ := hd
  intro p l e R s m args below meth c Z cI cJ D H locs cells slots ls Q C Y hL h1 h2 E
  exact lv_aload_n C.1 C.2.1 hd rfl (k_at hL hl (by intro q; cases q)) (k p l e R s m args below meth c Z cI cJ D H locs cells slots ls Q C Y hL h1 h2 E)
theorem k_ifnonnull {x : Nat} {off : Int} (tgt : Nat) (hd : k_dc M pc (.ifnonnull off) 3 n) (ht : (pc : Int) + off = (tgt : Int)) (k : AW X M d bc bs tgt L st h Po) : AW X M d bc bs pc L (.ref x :: st) h Po := by
  obtain ⟨hd, rfl⟩ := hd
  intro p l e R s m args below meth c Z cI cJ D H locs cells slots ls Q C Y hL h1 h2 E
  exact lv_ifnonnull C.1 C.2.1 hd ht (k p l e R s m args below meth c Z cI cJ D H locs cells slots ls Q C Y hL h1 h2 E)
theorem k_ifnonnullT {x : Nat} {off : Int} (tgt : Nat) (hd : k_dc M pc (.ifnonnull off) 3 n) (ht : (pc : Int) + off = (tgt : Int)) (k : AW X M d bc bs tgt L st h Po) : AW X M d bc bs pc L (.retAddr x :: st) h Po := by
  obtain ⟨hd, rfl⟩ := hd
  intro p l e R s m args below meth c Z cI cJ D H locs cells slots ls Q C Y hL h1 h2 E
  exact lv_ifnonnull C.1 C.2.1 hd ht (k p l e R s m args below meth c Z cI cJ D H locs cells slots ls Q C Y hL h1 h2 E)
def k_isL : Value → Bool
  | .long _ => true
  | .double _ => true
  | _ => false
def k_st : List Value → Nat → Value → List Value
  | [], _, _ => []
  | _ :: r, 0, v => v :: r
  | w :: r, 1, v => (bif k_isL w then .null else w) :: k_st r 0 v
  | w :: r, i + 2, v => w :: k_st r (i + 1) v
theorem k_st_len : ∀ (L : List Value) (i : Nat) (v : Value), (k_st L i v).length = L.length
  | [], _, _ => rfl
  | _ :: r, 0, v => rfl
  | w :: r, 1, v => by show (k_st r 0 v).length + 1 = r.length + 1; rw [k_st_len r 0 v]
  | w :: r, i + 2, v => by show (k_st r (i + 1) v).length + 1 = r.length + 1; rw [k_st_len r (i + 1) v]
theorem k_st_get : ∀ (L : List Value) (i : Nat) (v : Value) (j : Nat) (u : Value), (k_st L i v)[j]? = some u → u ≠ .null → (j = i ∧ u = v) ∨ (j ≠ i ∧ L[j]? = some u ∧ ¬ (j + 1 = i ∧ k_isL u = true))
  | [], _, _, j, u, h, _ => by simp [k_st] at h
  | w :: r, 0, v, 0, u, h, _ => by
    left; simp [k_st] at h; exact ⟨rfl, h.symm⟩
  | w :: r, 0, v, j + 1, u, h, _ => by
    right; exact ⟨by omega, by simpa [k_st] using h, by omega⟩
  | w :: r, 1, v, 0, u, h, hu => by
    right
    have h : some (bif k_isL w then Value.null else w) = some u := by simpa [k_st] using h
    cases hw : k_isL w with
    | true => rw [hw] at h; exact absurd (Option.some.inj h).symm hu
    | false =>
      rw [hw] at h
      have e : w = u := Option.some.inj h
      subst e
      exact ⟨by omega, rfl, fun q => by rw [hw] at q; exact absurd q.2 (by decide)⟩
  | w :: r, 1, v, j + 1, u, h, hu => by
    have h : (k_st r 0 v)[j]? = some u := by simpa [k_st] using h
    rcases k_st_get r 0 v j u h hu with ⟨e, q⟩ | ⟨e, q1, q2⟩
    · exact Or.inl ⟨by omega, q⟩
    · exact Or.inr ⟨by omega, by simpa using q1, by omega⟩
  | w :: r, i + 2, v, 0, u, h, hu => by
    right
    exact ⟨by omega, by simpa [k_st] using h, by omega⟩
  | w :: r, i + 2, v, j + 1, u, h, hu => by
    have h : (k_st r (i + 1) v)[j]? = some u := by simpa [k_st] using h
    rcases k_st_get r (i + 1) v j u h hu with ⟨e, q⟩ | ⟨e, q1, q2⟩
    · exact Or.inl ⟨by omega, q⟩
    · exact Or.inr ⟨by omega, by simpa using q1, fun z => q2 ⟨by omega, z.2⟩⟩
def k_pr (Z : k_Z) (L : List Value) : List (Nat × Value) := (List.range L.length).filterMap (fun i => match L[i]? with
  | some Value.null => none
  | some v => some (i, kb Z v)
  | none => none)
theorem k_pr_in {Z : k_Z} {L : List Value} {i : Nat} {v : Value} (h : L[i]? = some v) (hv : v ≠ .null) : (i, kb Z v) ∈ k_pr Z L := by
  refine List.mem_filterMap.mpr ⟨i, List.mem_range.mpr (List.getElem?_eq_some_iff.mp h).1, ?_⟩
  rw [h]
  cases v <;> first | rfl | exact absurd rfl hv
theorem k_pr_of {Z : k_Z} {L : List Value} {q : Nat × Value} (h : q ∈ k_pr Z L) : ∃ v, L[q.1]? = some v ∧ v ≠ .null ∧ q.2 = kb Z v := by
  obtain ⟨i, -, hi⟩ := List.mem_filterMap.mp h
  cases hv : L[i]? with
  | none => rw [hv] at hi; cases hi
  | some v =>
    rw [hv] at hi
    cases v <;> first | (cases hi; done) | (cases hi; exact ⟨_, hv, (by intro q; cases q), rfl⟩)
theorem k_Lo.has {Z : k_Z} {n : Nat} {L : List Value} {ls : Array Slot} (hL : k_Lo Z n L ls) : lv_has ls n (k_pr Z L) := by
  refine ⟨hL.2.1, hL.2.2.1, fun q hq => ?_⟩
  obtain ⟨v, h1, h2, h3⟩ := k_pr_of hq
  rw [h3]
  exact hL.2.2.2 _ _ h1 h2
theorem k_isL_kb (Z : k_Z) (v : Value) : ((kb Z v).category == 2) = k_isL v := by cases v <;> rfl
theorem k_Lo.store {Z : k_Z} {n i : Nat} {L : List Value} {ls ls' : Array Slot} {v : Value} (hL : k_Lo Z n L ls) (h : lv_has ls' n ((i, kb Z v) :: (k_pr Z L).filter (fun q => !(q.1 == i) && !(q.1 + 1 == i && q.2.category == 2)))) : k_Lo Z n (k_st L i v) ls' := by
  refine ⟨by rw [k_st_len]; exact hL.1, h.1, h.2.1, fun j u hj hu => ?_⟩
  rcases k_st_get L i v j u hj hu with ⟨e1, e2⟩ | ⟨e1, e2, e3⟩
  · subst e1; subst e2
    exact h.2.2 _ List.mem_cons_self
  · refine h.2.2 (j, kb Z u) (List.mem_cons_of_mem _ (List.mem_filter.mpr ⟨k_pr_in e2 hu, ?_⟩))
    simp only [k_isL_kb]
    have a1 : (j == i) = false := by simpa using e1
    rw [a1]
    cases hz : (j + 1 == i) with
    | false => rfl
    | true =>
      have : k_isL u = false := by
        cases hk : k_isL u with
        | false => rfl
        | true => exact absurd ⟨by simpa using hz, hk⟩ e3
      rw [this]; rfl
/-- a long: its own place, and the one behind it -/
def k_st2 (L : List Value) (i : Nat) (v : Value) : List Value := (k_st L i v).set (i + 1) .null
theorem k_Lo.store2 {Z : k_Z} {n i : Nat} {L : List Value} {ls ls' : Array Slot} {v : Value} (hL : k_Lo Z n L ls) (h : lv_has ls' n ((i, kb Z v) :: (k_pr Z L).filter (fun q => !(q.1 == i) && (!(q.1 == i + 1) && !(q.1 + 1 == i && q.2.category == 2))))) : k_Lo Z n (k_st2 L i v) ls' := by
  refine ⟨by rw [k_st2, List.length_set, k_st_len]; exact hL.1, h.1, h.2.1, fun j u hj hu => ?_⟩
  have hne : j ≠ i + 1 := by
    intro q
    subst q
    rw [k_st2, List.getElem?_set_self'] at hj
    cases hq : (k_st L i v)[i + 1]? with
    | none => rw [hq] at hj; cases hj
    | some z => rw [hq] at hj; exact hu (Option.some.inj hj).symm
  rw [k_st2, List.getElem?_set_ne (fun q => hne q.symm)] at hj
  rcases k_st_get L i v j u hj hu with ⟨e1, e2⟩ | ⟨e1, e2, e3⟩
  · subst e1; subst e2
    exact h.2.2 _ List.mem_cons_self
  · refine h.2.2 (j, kb Z u) (List.mem_cons_of_mem _ (List.mem_filter.mpr ⟨k_pr_in e2 hu, ?_⟩))
    simp only [k_isL_kb]
    have a1 : (j == i) = false := by simpa using e1
    have a2 : (j == i + 1) = false := by simpa using hne
    rw [a1, a2]
    cases hz : (j + 1 == i) with
    | false => rfl
    | true =>
      have : k_isL u = false := by
        cases hk : k_isL u with
        | false => rfl
        | true => exact absurd ⟨by simpa using hz, hk⟩ e3
      rw [this]; rfl
theorem k_istore_n {z : Fin 4} {x : Int32} {L2 : List Value} (hd : k_dc M pc (.istore_n z) 1 n) (hz : (z : Nat) < M.2.2.1) (hl : k_st L (z : Nat) (.int x) = L2) (k : AW X M d bc bs n L2 st h Po) : AW X M d bc bs pc L (.int x :: st) h Po := by
  subst hl
  obtain ⟨hd, rfl⟩ := hd
  intro p l e R s m args below meth c Z cI cJ D H locs cells slots ls Q C Y hL h1 h2 E
  refine lv_istore_n C.1 C.2.1 hd rfl hL.has hz rfl (fun ls' hl' => ?_)
  exact k p l e R s m args below meth c Z cI cJ D H locs cells slots ls' Q C Y (hL.store (v := .int x) hl') h1 h2 E
theorem k_istore {z : Nat} {x : Int32} {L2 : List Value} (hd : k_dc M pc (.istore z) 2 n) (hz : z < M.2.2.1) (hl : k_st L z (.int x) = L2) (k : AW X M d bc bs n L2 st h Po) : AW X M d bc bs pc L (.int x :: st) h Po := by
  subst hl
  obtain ⟨hd, rfl⟩ := hd
  intro p l e R s m args below meth c Z cI cJ D H locs cells slots ls Q C Y hL h1 h2 E
  refine lv_istore C.1 C.2.1 hd hL.has hz rfl (fun ls' hl' => ?_)
  exact k p l e R s m args below meth c Z cI cJ D H locs cells slots ls' Q C Y (hL.store (v := .int x) hl') h1 h2 E
theorem k_astore_n {z : Fin 4} {x : Nat} {L2 : List Value} (hd : k_dc M pc (.astore_n z) 1 n) (hz : (z : Nat) < M.2.2.1) (hl : k_st L (z : Nat) (.ref x) = L2) (k : AW X M d bc bs n L2 st h Po) : AW X M d bc bs pc L (.ref x :: st) h Po := by
  subst hl
  obtain ⟨hd, rfl⟩ := hd
  intro p l e R s m args below meth c Z cI cJ D H locs cells slots ls Q C Y hL h1 h2 E
  refine lv_astore_n C.1 C.2.1 hd rfl hL.has hz rfl (fun ls' hl' => ?_)
  exact k p l e R s m args below meth c Z cI cJ D H locs cells slots ls' Q C Y (hL.store (v := .ref x) hl') h1 h2 E
theorem k_astore {z : Nat} {x : Nat} {L2 : List Value} (hd : k_dc M pc (.astore z) 2 n) (hz : z < M.2.2.1) (hl : k_st L z (.ref x) = L2) (k : AW X M d bc bs n L2 st h Po) : AW X M d bc bs pc L (.ref x :: st) h Po := by
  subst hl
  obtain ⟨hd, rfl⟩ := hd
  intro p l e R s m args below meth c Z cI cJ D H locs cells slots ls Q C Y hL h1 h2 E
  refine lv_astore C.1 C.2.1 hd hL.has hz rfl (fun ls' hl' => ?_)
  exact k p l e R s m args below meth c Z cI cJ D H locs cells slots ls' Q C Y (hL.store (v := .ref x) hl') h1 h2 E
theorem k_lstore_n {z : Fin 4} {x : Int64} {L2 : List Value} (hd : k_dc M pc (.lstore_n z) 1 n) (hz : (z : Nat) + 1 < M.2.2.1) (hl : k_st2 L (z : Nat) (.long x) = L2) (k : AW X M d bc bs n L2 st h Po) : AW X M d bc bs pc L (.long x :: st) h Po := by
  subst hl
  obtain ⟨hd, rfl⟩ := hd
  intro p l e R s m args below meth c Z cI cJ D H locs cells slots ls Q C Y hL h1 h2 E
  refine lv_lstore_n C.1 C.2.1 hd rfl hL.has hz rfl (fun ls' hl' => ?_)
  exact k p l e R s m args below meth c Z cI cJ D H locs cells slots ls' Q C Y (hL.store2 (v := .long x) hl') h1 h2 E
theorem k_lstore {z : Nat} {x : Int64} {L2 : List Value} (hd : k_dc M pc (.lstore z) 2 n) (hz : z + 1 < M.2.2.1) (hl : k_st2 L z (.long x) = L2) (k : AW X M d bc bs n L2 st h Po) : AW X M d bc bs pc L (.long x :: st) h Po := by
  subst hl
  obtain ⟨hd, rfl⟩ := hd
  intro p l e R s m args below meth c Z cI cJ D H locs cells slots ls Q C Y hL h1 h2 E
  refine lv_lstore C.1 C.2.1 hd hL.has hz rfl (fun ls' hl' => ?_)
  exact k p l e R s m args below meth c Z cI cJ D H locs cells slots ls' Q C Y (hL.store2 (v := .long x) hl') h1 h2 E
theorem k_iinc {z : Nat} {g : Int} {x v : Int32} {L2 : List Value} (hd : k_dc M pc (.iinc z g) 3 n) (hz : z < M.2.2.1) (hx : L[z]? = some (.int x)) (hv : x + Int32.ofInt g = v) (hl : k_st L z (.int v) = L2) (k : AW X M d bc bs n L2 st h Po) : AW X M d bc bs pc L st h Po := by
  subst hl
  obtain ⟨hd, rfl⟩ := hd
  intro p l e R s m args below meth c Z cI cJ D H locs cells slots ls Q C Y hL h1 h2 E
  have hm := k_pr_in (Z := Z) hx (by intro q; cases q)
  obtain ⟨q, hq⟩ := List.getElem?_of_mem hm
  refine lv_iinc C.1 C.2.1 hd hL.has hq hv hz rfl (fun ls' hl' => ?_)
  exact k p l e R s m args below meth c Z cI cJ D H locs cells slots ls' Q C Y (hL.store (v := .int v) hl') h1 h2 E
theorem k_if_eq {x : Int32} {off : Int} (tgt : Nat) (hd : k_dc M pc (.ifCond .eq off) 3 n) (ht : (pc : Int) + off = (tgt : Int)) (kt : x = 0 → AW X M d bc bs tgt L st h Po) (kf : ¬ x = 0 → AW X M d bc bs n L st h Po) : AW X M d bc bs pc L (.int x :: st) h Po := by
  obtain ⟨hd, rfl⟩ := hd
  intro p l e R s m args below meth c Z cI cJ D H locs cells slots ls Q C Y hL h1 h2 E
  exact lv_if_eq C.1 C.2.1 hd ht (fun q => kt q p l e R s m args below meth c Z cI cJ D H locs cells slots ls Q C Y hL h1 h2 E) (fun q => kf q p l e R s m args below meth c Z cI cJ D H locs cells slots ls Q C Y hL h1 h2 E)
theorem k_if_ne {x : Int32} {off : Int} (tgt : Nat) (hd : k_dc M pc (.ifCond .ne off) 3 n) (ht : (pc : Int) + off = (tgt : Int)) (kt : ¬ x = 0 → AW X M d bc bs tgt L st h Po) (kf : x = 0 → AW X M d bc bs n L st h Po) : AW X M d bc bs pc L (.int x :: st) h Po := by
  obtain ⟨hd, rfl⟩ := hd
  intro p l e R s m args below meth c Z cI cJ D H locs cells slots ls Q C Y hL h1 h2 E
  exact lv_if_ne C.1 C.2.1 hd ht (fun q => kt q p l e R s m args below meth c Z cI cJ D H locs cells slots ls Q C Y hL h1 h2 E) (fun q => kf q p l e R s m args below meth c Z cI cJ D H locs cells slots ls Q C Y hL h1 h2 E)
theorem k_if_lt {x : Int32} {off : Int} (tgt : Nat) (hd : k_dc M pc (.ifCond .lt off) 3 n) (ht : (pc : Int) + off = (tgt : Int)) (kt : x < 0 → AW X M d bc bs tgt L st h Po) (kf : ¬ x < 0 → AW X M d bc bs n L st h Po) : AW X M d bc bs pc L (.int x :: st) h Po := by
  obtain ⟨hd, rfl⟩ := hd
  intro p l e R s m args below meth c Z cI cJ D H locs cells slots ls Q C Y hL h1 h2 E
  exact lv_if_lt C.1 C.2.1 hd ht (fun q => kt q p l e R s m args below meth c Z cI cJ D H locs cells slots ls Q C Y hL h1 h2 E) (fun q => kf q p l e R s m args below meth c Z cI cJ D H locs cells slots ls Q C Y hL h1 h2 E)
theorem k_if_ge {x : Int32} {off : Int} (tgt : Nat) (hd : k_dc M pc (.ifCond .ge off) 3 n) (ht : (pc : Int) + off = (tgt : Int)) (kt : 0 ≤ x → AW X M d bc bs tgt L st h Po) (kf : ¬ 0 ≤ x → AW X M d bc bs n L st h Po) : AW X M d bc bs pc L (.int x :: st) h Po := by
  obtain ⟨hd, rfl⟩ := hd
  intro p l e R s m args below meth c Z cI cJ D H locs cells slots ls Q C Y hL h1 h2 E
  exact lv_if_ge C.1 C.2.1 hd ht (fun q => kt q p l e R s m args below meth c Z cI cJ D H locs cells slots ls Q C Y hL h1 h2 E) (fun q => kf q p l e R s m args below meth c Z cI cJ D H locs cells slots ls Q C Y hL h1 h2 E)
theorem k_if_gt {x : Int32} {off : Int} (tgt : Nat) (hd : k_dc M pc (.ifCond .gt off) 3 n) (ht : (pc : Int) + off = (tgt : Int)) (kt : 0 < x → AW X M d bc bs tgt L st h Po) (kf : ¬ 0 < x → AW X M d bc bs n L st h Po) : AW X M d bc bs pc L (.int x :: st) h Po := by
  obtain ⟨hd, rfl⟩ := hd
  intro p l e R s m args below meth c Z cI cJ D H locs cells slots ls Q C Y hL h1 h2 E
  exact lv_if_gt C.1 C.2.1 hd ht (fun q => kt q p l e R s m args below meth c Z cI cJ D H locs cells slots ls Q C Y hL h1 h2 E) (fun q => kf q p l e R s m args below meth c Z cI cJ D H locs cells slots ls Q C Y hL h1 h2 E)
theorem k_if_le {x : Int32} {off : Int} (tgt : Nat) (hd : k_dc M pc (.ifCond .le off) 3 n) (ht : (pc : Int) + off = (tgt : Int)) (kt : x ≤ 0 → AW X M d bc bs tgt L st h Po) (kf : ¬ x ≤ 0 → AW X M d bc bs n L st h Po) : AW X M d bc bs pc L (.int x :: st) h Po := by
  obtain ⟨hd, rfl⟩ := hd
  intro p l e R s m args below meth c Z cI cJ D H locs cells slots ls Q C Y hL h1 h2 E
  exact lv_if_le C.1 C.2.1 hd ht (fun q => kt q p l e R s m args below meth c Z cI cJ D H locs cells slots ls Q C Y hL h1 h2 E) (fun q => kf q p l e R s m args below meth c Z cI cJ D H locs cells slots ls Q C Y hL h1 h2 E)
theorem k_icmp_eq {x y : Int32} {off : Int} (tgt : Nat) (hd : k_dc M pc (.if_icmp .eq off) 3 n) (ht : (pc : Int) + off = (tgt : Int)) (kt : x = y → AW X M d bc bs tgt L st h Po) (kf : ¬ x = y → AW X M d bc bs n L st h Po) : AW X M d bc bs pc L (.int y :: .int x :: st) h Po := by
  obtain ⟨hd, rfl⟩ := hd
  intro p l e R s m args below meth c Z cI cJ D H locs cells slots ls Q C Y hL h1 h2 E
  exact lv_icmp_eq C.1 C.2.1 hd ht (fun q => kt q p l e R s m args below meth c Z cI cJ D H locs cells slots ls Q C Y hL h1 h2 E) (fun q => kf q p l e R s m args below meth c Z cI cJ D H locs cells slots ls Q C Y hL h1 h2 E)
theorem k_icmp_ne {x y : Int32} {off : Int} (tgt : Nat) (hd : k_dc M pc (.if_icmp .ne off) 3 n) (ht : (pc : Int) + off = (tgt : Int)) (kt : ¬ x = y → AW X M d bc bs tgt L st h Po) (kf : x = y → AW X M d bc bs n L st h Po) : AW X M d bc bs pc L (.int y :: .int x :: st) h Po := by
  obtain ⟨hd, rfl⟩ := hd
  intro p l e R s m args below meth c Z cI cJ D H locs cells slots ls Q C Y hL h1 h2 E
  exact lv_icmp_ne C.1 C.2.1 hd ht (fun q => kt q p l e R s m args below meth c Z cI cJ D H locs cells slots ls Q C Y hL h1 h2 E) (fun q => kf q p l e R s m args below meth c Z cI cJ D H locs cells slots ls Q C Y hL h1 h2 E)
theorem k_icmp_lt {x y : Int32} {off : Int} (tgt : Nat) (hd : k_dc M pc (.if_icmp .lt off) 3 n) (ht : (pc : Int) + off = (tgt : Int)) (kt : x < y → AW X M d bc bs tgt L st h Po) (kf : ¬ x < y → AW X M d bc bs n L st h Po) : AW X M d bc bs pc L (.int y :: .int x :: st) h Po := by
  obtain ⟨hd, rfl⟩ := hd
  intro p l e R s m args below meth c Z cI cJ D H locs cells slots ls Q C Y hL h1 h2 E
  exact lv_icmp_lt C.1 C.2.1 hd ht (fun q => kt q p l e R s m args below meth c Z cI cJ D H locs cells slots ls Q C Y hL h1 h2 E) (fun q => kf q p l e R s m args below meth c Z cI cJ D H locs cells slots ls Q C Y hL h1 h2 E)
theorem k_icmp_ge {x y : Int32} {off : Int} (tgt : Nat) (hd : k_dc M pc (.if_icmp .ge off) 3 n) (ht : (pc : Int) + off = (tgt : Int)) (kt : y ≤ x → AW X M d bc bs tgt L st h Po) (kf : ¬ y ≤ x → AW X M d bc bs n L st h Po) : AW X M d bc bs pc L (.int y :: .int x :: st) h Po := by
  obtain ⟨hd, rfl⟩ := hd
  intro p l e R s m args below meth c Z cI cJ D H locs cells slots ls Q C Y hL h1 h2 E
  exact lv_icmp_ge C.1 C.2.1 hd ht (fun q => kt q p l e R s m args below meth c Z cI cJ D H locs cells slots ls Q C Y hL h1 h2 E) (fun q => kf q p l e R s m args below meth c Z cI cJ D H locs cells slots ls Q C Y hL h1 h2 E)
theorem k_icmp_gt {x y : Int32} {off : Int} (tgt : Nat) (hd : k_dc M pc (.if_icmp .gt off) 3 n) (ht : (pc : Int) + off = (tgt : Int)) (kt : y < x → AW X M d bc bs tgt L st h Po) (kf : ¬ y < x → AW X M d bc bs n L st h Po) : AW X M d bc bs pc L (.int y :: .int x :: st) h Po := by
  obtain ⟨hd, rfl⟩ := hd
  intro p l e R s m args below meth c Z cI cJ D H locs cells slots ls Q C Y hL h1 h2 E
  exact lv_icmp_gt C.1 C.2.1 hd ht (fun q => kt q p l e R s m args below meth c Z cI cJ D H locs cells slots ls Q C Y hL h1 h2 E) (fun q => kf q p l e R s m args below meth c Z cI cJ D H locs cells slots ls Q C Y hL h1 h2 E)
theorem k_icmp_le {x y : Int32} {off : Int} (tgt : Nat) (hd : k_dc M pc (.if_icmp .le off) 3 n) (ht : (pc : Int) + off = (tgt : Int)) (kt : x ≤ y → AW X M d bc bs tgt L st h Po) (kf : ¬ x ≤ y → AW X M d bc bs n L st h Po) : AW X M d bc bs pc L (.int y :: .int x :: st) h Po := by
  obtain ⟨hd, rfl⟩ := hd
  intro p l e R s m args below meth c Z cI cJ D H locs cells slots ls Q C Y hL h1 h2 E
  exact lv_icmp_le C.1 C.2.1 hd ht (fun q => kt q p l e R s m args below meth c Z cI cJ D H locs cells slots ls Q C Y hL h1 h2 E) (fun q => kf q p l e R s m args below meth c Z cI cJ D H locs cells slots ls Q C Y hL h1 h2 E)
theorem k_goto {off : Int} (tgt : Nat) (hd : k_dc M pc (.goto off) 3 n) (ht : (pc : Int) + off = (tgt : Int)) (k : AW X M d bc bs tgt L st h Po) : AW X M d bc bs pc L st h Po := by
  obtain ⟨hd, rfl⟩ := hd
  intro p l e R s m args below meth c Z cI cJ D H locs cells slots ls Q C Y hL h1 h2 E
  exact lv_goto C.1 C.2.1 hd ht (k p l e R s m args below meth c Z cI cJ D H locs cells slots ls Q C Y hL h1 h2 E)
theorem k_tabOut {dflt lo hi : Int} {offs : Array Int} {len : Nat} {x : Int32} (tgt : Nat) (hd : k_dc M pc (.tableswitch dflt lo hi offs) len n) (hx : x.toInt < lo ∨ hi < x.toInt) (ht : (pc : Int) + dflt = (tgt : Int)) (k : AW X M d bc bs tgt L st h Po) : AW X M d bc bs pc L (.int x :: st) h Po := by
  obtain ⟨hd, rfl⟩ := hd
  intro p l e R s m args below meth c Z cI cJ D H locs cells slots ls Q C Y hL h1 h2 E
  exact lv_tableOut C.1 C.2.1 hd hx ht (k p l e R s m args below meth c Z cI cJ D H locs cells slots ls Q C Y hL h1 h2 E)
theorem k_tabIn {dflt lo hi : Int} {offs : Array Int} {len : Nat} {x : Int32} {off : Int} (tgt : Nat) (hd : k_dc M pc (.tableswitch dflt lo hi offs) len n) (hx1 : ¬ x.toInt < lo) (hx2 : ¬ hi < x.toInt) (ho : offs[(x.toInt - lo).toNat]? = some off) (ht : (pc : Int) + off = (tgt : Int)) (k : AW X M d bc bs tgt L st h Po) : AW X M d bc bs pc L (.int x :: st) h Po := by
  obtain ⟨hd, rfl⟩ := hd
  intro p l e R s m args below meth c Z cI cJ D H locs cells slots ls Q C Y hL h1 h2 E
  exact lv_tableIn C.1 C.2.1 hd hx1 hx2 ho ht (k p l e R s m args below meth c Z cI cJ D H locs cells slots ls Q C Y hL h1 h2 E)
theorem k_look {dflt : Int} {ps : Array (Int × Int)} {len : Nat} {x : Int32} {off : Int} (tgt : Nat) (hd : k_dc M pc (.lookupswitch dflt ps) len n) (hp : (ps.toList.zip (ps.toList.drop 1)).all (fun (a, next) => a.1 < next.1) = true) (ho : Op.lookupswitch.offset ps.toList dflt x.toInt = off) (ht : (pc : Int) + off = (tgt : Int)) (k : AW X M d bc bs tgt L st h Po) : AW X M d bc bs pc L (.int x :: st) h Po := by
  obtain ⟨hd, rfl⟩ := hd
  intro p l e R s m args below meth c Z cI cJ D H locs cells slots ls Q C Y hL h1 h2 E
  exact lv_lookup C.1 C.2.1 hd hp ho ht (k p l e R s m args below meth c Z cI cJ D H locs cells slots ls Q C Y hL h1 h2 E)
theorem k_ldc {own : String} {ix : Nat} {v : Int32} (hd : k_dc M pc (.ldc ix) 2 n) (hw : Cond.constant own ix v ∈ k_tG) (ho : M.1.cls = own) (k : AW X M d bc bs n L (.int v :: st) h Po) : AW X M d bc bs pc L st h Po := by
  obtain ⟨hd, rfl⟩ := hd
  intro p l e R s m args below meth c Z cI cJ D H locs cells slots ls Q C Y hL h1 h2 E
  subst ho
  exact W.ldc C.1 C.2.1 C.2.2.2.1 (C.2.2.2.2.2.1 _ hw) rfl hd (k p l e R s m args below meth c Z cI cJ D H locs cells slots ls Q C Y hL h1 h2 E)
theorem k_ldcw {own : String} {ix : Nat} {v : Int32} (hd : k_dc M pc (.ldc_w ix) 3 n) (hw : Cond.constant own ix v ∈ k_tG) (ho : M.1.cls = own) (k : AW X M d bc bs n L (.int v :: st) h Po) : AW X M d bc bs pc L st h Po := by
  obtain ⟨hd, rfl⟩ := hd
  intro p l e R s m args below meth c Z cI cJ D H locs cells slots ls Q C Y hL h1 h2 E
  subst ho
  exact lv_ldcw C.1 C.2.1 C.2.2.2.1 (C.2.2.2.2.2.1 _ hw) hd (k p l e R s m args below meth c Z cI cJ D H locs cells slots ls Q C Y hL h1 h2 E)
theorem k_ldc2 {own : String} {ix : Nat} {v : Int64} (hd : k_dc M pc (.ldc2_w ix) 3 n) (hw : Cond.constantLong own ix v ∈ k_tG) (ho : M.1.cls = own) (k : AW X M d bc bs n L (.long v :: st) h Po) : AW X M d bc bs pc L st h Po := by
  obtain ⟨hd, rfl⟩ := hd
  intro p l e R s m args below meth c Z cI cJ D H locs cells slots ls Q C Y hL h1 h2 E
  subst ho
  exact W.ldc2 C.1 C.2.1 C.2.2.2.1 (C.2.2.2.2.2.1 _ hw) rfl hd (k p l e R s m args below meth c Z cI cJ D H locs cells slots ls Q C Y hL h1 h2 E)
theorem k_ws_get {Z : k_Z} {cI cJ : ClassId} {h : k_H} {a : Nat} {e : k_E} (ha : h[a]? = some e) : (k_ws Z cI cJ h)[a]? = some (Z.1 + a, k_ce Z cI cJ e) := by
  rw [k_ws, List.getElem?_mapIdx, ha]; rfl
theorem k_ws_set {Z : k_Z} {cI cJ : ClassId} {h : k_H} {a : Nat} {e : k_E} : (k_ws Z cI cJ h).set a (Z.1 + a, k_ce Z cI cJ e) = k_ws Z cI cJ (h.set a e) := by
  apply List.ext_getElem?
  intro i
  rw [k_ws, k_ws, List.getElem?_set, List.getElem?_mapIdx, List.getElem?_mapIdx, List.getElem?_set, List.length_mapIdx]
  by_cases q : a = i
  · subst q
    rw [if_pos rfl, if_pos rfl]
    by_cases z : a < h.length
    · rw [if_pos z, if_pos z]; rfl
    · rw [if_neg z, if_neg z]; rfl
  · rw [if_neg q, if_neg q]
theorem k_ws_app {Z : k_Z} {cI cJ : ClassId} {h : k_H} {e : k_E} : k_ws Z cI cJ (h ++ [e]) = k_ws Z cI cJ h ++ [(Z.1 + h.length, k_ce Z cI cJ e)] := by
  rw [k_ws, k_ws, List.mapIdx_append]; simp
theorem k_ws_D (Z : k_Z) (cI cJ : ClassId) (h : k_H) (hz : gp Z ≠ 0 → Z.1 + h.length = ho Z) : va_D (k_A Z) (k_ws Z cI cJ h) := by
  have key : ∀ (i : Nat) (p : Nat × va_E), (k_ws Z cI cJ h)[i]? = some p → p.1 = Z.1 + i := by
    intro i p hp
    rw [k_ws, List.getElem?_mapIdx] at hp
    cases hh : h[i]? with
    | none => rw [hh] at hp; cases hp
    | some e => rw [hh] at hp; cases hp; rfl
  refine ⟨fun i j p q hp hq e => ?_, fun i p hp => ?_⟩
  · have h1 := key i p hp
    have h2 := key j q hq
    omega
  · have h1 := key i p hp
    have h3 : i < h.length := by
      have q := (List.getElem?_eq_some_iff.mp hp).1
      rw [k_ws, List.length_mapIdx] at q
      exact q
    refine ⟨by omega, fun q => ?_⟩
    have h4 := hz (by omega)
    omega
/-- a class of ours: its row of the classes, its fields' words, types, names apart -/
def k_cl (ci : Nat) (C : String) (T : u_T) (N : Nat) (ty : Nat → FieldType) : Prop := vwCl[ci]? = some (C, T, N) ∧ (∀ w ∈ u_ws C T N, w ∈ k_tG) ∧ (∀ k, k < N → parseFieldDescriptor (T k).2.2.1 = some (ty k)) ∧ ∀ a, a < N → ∀ b, b < N → a ≠ b → (T a).2.1 ≠ (T b).2.1
theorem k_get {ci j ix a N : Nat} {C0 : String} {T : u_T} {ty : Nat → FieldType} {fs : List Value} {v : Value} (hd : k_dc M pc (.getfield ix) 3 n) (hc : k_cl ci C0 T N ty) (hlk : j < N ∧ Cond.fieldLink M.1.cls ix (T j).1 (T j).2.1 (T j).2.2.1 ∈ k_tG) (ha : h[a]? = some (.inr (ci, fs))) (hv : fs[j]? = some v) (k : AW X M d bc bs n L (v :: st) h Po) : AW X M d bc bs pc L (.ref a :: st) h Po := by
  obtain ⟨hd, rfl⟩ := hd
  intro p l e R s m args below meth c Z cI cJ D H locs cells slots ls Q C Y hL h1 h2 E
  exact va_get (D := D) (T := T) C.1 C.2.1 C.2.2.2.2.2.1 hc.2.1 C.2.2.2.1 C.2.2.2.2.2.2.2.1 Y.1 a (fs := fs.map (kb Z)) (k_ws_get ha) hc.1 j hlk.1 (C.2.2.2.2.2.1 _ hlk.2) (fun _ z => z) (v := kb Z v) (by rw [List.getElem?_map, hv]; rfl) hd (k p l e R s m args below meth c Z cI cJ D H locs cells slots ls Q C Y hL h1 h2 E)
theorem k_getN {ci j ix a N : Nat} {C0 host : String} {T : u_T} {ty : Nat → FieldType} {fs : List Value} {v : Value} (hd : k_dc M pc (.getfield ix) 3 n) (hc : k_cl ci C0 T N ty) (hlk : j < N ∧ Cond.fieldLinkNest M.1.cls ix (T j).1 (T j).2.1 (T j).2.2.1 host ∈ k_tN) (ha : h[a]? = some (.inr (ci, fs))) (hv : fs[j]? = some v) (k : AW X M d bc bs n L (v :: st) h Po) : AW X M d bc bs pc L (.ref a :: st) h Po := by
  obtain ⟨hd, rfl⟩ := hd
  intro p l e R s m args below meth c Z cI cJ D H locs cells slots ls Q C Y hL h1 h2 E
  exact va_getN (D := D) (T := T) C.1 C.2.1 C.2.2.2.2.2.1 hc.2.1 C.2.2.2.1 C.2.2.2.2.2.2.2.1 Y.1 a (fs := fs.map (kb Z)) (k_ws_get ha) hc.1 j hlk.1 (va_Nw.use rfl (C.2.2.2.2.2.2.1 _ hlk.2)) (fun _ z => z) (v := kb Z v) (by rw [List.getElem?_map, hv]; rfl) hd (k p l e R s m args below meth c Z cI cJ D H locs cells slots ls Q C Y hL h1 h2 E)
theorem k_put {ci j ix a N : Nat} {C0 : String} {T : u_T} {ty : Nat → FieldType} {fs : List Value} {v : Value} {h2' : k_H} (hd : k_dc M pc (.putfield ix) 3 n) (hc : k_cl ci C0 T N ty) (hlk : j < N ∧ Cond.fieldLink M.1.cls ix (T j).1 (T j).2.1 (T j).2.2.1 ∈ k_tG) (hfin : (T j).2.2.2 = false) (ha : h[a]? = some (.inr (ci, fs))) (hjl : j < fs.length) (hn : ∀ Z, narrow (ty j) (kb Z v) = kb Z v ∧ fits (ty j) (kb Z v) = true) (he2 : h.set a (.inr (ci, fs.set j v)) = h2') (k : AW X M d bc bs n L st h2' Po) : AW X M d bc bs pc L (v :: .ref a :: st) h Po := by
  subst he2
  obtain ⟨hd, rfl⟩ := hd
  intro p l e R s m args below meth c Z cI cJ D H locs cells slots ls Q C Y hL h1 h2 E
  obtain ⟨hcv, hin, hty, hnm⟩ := hc
  have hts := C.2.2.2.2.2.1
  have hK := C.2.2.2.2.2.2.2.1
  have he := k_ws_get (Z := Z) (cI := cI) (cJ := cJ) ha
  have hap := va_apart (own := M.1.cls) hts hin ty hty hnm hK hcv
  obtain ⟨r, g1, cell, q1, q2, q3, q4⟩ := Y.1 a _ he
  cases hcv.symm.trans g1
  obtain ⟨hSl, hfc, kC, hkC, hkind⟩ := hK.1 ci _ hcv
  obtain ⟨cf, kf, fi, f, hi, hsl⟩ := hSl j hlk.1
  have hlay := hts _ (hin _ (u_in_lay hlk.1))
  unfold u_lay at hlay
  rw [if_neg (by rw [hfin]; decide)] at hlay
  have hst := (u_facts hfc hkC (u_lays hts hin hlk.1) hi).1
  have h6 := u_store hfc hkC hkind hlay hi (hty j hlk.1) (hn Z).1 (hn Z).2
  refine W.putK C.1 C.2.1 (f := f) ⟨C.2.2.2.1, hts _ hlk.2, ⟨_, _, _, hi⟩, hst⟩ (v := kb Z v) (by rw [q2]; exact h6) q1 q3 (by rw [hsl]; exact k2_hasslot (q4 j hlk.1)) rfl rfl hd fun H' e1 e2 e3 => ?_
  rw [hsl] at e1 ⊢
  have hP1 := Y.1.set (k_ws_D Z cI cJ h Y.2.1.2) he (e := .inr (ci, (fs.map (kb Z)).set j (kb Z v))) ⟨_, hcv, t_OB.to (V := updV (vp_V (fs.map (kb Z))) j (kb Z v)) ⟨_, e1, q2, q3, t_set q4 hap hlk.1 (kb Z v)⟩ (fun i _ => vp_updV_set (by rw [List.length_map]; exact hjl) (kb Z v) i)⟩ e3
  have hee : (.inr (ci, (fs.map (kb Z)).set j (kb Z v)) : va_E) = k_ce Z cI cJ (.inr (ci, fs.set j v)) := by show _ = Sum.inr (ci, (fs.set j v).map (kb Z)); rw [List.map_set]
  rw [hee, k_ws_set] at hP1
  exact k p l e R s m args below meth c Z cI cJ D H' _ cells slots ls Q C ⟨hP1, Y.2.1.set e2, Y.2.2.put e2 e3 ((k_ws_D Z cI cJ h Y.2.1.2).2 a _ he)⟩ hL h1 h2 E
theorem k_putF {ci j ix a N : Nat} {C0 : String} {T : u_T} {ty : Nat → FieldType} {fs : List Value} {v : Value} {h2' : k_H} (hd : k_dc M pc (.putfield ix) 3 n) (hc : k_cl ci C0 T N ty) (hlk : j < N ∧ Cond.fieldLink M.1.cls ix (T j).1 (T j).2.1 (T j).2.2.1 ∈ k_tG) (hfin : (T j).2.2.2 = true) (hini : M.1.name = "<init>" ∧ (T j).1 = M.1.cls) (ha : h[a]? = some (.inr (ci, fs))) (hjl : j < fs.length) (hn : ∀ Z, narrow (ty j) (kb Z v) = kb Z v ∧ fits (ty j) (kb Z v) = true) (he2 : h.set a (.inr (ci, fs.set j v)) = h2') (k : AW X M d bc bs n L st h2' Po) : AW X M d bc bs pc L (v :: .ref a :: st) h Po := by
  subst he2
  obtain ⟨hd, rfl⟩ := hd
  intro p l e R s m args below meth c Z cI cJ D H locs cells slots ls Q C Y hL h1 h2 E
  obtain ⟨hcv, hin, hty, hnm⟩ := hc
  have hts := C.2.2.2.2.2.1
  have hK := C.2.2.2.2.2.2.2.1
  have he := k_ws_get (Z := Z) (cI := cI) (cJ := cJ) ha
  have hap := va_apart (own := M.1.cls) hts hin ty hty hnm hK hcv
  obtain ⟨r, g1, cell, q1, q2, q3, q4⟩ := Y.1 a _ he
  cases hcv.symm.trans g1
  obtain ⟨hSl, hfc, kC, hkC, hkind⟩ := hK.1 ci _ hcv
  obtain ⟨cf, kf, fi, f, hi, hsl⟩ := hSl j hlk.1
  have hlay := hts _ (hin _ (u_in_lay hlk.1))
  unfold u_lay at hlay
  rw [if_pos hfin] at hlay
  have hst := (u_facts hfc hkC (u_lays hts hin hlk.1) hi).1
  have hcf : m.cls = cf := by
    obtain ⟨_, _, c', _, _, _, -, -, hf', -, -, -, hown2, -⟩ := Cond.laysFinal_spec hlay
    have z1 : c' = cf := by have := hi.symm.trans hf'; simp at this; exact this.1.symm
    rw [hini.2] at hown2
    rw [← z1]; exact Option.some.inj (C.2.2.2.1.symm.trans hown2)
  have h6 := u_fits hfc hkC hkind (Or.inr hlay) hi (hty j hlk.1) (hn Z).1 (hn Z).2
  refine W.putFinK C.1 C.2.1 C.2.2.2.1 (hts _ hlk.2) hi hst hcf (C.2.2.2.2.1.trans hini.1) (v := kb Z v) (by rw [q2]; exact h6) q1 q3 (by rw [hsl]; exact k2_hasslot (q4 j hlk.1)) rfl rfl hd fun H' e1 e2 e3 => ?_
  rw [hsl] at e1 ⊢
  have hP1 := Y.1.set (k_ws_D Z cI cJ h Y.2.1.2) he (e := .inr (ci, (fs.map (kb Z)).set j (kb Z v))) ⟨_, hcv, t_OB.to (V := updV (vp_V (fs.map (kb Z))) j (kb Z v)) ⟨_, e1, q2, q3, t_set q4 hap hlk.1 (kb Z v)⟩ (fun i _ => vp_updV_set (by rw [List.length_map]; exact hjl) (kb Z v) i)⟩ e3
  have hee : (.inr (ci, (fs.map (kb Z)).set j (kb Z v)) : va_E) = k_ce Z cI cJ (.inr (ci, fs.set j v)) := by show _ = Sum.inr (ci, (fs.set j v).map (kb Z)); rw [List.map_set]
  rw [hee, k_ws_set] at hP1
  exact k p l e R s m args below meth c Z cI cJ D H' _ cells slots ls Q C ⟨hP1, Y.2.1.set e2, Y.2.2.put e2 e3 ((k_ws_D Z cI cJ h Y.2.1.2).2 a _ he)⟩ hL h1 h2 E
theorem k_gets {ix t : Nat} (hd : k_dc M pc (.getstatic ix) 3 n) (ht : t = 1 ∨ t = 2) (hlk : Cond.fieldLink M.1.cls ix "java/lang/Integer" (k_tn t) "[B" ∈ k_tG) (k : AW X M d bc bs n L (.retAddr t :: st) h Po) : AW X M d bc bs pc L st h Po := by
  obtain ⟨hd, rfl⟩ := hd
  intro p l e R s m args below meth c Z cI cJ D H locs cells slots ls Q C Y hL h1 h2 E
  exact va_gets C.1 C.2.1 (C.2.2.2.2.2.2.2.2.1.2.1 t ht) Y.2.2 C.2.2.2.1 (C.2.2.2.2.2.1 _ hlk) (fun _ z => z) hd (k p l e R s m args below meth c Z cI cJ D H locs cells slots ls Q C Y hL h1 h2 E)
theorem k_getsC {ix : Nat} (hd : k_dc M pc (.getstatic ix) 3 n) (hlk : Cond.fieldLink M.1.cls ix "java/lang/String" "COMPACT_STRINGS" "Z" ∈ k_tG) (k : AW X M d bc bs n L (.int 1 :: st) h Po) : AW X M d bc bs pc L st h Po := by
  obtain ⟨hd, rfl⟩ := hd
  intro p l e R s m args below meth c Z cI cJ D H locs cells slots ls Q C Y hL h1 h2 E
  exact va_gets C.1 C.2.1 C.2.2.2.2.2.2.2.2.1.2.2.1 Y.2.2 C.2.2.2.1 (C.2.2.2.2.2.1 _ hlk) (fun _ z => z) hd (k p l e R s m args below meth c Z cI cJ D H locs cells slots ls Q C Y hL h1 h2 E)
theorem k_getsQ {ix : Nat} (hd : k_dc M pc (.getstatic ix) 3 n) (hlk : Cond.fieldLink M.1.cls ix "jdk/internal/util/Preconditions" "SIOOBE_FORMATTER" "Ljava/util/function/BiFunction;" ∈ k_tG) (k : ∀ v : Value, (v = .null ∨ v = .retAddr 30) → AW X M d bc bs n L (v :: st) h Po) : AW X M d bc bs pc L st h Po := by
  obtain ⟨hd, rfl⟩ := hd
  intro p l e R s m args below meth c Z cI cJ D H locs cells slots ls Q C Y hL h1 h2 E
  obtain ⟨v, hv, hz⟩ := C.2.2.2.2.2.2.2.2.1.2.2.2.1
  exact va_gets C.1 C.2.1 hz Y.2.2 C.2.2.2.1 (C.2.2.2.2.2.1 _ hlk) (fun _ z => z) hd (k v hv p l e R s m args below meth c Z cI cJ D H locs cells slots ls Q C Y hL h1 h2 E)
theorem k_ldcS {i ix : Nat} (hd : k_dc M pc (.ldc ix) 2 n) (hX : X ≠ none) (hi : i < 4) (ho2 : M.1.cls = "FitOnDayLaw") (hix : ldx i = ix) (k : AW X M d bc bs n L (.retAddr (10 + i) :: st) h Po) : AW X M d bc bs pc L st h Po := by
  subst hix
  obtain ⟨hd, rfl⟩ := hd
  intro p l e R s m args below meth c Z cI cJ D H locs cells slots ls Q C Y hL h1 h2 E
  exact va_ldcS C.1 C.2.1 C.2.2.2.1 (by rw [ho2]; exact C.2.2.2.2.2.2.2.2.1.2.2.2.2.2 hX i hi) hd (k p l e R s m args below meth c Z cI cJ D H locs cells slots ls Q C Y hL h1 h2 E)
theorem k_getKv {i ix : Nat} (hd : k_dc M pc (.getfield ix) 3 n) (hi : i < 4) (hlk : Cond.fieldLink M.1.cls ix "java/lang/String" "value" "[B" ∈ k_tG) (k : AW X M d bc bs n L (.retAddr (20 + i) :: st) h Po) : AW X M d bc bs pc L (.retAddr (10 + i) :: st) h Po := by
  obtain ⟨hd, rfl⟩ := hd
  intro p l e R s m args below meth c Z cI cJ D H locs cells slots ls Q C Y hL h1 h2 E
  exact vk_getf C.1 C.2.1 (C.2.2.2.2.2.2.2.2.1.2.2.2.2.1.1 i hi).2.2.1 Y.2.2 C.2.2.2.1 (C.2.2.2.2.2.1 _ hlk) (fun _ z => z) hd (k p l e R s m args below meth c Z cI cJ D H locs cells slots ls Q C Y hL h1 h2 E)
theorem k_getKc {i ix : Nat} (hd : k_dc M pc (.getfield ix) 3 n) (hi : i < 4) (hlk : Cond.fieldLink M.1.cls ix "java/lang/String" "coder" "B" ∈ k_tG) (k : AW X M d bc bs n L (.int 0 :: st) h Po) : AW X M d bc bs pc L (.retAddr (10 + i) :: st) h Po := by
  obtain ⟨hd, rfl⟩ := hd
  intro p l e R s m args below meth c Z cI cJ D H locs cells slots ls Q C Y hL h1 h2 E
  exact vk_getf C.1 C.2.1 (C.2.2.2.2.2.2.2.2.1.2.2.2.2.1.1 i hi).2.1 Y.2.2 C.2.2.2.1 (C.2.2.2.2.2.1 _ hlk) (fun _ z => z) hd (k p l e R s m args below meth c Z cI cJ D H locs cells slots ls Q C Y hL h1 h2 E)
theorem k_alenK {i : Nat} (hd : k_dc M pc .arraylength 1 n) (hi : i < 4) (k : AW X M d bc bs n L (.int (Int32.ofNat (lenJ.getD i 0)) :: st) h Po) : AW X M d bc bs pc L (.retAddr (20 + i) :: st) h Po := by
  obtain ⟨hd, rfl⟩ := hd
  intro p l e R s m args below meth c Z cI cJ D H locs cells slots ls Q C Y hL h1 h2 E
  exact va_tlen C.1 C.2.1 (C.2.2.2.2.2.2.2.2.1.2.2.2.2.1.1 i hi).2.2.2 Y.2.2 rfl hd (k p l e R s m args below meth c Z cI cJ D H locs cells slots ls Q C Y hL h1 h2 E)
theorem k_baldT {t : Nat} {i : Int32} (hd : k_dc M pc .baload 1 n) (ht : t = 1 ∨ t = 2) (hi : vp_in i 100) (k : ∀ v : Int32, AW X M d bc bs n L (.int v :: st) h Po) : AW X M d bc bs pc L (.int i :: .retAddr t :: st) h Po := by
  obtain ⟨hd, rfl⟩ := hd
  intro p l e R s m args below meth c Z cI cJ D H locs cells slots ls Q C Y hL h1 h2 E
  have hT := C.2.2.2.2.2.2.2.2.1.1 t (by rcases ht with rfl | rfl <;> trivial)
  have e1 : k_ty t = .byte := by rcases ht with rfl | rfl <;> rfl
  have e2 : (k_tb X t).1 = 100 := by rcases ht with rfl | rfl <;> rfl
  rw [e1, e2] at hT
  exact va_tb C.1 C.2.1 hT Y.2.2 hi rfl hd (k _ p l e R s m args below meth c Z cI cJ D H locs cells slots ls Q C Y hL h1 h2 E)
theorem k_ialdT {i : Int32} (hd : k_dc M pc .iaload 1 n) (ht : k_on X 0) (hi : vp_in i (k_tb X 0).1) (k : AW X M d bc bs n L (.int ((k_tb X 0).2 i.toNatClampNeg) :: st) h Po) : AW X M d bc bs pc L (.int i :: .retAddr 0 :: st) h Po := by
  obtain ⟨hd, rfl⟩ := hd
  intro p l e R s m args below meth c Z cI cJ D H locs cells slots ls Q C Y hL h1 h2 E
  exact va_ti C.1 C.2.1 (C.2.2.2.2.2.2.2.2.1.1 0 ht) Y.2.2 hi rfl hd (k p l e R s m args below meth c Z cI cJ D H locs cells slots ls Q C Y hL h1 h2 E)
theorem k_alenT {t : Nat} (hd : k_dc M pc .arraylength 1 n) (ht : k_on X t) (k : AW X M d bc bs n L (.int (Int32.ofNat (k_tb X t).1) :: st) h Po) : AW X M d bc bs pc L (.retAddr t :: st) h Po := by
  obtain ⟨hd, rfl⟩ := hd
  intro p l e R s m args below meth c Z cI cJ D H locs cells slots ls Q C Y hL h1 h2 E
  exact va_tlen C.1 C.2.1 (C.2.2.2.2.2.2.2.2.1.1 t ht) Y.2.2 rfl hd (k p l e R s m args below meth c Z cI cJ D H locs cells slots ls Q C Y hL h1 h2 E)
theorem k_iald {a N : Nat} {f : Nat → Int32} {i : Int32} (hd : k_dc M pc .iaload 1 n) (ha : h[a]? = some (.inl (N, .inl f))) (hi : vp_in i N) (k : AW X M d bc bs n L (.int (f i.toNatClampNeg) :: st) h Po) : AW X M d bc bs pc L (.int i :: .ref a :: st) h Po := by
  obtain ⟨hd, rfl⟩ := hd
  intro p l e R s m args below meth c Z cI cJ D H locs cells slots ls Q C Y hL h1 h2 E
  exact va_iald C.1 C.2.1 C.2.2.2.2.2.2.2.1 Y.1 a 0 (k_ws_get ha) rfl hi hd (k p l e R s m args below meth c Z cI cJ D H locs cells slots ls Q C Y hL h1 h2 E)
theorem k_lald {a N : Nat} {f : Nat → Int64} {i : Int32} (hd : k_dc M pc .laload 1 n) (ha : h[a]? = some (.inl (N, .inr (.inl f)))) (hi : vp_in i N) (k : AW X M d bc bs n L (.long (f i.toNatClampNeg) :: st) h Po) : AW X M d bc bs pc L (.int i :: .ref a :: st) h Po := by
  obtain ⟨hd, rfl⟩ := hd
  intro p l e R s m args below meth c Z cI cJ D H locs cells slots ls Q C Y hL h1 h2 E
  exact va_lald C.1 C.2.1 C.2.2.2.2.2.2.2.1 Y.1 a 1 (k_ws_get ha) rfl hi hd (k p l e R s m args below meth c Z cI cJ D H locs cells slots ls Q C Y hL h1 h2 E)
theorem k_alen {a N : Nat} {f : Nat → Int32} (hd : k_dc M pc .arraylength 1 n) (ha : h[a]? = some (.inl (N, .inl f))) (k : AW X M d bc bs n L (.int (Int32.ofNat N) :: st) h Po) : AW X M d bc bs pc L (.ref a :: st) h Po := by
  obtain ⟨hd, rfl⟩ := hd
  intro p l e R s m args below meth c Z cI cJ D H locs cells slots ls Q C Y hL h1 h2 E
  exact va_alen C.1 C.2.1 C.2.2.2.2.2.2.2.1 Y.1 a 0 (k_ws_get ha) rfl rfl hd (k p l e R s m args below meth c Z cI cJ D H locs cells slots ls Q C Y hL h1 h2 E)
theorem k_alenB {a N : Nat} {f : Nat → Int32} (hd : k_dc M pc .arraylength 1 n) (ha : h[a]? = some (.inl (N, .inr (.inr f)))) (k : AW X M d bc bs n L (.int (Int32.ofNat N) :: st) h Po) : AW X M d bc bs pc L (.ref a :: st) h Po := by
  obtain ⟨hd, rfl⟩ := hd
  intro p l e R s m args below meth c Z cI cJ D H locs cells slots ls Q C Y hL h1 h2 E
  exact va_alen C.1 C.2.1 C.2.2.2.2.2.2.2.1 Y.1 a 2 (k_ws_get ha) rfl rfl hd (k p l e R s m args below meth c Z cI cJ D H locs cells slots ls Q C Y hL h1 h2 E)
theorem k_bald {a N : Nat} {f : Nat → Int32} {i : Int32} (hd : k_dc M pc .baload 1 n) (ha : h[a]? = some (.inl (N, .inr (.inr f)))) (hi : vp_in i N) (k : AW X M d bc bs n L (.int (f i.toNatClampNeg) :: st) h Po) : AW X M d bc bs pc L (.int i :: .ref a :: st) h Po := by
  obtain ⟨hd, rfl⟩ := hd
  intro p l e R s m args below meth c Z cI cJ D H locs cells slots ls Q C Y hL h1 h2 E
  exact va_bald C.1 C.2.1 C.2.2.2.2.2.2.2.1 Y.1 a 2 (k_ws_get ha) rfl hi hd (k p l e R s m args below meth c Z cI cJ D H locs cells slots ls Q C Y hL h1 h2 E)
theorem k_alenJ {a N : Nat} {f : Nat → Int64} (hd : k_dc M pc .arraylength 1 n) (ha : h[a]? = some (.inl (N, .inr (.inl f)))) (k : AW X M d bc bs n L (.int (Int32.ofNat N) :: st) h Po) : AW X M d bc bs pc L (.ref a :: st) h Po := by
  obtain ⟨hd, rfl⟩ := hd
  intro p l e R s m args below meth c Z cI cJ D H locs cells slots ls Q C Y hL h1 h2 E
  exact va_alen C.1 C.2.1 C.2.2.2.2.2.2.2.1 Y.1 a 1 (k_ws_get ha) rfl rfl hd (k p l e R s m args below meth c Z cI cJ D H locs cells slots ls Q C Y hL h1 h2 E)
theorem k_iast {a N : Nat} {f : Nat → Int32} {i : Int32} {x : Int32} {h2' : k_H} (hd : k_dc M pc .iastore 1 n) (ha : h[a]? = some (.inl (N, .inl (f)))) (hi : vp_in i N) (he2 : h.set a (.inl (N, .inl (va_up f i.toNatClampNeg x))) = h2') (k : AW X M d bc bs n L st h2' Po) : AW X M d bc bs pc L (.int x :: .int i :: .ref a :: st) h Po := by
  subst he2
  obtain ⟨hd, rfl⟩ := hd
  intro p l e R s m args below meth c Z cI cJ D H locs cells slots ls Q C Y hL h1 h2 E
  have he := k_ws_get (Z := Z) (cI := cI) (cJ := cJ) ha
  have hK := C.2.2.2.2.2.2.2.1
  refine W.iast C.1 C.2.1 (Y.1 a _ he) ((hK.2 0 _ rfl).1 N (fun j => .int (f j))) (fun q => by cases q) (by show ¬ (i < 0 ∨ (arrV _ _ _).slots.size ≤ _); rw [arrV_size]; exact hi) rfl rfl hd fun H1 e1 z oq => ?_
  have hP1 := Y.1.set (k_ws_D Z cI cJ h Y.2.1.2) he (e := k_ce Z cI cJ (.inl (N, .inl (va_up f i.toNatClampNeg x)))) (by
    show H1[Z.1 + a]? = some (vp_cell _ _)
    rw [e1]
    show some ((vp_cell _ _).setSlot _ _) = _
    rw [vp_cell_i, vp_cell_i, arrV_store]
    congr 2
    funext q
    by_cases hq : q = i.toNatClampNeg
    · subst hq
      simp [updV, va_up]
    · simp [updV, va_up, hq]) oq
  rw [k_ws_set] at hP1
  exact k p l e R s m args below meth c Z cI cJ D H1 _ cells slots ls Q C ⟨hP1, Y.2.1.set z, Y.2.2.put z oq ((k_ws_D Z cI cJ h Y.2.1.2).2 a _ he)⟩ hL h1 h2 E
theorem k_last {a N : Nat} {f : Nat → Int64} {i : Int32} {x : Int64} {h2' : k_H} (hd : k_dc M pc .lastore 1 n) (ha : h[a]? = some (.inl (N, .inr <| .inl (f)))) (hi : vp_in i N) (he2 : h.set a (.inl (N, .inr <| .inl (va_up f i.toNatClampNeg x))) = h2') (k : AW X M d bc bs n L st h2' Po) : AW X M d bc bs pc L (.long x :: .int i :: .ref a :: st) h Po := by
  subst he2
  obtain ⟨hd, rfl⟩ := hd
  intro p l e R s m args below meth c Z cI cJ D H locs cells slots ls Q C Y hL h1 h2 E
  have he := k_ws_get (Z := Z) (cI := cI) (cJ := cJ) ha
  have hK := C.2.2.2.2.2.2.2.1
  refine W.last C.1 C.2.1 (Y.1 a _ he) ((hK.2 1 _ rfl).1 N (fun j => .long (f j))) (fun q => by cases q) (by show ¬ (i < 0 ∨ (arrV _ _ _).slots.size ≤ _); rw [arrV_size]; exact hi) rfl rfl hd fun H1 e1 z oq => ?_
  have hP1 := Y.1.set (k_ws_D Z cI cJ h Y.2.1.2) he (e := k_ce Z cI cJ (.inl (N, .inr <| .inl (va_up f i.toNatClampNeg x)))) (by
    show H1[Z.1 + a]? = some (vp_cell _ _)
    rw [e1]
    show some ((vp_cell _ _).setSlot _ _) = _
    rw [vp_cell_l, vp_cell_l, arrV_store]
    congr 2
    funext q
    by_cases hq : q = i.toNatClampNeg
    · subst hq
      simp [updV, va_up]
    · simp [updV, va_up, hq]) oq
  rw [k_ws_set] at hP1
  exact k p l e R s m args below meth c Z cI cJ D H1 _ cells slots ls Q C ⟨hP1, Y.2.1.set z, Y.2.2.put z oq ((k_ws_D Z cI cJ h Y.2.1.2).2 a _ he)⟩ hL h1 h2 E
theorem k_bast {a N : Nat} {f : Nat → Int32} {i x : Int32} (hd : k_dc M pc .bastore 1 n) (ha : h[a]? = some (.inl (N, .inr (.inr f)))) (hi : vp_in i N) (k : ∀ g : Nat → Int32, (sb_Fit f → sb_Fit g) → AW X M d bc bs n L st (h.set a (.inl (N, .inr (.inr g)))) Po) : AW X M d bc bs pc L (.int x :: .int i :: .ref a :: st) h Po := by
  obtain ⟨hd, rfl⟩ := hd
  intro p l e R s m args below meth c Z cI cJ D H locs cells slots ls Q C Y hL h1 h2 E
  have he := k_ws_get (Z := Z) (cI := cI) (cJ := cJ) ha
  have hK := C.2.2.2.2.2.2.2.1
  refine W.bast C.1 C.2.1 (Y.1 a _ he) ((hK.2 2 _ rfl).1 N (fun j => .int (f j))) (fun q => by cases q) (by show ¬ (i < 0 ∨ (arrV _ _ _).slots.size ≤ _); rw [arrV_size]; exact hi) rfl rfl hd fun H1 e1 z oq => ?_
  have hP1 := Y.1.set (k_ws_D Z cI cJ h Y.2.1.2) he (e := k_ce Z cI cJ (.inl (N, .inr (.inr (upd f i.toNatClampNeg (vp_nar .byte x)))))) (by
    show H1[Z.1 + a]? = some (vp_cell _ _)
    rw [e1]
    show some ((vp_cell _ _).setSlot _ _) = _
    rw [vp_cell_i, vp_cell_i, arrV_store]
    congr 2
    funext q
    by_cases hq : q = i.toNatClampNeg
    · subst hq
      simp [updV, upd, vp_nar] <;> rfl
    · simp [updV, upd, hq]) oq
  rw [k_ws_set] at hP1
  exact k _ (fun hf => sb_fitU hf (by rw [vp_nar_byte]; exact pk_fb x)) p l e R s m args below meth c Z cI cJ D H1 _ cells slots ls Q C ⟨hP1, Y.2.1.set z, Y.2.2.put z oq ((k_ws_D Z cI cJ h Y.2.1.2).2 a _ he)⟩ hL h1 h2 E
/-- System.arraycopy into a row of bytes of ours, from any row of bytes -/
theorem k_cpyW {a ix N0 N1 src : Nat} {f g : Nat → Int32} {cs : Cell} {sp dp w9 : Int32} {p : Program} {l : Launch} {e : Env} {R : Room} {s : State} {m : MethodId} {args : Array Value} {below : List Frame} {meth : Method} {c : Code} {Z : k_Z} {cI cJ : ClassId} {D : va_G} {H : Heap} {locs : List Loc} {cells slots : Nat} {ls : Array Slot} {Q : State → Prop} (hd : decode M.2.1 pc = .ok (.invokestatic ix, 3)) (hl : Cond.methodLink M.1.cls ix arraycopyName ∈ k_tG) (hw : Cond.native arraycopyName ∈ k_tG ∧ Cond.static arraycopyName ∈ k_tG ∧ Cond.initialized "java/lang/System" ∈ k_tG) (hdd : 1 ≤ d) (hct : (st.map fun v => v.category).sum ≤ 8)
    (C : k_C M d X p R s m args meth c Z cI cJ D) (Y : k_D Z cI cJ D s h H locs) (hls : ls.size = M.2.2.1) (hs1 : H[src]? = some cs) (hs2 : s.isArrayOf cs .byte) (hs3 : cs.vm ≠ .unknown) (hs4 : N0 ≤ cs.slots.size) (hs5 : ∀ j, j < N0 → cs.slots[j]? = some (.int (f j))) (hf : sb_Fit f) (ha : h[a]? = some (.inl (N1, .inr (.inr g))))
    (h1 : ¬ sp < 0) (h2 : ¬ dp < 0) (h3 : ¬ w9 < 0) (h4 : sp.toNatClampNeg + w9.toNatClampNeg ≤ N0) (h5 : dp.toNatClampNeg + w9.toNatClampNeg ≤ N1)
    (kk : ∀ (H1 : Heap) (locs1 : List Loc), k_D Z cI cJ D s (h.set a (.inl (N1, .inr (.inr (va_cpy f g sp.toNatClampNeg dp.toNatClampNeg w9.toNatClampNeg))))) H1 locs1 → W p l e R s m args below meth c H1 locs1 cells slots Q (F0 m (pc + 3) ls (st.map (kb Z)))) : W p l e R s m args below meth c H locs cells slots Q (F0 m pc ls (.int w9 :: .int dp :: .ref (Z.1 + a) :: .int sp :: .ref src :: st.map (kb Z))) := by
  have hts := C.2.2.2.2.2.1
  have hK := C.2.2.2.2.2.2.2.1
  have hr := C.2.2.2.2.2.2.2.2.2.2
  have hcs := k_catsum0 Z st
  have he := k_ws_get (Z := Z) (cI := cI) (cJ := cJ) ha
  have hdst : H[Z.1 + a]? = some (vp_cell (cB Z) (N1, .inl g)) := Y.1 a _ he
  obtain ⟨hst, kS, hkS, _, hkindS⟩ := hs2
  obtain ⟨-, kD, hkD, _, hkindD⟩ := (hK.2 2 _ rfl).1 N1 (fun j => .int (g j))
  have toI : ∀ z : Int32, ¬ z < 0 → z.toInt = (z.toNatClampNeg : Int) := fun z hz => by
    have q := Int32.le_iff_toInt_le.mp (Int32.not_lt.mp hz)
    rw [Int32.toInt_zero] at q
    show z.toInt = ((z.toInt.toNat : Nat) : Int)
    omega
  have hsz1 : (vp_cell (cB Z) (N1, .inl g)).slots.size = N1 := arrV_size _ _ _
  intro T hT XX
  subst hT
  obtain ⟨vm2, X2, go⟩ := XX.arraycopy C.1 C.2.2.2.1 (hts _ hl) (hts _ hw.1) (hts _ hw.2.1) (hts _ hw.2.2) hs1 hdst hst (fun _ q => by cases q) hs3 (fun q => by cases q) hkS hkD hkindS hkindD (by simp [refKind]) h1 h2 h3
    (by rw [toI sp h1, toI w9 h3]; omega) (by rw [toI dp h2, toI w9 h3, hsz1]; omega)
    (fun v2 _ i hi => by
      have q : cs.slots.getD (sp.toNatClampNeg + i) .null = .int (f (sp.toNatClampNeg + i)) := by rw [Array.getD_eq_getD_getElem?, hs5 _ (by omega)]; rfl
      rw [q]
      exact ⟨hf _, trivial⟩)
    (g := F0 m pc ls (.int w9 :: .int dp :: .ref (Z.1 + a) :: .int sp :: .ref src :: st.map (kb Z))) rfl (hls.trans C.2.2.1.symm) rfl (by rw [C.2.1]; exact hd) (by omega) (by rw [hcs]; show 2 * 0 + _ + 18 ≤ _; omega)
  have e7 : copied cs (vp_cell (cB Z) (N1, .inl g)) sp dp w9 = vp_cell (cB Z) (N1, .inl (va_cpy f g sp.toNatClampNeg dp.toNatClampNeg w9.toNatClampNeg)) := va_copiedX (fun z => .int z) cs (cB Z) f g hs5 h4
  rw [e7] at X2 go
  have hlt : Z.1 + a < T.heap.size := (Array.getElem?_eq_some_iff.mp hdst).1
  have oq : ∀ q : Nat, q ≠ Z.1 + a → (T.heap.setIfInBounds (Z.1 + a) (vp_cell (cB Z) (N1, .inl (va_cpy f g sp.toNatClampNeg dp.toNatClampNeg w9.toNatClampNeg))))[q]? = T.heap[q]? := fun q hq => by rw [Array.getElem?_setIfInBounds, if_neg (Ne.symm hq)]
  have hP1 := Y.1.set (k_ws_D Z cI cJ h Y.2.1.2) he (e := k_ce Z cI cJ (.inl (N1, .inr (.inr (va_cpy f g sp.toNatClampNeg dp.toNatClampNeg w9.toNatClampNeg))))) (show (T.heap.setIfInBounds (Z.1 + a) (vp_cell (cB Z) (N1, .inl (va_cpy f g sp.toNatClampNeg dp.toNatClampNeg w9.toNatClampNeg))))[Z.1 + a]? = some (vp_cell _ _) by rw [Array.getElem?_setIfInBounds, if_pos rfl, if_pos hlt]) oq
  rw [k_ws_set] at hP1
  have hA := (k_ws_D Z cI cJ h Y.2.1.2).2 a _ he
  obtain ⟨t, a1, b1⟩ := kk _ _ ⟨hP1, Y.2.1.set (Array.size_setIfInBounds ..), ⟨by rw [Array.size_setIfInBounds]; exact Y.2.2.1, fun q g1 g2 => (oq q (fun z => g2 (by rw [z]; exact hA))).trans (Y.2.2.2.1 q g1 g2), fun q hq => (List.mem_append.mp hq).elim (Y.2.2.2.2 q) (fun z => by obtain ⟨w, -, hw⟩ := List.mem_map.mp z; rw [← hw]; exact hA)⟩⟩ ((T.setVm vm2).setCell (Z.1 + a) (vp_cell (cB Z) (N1, .inl (va_cpy f g sp.toNatClampNeg dp.toNatClampNeg w9.toNatClampNeg)))) rfl X2
  exact ⟨t, go t a1, b1⟩
/-- from a row of bytes of ours -/
theorem k_cpyB {a b ix N0 N1 : Nat} {f g : Nat → Int32} {sp dp w9 : Int32} (hd : k_dc M pc (.invokestatic ix) 3 n) (hl : Cond.methodLink M.1.cls ix arraycopyName ∈ k_tG) (hw : Cond.native arraycopyName ∈ k_tG ∧ Cond.static arraycopyName ∈ k_tG ∧ Cond.initialized "java/lang/System" ∈ k_tG) (hdd : 1 ≤ d) (hct : (st.map fun v => v.category).sum ≤ 8) (hb : h[b]? = some (.inl (N0, .inr (.inr f)))) (hf : sb_Fit f) (ha : h[a]? = some (.inl (N1, .inr (.inr g))))
    (h1 : ¬ sp < 0) (h2 : ¬ dp < 0) (h3 : ¬ w9 < 0) (h4 : sp.toNatClampNeg + w9.toNatClampNeg ≤ N0) (h5 : dp.toNatClampNeg + w9.toNatClampNeg ≤ N1) (k : ∀ g2 : Nat → Int32, (sb_Fit g → sb_Fit g2) → AW X M d bc bs n L st (h.set a (.inl (N1, .inr (.inr g2)))) Po) : AW X M d bc bs pc L (.int w9 :: .int dp :: .ref a :: .int sp :: .ref b :: st) h Po := by
  obtain ⟨hd, rfl⟩ := hd
  intro p l e R s m args below meth c Z cI cJ D H locs cells slots ls Q C Y hL g1 g2 E
  have hK := C.2.2.2.2.2.2.2.1
  have e0 : H[Z.1 + b]? = some (vp_cell (cB Z) (N0, .inl f)) := Y.1 b _ (k_ws_get hb)
  refine k_cpyW (src := Z.1 + b) hd hl hw hdd hct C Y hL.2.1 e0 ((hK.2 2 _ rfl).1 N0 (fun j => .int (f j))) (fun q => by cases q) (by show N0 ≤ (arrV _ _ _).slots.size; rw [arrV_size]; exact Nat.le_refl _) (fun j hj => by show (arrV _ _ _).slots[j]? = _; rw [arrV_read _ _ hj]) hf ha h1 h2 h3 h4 h5 (fun H1 locs1 Y1 => ?_)
  exact k _ (fun hg => sb_fitC hf hg) p l e R s m args below meth c Z cI cJ D H1 locs1 cells slots ls Q C Y1 hL g1 g2 E
/-- from a text of the pool -/
theorem k_cpyK {a i ix N1 : Nat} {g : Nat → Int32} {sp dp w9 : Int32} (hd : k_dc M pc (.invokestatic ix) 3 n) (hl : Cond.methodLink M.1.cls ix arraycopyName ∈ k_tG) (hw : Cond.native arraycopyName ∈ k_tG ∧ Cond.static arraycopyName ∈ k_tG ∧ Cond.initialized "java/lang/System" ∈ k_tG) (hdd : 1 ≤ d) (hct : (st.map fun v => v.category).sum ≤ 8) (hi : i < 4) (ha : h[a]? = some (.inl (N1, .inr (.inr g))))
    (h1 : ¬ sp < 0) (h2 : ¬ dp < 0) (h3 : ¬ w9 < 0) (h4 : sp.toNatClampNeg + w9.toNatClampNeg ≤ lenJ.getD i 0) (h5 : dp.toNatClampNeg + w9.toNatClampNeg ≤ N1) (k : ∀ g2 : Nat → Int32, (sb_Fit g → sb_Fit g2) → AW X M d bc bs n L st (h.set a (.inl (N1, .inr (.inr g2)))) Po) : AW X M d bc bs pc L (.int w9 :: .int dp :: .ref a :: .int sp :: .retAddr (20 + i) :: st) h Po := by
  obtain ⟨hd, rfl⟩ := hd
  intro p l e R s m args below meth c Z cI cJ D H locs cells slots ls Q C Y hL g1 g2 E
  obtain ⟨cs, q1, q2, q3, q4, -, q5, q6⟩ := (C.2.2.2.2.2.2.2.2.1.2.2.2.2.1.1 i hi).2.2.2
  have e0 : H[Z.2.1 (20 + i)]? = some cs := (Y.2.2.2.1 _ (Array.getElem?_eq_some_iff.mp q1).1 q6).trans q1
  have hf : sb_Fit (fun j => (bytJ.getD i []).getD j 0) := bytJ_fit i hi
  refine k_cpyW (src := Z.2.1 (20 + i)) (f := fun j => (bytJ.getD i []).getD j 0) hd hl hw hdd hct C Y hL.2.1 e0 q2 q3 q4 q5 hf ha h1 h2 h3 h4 h5 (fun H1 locs1 Y1 => ?_)
  exact k _ (fun hg => sb_fitC hf hg) p l e R s m args below meth c Z cI cJ D H1 locs1 cells slots ls Q C Y1 hL g1 g2 E
theorem k_new {ci ix N : Nat} {C0 : String} {T : u_T} {ty : Nat → FieldType} {fs : List Value} {bc2 bs2 : Nat} {h2' : k_H} {a : Nat} (hd : k_dc M pc (.new ix) 3 n) (hc : k_cl ci C0 T N ty) (hw : Cond.classLink M.1.cls ix C0 ∈ k_tG ∧ Cond.instantiable C0 N ∈ k_tG ∧ Cond.initialized C0 ∈ k_tG) (hfs : ∀ (Z : k_Z) (j : Nat), j < N → defaultValue (ty j) = vp_V (fs.map (kb Z)) j) (hb : bc = bc2 + 1 ∧ bs = bs2 + N) (he2 : h ++ [.inr (ci, fs)] = h2') (hla : h.length = a) (k : AW X M d bc2 bs2 n L (.ref a :: st) h2' Po) : AW X M d bc bs pc L st h Po := by
  subst he2; subst hla
  obtain ⟨hd, rfl⟩ := hd
  intro p l e R s m args below meth c Z cI cJ D H locs cells slots ls Q C Y hL h1 h2 E
  obtain ⟨rfl, rfl⟩ := hb
  obtain ⟨hcv, hin, hty, hnm⟩ := hc
  have hts := C.2.2.2.2.2.1
  have hK := C.2.2.2.2.2.2.2.1
  have hKn := hK.1 ci _ hcv
  have hg0 : gp Z = 0 := h1.2 (by omega)
  have e4 : H.size = Z.1 + h.length := by have q := Y.2.1.1; omega
  refine W.newcK C.1 C.2.1 C.2.2.2.1 (hts _ hw.1) (hts _ hw.2.1) (hts _ hw.2.2) rfl hd (by omega) (by omega) hKn.2.1 rfl fun H1 kC hkC e1 z1 o1 => ?_
  have hk : ∀ (k : Nat) (x : Nat × va_E), (k_ws Z cI cJ h)[k]? = some x → H1[x.1]? = H[x.1]? := fun k x hx => o1 x.1 ((Y.1 k x hx).lt)
  have hP1 : va_P D vwCl (k_ws Z cI cJ (h ++ [.inr (ci, fs)])) H1 := by
    rw [k_ws_app]
    refine (Y.1.kept hk).app (fun k x hx => ?_)
    have hz : k < 1 := (List.getElem?_eq_some_iff.mp hx).1
    rw [show k = 0 by omega] at hx
    cases hx
    refine ⟨_, hcv, ?_⟩
    show t_OB (Z.1 + h.length) _ _ _ _ _
    rw [← e4]
    exact (u_born ty hts hin hKn hkC e1 hty).to (hfs Z)
  have hsz : k_Sz Z (h ++ [(Sum.inr (ci, fs) : k_E)]) H1 := ⟨by rw [z1, e4, List.length_append, hg0]; rfl, fun q => absurd hg0 q⟩
  rw [e4]
  exact k p l e R s m args below meth c Z cI cJ D H1 locs (cells + 1) (slots + N) ls Q C ⟨hP1, hsz, ⟨Nat.le_trans Y.2.2.1 (by omega), fun x g1 g2 => (o1 x (Nat.lt_of_lt_of_le g1 Y.2.2.1)).trans (Y.2.2.2.1 x g1 g2), Y.2.2.2.2⟩⟩ hL (by omega) (by omega) E
theorem k_objInit {ix a : Nat} (hd : k_dc M pc (.invokespecial ix) 3 n) (hw : Cond.methodLink M.1.cls ix Lib.objectInit ∈ k_tG) (hw2 : Cond.instanceMethod Lib.objectInit ∈ k_tG ∧ Cond.code Lib.objectInit ⟨#[0xb1]⟩ 1 none ∈ k_tG) (hdd : 1 ≤ d) (hst : (st.map fun v => v.category).sum ≤ 8) (k : AW X M d bc bs n L st h Po) : AW X M d bc bs pc L (.ref a :: st) h Po := by
  obtain ⟨hd, rfl⟩ := hd
  intro p l e R s m args below meth c Z cI cJ D H locs cells slots ls Q C Y hL h1 h2 E
  have hts := C.2.2.2.2.2.1
  have e1 : ((st.map (kb Z)).map fun v => v.category) = st.map fun v => v.category := by rw [List.map_map]; exact List.map_congr_left (fun v _ => k_cat Z v)
  have hr := C.2.2.2.2.2.2.2.2.2.2
  refine W.objInit C.1 C.2.1 C.2.2.2.1 (hts _ hw) (hts _ hw2.1) (hts _ hw2.2) rfl (by rw [C.2.2.1]; exact hL.2.1) (a := Z.1 + a) (rest := st.map (kb Z)) rfl hd (by omega) (by rw [e1]; show 2 * 0 + _ + 12 ≤ _; omega) ?_
  exact k p l e R s m args below meth c Z cI cJ D H locs cells slots ls Q C Y hL h1 h2 E
theorem k_newI {g : Int32} {N a : Nat} {bc2 bs2 : Nat} {h2' : k_H} (hd : k_dc M pc (.newarray .int) 2 n) (hw : Cond.arrayClass .int ∈ k_tG) (hg : ¬ g < 0) (hN : g.toNatClampNeg = N) (hNb : N ≤ 10000) (hb : bc = bc2 + 1 ∧ bs = bs2 + N) (he2 : h ++ [.inl (N, .inl (fun _ => 0))] = h2') (hla : h.length = a) (k : AW X M d bc2 bs2 n L (.ref a :: st) h2' Po) : AW X M d bc bs pc L (.int g :: st) h Po := by
  subst he2; subst hla
  obtain ⟨hd, rfl⟩ := hd
  intro p l e R s m args below meth c Z cI cJ D H locs cells slots ls Q C Y hL h1 h2 E
  obtain ⟨rfl, rfl⟩ := hb
  have hts := C.2.2.2.2.2.1
  have hK := C.2.2.2.2.2.2.2.1
  refine va_newaK (atype := .int) C.1 C.2.1 (hts _ hw) rfl hd rfl hg hN (by show N * 4 ≤ 536870912; omega) (by omega) (by omega) rfl fun H1 cA e1 z1 o1 hAr hNm => ?_
  have hg0 : gp Z = 0 := h1.2 (by omega)
  have e4 : H.size = Z.1 + h.length := by have q := Y.2.1.1; omega
  have hcA : cA = cI := Option.some.inj (hNm.symm.trans (hK.2 0 _ rfl).2)
  subst hcA
  have hk : ∀ (k : Nat) (x : Nat × va_E), (k_ws Z cA cJ h)[k]? = some x → H1[x.1]? = H[x.1]? := fun k x hx => o1 x.1 ((Y.1 k x hx).lt)
  have hP1 : va_P D vwCl (k_ws Z cA cJ (h ++ [.inl (N, .inl (fun _ => 0))])) H1 := by
    rw [k_ws_app]
    refine (Y.1.kept hk).app (fun k x hx => ?_)
    have hz : k < 1 := (List.getElem?_eq_some_iff.mp hx).1
    rw [show k = 0 by omega] at hx
    cases hx
    show H1[Z.1 + h.length]? = some (vp_cell _ _)
    rw [← e4, e1]
    rfl
  have hsz : k_Sz Z (h ++ [(Sum.inl (N, .inl (fun _ => 0)) : k_E)]) H1 := ⟨by rw [z1, e4, List.length_append, hg0]; rfl, fun q => absurd hg0 q⟩
  rw [e4]
  exact k p l e R s m args below meth c Z cA cJ D H1 locs (cells + 1) (slots + N) ls Q C ⟨hP1, hsz, ⟨Nat.le_trans Y.2.2.1 (by omega), fun x g1 g2 => (o1 x (Nat.lt_of_lt_of_le g1 Y.2.2.1)).trans (Y.2.2.2.1 x g1 g2), Y.2.2.2.2⟩⟩ hL (by omega) (by omega) E
theorem k_newJ {g : Int32} {N a : Nat} {bc2 bs2 : Nat} {h2' : k_H} (hd : k_dc M pc (.newarray .long) 2 n) (hw : Cond.arrayClass .long ∈ k_tG) (hg : ¬ g < 0) (hN : g.toNatClampNeg = N) (hNb : N ≤ 10000) (hb : bc = bc2 + 1 ∧ bs = bs2 + N) (he2 : h ++ [.inl (N, .inr <| .inl (fun _ => 0))] = h2') (hla : h.length = a) (k : AW X M d bc2 bs2 n L (.ref a :: st) h2' Po) : AW X M d bc bs pc L (.int g :: st) h Po := by
  subst he2; subst hla
  obtain ⟨hd, rfl⟩ := hd
  intro p l e R s m args below meth c Z cI cJ D H locs cells slots ls Q C Y hL h1 h2 E
  obtain ⟨rfl, rfl⟩ := hb
  have hts := C.2.2.2.2.2.1
  have hK := C.2.2.2.2.2.2.2.1
  refine va_newaK (atype := .long) C.1 C.2.1 (hts _ hw) rfl hd rfl hg hN (by show N * 8 ≤ 536870912; omega) (by omega) (by omega) rfl fun H1 cA e1 z1 o1 hAr hNm => ?_
  have hg0 : gp Z = 0 := h1.2 (by omega)
  have e4 : H.size = Z.1 + h.length := by have q := Y.2.1.1; omega
  have hcA : cA = cJ := Option.some.inj (hNm.symm.trans (hK.2 1 _ rfl).2)
  subst hcA
  have hk : ∀ (k : Nat) (x : Nat × va_E), (k_ws Z cI cA h)[k]? = some x → H1[x.1]? = H[x.1]? := fun k x hx => o1 x.1 ((Y.1 k x hx).lt)
  have hP1 : va_P D vwCl (k_ws Z cI cA (h ++ [.inl (N, .inr <| .inl (fun _ => 0))])) H1 := by
    rw [k_ws_app]
    refine (Y.1.kept hk).app (fun k x hx => ?_)
    have hz : k < 1 := (List.getElem?_eq_some_iff.mp hx).1
    rw [show k = 0 by omega] at hx
    cases hx
    show H1[Z.1 + h.length]? = some (vp_cell _ _)
    rw [← e4, e1]
    rfl
  have hsz : k_Sz Z (h ++ [(Sum.inl (N, .inr <| .inl (fun _ => 0)) : k_E)]) H1 := ⟨by rw [z1, e4, List.length_append, hg0]; rfl, fun q => absurd hg0 q⟩
  rw [e4]
  exact k p l e R s m args below meth c Z cI cA D H1 locs (cells + 1) (slots + N) ls Q C ⟨hP1, hsz, ⟨Nat.le_trans Y.2.2.1 (by omega), fun x g1 g2 => (o1 x (Nat.lt_of_lt_of_le g1 Y.2.2.1)).trans (Y.2.2.2.1 x g1 g2), Y.2.2.2.2⟩⟩ hL (by omega) (by omega) E
theorem k_newB {g : Int32} {N a : Nat} {bc2 bs2 : Nat} {h2' : k_H} (hd : k_dc M pc (.newarray .byte) 2 n) (hw : Cond.arrayClass .byte ∈ k_tG) (hg : ¬ g < 0) (hN : g.toNatClampNeg = N) (hNb : N ≤ 10000) (hb : bc = bc2 + 1 ∧ bs = bs2 + N) (he2 : h ++ [.inl (N, .inr <| .inr (fun _ => 0))] = h2') (hla : h.length = a) (k : AW X M d bc2 bs2 n L (.ref a :: st) h2' Po) : AW X M d bc bs pc L (.int g :: st) h Po := by
  subst he2; subst hla
  obtain ⟨hd, rfl⟩ := hd
  intro p l e R s m args below meth c Z cI cJ D H locs cells slots ls Q C Y hL h1 h2 E
  obtain ⟨rfl, rfl⟩ := hb
  have hts := C.2.2.2.2.2.1
  have hK := C.2.2.2.2.2.2.2.1
  refine va_newaK (atype := .byte) C.1 C.2.1 (hts _ hw) rfl hd rfl hg hN (by show N * 1 ≤ 536870912; omega) (by omega) (by omega) rfl fun H1 cA e1 z1 o1 hAr hNm => ?_
  have hg0 : gp Z = 0 := h1.2 (by omega)
  have e4 : H.size = Z.1 + h.length := by have q := Y.2.1.1; omega
  have hcA : cA = cB Z := Option.some.inj (hNm.symm.trans (hK.2 2 _ rfl).2)
  skip
  have hk : ∀ (k : Nat) (x : Nat × va_E), (k_ws Z cI cJ h)[k]? = some x → H1[x.1]? = H[x.1]? := fun k x hx => o1 x.1 ((Y.1 k x hx).lt)
  have hP1 : va_P D vwCl (k_ws Z cI cJ (h ++ [.inl (N, .inr <| .inr (fun _ => 0))])) H1 := by
    rw [k_ws_app]
    refine (Y.1.kept hk).app (fun k x hx => ?_)
    have hz : k < 1 := (List.getElem?_eq_some_iff.mp hx).1
    rw [show k = 0 by omega] at hx
    cases hx
    show H1[Z.1 + h.length]? = some (vp_cell _ _)
    rw [← e4, e1]
    rw [hcA]; rfl
  have hsz : k_Sz Z (h ++ [(Sum.inl (N, .inr <| .inr (fun _ => 0)) : k_E)]) H1 := ⟨by rw [z1, e4, List.length_append, hg0]; rfl, fun q => absurd hg0 q⟩
  rw [e4]
  exact k p l e R s m args below meth c Z cI cJ D H1 locs (cells + 1) (slots + N) ls Q C ⟨hP1, hsz, ⟨Nat.le_trans Y.2.2.1 (by omega), fun x g1 g2 => (o1 x (Nat.lt_of_lt_of_le g1 Y.2.2.1)).trans (Y.2.2.2.1 x g1 g2), Y.2.2.2.2⟩⟩ hL (by omega) (by omega) E
theorem k_ireturn {x : Int32} {ty : FieldType} (hd : k_dc M pc .ireturn 1 n) (hr : M.2.2.2 = some ty) (hn : narrow ty (.int x) = .int x) (hp : Po (some (.int x)) h) : AW X M d bc bs pc L [.int x] h Po := by
  obtain ⟨hd, rfl⟩ := hd
  intro p l e R s m args below meth c Z cI cJ D H locs cells slots ls Q C Y hL h1 h2 E
  exact E pc H locs cells slots ls (some (.int x)) h ⟨ty, hr, hn, hd⟩ hp Y (by omega) (by omega)
theorem k_lreturn {x : Int64} (hd : k_dc M pc .lreturn 1 n) (hr : M.2.2.2 = some .long) (hp : Po (some (.long x)) h) : AW X M d bc bs pc L [.long x] h Po := by
  obtain ⟨hd, rfl⟩ := hd
  intro p l e R s m args below meth c Z cI cJ D H locs cells slots ls Q C Y hL h1 h2 E
  exact E pc H locs cells slots ls (some (.long x)) h ⟨hr, hd⟩ hp Y (by omega) (by omega)
theorem k_areturn {a : Nat} {rt : FieldType} (hd : k_dc M pc .areturn 1 n) (hr : M.2.2.2 = some rt) (hrt : (∃ n, rt = .object n) ∨ ∃ t, rt = .array t) (hp : Po (some (.ref a)) h) : AW X M d bc bs pc L [.ref a] h Po := by
  obtain ⟨hd, rfl⟩ := hd
  intro p l e R s m args below meth c Z cI cJ D H locs cells slots ls Q C Y hL h1 h2 E
  exact E pc H locs cells slots ls (some (.ref a)) h ⟨⟨rt, hr, hrt⟩, hd⟩ hp Y (by omega) (by omega)
theorem k_return (hd : k_dc M pc .return_ 1 n) (hr : M.2.2.2 = none) (hp : Po none h) : AW X M d bc bs pc L [] h Po := by
  obtain ⟨hd, rfl⟩ := hd
  intro p l e R s m args below meth c Z cI cJ D H locs cells slots ls Q C Y hL h1 h2 E
  exact E pc H locs cells slots ls none h ⟨hr, hd⟩ hp Y (by omega) (by omega)
/-- another post, a weaker one -/
theorem AW.mono {Po2 : Option Value → k_H → Prop} (k : AW X M d bc bs pc L st h Po2) (hp : ∀ r h', Po2 r h' → Po r h') : AW X M d bc bs pc L st h Po :=
  fun p l e R s m args below meth c Z cI cJ D H locs cells slots ls Q C Y hL h1 h2 E => k p l e R s m args below meth c Z cI cJ D H locs cells slots ls Q C Y hL h1 h2 (fun a1 a2 a3 a4 a5 a6 r h' g1 g2 => E a1 a2 a3 a4 a5 a6 r h' g1 (hp r h' g2))
end KR
