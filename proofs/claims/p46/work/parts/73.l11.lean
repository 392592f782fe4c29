/-- a private method of an abstract class: a class that can be made picks it itself -/
theorem sel_priv {s : State} {args : Array Value} {E : String} {n : Nat} {y y2 : MethodName} (hi : (Cond.instantiable E n).before args s = true) (hp : (Cond.privateMethod y).before args s = true) (hm : (Cond.instanceMethod y).before args s = true) (hs : (Cond.selects E y2 y2).before args s = true) (hc : y2.cls = y.cls) (hy : y.cls ≠ "java/lang/invoke/MethodHandle" ∧ y.cls ≠ "java/lang/invoke/VarHandle") : (Cond.selects E y y).before args s = true := by
  obtain ⟨c, k, hfc, -⟩ := Cond.instantiable_spec hi
  obtain ⟨mk, methM, hnamed, hmethM, -, -⟩ := Cond.instanceMethod_spec hm
  have hfound : s.methodFound? y.cls y.name y.desc = some mk := State.methodFound?_of_named hnamed hy
  obtain ⟨c2, r2, m2, -, -, hn2, -, k2, hk2, hni⟩ := Cond.selects_spec hs
  have e2 := findClass_of_methodNamed hn2
  rw [hc, findClass_of_methodNamed hnamed] at e2
  have e3 : mk.cls = m2.cls := Option.some.inj e2
  have hsel : selectMethod {} s.vm c mk = .method mk := selectMethod_private hmethM (Cond.privateMethod_at hp mk methM hnamed hmethM)
  simp only [Cond.before, Cond.holds, Cond.value, hfc, hfound, hnamed, hsel, e3, hk2]
  simp
  exact hni
theorem ti_of {P : Cond → Prop} (h : ∀ w ∈ lw_tbl, P w) (i : Nat) {w : Cond} (e : lw_tbl[i]? = some w) : P w := h w (List.mem_of_getElem? e)
theorem selJ_ok {s : State} {args : Array Value} (h : ∀ w ∈ lw_tbl, w.before args s = true) : ∀ w ∈ lw_selJ, w.before args s = true := by
  have hi : (Cond.instantiable RJ4 4).before args s = true := ti_of h 592 (by decide +kernel)
  have hs : (Cond.selects RJ4 yJ5_isLatin1_aae02 yJ5_isLatin1_aae02).before args s = true := ti_of h 673 (by decide +kernel)
  refine List.forall_mem_cons.mpr ⟨?_, List.forall_mem_cons.mpr ⟨?_, List.forall_mem_cons.mpr ⟨?_, List.forall_mem_cons.mpr ⟨?_, List.forall_mem_cons.mpr ⟨?_, List.forall_mem_cons.mpr ⟨?_, fun _ h => absurd h List.not_mem_nil⟩⟩⟩⟩⟩⟩
  · exact sel_priv (y := yJ5_ensureCapacityInternal_d00df) hi (ti_of h 636 (by decide +kernel)) (ti_of h 637 (by decide +kernel)) hs rfl ⟨by decide +kernel, by decide +kernel⟩
  · exact sel_priv (y := yJ5_newCapacity_0f7a4) hi (ti_of h 640 (by decide +kernel)) (ti_of h 641 (by decide +kernel)) hs rfl ⟨by decide +kernel, by decide +kernel⟩
  · exact sel_priv (y := yJ5_inflate_da8c8) hi (ti_of h 720 (by decide +kernel)) (ti_of h 721 (by decide +kernel)) hs rfl ⟨by decide +kernel, by decide +kernel⟩
  · exact sel_priv (y := yJ5_appendNull_278bc) hi (ti_of h 632 (by decide +kernel)) (ti_of h 633 (by decide +kernel)) hs rfl ⟨by decide +kernel, by decide +kernel⟩
  · exact sel_priv (y := yJ5_inflateIfNeededFor_a7421) hi (ti_of h 715 (by decide +kernel)) (ti_of h 716 (by decide +kernel)) hs rfl ⟨by decide +kernel, by decide +kernel⟩
  · exact sel_priv (y := yJ5_putStringAt_47b60) hi (ti_of h 711 (by decide +kernel)) (ti_of h 712 (by decide +kernel)) hs rfl ⟨by decide +kernel, by decide +kernel⟩
abbrev tO : Term := .static "java/lang/Integer" "DigitOnes" "[B"
abbrev tT : Term := .static "java/lang/Integer" "DigitTens" "[B"
abbrev wst : List Cond := flatC (Jvm.Cond.and given_1 narrow_1)
theorem dgO : ∀ j : Nat, j < 100 → wst[12 + j]? = some (Cond.eq (.elem tO (.int (Int32.ofNat j))) (.int (nI (48 + j % 10)))) := by decide +kernel
theorem dgT : ∀ j : Nat, j < 100 → wst[115 + j]? = some (Cond.eq (.elem tT (.int (Int32.ofNat j))) (.int (nI (48 + j / 10)))) := by decide +kernel
theorem tk_byt : ∀ i : Nat, i < 4 → ∀ j : Nat, j < lenJ.getD i 0 → Cond.eq (.elem (.field (.string "FitOnDayLaw" (ldx i)) "java/lang/String" "value" "[B") (.int (Int32.ofNat j))) (.int ((bytJ.getD i []).getD j 0)) ∈ wst := by decide +kernel
theorem tk_str : ∀ i : Nat, i < 4 → Cond.exactly (.string "FitOnDayLaw" (ldx i)) "java/lang/String" ∈ wst ∧ Cond.eq (.field (.string "FitOnDayLaw" (ldx i)) "java/lang/String" "coder" "B") (.int 0) ∈ wst ∧ Cond.arrayOf (.field (.string "FitOnDayLaw" (ldx i)) "java/lang/String" "value" "[B") .byte ∈ wst ∧ Cond.eq (.length (.field (.string "FitOnDayLaw" (ldx i)) "java/lang/String" "value" "[B")) (.int (Int32.ofNat (lenJ.getD i 0))) ∈ wst := by decide +kernel
theorem tk_ne : ∀ i : Nat, i < 4 → ∀ j : Nat, j < 4 → i < j → Cond.not (Cond.eq (.string "FitOnDayLaw" (ldx i)) (.string "FitOnDayLaw" (ldx j))) ∈ wst := by decide +kernel
theorem tk_len : ∀ i : Nat, i < 4 → lenJ.getD i 0 < 2 ^ 31 := by decide +kernel
theorem tk_ref : ∀ i : Nat, i < 4 → Cond.stringRef "FitOnDayLaw" (ldx i) (ltx i) ∈ lw_tbl := by decide +kernel
theorem tk_st : Cond.arrayOf tO .byte ∈ wst ∧ Cond.eq (.length tO) (.int (Int32.ofNat 100)) ∈ wst ∧ Cond.arrayOf tT .byte ∈ wst ∧ Cond.eq (.length tT) (.int (Int32.ofNat 100)) ∈ wst ∧ Cond.eq (.static "java/lang/String" "COMPACT_STRINGS" "Z") (.int 1) ∈ wst ∧ Cond.isRef (.static "jdk/internal/util/Preconditions" "SIOOBE_FORMATTER" "Ljava/util/function/BiFunction;") ∈ wst := by decide +kernel
theorem tl_st : Cond.laysStatic "java/lang/Integer" "DigitOnes" "[B" ∈ lw_tbl ∧ Cond.laysStatic "java/lang/Integer" "DigitTens" "[B" ∈ lw_tbl ∧ Cond.laysStatic "java/lang/String" "COMPACT_STRINGS" "Z" ∈ lw_tbl ∧ Cond.laysStatic "jdk/internal/util/Preconditions" "SIOOBE_FORMATTER" "Ljava/util/function/BiFunction;" ∈ lw_tbl ∧ Cond.initialized "java/lang/Integer" ∈ lw_tbl ∧ Cond.initialized "java/lang/String" ∈ lw_tbl ∧ Cond.initialized "jdk/internal/util/Preconditions" ∈ lw_tbl := by decide +kernel
section ST
variable {s : State} {b : Nat}
/-- nothing that is there at the start is ours to write -/
theorem hA0 : ∀ a : Nat, a < s.heap.size → ¬ (fun q => s.heap.size ≤ q) a := fun _ h q => absurd q (Nat.not_le.mpr h)
theorem lu_dig {k : Nat} {tm : Term} {n : String} {g : Nat → Nat} (hX : k_tb none k = (100, fun j => nI (48 + g j))) (etm : tm = .static "java/lang/Integer" n "[B") (ha : (Cond.arrayOf tm .byte).before #[Value.ref b] s = true) (hn : (Cond.eq (.length tm) (.int (Int32.ofNat 100))).before #[Value.ref b] s = true) (he : ∀ j : Nat, j < 100 → (Cond.eq (.elem tm (.int (Int32.ofNat j))) (.int (nI (48 + g j)))).before #[Value.ref b] s = true) (hl : (Cond.laysStatic "java/lang/Integer" n "[B").before #[Value.ref b] s = true) (hi : (Cond.initialized "java/lang/Integer").before #[Value.ref b] s = true) : ∃ t : Nat, va_T .byte t (k_tb none k).1 (fun j => .int ((k_tb none k).2 j)) (fun q => s.heap.size ≤ q) s s.heap ∧ va_Z "java/lang/Integer" n "[B" (.ref t) (fun q => s.heap.size ≤ q) s s.heap := by
  subst etm
  obtain ⟨t, ht, hT⟩ := va_Tof (N := 100) (f := fun j => .int (nI (48 + g j))) (A := fun q => s.heap.size ≤ q) (ty := .byte) (by decide) ha (va_eqt hn) (fun j hj => va_eqt (he j hj)) hA0
  exact ⟨t, by rw [hX]; exact hT, va_Zof hl hi ht hA0⟩
theorem vk_Scg {N : Nat} {len : List Nat} {byt : List (List Int32)} {f g f2 g2 : Nat → Nat} {A : Nat → Prop} {U : State} {H : Heap} (hf : ∀ i, i < N → f2 i = f i) (hg : ∀ i, i < N → g2 i = g i) (h : vk_S N len byt f g A U H) : vk_S N len byt f2 g2 A U H :=
  ⟨fun i hi => by rw [hf i hi, hg i hi]; exact h.1 i hi, fun i j hi hj e => h.2 i j hi hj (by rw [← hf i hi, ← hf j hj]; exact e)⟩
end ST
theorem ar_of {s : State} {args : Array Value} {ty : FieldType} (hty : ty = .int ∨ ty = .long ∨ ty = .byte) (h : (Cond.arrayClass ty).before args s = true) : ∃ cA, ArrOfT s cA ty ∧ va_RA s cA ty := by
  obtain ⟨c, k, comp, f1, f2, f3⟩ := Cond.arrayClass_spec h
  rcases hty with rfl | rfl | rfl
  · exact ⟨c, fun N z => ⟨(fun k h => by cases h), k, f2, comp, f3⟩, f1⟩
  · exact ⟨c, fun N z => ⟨(fun k h => by cases h), k, f2, comp, f3⟩, f1⟩
  · exact ⟨c, fun N z => ⟨(fun k h => by cases h), k, f2, comp, f3⟩, f1⟩
theorem tN_all : ∀ w ∈ k_tN, w ∈ lw_tbl ∧ w.onTables = true := by decide +kernel
/-! THE CLAIM OUT OF ONE WALK OF THE LAW'S BODY. Your part is whole_start (and what it stands on); all else here is the same for every law, but numbers. -/
def R_law : String := "FitOnDayLaw"
def lw_P (b : Addr) (xs : List Int32) (args : Array Value) (s : State) : Prop := args = #[.ref b] ∧ s.IntsAt b xs ∧ xs.length ≤ 260 ∧ (Jvm.Cond.and given_1 narrow_1).before args s = true
def lw_Q (_ : Array Value) (s : State) (o : Outcome) (t : State) : Prop := o = .returned (some (.int 1)) ∧ Framed s o t [] 600000 7302250
def lw_Z (below : List Frame) (a : Array Value) (s : State) : State → Prop := fun t => ∃ o, t.status = .running ∧ Ended t below o ∧ lw_Q a s o t
/-- the law's own end, with 1 on the stack, nothing written that was there before, its room as the claim has it -/
theorem lw_ret {p : Program} {l : Launch} {e : Env} {s : State} {m : MethodId} {below : List Frame} {meth : Method} {c : Code} {b : Nat} (hx : p.tables.exec = Jvm.exec) (hb : c.code = code) (hr : meth.sig.returnType = ret) (hlocks : meth.locks = false) {pc : Nat} {H : Heap} {ls : Array Slot} (hdg : decode code pc = .ok (.ireturn, 1)) : W p l e room_1 s m #[Value.ref b] below meth c H [] 600000 7302250 (lw_Z below #[Value.ref b] s) (F0 m pc ls [.int 1]) := by
  intro T hT X
  obtain ⟨fs, hret, hrun, hended, hW, hframe⟩ := X.leave (v := some (.int 1)) (hlocks := hlocks) (fun h => by rw [hr] at h; cases h)
  have hmeth' : T.vm.method? m = some meth := X.method'
  refine ⟨T.setFrames fs, ?_, .returned (some (.int 1)), hrun, hended, rfl, ⟨_, rfl⟩, hW, hframe⟩
  jvm_step X.here [X.here.top, hx, hb, hdg, hmeth', hr, ret, narrow_b1]
  (try refine ⟨rfl, ?_⟩); (try refine ⟨rfl, ?_⟩)
  first | (intro acts; rw [hret _ acts rfl rfl rfl]) | rw [hret _ _ rfl rfl rfl]
  exact Steps.refl _
/-- what holds at the law's entry: the machine, the code, the tables' words (any of lw_tbl by 'hts w (by decide +kernel)'), the script of L ints xs at the cell b, what the Statement gives of the start (any of its parts by flat_of_before) -/
def lw_At (p : Program) (s : State) (m : MethodId) (meth : Method) (c : Code) (b L : Nat) (xs : Nat → Int32) : Prop :=
  p.tables.exec = Jvm.exec ∧ c.code = code ∧ meth.sig.returnType = ret ∧ c.maxLocals = 10 ∧ s.vm.findClass R_law = some m.cls ∧ (∀ w ∈ lw_tbl, w.before #[Value.ref b] s = true) ∧ va_X b L xs s s.heap ∧ b < s.heap.size ∧ meth.locks = false ∧ (Jvm.Cond.and given_1 narrow_1).before #[Value.ref b] s = true
theorem whole_start {p : Program} {e : Env} {s : State} {m : MethodId} {below : List Frame} {meth : Method} {c : Code} (l : Launch) (hflags : l.flags = flags0) {b L : Nat} {xs : Nat → Int32} (hL : L ≤ 260) (C0 : lw_At p s m meth c b L xs) : W p l e room_1 s m #[Value.ref b] below meth c s.heap [] 0 0 (lw_Z below #[Value.ref b] s) (entryFrame m ([Value.ref b] : List Value).toArray 10) := by
  obtain ⟨hx, hb, hr, hml, hown, hts, hX, hbs, hlocks, hgv⟩ := C0
  have hJ := selJ_ok hts
  have hG : ∀ w ∈ k_tG, w.before #[Value.ref b] s = true := fun w hw => (List.mem_append.mp (List.mem_filter.mp hw).1).elim (hJ w) (hts w)
  have hN : ∀ w ∈ k_tN, va_Nw w s := fun w hw => va_Nw.of (tN_all w hw).2 (hts w (tN_all w hw).1)
  have hst := flat_of_before _ hgv
  obtain ⟨d0, i0, kn0⟩ := u_known hG uwJ0 (hG _ cJ4_18.2.1)
  obtain ⟨d1, i1, kn1⟩ := u_known hG uwJ4 (hG _ cL_73.2.1)
  obtain ⟨d2, i2, kn2⟩ := u_known hG uwX0 (hG _ cX11_16.2.1)
  obtain ⟨d3, i3, kn3⟩ := u_known hG uwX1 (hG _ cX11_87.2.1)
  obtain ⟨d4, i4, kn4⟩ := u_known hG uwX2 (hG _ cX11_56.2.1)
  obtain ⟨d5, i5, kn5⟩ := u_known hG uwX3 (hG _ cX11_62.2.1)
  obtain ⟨d6, i6, kn6⟩ := u_known hG uwX4 (hG _ cX11_96.2.1)
  obtain ⟨d7, i7, kn7⟩ := u_known hG uwX5 (hG _ cX11_59.2.1)
  obtain ⟨d8, i8, kn8⟩ := u_known hG uwX6 (hG _ cX11_7.2.1)
  obtain ⟨d9, i9, kn9⟩ := u_known hG uwX7 (hG _ cX11_23.2.1)
  obtain ⟨d10, i10, kn10⟩ := u_known hG uwX8 (hG _ cX11_53.2.1)
  obtain ⟨d11, i11, kn11⟩ := u_known hG uwX9 (hG _ cX4_9.2.1)
  obtain ⟨d12, i12, kn12⟩ := u_known hG uwX10 (hG _ cX11_50.2.1)
  obtain ⟨d13, i13, kn13⟩ := u_known hG uwX11 (hG _ cL_18.2.1)
  obtain ⟨cI, aI1, aI2⟩ := ar_of (Or.inl rfl) (hG _ w_arrI)
  obtain ⟨cJ, aJ1, aJ2⟩ := ar_of (Or.inr (Or.inl rfl)) (hG _ w_arrJ)
  obtain ⟨cY, aY1, aY2⟩ := ar_of (Or.inr (Or.inr rfl)) (hG _ w_arrB)
  obtain ⟨t1, hT1, hZ1⟩ := lu_dig (b := b) (k := 1) (n := "DigitTens") (g := fun j => j / 10) rfl rfl (hst _ tk_st.2.2.1) (hst _ tk_st.2.2.2.1) (fun j hj => hst _ (List.mem_of_getElem? (dgT j hj))) (hts _ tl_st.2.1) (hts _ tl_st.2.2.2.2.1)
  obtain ⟨t2, hT2, hZ2⟩ := lu_dig (b := b) (k := 2) (n := "DigitOnes") (g := fun j => j % 10) rfl rfl (hst _ tk_st.1) (hst _ tk_st.2.1) (fun j hj => hst _ (List.mem_of_getElem? (dgO j hj))) (hts _ tl_st.1) (hts _ tl_st.2.2.2.2.1)
  have hZc := va_Zof (hts _ tl_st.2.2.1) (hts _ tl_st.2.2.2.2.2.1) (va_eqi (hst _ tk_st.2.2.2.2.1)) (hA0 (s := s))
  have hZf := va_Zqof (hts _ tl_st.2.2.2.1) (hts _ tl_st.2.2.2.2.2.2) (hst _ tk_st.2.2.2.2.2) (hA0 (s := s))
  obtain ⟨adK, adV, hS, hSe⟩ := vk_Sof (N := 4) (tm := fun i => Term.string "FitOnDayLaw" (ldx i)) (len := lenJ) (byt := bytJ) tk_len (fun i hi => hst _ (tk_str i hi).1) (fun i hi => hst _ (tk_str i hi).2.1) (fun i hi => hst _ (tk_str i hi).2.2.1) (fun i hi => hst _ (tk_str i hi).2.2.2) (fun i hi j hj => hst _ (tk_byt i hi j hj)) (fun i j hi hj hij => (Nat.lt_or_gt_of_ne hij).elim (fun h => Or.inl (hst _ (tk_ne i hi j hj h))) (fun h => Or.inr (hst _ (tk_ne j hj i hi h)))) (hA0 (s := s))
  have hSr : ∀ i, i < 4 → vk_R "FitOnDayLaw" (ldx i) (ltx i) (adK i) s := fun i hi => vk_R.of (hts _ (tk_ref i hi)) (hSe i hi)
  obtain ⟨v9, hv9⟩ : ∃ v9 : Nat, va_Z "jdk/internal/util/Preconditions" "SIOOBE_FORMATTER" "Ljava/util/function/BiFunction;" .null (fun q => s.heap.size ≤ q) s s.heap ∨ va_Z "jdk/internal/util/Preconditions" "SIOOBE_FORMATTER" "Ljava/util/function/BiFunction;" (.ref v9) (fun q => s.heap.size ≤ q) s s.heap := by
    rcases hZf with h | ⟨t, h⟩
    · exact ⟨0, Or.inl h⟩
    · exact ⟨t, Or.inr h⟩
  obtain ⟨dC, hdC⟩ : ∃ f : Nat → ClassId, f = fun c => match c with | 0 => d0 | 1 => d1 | 2 => d2 | 3 => d3 | 4 => d4 | 5 => d5 | 6 => d6 | 7 => d7 | 8 => d8 | 9 => d9 | 10 => d10 | 11 => d11 | 12 => d12 | _ => d13 := ⟨_, rfl⟩
  obtain ⟨dI, hdI⟩ : ∃ f : Nat → Nat → Nat, f = fun c => match c with | 0 => i0 | 1 => i1 | 2 => i2 | 3 => i3 | 4 => i4 | 5 => i5 | 6 => i6 | 7 => i7 | 8 => i8 | 9 => i9 | 10 => i10 | 11 => i11 | 12 => i12 | _ => i13 := ⟨_, rfl⟩
  have hK : va_K (dC, dI) vwCl [(cI, .int), (cJ, .long), (cY, .byte)] s := by
    refine ⟨fun c q hq => ?_, fun k q hq => ?_⟩
    · subst hdC; subst hdI
      match c, q, hq with
      | 0, _, hq => cases hq; exact kn0
      | 1, _, hq => cases hq; exact kn1
      | 2, _, hq => cases hq; exact kn2
      | 3, _, hq => cases hq; exact kn3
      | 4, _, hq => cases hq; exact kn4
      | 5, _, hq => cases hq; exact kn5
      | 6, _, hq => cases hq; exact kn6
      | 7, _, hq => cases hq; exact kn7
      | 8, _, hq => cases hq; exact kn8
      | 9, _, hq => cases hq; exact kn9
      | 10, _, hq => cases hq; exact kn10
      | 11, _, hq => cases hq; exact kn11
      | 12, _, hq => cases hq; exact kn12
      | 13, _, hq => cases hq; exact kn13
      | c + 14, _, hq => cases hq
    · match k, q, hq with
      | 0, _, hq => cases hq; exact ⟨aI1, aI2⟩
      | 1, _, hq => cases hq; exact ⟨aJ1, aJ2⟩
      | 2, _, hq => cases hq; exact ⟨aY1, aY2⟩
      | k + 3, _, hq => cases hq
  obtain ⟨fZ, hfZ⟩ : ∃ f : Nat → Nat, f 0 = b ∧ f 1 = t1 ∧ f 2 = t2 ∧ (∀ i, i < 4 → f (10 + i) = adK i) ∧ (∀ i, i < 4 → f (20 + i) = adV i) ∧ f 30 = v9 := by
    refine ⟨fun k => if k = 0 then b else if k = 1 then t1 else if k = 2 then t2 else if k < 14 then adK (k - 10) else if k < 24 then adV (k - 20) else v9, rfl, rfl, rfl, fun i hi => ?_, fun i hi => ?_, rfl⟩
    · show (if 10 + i = 0 then b else if 10 + i = 1 then t1 else if 10 + i = 2 then t2 else if 10 + i < 14 then adK (10 + i - 10) else if 10 + i < 24 then adV (10 + i - 20) else v9) = adK i
      rw [if_neg (by omega), if_neg (by omega), if_neg (by omega), if_pos (by omega), Nat.add_sub_cancel_left]
    · show (if 20 + i = 0 then b else if 20 + i = 1 then t1 else if 20 + i = 2 then t2 else if 20 + i < 14 then adK (20 + i - 10) else if 20 + i < 24 then adV (20 + i - 20) else v9) = adV i
      rw [if_neg (by omega), if_neg (by omega), if_neg (by omega), if_neg (by omega), if_pos (by omega), Nat.add_sub_cancel_left]
  obtain ⟨z0, z1, z2, zK, zV, z9⟩ := hfZ
  have hRO : k_RO (s.heap.size, fZ, (0, 0, cY)) (some (L, xs)) s s.heap := by
    have hAB : ∀ q, k_A (s.heap.size, fZ, (0, 0, cY)) q → s.heap.size ≤ q := fun q h => h.1
    refine ⟨fun k hk => ?_, fun k hk => ?_, hZc.narrow hAB, ?_, vk_Scg zK zV (hS.narrow hAB), fun _ i hi => ?_⟩
    · match k, hk with
      | 0, _ =>
        obtain ⟨scr9, q1, q2, q3, q4, q5⟩ := hX
        show va_T .int (fZ 0) _ _ _ _ _
        rw [z0]
        exact ⟨scr9, q1, q2, q3, Nat.le_of_eq q4.symm, congrArg Nat.toInt32 q4, q5, fun q => Nat.not_le.mpr hbs (hAB _ q)⟩
      | 1, _ =>
        show va_T .byte (fZ 1) _ _ _ _ _
        rw [z1]; exact hT1.narrow hAB
      | 2, _ =>
        show va_T .byte (fZ 2) _ _ _ _ _
        rw [z2]; exact hT2.narrow hAB
      | k + 3, hk => exact hk.elim
    · rcases hk with rfl | rfl
      · show va_Z _ _ _ (.ref (fZ 1)) _ _ _
        rw [z1]; exact hZ1.narrow hAB
      · show va_Z _ _ _ (.ref (fZ 2)) _ _ _
        rw [z2]; exact hZ2.narrow hAB
    · rcases hv9 with h | h
      · exact ⟨.null, Or.inl rfl, h.narrow hAB⟩
      · refine ⟨.retAddr 30, Or.inr rfl, ?_⟩
        show va_Z _ _ _ (.ref (fZ 30)) _ _ _
        rw [z9]; exact h.narrow hAB
    · show vk_R _ _ _ (fZ (10 + i)) _
      rw [zK i hi]; exact hSr i hi
  obtain ⟨Z, hZ⟩ : ∃ Z : k_Z, Z = (s.heap.size, fZ, (0, 0, cY)) := ⟨_, rfl⟩
  rw [← hZ] at hRO
  have eb : kb Z (.retAddr 0) = .ref b := by rw [hZ]; exact congrArg Value.ref z0
  have eF : entryFrame m ([Value.ref b] : List Value).toArray 10 = F0 m 0 (lg_sl (([.retAddr 0] : List Value).map (kb Z)) ++ List.replicate (10 - (lg_sl (([.retAddr 0] : List Value).map (kb Z))).length) Slot.unset).toArray [] := by
    rw [← lg_entry_eq, List.map_cons, eb]; rfl
  rw [eF]
  have hz1 : Z.1 = s.heap.size := by rw [hZ]
  have hz2 : cB Z = cY := by rw [hZ]
  have hz3 : gp Z = 0 := by rw [hZ]
  rw [← hz2] at hK
  refine law_all (nm := meth.name) hL p l e room_1 s m #[Value.ref b] below meth c Z cI cJ (dC, dI) s.heap [] 0 0 _ _ ⟨hx, hb, hml, hown, rfl, hG, hN, hK, hRO, Nat.le_of_eq hz1, by decide, by decide⟩ ⟨fun k q hq => (by cases hq), ⟨by rw [hz1, hz3]; rfl, fun h => absurd hz3 h⟩, va_S.rf⟩ (k_en_has Z [.retAddr 0] 10 (by decide)) ⟨by decide, fun _ => hz3⟩ (by decide) ?_
  intro pc' H' locs' cells' slots' ls' r h' hr2 hp2 hY hc hs
  cases hp2
  obtain ⟨ty, _, _, hd⟩ := hr2
  refine W.widen (k := 600000) (n := 7302250) hc hs ?_
  refine va_forget (fun q hq => ?_) ?_
  · have q2 := hY.2.2.2.2 q hq
    exact Nat.le_trans (Nat.le_of_eq hz1.symm) q2.1
  · exact lw_ret hx hb hr hlocks hd
set_option maxHeartbeats 4000000 in
theorem lw_walk (l : Launch) (hflags : l.flags = flags0) (b : Addr) (xs : List Int32) : MetFree l x (headSpec (Jvm.Cond.code x code maxLocals ret :: tables_1) room_1) (lw_P b xs) (fun _ _ _ _ _ => True) lw_Q := by
  refine MetFree.of_bodyS (code := code) (maxLocals := maxLocals) (ret := ret) (by decide) ?_ ?_
  · intro args s m h hn
    obtain ⟨meth, c, h1, h2, h3, h4, h5, h6, -, -⟩ := Cond.code_spec hn (atoms_spec (ws := Jvm.Cond.code x code maxLocals ret :: tables_1) h _ List.mem_cons_self)
    exact ⟨meth, c, h1, h2, h3, h4, h5, h6⟩
  · intro p e s m args below meth c s₁ B hml0 hP _
    obtain ⟨rfl, hx, hbd, hgv⟩ := hP
    obtain ⟨scr, harrAt, hlist, hof, hsmall⟩ := hx
    obtain ⟨hcb, hkn, -, -⟩ := State.arrayAt?_spec harrAt
    have hown : s.vm.findClass R_law = some m.cls := findClass_of_methodNamed B.named
    have hts0 : ∀ c ∈ (Jvm.Cond.code x code maxLocals ret :: tables_1), c.before #[Value.ref b] s = true := atoms_spec (ws := Jvm.Cond.code x code maxLocals ret :: tables_1) B.pre
    have hts : ∀ w ∈ lw_tbl, w.before #[Value.ref b] s = true := k2_hts_sels lw_privs (fun w hw => hts0 w (List.mem_cons_of_mem _ hw)) lw_privs_ok
    have hml : c.maxLocals = 10 := B.maxLocals_eq (hts0 _ List.mem_cons_self)
    have X₀ : Stand p l e room_1 s m #[Value.ref b] below meth c s₁ [] 0 0 := Stand.of_body B
    have hh0 : s₁.heap = s.heap := by rw [B.state]; rfl
    have hsz : scr.slots.size = xs.length := by rw [← Array.length_toList, hlist, List.length_map]
    have hval : ∀ j : Nat, j < xs.length → scr.slots[j]? = some (.int (xs.getD j 0)) := fun j hj => by
      rw [← Array.getElem?_toList, hlist]
      simp [hj]
    have hbl : b < s.heap.size := (Array.getElem?_eq_some_iff.mp hcb).1
    have hX : va_X b xs.length (fun j => xs.getD j 0) s s.heap := ⟨scr, hcb, hof, hkn, hsz, hval⟩
    have K : W p l e room_1 s m #[Value.ref b] below meth c s₁.heap [] 0 0 (lw_Z below #[Value.ref b] s) (entryFrame m ([Value.ref b] : List Value).toArray 10) := by
      rw [hh0]
      exact whole_start l hflags hbd ⟨B.exec, B.bytes, B.returns, hml, hown, hts, hX, hbl, B.notSynchronized, hgv⟩
    obtain ⟨t, a1, o, b1, b2, b3⟩ := K s₁ rfl X₀
    exact ⟨t, o, a1, b1, b2, b3⟩
theorem lw_pre_spec {args : Array Value} {s : State} (h : (Jvm.Cond.and given_1 narrow_1).before args s = true) (hr : rest_1_c.before args s = true) : ∃ (b : Addr) (xs : List Int32), lw_P b xs args s := by
  have hs := flat_of_before _ h
  have hq := flat_of_before _ hr
  have hc : (Cond.count 1).before args s = true := hs _ (by decide +kernel)
  have harr : (Cond.arrayOf (.arg 0) .int).before args s = true := hs _ (by decide +kernel)
  have hle : (Cond.le (.length (.arg 0)) (.int 260)).before args s = true := hs _ (by decide +kernel)
  have hlen : (Cond.isInt (.length (.arg 0))).before args s = true := hq _ (by decide +kernel)
  have hall : (Cond.all (.arg 0) (.isInt (.elem (.arg 0) (.index 0)))).before args s = true := hq _ (by decide +kernel)
  obtain ⟨b, xs, hb, hx⟩ := State.ints_of_pre rfl harr hlen hall
  have hsm : xs.length < 2 ^ 31 := hx.choose_spec.2.2.2
  have hev : (Term.length (.arg 0)).eval args s none [] s = some (.int xs.length.toInt32) := hx.length_eval hb
  have hv := Cond.le_ints hev (show (Term.int 260).eval args s none [] s = some (.int 260) from rfl)
  have hd : xs.length.toInt32 ≤ 260 := by
    simpa [Cond.before, Cond.holds, hv] using hle
  have hN : xs.length ≤ 260 := (Int32.ofNat_le_ofNat hsm (by decide)).mp (show Int32.ofNat xs.length ≤ Int32.ofNat 260 from hd)
  exact ⟨b, xs, Cond.one_arg hc (show args[0]? = some (.ref b) from hb), hx, hN, h⟩
theorem lw_comes (l : Launch) (hflags : l.flags = flags0) : Comes l x (Jvm.Cond.code x code maxLocals ret :: tables_1) room_1 (fun tb e args s => Calls_1 tb e args s ∧ rest_1 tb e args s ∧ Pre_1 tb e args s)
    (fun _ _ args s o t => lw_Q args s o t) := by
  intro p e ha hc hk s m args below hf hfit hheap happ hpre
  obtain ⟨b, xs, hP⟩ := lw_pre_spec hpre.2.2 hpre.2.1
  obtain ⟨k, o, h1, h2, h3, hQ⟩ := lw_walk l hflags b xs p e ha hc hk s m args below hf ((Spec.applies_iff_loose hf).mp happ).1 hP trivial
  exact ⟨k, o, h1, h2, h3, hQ⟩
theorem lw_frame {s t : State} {o : Outcome} {args : Array Value} (h : Framed s o t [] 600000 7302250) :
    Framed s o t (fieldLocs frame_1_writes args s ++ arrayLocs frame_1_arrays args s ++ staticLocs frame_1_statics s) 600000 7302250 := h
theorem lw_limb (L : Cond) (hL : ∀ (args : Array Value) (s t : State), L.after args s (.returned (some (.int 1))) t = true) :
    ArmFor flags0 classFile x code maxLocals ret World_1 tables_1 room_1 Calls_1 rest_1 Pre_1
      (fun tb e a s o t => postC L tb e a s o t ∧ Framed s o t (fieldLocs frame_1_writes a s ++ arrayLocs frame_1_arrays a s ++ staticLocs frame_1_statics s) 600000 7302250) := by
  intro l hflags _ _ p e ha hc hk s m args below hf hfit hheap happ hpre
  obtain ⟨k, o, h1, h2, h3, rfl, hF⟩ := lw_comes l hflags p e ha hc hk s m args below hf hfit hheap happ hpre
  exact ⟨k, _, h1, h2, h3, hL args s _, lw_frame hF⟩
theorem i_vc : Claimed_1_1 ∧ Claimed_1_2 := ⟨lw_limb limb_1_1 (fun args s t => by simp [limb_1_1, Cond.after, Cond.holds, Cond.value]), lw_limb limb_1_2 (fun args s t => Cond.after_iff.mpr (by
  first | (rw [show limb_1_2 = Cond.eq .result (.int 1) from rfl, Cond.eq_ints (x := 1) (y := 1) rfl rfl]; simp; done) | (simp [limb_1_2, Cond.value, Term.eval]; done)))⟩
