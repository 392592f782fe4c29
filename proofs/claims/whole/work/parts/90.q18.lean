theorem lt_ABOVE {args : Array Value} {s : State} (h : (Jvm.Cond.and given_1 narrow_1).before args s = true) : ∀ j : Nat, j < 9 → (Term.elem (.static "FitOnDay$Acts" "ABOVE" "[I") (.int (Int32.ofNat j))).eval args s none [] s = some (.int ((k_tb none 1).2 j))
  | 0, _ => Cond.eq_int (flat_of_before _ h (Cond.eq (.elem (.static "FitOnDay$Acts" "ABOVE" "[I") (.int 0)) (.int 8)) (by decide +kernel)) rfl
  | 1, _ => Cond.eq_int (flat_of_before _ h (Cond.eq (.elem (.static "FitOnDay$Acts" "ABOVE" "[I") (.int 1)) (.int 0)) (by decide +kernel)) rfl
  | 2, _ => Cond.eq_int (flat_of_before _ h (Cond.eq (.elem (.static "FitOnDay$Acts" "ABOVE" "[I") (.int 2)) (.int 0)) (by decide +kernel)) rfl
  | 3, _ => Cond.eq_int (flat_of_before _ h (Cond.eq (.elem (.static "FitOnDay$Acts" "ABOVE" "[I") (.int 3)) (.int 2)) (by decide +kernel)) rfl
  | 4, _ => Cond.eq_int (flat_of_before _ h (Cond.eq (.elem (.static "FitOnDay$Acts" "ABOVE" "[I") (.int 4)) (.int 0)) (by decide +kernel)) rfl
  | 5, _ => Cond.eq_int (flat_of_before _ h (Cond.eq (.elem (.static "FitOnDay$Acts" "ABOVE" "[I") (.int 5)) (.int 1)) (by decide +kernel)) rfl
  | 6, _ => Cond.eq_int (flat_of_before _ h (Cond.eq (.elem (.static "FitOnDay$Acts" "ABOVE" "[I") (.int 6)) (.int 0)) (by decide +kernel)) rfl
  | 7, _ => Cond.eq_int (flat_of_before _ h (Cond.eq (.elem (.static "FitOnDay$Acts" "ABOVE" "[I") (.int 7)) (.int 3)) (by decide +kernel)) rfl
  | 8, _ => Cond.eq_int (flat_of_before _ h (Cond.eq (.elem (.static "FitOnDay$Acts" "ABOVE" "[I") (.int 8)) (.int (-1))) (by decide +kernel)) rfl
  | j + 9, hj => absurd hj (by omega)
theorem lu_ABOVE {args : Array Value} {s : State} (h : (Jvm.Cond.and given_1 narrow_1).before args s = true) (hl : (Cond.laysStatic "FitOnDay$Acts" "ABOVE" "[I").before args s = true) (hi : (Cond.initialized "FitOnDay$Acts").before args s = true) : ∃ t : Nat, va_T .int t (k_tb none 1).1 (fun j => .int ((k_tb none 1).2 j)) (fun q => s.heap.size ≤ q) s s.heap ∧ va_Z "FitOnDay$Acts" "ABOVE" "[I" (.ref t) (fun q => s.heap.size ≤ q) s s.heap := by
  obtain ⟨t, ht, hT⟩ := va_Tof (N := 9) (f := fun j => .int ((k_tb none 1).2 j)) (A := fun q => s.heap.size ≤ q) (tm := (.static "FitOnDay$Acts" "ABOVE" "[I")) (ty := .int) (by decide) (flat_of_before _ h _ (by decide +kernel)) (Cond.eq_int (flat_of_before _ h (Cond.eq (.length (.static "FitOnDay$Acts" "ABOVE" "[I")) (.int 9)) (by decide +kernel)) rfl) (lt_ABOVE h) (fun a ha q => absurd q (by omega))
  exact ⟨t, hT, va_Zof hl hi ht (fun a ha q => absurd q (by omega))⟩
theorem lt_BODIES {args : Array Value} {s : State} (h : (Jvm.Cond.and given_1 narrow_1).before args s = true) : ∀ j : Nat, j < 36 → (Term.elem (.static "FitOnDay$Acts" "BODIES" "[I") (.int (Int32.ofNat j))).eval args s none [] s = some (.int ((k_tb none 2).2 j))
  | 0, _ => Cond.eq_int (flat_of_before _ h (Cond.eq (.elem (.static "FitOnDay$Acts" "BODIES" "[I") (.int 0)) (.int 0)) (by decide +kernel)) rfl
  | 1, _ => Cond.eq_int (flat_of_before _ h (Cond.eq (.elem (.static "FitOnDay$Acts" "BODIES" "[I") (.int 1)) (.int 10)) (by decide +kernel)) rfl
  | 2, _ => Cond.eq_int (flat_of_before _ h (Cond.eq (.elem (.static "FitOnDay$Acts" "BODIES" "[I") (.int 2)) (.int 11)) (by decide +kernel)) rfl
  | 3, _ => Cond.eq_int (flat_of_before _ h (Cond.eq (.elem (.static "FitOnDay$Acts" "BODIES" "[I") (.int 3)) (.int 0)) (by decide +kernel)) rfl
  | 4, _ => Cond.eq_int (flat_of_before _ h (Cond.eq (.elem (.static "FitOnDay$Acts" "BODIES" "[I") (.int 4)) (.int 20)) (by decide +kernel)) rfl
  | 5, _ => Cond.eq_int (flat_of_before _ h (Cond.eq (.elem (.static "FitOnDay$Acts" "BODIES" "[I") (.int 5)) (.int 0)) (by decide +kernel)) rfl
  | 6, _ => Cond.eq_int (flat_of_before _ h (Cond.eq (.elem (.static "FitOnDay$Acts" "BODIES" "[I") (.int 6)) (.int 0)) (by decide +kernel)) rfl
  | 7, _ => Cond.eq_int (flat_of_before _ h (Cond.eq (.elem (.static "FitOnDay$Acts" "BODIES" "[I") (.int 7)) (.int 0)) (by decide +kernel)) rfl
  | 8, _ => Cond.eq_int (flat_of_before _ h (Cond.eq (.elem (.static "FitOnDay$Acts" "BODIES" "[I") (.int 8)) (.int 0)) (by decide +kernel)) rfl
  | 9, _ => Cond.eq_int (flat_of_before _ h (Cond.eq (.elem (.static "FitOnDay$Acts" "BODIES" "[I") (.int 9)) (.int 30)) (by decide +kernel)) rfl
  | 10, _ => Cond.eq_int (flat_of_before _ h (Cond.eq (.elem (.static "FitOnDay$Acts" "BODIES" "[I") (.int 10)) (.int 0)) (by decide +kernel)) rfl
  | 11, _ => Cond.eq_int (flat_of_before _ h (Cond.eq (.elem (.static "FitOnDay$Acts" "BODIES" "[I") (.int 11)) (.int 0)) (by decide +kernel)) rfl
  | 12, _ => Cond.eq_int (flat_of_before _ h (Cond.eq (.elem (.static "FitOnDay$Acts" "BODIES" "[I") (.int 12)) (.int 41)) (by decide +kernel)) rfl
  | 13, _ => Cond.eq_int (flat_of_before _ h (Cond.eq (.elem (.static "FitOnDay$Acts" "BODIES" "[I") (.int 13)) (.int 0)) (by decide +kernel)) rfl
  | 14, _ => Cond.eq_int (flat_of_before _ h (Cond.eq (.elem (.static "FitOnDay$Acts" "BODIES" "[I") (.int 14)) (.int 40)) (by decide +kernel)) rfl
  | 15, _ => Cond.eq_int (flat_of_before _ h (Cond.eq (.elem (.static "FitOnDay$Acts" "BODIES" "[I") (.int 15)) (.int 0)) (by decide +kernel)) rfl
  | 16, _ => Cond.eq_int (flat_of_before _ h (Cond.eq (.elem (.static "FitOnDay$Acts" "BODIES" "[I") (.int 16)) (.int 0)) (by decide +kernel)) rfl
  | 17, _ => Cond.eq_int (flat_of_before _ h (Cond.eq (.elem (.static "FitOnDay$Acts" "BODIES" "[I") (.int 17)) (.int 0)) (by decide +kernel)) rfl
  | 18, _ => Cond.eq_int (flat_of_before _ h (Cond.eq (.elem (.static "FitOnDay$Acts" "BODIES" "[I") (.int 18)) (.int 50)) (by decide +kernel)) rfl
  | 19, _ => Cond.eq_int (flat_of_before _ h (Cond.eq (.elem (.static "FitOnDay$Acts" "BODIES" "[I") (.int 19)) (.int 0)) (by decide +kernel)) rfl
  | 20, _ => Cond.eq_int (flat_of_before _ h (Cond.eq (.elem (.static "FitOnDay$Acts" "BODIES" "[I") (.int 20)) (.int 0)) (by decide +kernel)) rfl
  | 21, _ => Cond.eq_int (flat_of_before _ h (Cond.eq (.elem (.static "FitOnDay$Acts" "BODIES" "[I") (.int 21)) (.int 0)) (by decide +kernel)) rfl
  | 22, _ => Cond.eq_int (flat_of_before _ h (Cond.eq (.elem (.static "FitOnDay$Acts" "BODIES" "[I") (.int 22)) (.int 0)) (by decide +kernel)) rfl
  | 23, _ => Cond.eq_int (flat_of_before _ h (Cond.eq (.elem (.static "FitOnDay$Acts" "BODIES" "[I") (.int 23)) (.int 60)) (by decide +kernel)) rfl
  | 24, _ => Cond.eq_int (flat_of_before _ h (Cond.eq (.elem (.static "FitOnDay$Acts" "BODIES" "[I") (.int 24)) (.int 70)) (by decide +kernel)) rfl
  | 25, _ => Cond.eq_int (flat_of_before _ h (Cond.eq (.elem (.static "FitOnDay$Acts" "BODIES" "[I") (.int 25)) (.int 0)) (by decide +kernel)) rfl
  | 26, _ => Cond.eq_int (flat_of_before _ h (Cond.eq (.elem (.static "FitOnDay$Acts" "BODIES" "[I") (.int 26)) (.int 0)) (by decide +kernel)) rfl
  | 27, _ => Cond.eq_int (flat_of_before _ h (Cond.eq (.elem (.static "FitOnDay$Acts" "BODIES" "[I") (.int 27)) (.int 0)) (by decide +kernel)) rfl
  | 28, _ => Cond.eq_int (flat_of_before _ h (Cond.eq (.elem (.static "FitOnDay$Acts" "BODIES" "[I") (.int 28)) (.int 0)) (by decide +kernel)) rfl
  | 29, _ => Cond.eq_int (flat_of_before _ h (Cond.eq (.elem (.static "FitOnDay$Acts" "BODIES" "[I") (.int 29)) (.int 80)) (by decide +kernel)) rfl
  | 30, _ => Cond.eq_int (flat_of_before _ h (Cond.eq (.elem (.static "FitOnDay$Acts" "BODIES" "[I") (.int 30)) (.int 0)) (by decide +kernel)) rfl
  | 31, _ => Cond.eq_int (flat_of_before _ h (Cond.eq (.elem (.static "FitOnDay$Acts" "BODIES" "[I") (.int 31)) (.int 81)) (by decide +kernel)) rfl
  | 32, _ => Cond.eq_int (flat_of_before _ h (Cond.eq (.elem (.static "FitOnDay$Acts" "BODIES" "[I") (.int 32)) (.int 1)) (by decide +kernel)) rfl
  | 33, _ => Cond.eq_int (flat_of_before _ h (Cond.eq (.elem (.static "FitOnDay$Acts" "BODIES" "[I") (.int 33)) (.int 0)) (by decide +kernel)) rfl
  | 34, _ => Cond.eq_int (flat_of_before _ h (Cond.eq (.elem (.static "FitOnDay$Acts" "BODIES" "[I") (.int 34)) (.int 0)) (by decide +kernel)) rfl
  | 35, _ => Cond.eq_int (flat_of_before _ h (Cond.eq (.elem (.static "FitOnDay$Acts" "BODIES" "[I") (.int 35)) (.int 2)) (by decide +kernel)) rfl
  | j + 36, hj => absurd hj (by omega)
theorem lu_BODIES {args : Array Value} {s : State} (h : (Jvm.Cond.and given_1 narrow_1).before args s = true) (hl : (Cond.laysStatic "FitOnDay$Acts" "BODIES" "[I").before args s = true) (hi : (Cond.initialized "FitOnDay$Acts").before args s = true) : ∃ t : Nat, va_T .int t (k_tb none 2).1 (fun j => .int ((k_tb none 2).2 j)) (fun q => s.heap.size ≤ q) s s.heap ∧ va_Z "FitOnDay$Acts" "BODIES" "[I" (.ref t) (fun q => s.heap.size ≤ q) s s.heap := by
  obtain ⟨t, ht, hT⟩ := va_Tof (N := 36) (f := fun j => .int ((k_tb none 2).2 j)) (A := fun q => s.heap.size ≤ q) (tm := (.static "FitOnDay$Acts" "BODIES" "[I")) (ty := .int) (by decide) (flat_of_before _ h _ (by decide +kernel)) (Cond.eq_int (flat_of_before _ h (Cond.eq (.length (.static "FitOnDay$Acts" "BODIES" "[I")) (.int 36)) (by decide +kernel)) rfl) (lt_BODIES h) (fun a ha q => absurd q (by omega))
  exact ⟨t, hT, va_Zof hl hi ht (fun a ha q => absurd q (by omega))⟩
theorem ar_of {s : State} {args : Array Value} {ty : FieldType} (hty : ty = .int ∨ ty = .long) (h : (Cond.arrayClass ty).before args s = true) : ∃ cA, ArrOfT s cA ty ∧ va_RA s cA ty := by
  obtain ⟨c, k, comp, f1, f2, f3⟩ := Cond.arrayClass_spec h
  rcases hty with rfl | rfl
  · exact ⟨c, fun N z => ⟨(fun k h => by cases h), k, f2, comp, f3⟩, f1⟩
  · exact ⟨c, fun N z => ⟨(fun k h => by cases h), k, f2, comp, f3⟩, f1⟩
theorem tN_all : ∀ w ∈ k_tN, w ∈ lw_tbl ∧ w.onTables = true := by decide +kernel
theorem li_1 : Cond.laysStatic "FitOnDay$Acts" "ABOVE" "[I" ∈ lw_tbl := by decide +kernel
theorem li_2 : Cond.laysStatic "FitOnDay$Acts" "BODIES" "[I" ∈ lw_tbl := by decide +kernel
theorem li_3 : Cond.initialized "FitOnDay$Acts" ∈ lw_tbl := by decide +kernel
/-! THE CLAIM OUT OF ONE WALK OF THE LAW'S BODY. Your part is whole_start (and what it stands on); all else here is the same for every law, but numbers. -/
def R_law : String := "FitOnDayLaw"
def lw_P (b : Addr) (xs : List Int32) (args : Array Value) (s : State) : Prop := args = #[.ref b] ∧ s.IntsAt b xs ∧ xs.length ≤ 3072 ∧ (Jvm.Cond.and given_1 narrow_1).before args s = true
def lw_Q (_ : Array Value) (s : State) (o : Outcome) (t : State) : Prop := o = .returned (some (.int 1)) ∧ Framed s o t [] 600000 7302250
def lw_Z (below : List Frame) (a : Array Value) (s : State) : State → Prop := fun t => ∃ o, t.status = .running ∧ Ended t below o ∧ lw_Q a s o t
/-- the law's own end, with 1 on the stack, nothing written that was there before, its room as the claim has it -/
theorem lw_ret {p : Program} {l : Launch} {e : Env} {s : State} {m : MethodId} {below : List Frame} {meth : Method} {c : Code} {b : Nat} (hx : p.tables.exec = Jvm.exec) (hb : c.code = code) (hr : meth.sig.returnType = ret) (hlocks : meth.locks = false) {pc : Nat} {H : Heap} {ls : Array Slot} (hdg : decode code pc = .ok (.ireturn, 1)) : W p l e room_1 s m #[Value.ref b] below meth c H [] 600000 7302250 (lw_Z below #[Value.ref b] s) (F0 m pc ls [.int 1]) := by
  intro T hT X
  obtain ⟨fs, hret, hrun, hended, hW, hframe⟩ := X.leave (v := some (.int 1)) (hlocks := hlocks) (fun h => by rw [hr] at h; cases h)
  have hmeth' : T.vm.method? m = some meth := X.method'
  refine ⟨T.setFrames fs, ?_, .returned (some (.int 1)), hrun, hended, rfl, ⟨_, rfl⟩, hW, hframe⟩
  jvm_step X.here [X.here.top, hx, hb, hdg, hmeth', hr, ret, narrow_b1]
  (try refine ⟨rfl, ?_⟩); (try refine ⟨rfl, ?_⟩)
  first | (intro acts; rw [hret _ acts rfl rfl rfl]) | rw [hret _ _ rfl rfl rfl]
  exact Steps.refl _
/-- what holds at the law's entry: the machine, the code, the tables' words (any of lw_tbl by 'hts w (by decide +kernel)'), the script of L ints xs at the cell b, what the Statement gives of the start (any of its parts by flat_of_before) -/
def lw_At (p : Program) (s : State) (m : MethodId) (meth : Method) (c : Code) (b L : Nat) (xs : Nat → Int32) : Prop :=
  p.tables.exec = Jvm.exec ∧ c.code = code ∧ meth.sig.returnType = ret ∧ c.maxLocals = 4 ∧ s.vm.findClass R_law = some m.cls ∧ (∀ w ∈ lw_tbl, w.before #[Value.ref b] s = true) ∧ va_X b L xs s s.heap ∧ b < s.heap.size ∧ meth.locks = false ∧ (Jvm.Cond.and given_1 narrow_1).before #[Value.ref b] s = true
theorem whole_start {p : Program} {e : Env} {s : State} {m : MethodId} {below : List Frame} {meth : Method} {c : Code} (l : Launch) (hflags : l.flags = flags0) {b L : Nat} {xs : Nat → Int32} (hL : L ≤ 3072) (C0 : lw_At p s m meth c b L xs) : W p l e room_1 s m #[Value.ref b] below meth c s.heap [] 0 0 (lw_Z below #[Value.ref b] s) (entryFrame m ([Value.ref b] : List Value).toArray 4) := by
  obtain ⟨hx, hb, hr, hml, hown, hts, hX, hbs, hlocks, hgv⟩ := C0
  have hG : ∀ w ∈ k_tG, w.before #[Value.ref b] s = true := fun w hw => hts w (List.mem_filter.mp hw).1
  have hN : ∀ w ∈ k_tN, va_Nw w s := fun w hw => va_Nw.of (tN_all w hw).2 (hts w (tN_all w hw).1)
  obtain ⟨d0, i0, kn0⟩ := u_known hG uwX0 (hG _ cX11_16.2.1)
  obtain ⟨d1, i1, kn1⟩ := u_known hG uwX1 (hG _ cX11_87.2.1)
  obtain ⟨d2, i2, kn2⟩ := u_known hG uwX2 (hG _ cX11_56.2.1)
  obtain ⟨d3, i3, kn3⟩ := u_known hG uwX3 (hG _ cX11_62.2.1)
  obtain ⟨d4, i4, kn4⟩ := u_known hG uwX4 (hG _ cX11_96.2.1)
  obtain ⟨d5, i5, kn5⟩ := u_known hG uwX5 (hG _ cX11_59.2.1)
  obtain ⟨d6, i6, kn6⟩ := u_known hG uwX6 (hG _ cX11_7.2.1)
  obtain ⟨d7, i7, kn7⟩ := u_known hG uwX7 (hG _ cX11_23.2.1)
  obtain ⟨d8, i8, kn8⟩ := u_known hG uwX8 (hG _ cX11_53.2.1)
  obtain ⟨d9, i9, kn9⟩ := u_known hG uwX9 (hG _ cX4_9.2.1)
  obtain ⟨d10, i10, kn10⟩ := u_known hG uwX10 (hG _ cX11_50.2.1)
  obtain ⟨d11, i11, kn11⟩ := u_known hG uwX11 (hG _ cL_7.2.1)
  obtain ⟨d12, i12, kn12⟩ := u_known hG uwX12 (hG _ cL_10.2.1)
  obtain ⟨cI, aI1, aI2⟩ := ar_of (Or.inl rfl) (hG _ w_arrI)
  obtain ⟨cJ, aJ1, aJ2⟩ := ar_of (Or.inr rfl) (hG _ w_arrJ)
  obtain ⟨t1, hT1, hZ1⟩ := lu_ABOVE hgv (hts _ li_1) (hts _ li_3)
  obtain ⟨t2, hT2, hZ2⟩ := lu_BODIES hgv (hts _ li_2) (hts _ li_3)
  obtain ⟨dC, hdC⟩ : ∃ f : Nat → ClassId, f = fun c => match c with | 0 => d0 | 1 => d1 | 2 => d2 | 3 => d3 | 4 => d4 | 5 => d5 | 6 => d6 | 7 => d7 | 8 => d8 | 9 => d9 | 10 => d10 | 11 => d11 | _ => d12 := ⟨_, rfl⟩
  obtain ⟨dI, hdI⟩ : ∃ f : Nat → Nat → Nat, f = fun c => match c with | 0 => i0 | 1 => i1 | 2 => i2 | 3 => i3 | 4 => i4 | 5 => i5 | 6 => i6 | 7 => i7 | 8 => i8 | 9 => i9 | 10 => i10 | 11 => i11 | _ => i12 := ⟨_, rfl⟩
  have hK : va_K (dC, dI) vwCl [(cI, .int), (cJ, .long)] s := by
    refine ⟨fun c q hq => ?_, fun k q hq => ?_⟩
    · subst hdC; subst hdI
      match c, q, hq with
    | 0, _, hq => cases hq; exact kn0
    | 1, _, hq => cases hq; exact kn1
    | 2, _, hq => cases hq; exact kn2
    | 3, _, hq => cases hq; exact kn3
    | 4, _, hq => cases hq; exact kn4
    | 5, _, hq => cases hq; exact kn5
    | 6, _, hq => cases hq; exact kn6
    | 7, _, hq => cases hq; exact kn7
    | 8, _, hq => cases hq; exact kn8
    | 9, _, hq => cases hq; exact kn9
    | 10, _, hq => cases hq; exact kn10
    | 11, _, hq => cases hq; exact kn11
    | 12, _, hq => cases hq; exact kn12
      | c + 13, _, hq => cases hq
    · match k, q, hq with
      | 0, _, hq => cases hq; exact ⟨aI1, aI2⟩
      | 1, _, hq => cases hq; exact ⟨aJ1, aJ2⟩
      | k + 2, _, hq => cases hq
  obtain ⟨Z, hZ⟩ : ∃ Z : k_Z, Z = (s.heap.size, fun k => match k with | 0 => b | 1 => t1 | _ => t2) := ⟨_, rfl⟩
  have hRO : k_RO Z (some (L, xs)) s s.heap := by
    subst hZ
    refine ⟨fun k hk => ?_, fun k hk => ?_⟩
    · match k, hk with
      | 0, _ =>
        obtain ⟨scr, q1, q2, q3, q4, q5⟩ := hX
        exact ⟨scr, q1, q2, q3, Nat.le_of_eq q4.symm, congrArg Nat.toInt32 q4, q5, Nat.not_le.mpr hbs⟩
      | 1, _ => exact hT1
      | 2, _ => exact hT2
      | k + 3, hk => exact hk.elim
    · rcases hk with rfl | rfl
      · exact hZ1
      · exact hZ2
  have eb : kb Z (.retAddr 0) = .ref b := by subst hZ; rfl
  have eF : entryFrame m ([Value.ref b] : List Value).toArray 4 = F0 m 0 (lg_sl (([.retAddr 0] : List Value).map (kb Z)) ++ List.replicate (4 - (lg_sl (([.retAddr 0] : List Value).map (kb Z))).length) Slot.unset).toArray [] := by
    rw [← lg_entry_eq, List.map_cons, eb]; rfl
  rw [eF]
  have hz1 : Z.1 = s.heap.size := by subst hZ; rfl
  refine law_all (nm := meth.name) hL p l e room_1 s m #[Value.ref b] below meth c Z cI cJ (dC, dI) s.heap [] 0 0 _ _ ⟨hx, hb, hml, hown, rfl, hG, hN, hK, hRO, Nat.le_of_eq hz1, by decide, by decide⟩ ⟨fun k q hq => (by cases hq), hz1.symm, va_S.rf⟩ (k_en_has Z [.retAddr 0] 4 (by decide)) (by decide) (by decide) ?_
  intro pc' H' locs' cells' slots' ls' r h' hr2 hp2 hY hc hs
  subst hp2
  obtain ⟨ty, _, _, hd⟩ := hr2
  refine W.widen (k := 600000) (n := 7302250) hc hs ?_
  refine va_forget (fun q hq => ?_) ?_
  · have q2 := hY.2.2.2.2 q hq
    exact Nat.le_trans (Nat.le_of_eq hz1.symm) q2
  · exact lw_ret hx hb hr hlocks hd
set_option maxHeartbeats 4000000 in
theorem lw_walk (l : Launch) (hflags : l.flags = flags0) (b : Addr) (xs : List Int32) : MetFree l x (headSpec (Jvm.Cond.code x code maxLocals ret :: tables_1) room_1) (lw_P b xs) (fun _ _ _ _ _ => True) lw_Q := by
  refine MetFree.of_bodyS (code := code) (maxLocals := maxLocals) (ret := ret) (by decide) ?_ ?_
  · intro args s m h hn
    obtain ⟨meth, c, h1, h2, h3, h4, h5, h6, -, -⟩ := Cond.code_spec hn (atoms_spec (ws := Jvm.Cond.code x code maxLocals ret :: tables_1) h _ List.mem_cons_self)
    exact ⟨meth, c, h1, h2, h3, h4, h5, h6⟩
  · intro p e s m args below meth c s₁ B hml0 hP _
    obtain ⟨rfl, hx, hbd, hgv⟩ := hP
    obtain ⟨scr, harrAt, hlist, hof, hsmall⟩ := hx
    obtain ⟨hcb, hkn, -, -⟩ := State.arrayAt?_spec harrAt
    have hown : s.vm.findClass R_law = some m.cls := findClass_of_methodNamed B.named
    have hts0 : ∀ c ∈ (Jvm.Cond.code x code maxLocals ret :: tables_1), c.before #[Value.ref b] s = true := atoms_spec (ws := Jvm.Cond.code x code maxLocals ret :: tables_1) B.pre
    have hts : ∀ w ∈ lw_tbl, w.before #[Value.ref b] s = true := k2_hts_sels lw_privs (fun w hw => hts0 w (List.mem_cons_of_mem _ hw)) lw_privs_ok
    have hml : c.maxLocals = 4 := B.maxLocals_eq (hts0 _ List.mem_cons_self)
    have X₀ : Stand p l e room_1 s m #[Value.ref b] below meth c s₁ [] 0 0 := Stand.of_body B
    have hh0 : s₁.heap = s.heap := by rw [B.state]; rfl
    have hsz : scr.slots.size = xs.length := by rw [← Array.length_toList, hlist, List.length_map]
    have hval : ∀ j : Nat, j < xs.length → scr.slots[j]? = some (.int (xs.getD j 0)) := fun j hj => by
      rw [← Array.getElem?_toList, hlist]
      simp [hj]
    have hbl : b < s.heap.size := (Array.getElem?_eq_some_iff.mp hcb).1
    have hX : va_X b xs.length (fun j => xs.getD j 0) s s.heap := ⟨scr, hcb, hof, hkn, hsz, hval⟩
    have K : W p l e room_1 s m #[Value.ref b] below meth c s₁.heap [] 0 0 (lw_Z below #[Value.ref b] s) (entryFrame m ([Value.ref b] : List Value).toArray 4) := by
      rw [hh0]
      exact whole_start l hflags hbd ⟨B.exec, B.bytes, B.returns, hml, hown, hts, hX, hbl, B.notSynchronized, hgv⟩
    obtain ⟨t, a1, o, b1, b2, b3⟩ := K s₁ rfl X₀
    exact ⟨t, o, a1, b1, b2, b3⟩
theorem lw_pre_spec {args : Array Value} {s : State} (h : (Jvm.Cond.and given_1 narrow_1).before args s = true) (hr : rest_1_c.before args s = true) : ∃ (b : Addr) (xs : List Int32), lw_P b xs args s := by
  have hs := flat_of_before _ h
  have hq := flat_of_before _ hr
  have hc : (Cond.count 1).before args s = true := hs _ (by decide +kernel)
  have harr : (Cond.arrayOf (.arg 0) .int).before args s = true := hs _ (by decide +kernel)
  have hle : (Cond.le (.length (.arg 0)) (.int 3072)).before args s = true := hs _ (by decide +kernel)
  have hlen : (Cond.isInt (.length (.arg 0))).before args s = true := hq _ (by decide +kernel)
  have hall : (Cond.all (.arg 0) (.isInt (.elem (.arg 0) (.index 0)))).before args s = true := hq _ (by decide +kernel)
  obtain ⟨b, xs, hb, hx⟩ := State.ints_of_pre rfl harr hlen hall
  have hsm : xs.length < 2 ^ 31 := hx.choose_spec.2.2.2
  have hev : (Term.length (.arg 0)).eval args s none [] s = some (.int xs.length.toInt32) := hx.length_eval hb
  have hv := Cond.le_ints hev (show (Term.int 3072).eval args s none [] s = some (.int 3072) from rfl)
  have hd : xs.length.toInt32 ≤ 3072 := by
    simpa [Cond.before, Cond.holds, hv] using hle
  have hN : xs.length ≤ 3072 := (Int32.ofNat_le_ofNat hsm (by decide)).mp (show Int32.ofNat xs.length ≤ Int32.ofNat 3072 from hd)
  exact ⟨b, xs, Cond.one_arg hc (show args[0]? = some (.ref b) from hb), hx, hN, h⟩
theorem lw_comes (l : Launch) (hflags : l.flags = flags0) : Comes l x (Jvm.Cond.code x code maxLocals ret :: tables_1) room_1 (fun tb e args s => Calls_1 tb e args s ∧ rest_1 tb e args s ∧ Pre_1 tb e args s)
    (fun _ _ args s o t => lw_Q args s o t) := by
  intro p e ha hc hk s m args below hf hfit hheap happ hpre
  obtain ⟨b, xs, hP⟩ := lw_pre_spec hpre.2.2 hpre.2.1
  obtain ⟨k, o, h1, h2, h3, hQ⟩ := lw_walk l hflags b xs p e ha hc hk s m args below hf ((Spec.applies_iff_loose hf).mp happ).1 hP trivial
  exact ⟨k, o, h1, h2, h3, hQ⟩
theorem lw_frame {s t : State} {o : Outcome} {args : Array Value} (h : Framed s o t [] 600000 7302250) :
    Framed s o t (fieldLocs frame_1_writes args s ++ arrayLocs frame_1_arrays args s ++ staticLocs frame_1_statics s) 600000 7302250 := h
theorem lw_limb (L : Cond) (hL : ∀ (args : Array Value) (s t : State), L.after args s (.returned (some (.int 1))) t = true) :
    ArmFor flags0 classFile x code maxLocals ret World_1 tables_1 room_1 Calls_1 rest_1 Pre_1
      (fun tb e a s o t => postC L tb e a s o t ∧ Framed s o t (fieldLocs frame_1_writes a s ++ arrayLocs frame_1_arrays a s ++ staticLocs frame_1_statics s) 600000 7302250) := by
  intro l hflags _ _ p e ha hc hk s m args below hf hfit hheap happ hpre
  obtain ⟨k, o, h1, h2, h3, rfl, hF⟩ := lw_comes l hflags p e ha hc hk s m args below hf hfit hheap happ hpre
  exact ⟨k, _, h1, h2, h3, hL args s _, lw_frame hF⟩
theorem i_vc : Claimed_1_1 ∧ Claimed_1_2 := ⟨lw_limb limb_1_1 (fun args s t => by simp [limb_1_1, Cond.after, Cond.holds, Cond.value]), lw_limb limb_1_2 (fun args s t => Cond.after_iff.mpr (by
  first | (rw [show limb_1_2 = Cond.eq .result (.int 1) from rfl, Cond.eq_ints (x := 1) (y := 1) rfl rfl]; simp; done) | (simp [limb_1_2, Cond.value, Term.eval]; done)))⟩
