/-! CONTRACTS over the road, and calls. -/
def k_In (Z : k_Z) (cI cJ : ClassId) (D : va_G) (X : k_X) (h : k_H) (U : State) : Prop := va_P D vwCl (k_ws Z cI cJ h) U.heap ∧ k_Sz Z h U.heap ∧ va_K D vwCl [(cI, .int), (cJ, .long), (cB Z, .byte)] U ∧ k_RO Z X U U.heap ∧ ∀ w ∈ k_tN, va_Nw w U
def k_Q (Z : k_Z) (cI cJ : ClassId) (D : va_G) (Po : Option Value → k_H → Prop) : Array Value → State → Outcome → State → Prop := fun _ st o t => (∃ (r : Option Value) (h' : k_H), o = .returned (r.map (kb Z)) ∧ Po r h' ∧ va_P D vwCl (k_ws Z cI cJ h') t.heap ∧ k_Sz Z h' t.heap) ∧ va_F (k_A Z) st t
abbrev k_rm (d bc bs : Nat) : Room := { frames := d, cells := bc, slots := bs, locals := 37 * d }
abbrev k_wo (M : k_M) : List Cond := .code M.1 M.2.1 M.2.2.1 M.2.2.2 :: k_tG
/-- M's CONTRACT: from any heap that is h, with these arguments, it returns, and Po holds of its answer and the heap then; at most d frames above it, bc cells of bs slots new -/
def SpX (X : k_X) (d bc bs : Nat) (M : k_M) (av : List Value) (h : k_H) (Po : Option Value → k_H → Prop) : Prop :=
  ∀ (l : Launch) (Z : k_Z) (cI cJ : ClassId) (D : va_G), (bc ≠ 0 → gp Z = 0) → Met l M.1 (k_wo M) (k_rm d bc bs) (va_Pc (av.map (kb Z)) (k_In Z cI cJ D X h)) (k_Q Z cI cJ D Po) bc bs (k_A Z)
abbrev Sp (d bc bs : Nat) (M : k_M) (av : List Value) (h : k_H) (Po : Option Value → k_H → Prop) : Prop := SpX none d bc bs M av h Po
/-- the locals at the entry -/
def k_en0 : List Value → List Value
  | [] => []
  | v :: r => bif k_isL v then v :: .null :: k_en0 r else v :: k_en0 r
def k_en (av : List Value) (n : Nat) : List Value := k_en0 av ++ List.replicate (n - (k_en0 av).length) .null
theorem k_en0_len (Z : k_Z) : ∀ av : List Value, (lg_sl (av.map (kb Z))).length = (k_en0 av).length
  | [] => rfl
  | v :: r => by
    have ih := k_en0_len Z r
    have e : lg_sl ((v :: r).map (kb Z)) = (if (kb Z v).category = 2 then [Slot.val (kb Z v), Slot.second] else [Slot.val (kb Z v)]) ++ lg_sl (r.map (kb Z)) := by simp [lg_sl]
    rw [e, List.length_append, ih]
    cases v <;> simp [k_en0, k_isL, kb, Value.category] <;> omega
theorem k_en0_get (Z : k_Z) : ∀ (av : List Value) (o i : Nat) (v : Value), (k_en0 av)[i]? = some v → v ≠ .null → (o + i, kb Z v) ∈ lv_args o (av.map (kb Z))
  | [], o, i, v, h, _ => by simp [k_en0] at h
  | u :: r, o, i, v, h, hv => by
    have ih := k_en0_get Z r
    have hc : ((kb Z u).category = 2) ↔ k_isL u = true := by cases u <;> simp [kb, Value.category, k_isL]
    show (o + i, kb Z v) ∈ (o, kb Z u) :: lv_args (if (kb Z u).category = 2 then o + 2 else o + 1) (r.map (kb Z))
    cases hu : k_isL u with
    | true =>
      rw [if_pos (hc.mpr hu)]
      have h : (u :: .null :: k_en0 r)[i]? = some v := by simpa [k_en0, hu] using h
      match i, h with
      | 0, h => cases h; exact List.mem_cons_self
      | 1, h => cases h; exact absurd rfl hv
      | i + 2, h =>
        have := ih (o + 2) i v (by simpa using h) hv
        rw [show o + (i + 2) = o + 2 + i by omega]
        exact List.mem_cons_of_mem _ this
    | false =>
      rw [if_neg (fun q => by rw [hc.mp q] at hu; cases hu)]
      have h : (u :: k_en0 r)[i]? = some v := by simpa [k_en0, hu] using h
      match i, h with
      | 0, h => cases h; exact List.mem_cons_self
      | i + 1, h =>
        have := ih (o + 1) i v (by simpa using h) hv
        rw [show o + (i + 1) = o + 1 + i by omega]
        exact List.mem_cons_of_mem _ this
theorem k_en_has (Z : k_Z) (av : List Value) (n : Nat) (hn : (k_en0 av).length ≤ n) : k_Lo Z n (k_en av n) ((lg_sl (av.map (kb Z)) ++ List.replicate (n - (lg_sl (av.map (kb Z))).length) Slot.unset).toArray) := by
  have e := k_en0_len Z av
  have hl := lv_entry (av.map (kb Z)) (n := n) (by rw [e]; exact hn)
  refine ⟨by rw [k_en, List.length_append, List.length_replicate]; omega, hl.1, hl.2.1, fun i v hi hv => ?_⟩
  by_cases hz : i < (k_en0 av).length
  · rw [k_en, List.getElem?_append_left hz] at hi
    have hm := k_en0_get Z av 0 i v hi hv
    rw [Nat.zero_add] at hm
    exact hl.2.2 _ hm
  · rw [k_en, List.getElem?_append_right (by omega)] at hi
    exact absurd (List.eq_of_mem_replicate (List.mem_of_getElem? hi)) hv
def k_isN : Cond → Bool
  | .fieldLinkNest .. => true
  | .methodLinkNest .. => true
  | _ => false
theorem k_tN_ok : k_tN.all k_isN = true := by decide +kernel
theorem k_tN_warm {w : Cond} (hw : w ∈ k_tN) {s U : State} (hW : s.WarmedH U.vm) (hz : va_Nw w s) : va_Nw w U := by
  have h1 := List.all_eq_true.mp k_tN_ok w hw
  cases w <;> first | exact va_Nw.warmF hW hz | exact va_Nw.warmM hW hz | cases h1
theorem k_tN_same {w : Cond} (hw : w ∈ k_tN) {s U : State} (hW : s.vm = U.vm) (hz : va_Nw w s) : va_Nw w U := by
  have h1 := List.all_eq_true.mp k_tN_ok w hw
  cases w <;> first | exact va_Nw.same rfl hW hz | cases h1
theorem k_RO.warm {Z : k_Z} {X : k_X} {u U : State} {H : Heap} (hW : u.WarmedH U.vm) (h : k_RO Z X u H) : k_RO Z X U H := by
  obtain ⟨h1, h2, h3, ⟨v, hv, h4⟩, h5, h6⟩ := h
  exact ⟨fun k hk => (h1 k hk).moved hW.alike, fun k hk => (h2 k hk).moved hW.alike, h3.moved hW.alike, ⟨v, hv, h4.moved hW.alike⟩, h5.moved hW.alike, fun hX i hi => (h6 hX i hi).warm hW⟩
theorem k_RO.blind {Z : k_Z} {X : k_X} {u U : State} {H : Heap} (hvm : u.vm = U.vm) (h : k_RO Z X u H) : k_RO Z X U H := by
  have hA : u.vm.Alike U.vm := by rw [hvm]; exact Vm.Alike.refl U.vm
  obtain ⟨h1, h2, h3, ⟨v, hv, h4⟩, h5, h6⟩ := h
  exact ⟨fun k hk => (h1 k hk).moved hA, fun k hk => (h2 k hk).moved hA, h3.moved hA, ⟨v, hv, h4.moved hA⟩, h5.moved hA, fun hX i hi => vk_R.same hvm.symm (h6 hX i hi)⟩
theorem k_RO.kept {Z : k_Z} {X : k_X} {U : State} {H H1 : Heap} (h : k_RO Z X U H) (hq : ∀ a : Nat, a < H.size → ¬ k_A Z a → H1[a]? = H[a]?) : k_RO Z X U H1 := by
  obtain ⟨h1, h2, h3, ⟨v, hv, h4⟩, h5, h6⟩ := h
  exact ⟨fun k hk => (h1 k hk).kept hq, fun k hk => (h2 k hk).kept hq, h3.kept hq, ⟨v, hv, h4.kept hq⟩, h5.kept hq, h6⟩
theorem k_tb_none {X : k_X} : ∀ k, k_on none k → k_on X k ∧ k_tb X k = k_tb none k
  | 0, h => absurd rfl h
  | 1, _ => ⟨trivial, rfl⟩
  | 2, _ => ⟨trivial, rfl⟩
  | _ + 3, h => h.elim
theorem k_RO.none {Z : k_Z} {X : k_X} {U : State} {H : Heap} (h : k_RO Z X U H) : k_RO Z none U H := ⟨fun k hk => by
  obtain ⟨h1, h2⟩ := k_tb_none (X := X) k hk
  have h3 := h.1 k h1
  rw [h2] at h3
  exact h3, h.2.1, h.2.2.1, h.2.2.2.1, h.2.2.2.2.1, fun q => absurd rfl q⟩
/-- the callee's tables are ours, or none of the law's -/
theorem k_RO.sub {Z : k_Z} {X Y : k_X} {U : State} {H : Heap} (h : k_RO Z X U H) (e : Y = Option.none ∨ Y = X) : k_RO Z Y U H := by
  rcases e with rfl | rfl
  · exact h.none
  · exact h
theorem k_In.blind {Z : k_Z} {cI cJ : ClassId} {D : va_G} {X : k_X} {h : k_H} {av : List Value} : FrameBlind (va_Pc av (k_In Z cI cJ D X h)) := fun a U g mk q => by
  obtain ⟨q0, q1, q2, q3, q4, q5⟩ := q
  exact ⟨q0, q1, q2, va_K.moved (u := U) (U := U.calling g mk a) (Vm.Alike.refl U.vm) q3, k_RO.blind (u := U) (U := U.calling g mk a) rfl q4, fun w hw => k_tN_same (s := U) (U := U.calling g mk a) hw rfl (q5 w hw)⟩
/-- A CONTRACT out of a walk from the entry -/
theorem SpX_of {X : k_X} {d bc bs : Nat} {M : k_M} {av : List Value} {h : k_H} {Po : Option Value → k_H → Prop} (hy : plainName M.1.cls = true) (hn : (k_en0 av).length ≤ M.2.2.1) (k : AW X M d bc bs 0 (k_en av M.2.2.1) [] h Po) : SpX X d bc bs M av h Po := by
  intro l Z cI cJ D hgap
  refine Met.ofW (cc := M.2.1) (maxL := M.2.2.1) (ret := M.2.2.2) hy rfl ?_
  intro p e s m args below meth c s₁ B hml hv
  obtain ⟨rfl, hP, hsz, hK, hRO, hN⟩ := hv
  have hts := atoms_spec (ws := k_wo M) B.pre
  rw [lg_entry_eq]
  refine k p l e (k_rm d bc bs) s m _ below meth c Z cI cJ D s.heap [] 0 0 _ _ ⟨B.exec, B.bytes, hml, findClass_of_methodNamed B.named, (name_of_methodNamed B.named B.method).1, fun w hw => hts w (List.mem_cons_of_mem _ hw), hN, hK, hRO, by have q := hsz.1; omega, Nat.le_refl _, Nat.le_refl _⟩ ⟨hP, hsz, va_S.rf⟩ (k_en_has Z av M.2.2.1 hn) ⟨Nat.le_of_eq (Nat.zero_add _), hgap⟩ (Nat.le_of_eq (Nat.zero_add _)) ?_
  intro pc' H' locs' cells' slots' ls' r h' hr hp hY hc hs
  refine W.widen (k := bc) (n := bs) hc hs ?_
  have hlocks := B.notSynchronized
  match r, hr with
  | none, hr => exact W.vret B.exec B.bytes (B.returns.trans hr.1) (fun t ht hW => ⟨⟨none, h', rfl, hp, by rw [ht]; exact hY.1, by rw [ht]; exact hY.2.1⟩, hY.2.2.F ht⟩) hY.2.2.2.2 hr.2
  | some (.int v), hr =>
    obtain ⟨ty, h1, h2, h3⟩ := hr
    exact W.zret B.exec B.bytes (B.returns.trans h1) h2 (fun t ht hW => ⟨⟨some (.int v), h', rfl, hp, by rw [ht]; exact hY.1, by rw [ht]; exact hY.2.1⟩, hY.2.2.F ht⟩) hY.2.2.2.2 h3
  | some (.long v), hr => exact W.lret B.exec B.bytes (B.returns.trans hr.1) (fun t ht hW => ⟨⟨some (.long v), h', rfl, hp, by rw [ht]; exact hY.1, by rw [ht]; exact hY.2.1⟩, hY.2.2.F ht⟩) hY.2.2.2.2 hr.2
  | some (.ref a), hr =>
    obtain ⟨⟨rt, h1, h2⟩, h3⟩ := hr
    exact W.aret B.exec B.bytes (B.returns.trans h1) h2 (Or.inr ⟨_, rfl⟩) (fun t ht hW => ⟨⟨some (.ref a), h', rfl, hp, by rw [ht]; exact hY.1, by rw [ht]; exact hY.2.1⟩, hY.2.2.F ht⟩) hY.2.2.2.2 h3
theorem Sp_of {d bc bs : Nat} {M : k_M} {av : List Value} {h : k_H} {Po : Option Value → k_H → Prop} (hy : plainName M.1.cls = true) (hn : (k_en0 av).length ≤ M.2.2.1) (k : AW none M d bc bs 0 (k_en av M.2.2.1) [] h Po) : Sp d bc bs M av h Po := SpX_of hy hn k
/-- the arguments off the stack -/
def k_popn : Nat → List Value → List Value → Option (List Value × List Value)
  | 0, st, acc => some (acc, st)
  | n + 1, v :: st, acc => k_popn n st (v :: acc)
  | _ + 1, [], _ => none
theorem k_popn_spec : ∀ (n : Nat) (st acc As rest : List Value), k_popn n st acc = some (As, rest) → ∃ B : List Value, As = B ++ acc ∧ st = B.reverse ++ rest ∧ B.length = n
  | 0, st, acc, As, rest, h => by cases h; exact ⟨[], rfl, rfl, rfl⟩
  | n + 1, [], acc, As, rest, h => by cases h
  | n + 1, v :: st, acc, As, rest, h => by
    obtain ⟨B, h1, h2, h3⟩ := k_popn_spec n st (v :: acc) As rest h
    exact ⟨B ++ [v], by rw [h1, List.append_assoc]; rfl, by rw [h2, List.reverse_append]; rfl, by rw [List.length_append, h3]; rfl⟩
theorem k_popn_nil {n : Nat} {st As rest : List Value} (h : k_popn n st [] = some (As, rest)) : st = As.reverse ++ rest ∧ As.length = n := by
  obtain ⟨B, h1, h2, h3⟩ := k_popn_spec n st [] As rest h
  rw [List.append_nil] at h1
  subst h1
  exact ⟨h2, h3⟩
/-- the words that a call of M wants, na its parameters -/
def k_mw (M : k_M) (na : Nat) : Prop := (Cond.code M.1 M.2.1 M.2.2.1 M.2.2.2 ∈ k_tG ∧ Cond.initialized M.1.cls ∈ k_tG) ∧ (M.1.cls ≠ "java/lang/invoke/MethodHandle" ∧ M.1.cls ≠ "java/lang/invoke/VarHandle" ∧ (parseMethodDescriptor M.1.desc).map (fun d => d.parameters.length) = some na) ∧ M.2.2.1 ≤ 18
theorem k_wo_in {M M' : k_M} (h : Cond.code M'.1 M'.2.1 M'.2.2.1 M'.2.2.2 ∈ k_tG) : GoodIn (k_wo M) (k_wo M') := by
  intro w hw
  have hg : w ∈ k_tG := (List.mem_cons.mp hw).elim (fun e => e ▸ h) id
  exact ⟨List.mem_cons_of_mem _ hg, good_of_word (List.mem_filter.mp hg).2⟩
theorem k_wG_in {M' : k_M} (h : Cond.code M'.1 M'.2.1 M'.2.2.1 M'.2.2.2 ∈ k_tG) : GoodIn k_tG (k_wo M') := by
  intro w hw
  have hg : w ∈ k_tG := (List.mem_cons.mp hw).elim (fun e => e ▸ h) id
  exact ⟨hg, good_of_word (List.mem_filter.mp hg).2⟩
theorem k_catsum (Z : k_Z) (st : List Value) : ((st.map (kb Z)).map fun v => v.category).sum = (st.map fun v => v.category).sum := by
  rw [List.map_map]
  congr 1
  exact List.map_congr_left (fun v _ => k_cat Z v)
section KC
variable {X Y0 : k_X} {M M' : k_M} {d d' bc bs bc' bs' bc2 bs2 pc n na ix a ci : Nat} {L st As rest fs : List Value} {h : k_H} {Po Po' : Option Value → k_H → Prop}
theorem k_callV (hd : k_dc M pc (.invokevirtual ix) 3 n) (hl : Cond.methodLink M.1.cls ix M'.1 ∈ k_tG) (hw : k_mw M' na) (hw2 : Cond.instanceMethod M'.1 ∈ k_tG ∧ Cond.selects M'.1.cls M'.1 M'.1 ∈ k_tG) (hrc : h[a]? = some (.inr (ci, fs)) ∧ ∃ q, vwCl[ci]? = some q ∧ q.1 = M'.1.cls) (hp : k_popn (na + 1) st [] = some (.ref a :: As, rest)) (hsp : SpX none d' bc' bs' M' (.ref a :: As) h Po') (hdd : d' < d) (hb : bc = bc' + bc2 ∧ bs = bs' + bs2) (hct : (rest.map fun v => v.category).sum ≤ 8) (k : ∀ (r : Option Value) (h' : k_H), Po' r h' → AW X M d bc2 bs2 n L (r.toList ++ rest) h' Po) : AW X M d bc bs pc L st h Po := by
  obtain ⟨hd, rfl⟩ := hd
  intro p l e R s m args below meth c Z cI cJ D H locs cells slots ls Q C Y hL h1 h2 E
  obtain ⟨rfl, rfl⟩ := hb
  obtain ⟨hstk, hAl⟩ := k_popn_nil hp
  have hM := hsp l Z cI cJ D (by omega)
  have hts := C.2.2.2.2.2.1
  have hK := C.2.2.2.2.2.2.2.1
  have hr := C.2.2.2.2.2.2.2.2.2.2
  have hG := k_wG_in (M' := M') hw.1.1
  have hd9 : d' + 1 ≤ R.frames ∧ 8 + (M'.2.2.1 + 11) + 37 * d' ≤ R.locals := by have := hw.2.2; omega
  have hcs : 2 * (F0 m pc ls (st.map (kb Z))).monitorRoom + ((rest.map (kb Z)).map fun v => v.category).sum ≤ 8 := by rw [k_catsum]; show 2 * 0 + _ ≤ 8; omega
  have hPre : ∀ U : State, U.heap = H → s.WarmedH U.vm → k_In Z cI cJ D none h U := fun U hU hW => ⟨by rw [hU]; exact Y.1, by rw [hU]; exact Y.2.1, va_K.moved hW.alike hK, by rw [hU]; exact ((C.2.2.2.2.2.2.2.2.1.kept Y.2.2.2.1).warm hW).sub (Or.inl rfl), fun w hw => k_tN_warm hw hW (C.2.2.2.2.2.2.1 w hw)⟩
  have hrecv : ∃ cellB : Cell, H[Z.1 + a]? = some cellB ∧ cellB.vm.isStatics = false ∧ s.vm.findClass M'.1.cls = some cellB.cls := by
    obtain ⟨q, hq1, hq2⟩ := hrc.2
    rw [← hq2]
    exact va_recv hK Y.1 hq1 (k_ws_get hrc.1)
  have hrun := va_runV (l := l) (e := e) (R := R) (below := below) (meth := meth) (H := H) (locs := locs) (cells := cells) (slots := slots) (g := F0 m pc ls (st.map (kb Z))) (As := As.map (kb Z)) (rest := rest.map (kb Z)) ⟨C.1, C.2.1, C.2.2.1, C.2.2.2.1, hts⟩ hM (⟨callB_of na hts hG rfl rfl rfl (hts _ hw.1.2) (hts _ hl) hw.2.1 hd9, hts _ hw2.1, hts _ hw2.2⟩) (⟨k_In.blind, hrecv, fun U hU hW => ⟨rfl, hPre U hU hW⟩⟩) rfl (by rw [List.length_map]; exact Nat.succ.inj hAl) hL.2.1 (by show st.map (kb Z) = _; rw [hstk, List.map_append, List.map_reverse, List.map_cons, List.reverse_cons, List.append_assoc]; rfl) hcs hd (by constructor <;> omega)
  intro T hT XX
  obtain ⟨v, st₀, t, T', L9, e0, X', hLf, e1, e2, ⟨⟨r, h', hv, hpo, hP9, hz9⟩, hz, hk9⟩, stp⟩ := hrun T hT XX
  cases hv
  rw [e0] at hz hk9
  have hS9 : va_S (k_A Z) s.heap T'.heap (locs ++ L9) := ⟨Nat.le_trans Y.2.2.1 (by rw [e1]; exact hz), fun q g1 g2 => by rw [e1, hk9 q (Nat.lt_of_lt_of_le g1 Y.2.2.1) g2]; exact Y.2.2.2.1 q g1 g2, fun q hq => (List.mem_append.mp hq).elim (Y.2.2.2.2 q) (hLf q)⟩
  obtain ⟨t2, a1, b1⟩ := k r h' hpo p l e R s m args below meth c Z cI cJ D T'.heap (locs ++ L9) (cells + bc') (slots + bs') ls Q C ⟨by rw [e1]; exact hP9, by rw [e1]; exact hz9, hS9⟩ hL (by omega) (by omega) E T' rfl X'
  refine ⟨t2, stp t2 ?_, b1⟩
  have e5 : (r.map (kb Z)).toList ++ rest.map (kb Z) = (r.toList ++ rest).map (kb Z) := by cases r <;> simp
  rw [e5]
  exact a1
theorem k_callI (hd : k_dc M pc (.invokespecial ix) 3 n) (hl : Cond.methodLink M.1.cls ix M'.1 ∈ k_tG) (hw : k_mw M' na) (hw2 : M'.1.name = "<init>" ∧ Cond.instanceMethod M'.1 ∈ k_tG ∧ M'.2.2.2 = none) (hp : k_popn (na + 1) st [] = some (.ref a :: As, rest)) (hsp : SpX none d' bc' bs' M' (.ref a :: As) h Po') (hdd : d' < d) (hb : bc = bc' + bc2 ∧ bs = bs' + bs2) (hct : (rest.map fun v => v.category).sum ≤ 8) (k : ∀ (r : Option Value) (h' : k_H), Po' r h' → AW X M d bc2 bs2 n L (r.toList ++ rest) h' Po) : AW X M d bc bs pc L st h Po := by
  obtain ⟨hd, rfl⟩ := hd
  intro p l e R s m args below meth c Z cI cJ D H locs cells slots ls Q C Y hL h1 h2 E
  obtain ⟨rfl, rfl⟩ := hb
  obtain ⟨hstk, hAl⟩ := k_popn_nil hp
  have hM := hsp l Z cI cJ D (by omega)
  have hts := C.2.2.2.2.2.1
  have hK := C.2.2.2.2.2.2.2.1
  have hr := C.2.2.2.2.2.2.2.2.2.2
  have hG := k_wG_in (M' := M') hw.1.1
  have hd9 : d' + 1 ≤ R.frames ∧ 8 + (M'.2.2.1 + 11) + 37 * d' ≤ R.locals := by have := hw.2.2; omega
  have hcs : 2 * (F0 m pc ls (st.map (kb Z))).monitorRoom + ((rest.map (kb Z)).map fun v => v.category).sum ≤ 8 := by rw [k_catsum]; show 2 * 0 + _ ≤ 8; omega
  have hPre : ∀ U : State, U.heap = H → s.WarmedH U.vm → k_In Z cI cJ D none h U := fun U hU hW => ⟨by rw [hU]; exact Y.1, by rw [hU]; exact Y.2.1, va_K.moved hW.alike hK, by rw [hU]; exact ((C.2.2.2.2.2.2.2.2.1.kept Y.2.2.2.1).warm hW).sub (Or.inl rfl), fun w hw => k_tN_warm hw hW (C.2.2.2.2.2.2.1 w hw)⟩
  have hM : Met l M'.1 (Cond.code M'.1 M'.2.1 M'.2.2.1 none :: k_tG) (k_rm d' bc' bs') (va_Pc ((.ref a :: As).map (kb Z)) (k_In Z cI cJ D none h)) (k_Q Z cI cJ D Po') bc' bs' (k_A Z) := by have q := hM; unfold k_wo at q; rw [hw2.2.2] at q; exact q
  have hG : GoodIn k_tG (Cond.code M'.1 M'.2.1 M'.2.2.1 none :: k_tG) := by have q := hG; unfold k_wo at q; rw [hw2.2.2] at q; exact q
  have hrun := va_runI (l := l) (e := e) (R := R) (below := below) (meth := meth) (H := H) (locs := locs) (cells := cells) (slots := slots) (g := F0 m pc ls (st.map (kb Z))) (b := Z.1 + a) (As := As.map (kb Z)) (rest := rest.map (kb Z)) ⟨C.1, C.2.1, C.2.2.1, C.2.2.2.1, hts⟩ hM (⟨callB_of na hts hG rfl rfl rfl (hts _ hw.1.2) (hts _ hl) hw.2.1 hd9, hw2.1, hts _ hw2.2.1⟩) (⟨k_In.blind, fun U hU hW => ⟨rfl, hPre U hU hW⟩⟩) rfl (by rw [List.length_map]; exact Nat.succ.inj hAl) hL.2.1 (by show st.map (kb Z) = _; rw [hstk, List.map_append, List.map_reverse, List.map_cons, List.reverse_cons, List.append_assoc]; rfl) hcs hd (by constructor <;> omega)
  intro T hT XX
  obtain ⟨v, st₀, t, T', L9, e0, X', hLf, e1, e2, ⟨⟨r, h', hv, hpo, hP9, hz9⟩, hz, hk9⟩, stp⟩ := hrun T hT XX
  cases hv
  rw [e0] at hz hk9
  have hS9 : va_S (k_A Z) s.heap T'.heap (locs ++ L9) := ⟨Nat.le_trans Y.2.2.1 (by rw [e1]; exact hz), fun q g1 g2 => by rw [e1, hk9 q (Nat.lt_of_lt_of_le g1 Y.2.2.1) g2]; exact Y.2.2.2.1 q g1 g2, fun q hq => (List.mem_append.mp hq).elim (Y.2.2.2.2 q) (hLf q)⟩
  obtain ⟨t2, a1, b1⟩ := k r h' hpo p l e R s m args below meth c Z cI cJ D T'.heap (locs ++ L9) (cells + bc') (slots + bs') ls Q C ⟨by rw [e1]; exact hP9, by rw [e1]; exact hz9, hS9⟩ hL (by omega) (by omega) E T' rfl X'
  refine ⟨t2, stp t2 ?_, b1⟩
  have e5 : (r.map (kb Z)).toList ++ rest.map (kb Z) = (r.toList ++ rest).map (kb Z) := by cases r <;> simp
  rw [e5]
  exact a1
theorem k_callS (hd : k_dc M pc (.invokestatic ix) 3 n) (hl : Cond.methodLink M.1.cls ix M'.1 ∈ k_tG) (hw : k_mw M' na) (hw2 : Cond.static M'.1 ∈ k_tG) (hp : k_popn na st [] = some (As, rest)) (hsp : SpX none d' bc' bs' M' (As) h Po') (hdd : d' < d) (hb : bc = bc' + bc2 ∧ bs = bs' + bs2) (hct : (rest.map fun v => v.category).sum ≤ 8) (k : ∀ (r : Option Value) (h' : k_H), Po' r h' → AW X M d bc2 bs2 n L (r.toList ++ rest) h' Po) : AW X M d bc bs pc L st h Po := by
  obtain ⟨hd, rfl⟩ := hd
  intro p l e R s m args below meth c Z cI cJ D H locs cells slots ls Q C Y hL h1 h2 E
  obtain ⟨rfl, rfl⟩ := hb
  obtain ⟨hstk, hAl⟩ := k_popn_nil hp
  have hM := hsp l Z cI cJ D (by omega)
  have hts := C.2.2.2.2.2.1
  have hK := C.2.2.2.2.2.2.2.1
  have hr := C.2.2.2.2.2.2.2.2.2.2
  have hG := k_wG_in (M' := M') hw.1.1
  have hd9 : d' + 1 ≤ R.frames ∧ 8 + (M'.2.2.1 + 11) + 37 * d' ≤ R.locals := by have := hw.2.2; omega
  have hcs : 2 * (F0 m pc ls (st.map (kb Z))).monitorRoom + ((rest.map (kb Z)).map fun v => v.category).sum ≤ 8 := by rw [k_catsum]; show 2 * 0 + _ ≤ 8; omega
  have hPre : ∀ U : State, U.heap = H → s.WarmedH U.vm → k_In Z cI cJ D none h U := fun U hU hW => ⟨by rw [hU]; exact Y.1, by rw [hU]; exact Y.2.1, va_K.moved hW.alike hK, by rw [hU]; exact ((C.2.2.2.2.2.2.2.2.1.kept Y.2.2.2.1).warm hW).sub (Or.inl rfl), fun w hw => k_tN_warm hw hW (C.2.2.2.2.2.2.1 w hw)⟩
  have hrun := va_runS (l := l) (e := e) (R := R) (below := below) (meth := meth) (H := H) (locs := locs) (cells := cells) (slots := slots) (g := F0 m pc ls (st.map (kb Z))) (As := As.map (kb Z)) (rest := rest.map (kb Z)) ⟨C.1, C.2.1, C.2.2.1, C.2.2.2.1, hts⟩ hM (⟨callB_of na hts hG rfl rfl rfl (hts _ hw.1.2) (hts _ hl) hw.2.1 hd9, hts _ hw2⟩) (⟨k_In.blind, fun U hU hW => ⟨rfl, hPre U hU hW⟩⟩) rfl (by rw [List.length_map]; exact hAl) hL.2.1 (by show st.map (kb Z) = _; rw [hstk, List.map_append, List.map_reverse]) hcs hd (by constructor <;> omega)
  intro T hT XX
  obtain ⟨v, st₀, t, T', L9, e0, X', hLf, e1, e2, ⟨⟨r, h', hv, hpo, hP9, hz9⟩, hz, hk9⟩, stp⟩ := hrun T hT XX
  cases hv
  rw [e0] at hz hk9
  have hS9 : va_S (k_A Z) s.heap T'.heap (locs ++ L9) := ⟨Nat.le_trans Y.2.2.1 (by rw [e1]; exact hz), fun q g1 g2 => by rw [e1, hk9 q (Nat.lt_of_lt_of_le g1 Y.2.2.1) g2]; exact Y.2.2.2.1 q g1 g2, fun q hq => (List.mem_append.mp hq).elim (Y.2.2.2.2 q) (hLf q)⟩
  obtain ⟨t2, a1, b1⟩ := k r h' hpo p l e R s m args below meth c Z cI cJ D T'.heap (locs ++ L9) (cells + bc') (slots + bs') ls Q C ⟨by rw [e1]; exact hP9, by rw [e1]; exact hz9, hS9⟩ hL (by omega) (by omega) E T' rfl X'
  refine ⟨t2, stp t2 ?_, b1⟩
  have e5 : (r.map (kb Z)).toList ++ rest.map (kb Z) = (r.toList ++ rest).map (kb Z) := by cases r <;> simp
  rw [e5]
  exact a1
theorem k_callSN {hst : String} (hd : k_dc M pc (.invokestatic ix) 3 n) (hl : Cond.methodLinkNest M.1.cls ix M'.1 hst ∈ k_tN) (hw : k_mw M' na) (hw2 : Cond.static M'.1 ∈ k_tG) (hp : k_popn na st [] = some (As, rest)) (hsp : SpX none d' bc' bs' M' (As) h Po') (hdd : d' < d) (hb : bc = bc' + bc2 ∧ bs = bs' + bs2) (hct : (rest.map fun v => v.category).sum ≤ 8) (k : ∀ (r : Option Value) (h' : k_H), Po' r h' → AW X M d bc2 bs2 n L (r.toList ++ rest) h' Po) : AW X M d bc bs pc L st h Po := by
  obtain ⟨hd, rfl⟩ := hd
  intro p l e R s m args below meth c Z cI cJ D H locs cells slots ls Q C Y hL h1 h2 E
  obtain ⟨rfl, rfl⟩ := hb
  obtain ⟨hstk, hAl⟩ := k_popn_nil hp
  have hM := hsp l Z cI cJ D (by omega)
  have hts := C.2.2.2.2.2.1
  have hK := C.2.2.2.2.2.2.2.1
  have hr := C.2.2.2.2.2.2.2.2.2.2
  have hG := k_wG_in (M' := M') hw.1.1
  have hd9 : d' + 1 ≤ R.frames ∧ 8 + (M'.2.2.1 + 11) + 37 * d' ≤ R.locals := by have := hw.2.2; omega
  have hcs : 2 * (F0 m pc ls (st.map (kb Z))).monitorRoom + ((rest.map (kb Z)).map fun v => v.category).sum ≤ 8 := by rw [k_catsum]; show 2 * 0 + _ ≤ 8; omega
  have hPre : ∀ U : State, U.heap = H → s.WarmedH U.vm → k_In Z cI cJ D none h U := fun U hU hW => ⟨by rw [hU]; exact Y.1, by rw [hU]; exact Y.2.1, va_K.moved hW.alike hK, by rw [hU]; exact ((C.2.2.2.2.2.2.2.2.1.kept Y.2.2.2.1).warm hW).sub (Or.inl rfl), fun w hw => k_tN_warm hw hW (C.2.2.2.2.2.2.1 w hw)⟩
  have hrun := va_runSN (l := l) (e := e) (R := R) (below := below) (meth := meth) (H := H) (locs := locs) (cells := cells) (slots := slots) (g := F0 m pc ls (st.map (kb Z))) (As := As.map (kb Z)) (rest := rest.map (kb Z)) ⟨C.1, C.2.1, C.2.2.1, C.2.2.2.1, hts⟩ hM (⟨va_cnB (host := hst) na hts hG rfl rfl rfl (C.2.2.2.2.2.2.1 _ hl) (hts _ hw.1.2) hw.2.1 hd9, hts _ hw2, trivial⟩) (⟨k_In.blind, fun U hU hW => ⟨rfl, hPre U hU hW⟩⟩) rfl (by rw [List.length_map]; exact hAl) hL.2.1 (by show st.map (kb Z) = _; rw [hstk, List.map_append, List.map_reverse]) hcs hd (by constructor <;> omega)
  intro T hT XX
  obtain ⟨v, st₀, t, T', L9, e0, X', hLf, e1, e2, ⟨⟨r, h', hv, hpo, hP9, hz9⟩, hz, hk9⟩, stp⟩ := hrun T hT XX
  cases hv
  rw [e0] at hz hk9
  have hS9 : va_S (k_A Z) s.heap T'.heap (locs ++ L9) := ⟨Nat.le_trans Y.2.2.1 (by rw [e1]; exact hz), fun q g1 g2 => by rw [e1, hk9 q (Nat.lt_of_lt_of_le g1 Y.2.2.1) g2]; exact Y.2.2.2.1 q g1 g2, fun q hq => (List.mem_append.mp hq).elim (Y.2.2.2.2 q) (hLf q)⟩
  obtain ⟨t2, a1, b1⟩ := k r h' hpo p l e R s m args below meth c Z cI cJ D T'.heap (locs ++ L9) (cells + bc') (slots + bs') ls Q C ⟨by rw [e1]; exact hP9, by rw [e1]; exact hz9, hS9⟩ hL (by omega) (by omega) E T' rfl X'
  refine ⟨t2, stp t2 ?_, b1⟩
  have e5 : (r.map (kb Z)).toList ++ rest.map (kb Z) = (r.toList ++ rest).map (kb Z) := by cases r <;> simp
  rw [e5]
  exact a1
theorem k_callIN {hst : String} (hd : k_dc M pc (.invokespecial ix) 3 n) (hl : Cond.methodLinkNest M.1.cls ix M'.1 hst ∈ k_tN) (hw : k_mw M' na) (hw2 : M'.1.name = "<init>" ∧ Cond.instanceMethod M'.1 ∈ k_tG ∧ M'.2.2.2 = none) (hp : k_popn (na + 1) st [] = some (.ref a :: As, rest)) (hsp : SpX none d' bc' bs' M' (.ref a :: As) h Po') (hdd : d' < d) (hb : bc = bc' + bc2 ∧ bs = bs' + bs2) (hct : (rest.map fun v => v.category).sum ≤ 8) (k : ∀ (r : Option Value) (h' : k_H), Po' r h' → AW X M d bc2 bs2 n L (r.toList ++ rest) h' Po) : AW X M d bc bs pc L st h Po := by
  obtain ⟨hd, rfl⟩ := hd
  intro p l e R s m args below meth c Z cI cJ D H locs cells slots ls Q C Y hL h1 h2 E
  obtain ⟨rfl, rfl⟩ := hb
  obtain ⟨hstk, hAl⟩ := k_popn_nil hp
  have hM := hsp l Z cI cJ D (by omega)
  have hts := C.2.2.2.2.2.1
  have hK := C.2.2.2.2.2.2.2.1
  have hr := C.2.2.2.2.2.2.2.2.2.2
  have hG := k_wG_in (M' := M') hw.1.1
  have hd9 : d' + 1 ≤ R.frames ∧ 8 + (M'.2.2.1 + 11) + 37 * d' ≤ R.locals := by have := hw.2.2; omega
  have hcs : 2 * (F0 m pc ls (st.map (kb Z))).monitorRoom + ((rest.map (kb Z)).map fun v => v.category).sum ≤ 8 := by rw [k_catsum]; show 2 * 0 + _ ≤ 8; omega
  have hPre : ∀ U : State, U.heap = H → s.WarmedH U.vm → k_In Z cI cJ D none h U := fun U hU hW => ⟨by rw [hU]; exact Y.1, by rw [hU]; exact Y.2.1, va_K.moved hW.alike hK, by rw [hU]; exact ((C.2.2.2.2.2.2.2.2.1.kept Y.2.2.2.1).warm hW).sub (Or.inl rfl), fun w hw => k_tN_warm hw hW (C.2.2.2.2.2.2.1 w hw)⟩
  have hM : Met l M'.1 (Cond.code M'.1 M'.2.1 M'.2.2.1 none :: k_tG) (k_rm d' bc' bs') (va_Pc ((.ref a :: As).map (kb Z)) (k_In Z cI cJ D none h)) (k_Q Z cI cJ D Po') bc' bs' (k_A Z) := by have q := hM; unfold k_wo at q; rw [hw2.2.2] at q; exact q
  have hG : GoodIn k_tG (Cond.code M'.1 M'.2.1 M'.2.2.1 none :: k_tG) := by have q := hG; unfold k_wo at q; rw [hw2.2.2] at q; exact q
  have hrun := va_runIN (l := l) (e := e) (R := R) (below := below) (meth := meth) (H := H) (locs := locs) (cells := cells) (slots := slots) (g := F0 m pc ls (st.map (kb Z))) (b := Z.1 + a) (As := As.map (kb Z)) (rest := rest.map (kb Z)) ⟨C.1, C.2.1, C.2.2.1, C.2.2.2.1, hts⟩ hM (⟨va_cnB (host := hst) na hts hG rfl rfl rfl (C.2.2.2.2.2.2.1 _ hl) (hts _ hw.1.2) hw.2.1 hd9, hw2.1, hts _ hw2.2.1⟩) (⟨k_In.blind, fun U hU hW => ⟨rfl, hPre U hU hW⟩⟩) rfl (by rw [List.length_map]; exact Nat.succ.inj hAl) hL.2.1 (by show st.map (kb Z) = _; rw [hstk, List.map_append, List.map_reverse, List.map_cons, List.reverse_cons, List.append_assoc]; rfl) hcs hd (by constructor <;> omega)
  intro T hT XX
  obtain ⟨v, st₀, t, T', L9, e0, X', hLf, e1, e2, ⟨⟨r, h', hv, hpo, hP9, hz9⟩, hz, hk9⟩, stp⟩ := hrun T hT XX
  cases hv
  rw [e0] at hz hk9
  have hS9 : va_S (k_A Z) s.heap T'.heap (locs ++ L9) := ⟨Nat.le_trans Y.2.2.1 (by rw [e1]; exact hz), fun q g1 g2 => by rw [e1, hk9 q (Nat.lt_of_lt_of_le g1 Y.2.2.1) g2]; exact Y.2.2.2.1 q g1 g2, fun q hq => (List.mem_append.mp hq).elim (Y.2.2.2.2 q) (hLf q)⟩
  obtain ⟨t2, a1, b1⟩ := k r h' hpo p l e R s m args below meth c Z cI cJ D T'.heap (locs ++ L9) (cells + bc') (slots + bs') ls Q C ⟨by rw [e1]; exact hP9, by rw [e1]; exact hz9, hS9⟩ hL (by omega) (by omega) E T' rfl X'
  refine ⟨t2, stp t2 ?_, b1⟩
  have e5 : (r.map (kb Z)).toList ++ rest.map (kb Z) = (r.toList ++ rest).map (kb Z) := by cases r <;> simp
  rw [e5]
  exact a1
theorem k_callU (hd : k_dc M pc (.invokevirtual ix) 3 n) (hl : Cond.methodLink M.1.cls ix M'.1 ∈ k_tG) (hw : k_mw M' na) (hw2 : Cond.sameMethod M'.1.cls M'.1.cls M'.1.name M'.1.desc ∈ k_tG ∧ Cond.selects RJ4 M'.1 M'.1 ∈ k_tG ∧ Cond.instanceMethod M'.1 ∈ k_tG) (hrc : h[a]? = some (.inr (1, fs))) (hp : k_popn (na + 1) st [] = some (.ref a :: As, rest)) (hsp : SpX none d' bc' bs' M' (.ref a :: As) h Po') (hdd : d' < d) (hb : bc = bc' + bc2 ∧ bs = bs' + bs2) (hct : (rest.map fun v => v.category).sum ≤ 8) (k : ∀ (r : Option Value) (h' : k_H), Po' r h' → AW X M d bc2 bs2 n L (r.toList ++ rest) h' Po) : AW X M d bc bs pc L st h Po := by
  obtain ⟨hd, rfl⟩ := hd
  intro p l e R s m args below meth c Z cI cJ D H locs cells slots ls Q C Y hL h1 h2 E
  obtain ⟨rfl, rfl⟩ := hb
  obtain ⟨hstk, hAl⟩ := k_popn_nil hp
  have hM := hsp l Z cI cJ D (by omega)
  have hts := C.2.2.2.2.2.1
  have hK := C.2.2.2.2.2.2.2.1
  have hr := C.2.2.2.2.2.2.2.2.2.2
  have hG := k_wG_in (M' := M') hw.1.1
  have hd9 : d' + 1 ≤ R.frames ∧ 8 + (M'.2.2.1 + 11) + 37 * d' ≤ R.locals := by have := hw.2.2; omega
  have hcs : 2 * (F0 m pc ls (st.map (kb Z))).monitorRoom + ((rest.map (kb Z)).map fun v => v.category).sum ≤ 8 := by rw [k_catsum]; show 2 * 0 + _ ≤ 8; omega
  have hPre : ∀ U : State, U.heap = H → s.WarmedH U.vm → k_In Z cI cJ D none h U := fun U hU hW => ⟨by rw [hU]; exact Y.1, by rw [hU]; exact Y.2.1, va_K.moved hW.alike hK, by rw [hU]; exact ((C.2.2.2.2.2.2.2.2.1.kept Y.2.2.2.1).warm hW).sub (Or.inl rfl), fun w hw => k_tN_warm hw hW (C.2.2.2.2.2.2.1 w hw)⟩
  have hrecv : ∃ cellB : Cell, H[Z.1 + a]? = some cellB ∧ cellB.vm.isStatics = false ∧ s.vm.findClass RJ4 = some cellB.cls := va_recv (q := (RJ4, TJ4, 4)) hK Y.1 rfl (k_ws_get hrc)
  have hGU : GoodIn k_tG (va_wsU M.1.cls ix RJ4 M'.1.cls M'.1 M'.1 (k_wo M')) := by
    intro w hw9
    have hq : w ∈ k_tG := by
      unfold va_wsU at hw9
      rcases List.mem_append.mp hw9 with z | z
      · simp only [List.mem_cons, List.not_mem_nil, or_false] at z
        rcases z with rfl | rfl | rfl | rfl | rfl
        · exact hl
        · exact hw2.1
        · exact hw2.2.1
        · exact hw2.2.2
        · exact hw.1.2
      · exact (hG w z).1
    exact ⟨hq, good_of_word (List.mem_filter.mp hq).2⟩
  have hrun := va_runU (l := l) (e := e) (R := R) (below := below) (meth := meth) (H := H) (locs := locs) (cells := cells) (slots := slots) (g := F0 m pc ls (st.map (kb Z))) (As := As.map (kb Z)) (rest := rest.map (kb Z)) ⟨C.1, C.2.1, C.2.2.1, C.2.2.2.1, hts⟩ hM (va_cwU (owner := M'.1.cls) na hts hGU rfl rfl rfl rfl hw.2.1 hd9) (⟨k_In.blind, hrecv, fun U hU hW => ⟨rfl, hPre U hU hW⟩⟩) rfl (by rw [List.length_map]; exact Nat.succ.inj hAl) hL.2.1 (by show st.map (kb Z) = _; rw [hstk, List.map_append, List.map_reverse, List.map_cons, List.reverse_cons, List.append_assoc]; rfl) hcs hd (by constructor <;> omega)
  intro T hT XX
  obtain ⟨v, st₀, t, T', L9, e0, X', hLf, e1, e2, ⟨⟨r, h', hv, hpo, hP9, hz9⟩, hz, hk9⟩, stp⟩ := hrun T hT XX
  cases hv
  rw [e0] at hz hk9
  have hS9 : va_S (k_A Z) s.heap T'.heap (locs ++ L9) := ⟨Nat.le_trans Y.2.2.1 (by rw [e1]; exact hz), fun q g1 g2 => by rw [e1, hk9 q (Nat.lt_of_lt_of_le g1 Y.2.2.1) g2]; exact Y.2.2.2.1 q g1 g2, fun q hq => (List.mem_append.mp hq).elim (Y.2.2.2.2 q) (hLf q)⟩
  obtain ⟨t2, a1, b1⟩ := k r h' hpo p l e R s m args below meth c Z cI cJ D T'.heap (locs ++ L9) (cells + bc') (slots + bs') ls Q C ⟨by rw [e1]; exact hP9, by rw [e1]; exact hz9, hS9⟩ hL (by omega) (by omega) E T' rfl X'
  refine ⟨t2, stp t2 ?_, b1⟩
  have e5 : (r.map (kb Z)).toList ++ rest.map (kb Z) = (r.toList ++ rest).map (kb Z) := by cases r <;> simp
  rw [e5]
  exact a1
theorem k_callZ (hd : k_dc M pc (.invokespecial ix) 3 n) (hl : Cond.methodLink M.1.cls ix M'.1 ∈ k_tG) (hw : k_mw M' na) (hw2 : Cond.sameMethod M'.1.cls M'.1.cls M'.1.name M'.1.desc ∈ k_tG ∧ Cond.superclass RJ4 M'.1.cls ∈ k_tG ∧ Cond.instanceMethod M'.1 ∈ k_tG) (hown : M.1.cls = RJ4) (hni : M'.1.name ≠ "<init>") (hrc : h[a]? = some (.inr (1, fs))) (hp : k_popn (na + 1) st [] = some (.ref a :: As, rest)) (hsp : SpX none d' bc' bs' M' (.ref a :: As) h Po') (hdd : d' < d) (hb : bc = bc' + bc2 ∧ bs = bs' + bs2) (hct : (rest.map fun v => v.category).sum ≤ 8) (k : ∀ (r : Option Value) (h' : k_H), Po' r h' → AW X M d bc2 bs2 n L (r.toList ++ rest) h' Po) : AW X M d bc bs pc L st h Po := by
  obtain ⟨hd, rfl⟩ := hd
  intro p l e R s m args below meth c Z cI cJ D H locs cells slots ls Q C Y hL h1 h2 E
  obtain ⟨rfl, rfl⟩ := hb
  obtain ⟨hstk, hAl⟩ := k_popn_nil hp
  have hM := hsp l Z cI cJ D (by omega)
  have hts := C.2.2.2.2.2.1
  have hK := C.2.2.2.2.2.2.2.1
  have hr := C.2.2.2.2.2.2.2.2.2.2
  have hG := k_wG_in (M' := M') hw.1.1
  have hd9 : d' + 1 ≤ R.frames ∧ 8 + (M'.2.2.1 + 11) + 37 * d' ≤ R.locals := by have := hw.2.2; omega
  have hcs : 2 * (F0 m pc ls (st.map (kb Z))).monitorRoom + ((rest.map (kb Z)).map fun v => v.category).sum ≤ 8 := by rw [k_catsum]; show 2 * 0 + _ ≤ 8; omega
  have hPre : ∀ U : State, U.heap = H → s.WarmedH U.vm → k_In Z cI cJ D none h U := fun U hU hW => ⟨by rw [hU]; exact Y.1, by rw [hU]; exact Y.2.1, va_K.moved hW.alike hK, by rw [hU]; exact ((C.2.2.2.2.2.2.2.2.1.kept Y.2.2.2.1).warm hW).sub (Or.inl rfl), fun w hw => k_tN_warm hw hW (C.2.2.2.2.2.2.1 w hw)⟩
  have hrecv : ∃ cellB : Cell, H[Z.1 + a]? = some cellB ∧ cellB.vm.isStatics = false ∧ s.vm.findClass RJ4 = some cellB.cls := va_recv (q := (RJ4, TJ4, 4)) hK Y.1 rfl (k_ws_get hrc)
  have hGU : GoodIn k_tG (va_wsSU M.1.cls ix M'.1 (k_wo M')) := by
    intro w hw9
    have hq : w ∈ k_tG := by
      unfold va_wsSU at hw9
      rcases List.mem_append.mp hw9 with z | z
      · simp only [List.mem_cons, List.not_mem_nil, or_false] at z
        rcases z with rfl | rfl | rfl | rfl | rfl
        · exact hl
        · exact hw2.1
        · rw [hown]; exact hw2.2.1
        · exact hw2.2.2
        · exact hw.1.2
      · exact (hG w z).1
    exact ⟨hq, good_of_word (List.mem_filter.mp hq).2⟩
  have hat := (hK.1 1 (RJ4, TJ4, 4) rfl).2
  have hrun := va_runSU hat (l := l) (e := e) (R := R) (below := below) (meth := meth) (H := H) (locs := locs) (cells := cells) (slots := slots) (g := F0 m pc ls (st.map (kb Z))) (As := As.map (kb Z)) (rest := rest.map (kb Z)) ⟨C.1, C.2.1, C.2.2.1, C.2.2.2.1, hts⟩ hM (va_cwSU na hts hGU rfl rfl rfl ⟨hni, hw.2.1.2.2⟩ hd9) (⟨k_In.blind, hrecv, fun U hU hW => ⟨rfl, hPre U hU hW⟩⟩) rfl (by rw [List.length_map]; exact Nat.succ.inj hAl) hL.2.1 (by show st.map (kb Z) = _; rw [hstk, List.map_append, List.map_reverse, List.map_cons, List.reverse_cons, List.append_assoc]; rfl) hcs hd (by constructor <;> omega)
  intro T hT XX
  obtain ⟨v, st₀, t, T', L9, e0, X', hLf, e1, e2, ⟨⟨r, h', hv, hpo, hP9, hz9⟩, hz, hk9⟩, stp⟩ := hrun T hT XX
  cases hv
  rw [e0] at hz hk9
  have hS9 : va_S (k_A Z) s.heap T'.heap (locs ++ L9) := ⟨Nat.le_trans Y.2.2.1 (by rw [e1]; exact hz), fun q g1 g2 => by rw [e1, hk9 q (Nat.lt_of_lt_of_le g1 Y.2.2.1) g2]; exact Y.2.2.2.1 q g1 g2, fun q hq => (List.mem_append.mp hq).elim (Y.2.2.2.2 q) (hLf q)⟩
  obtain ⟨t2, a1, b1⟩ := k r h' hpo p l e R s m args below meth c Z cI cJ D T'.heap (locs ++ L9) (cells + bc') (slots + bs') ls Q C ⟨by rw [e1]; exact hP9, by rw [e1]; exact hz9, hS9⟩ hL (by omega) (by omega) E T' rfl X'
  refine ⟨t2, stp t2 ?_, b1⟩
  have e5 : (r.map (kb Z)).toList ++ rest.map (kb Z) = (r.toList ++ rest).map (kb Z) := by cases r <;> simp
  rw [e5]
  exact a1
theorem k_callK {i : Nat} (hd : k_dc M pc (.invokevirtual ix) 3 n) (hl : Cond.methodLink M.1.cls ix M'.1 ∈ k_tG) (hw : k_mw M' na) (hw2 : Cond.instanceMethod M'.1 ∈ k_tG ∧ Cond.selects M'.1.cls M'.1 M'.1 ∈ k_tG) (hrc : i < 4 ∧ M'.1.cls = "java/lang/String") (hp : k_popn (na + 1) st [] = some (.retAddr (10 + i) :: As, rest)) (hsp : SpX none d' bc' bs' M' (.retAddr (10 + i) :: As) h Po') (hdd : d' < d) (hb : bc = bc' + bc2 ∧ bs = bs' + bs2) (hct : (rest.map fun v => v.category).sum ≤ 8) (k : ∀ (r : Option Value) (h' : k_H), Po' r h' → AW X M d bc2 bs2 n L (r.toList ++ rest) h' Po) : AW X M d bc bs pc L st h Po := by
  obtain ⟨hd, rfl⟩ := hd
  intro p l e R s m args below meth c Z cI cJ D H locs cells slots ls Q C Y hL h1 h2 E
  obtain ⟨rfl, rfl⟩ := hb
  obtain ⟨hstk, hAl⟩ := k_popn_nil hp
  have hM := hsp l Z cI cJ D (by omega)
  have hts := C.2.2.2.2.2.1
  have hK := C.2.2.2.2.2.2.2.1
  have hr := C.2.2.2.2.2.2.2.2.2.2
  have hG := k_wG_in (M' := M') hw.1.1
  have hd9 : d' + 1 ≤ R.frames ∧ 8 + (M'.2.2.1 + 11) + 37 * d' ≤ R.locals := by have := hw.2.2; omega
  have hcs : 2 * (F0 m pc ls (st.map (kb Z))).monitorRoom + ((rest.map (kb Z)).map fun v => v.category).sum ≤ 8 := by rw [k_catsum]; show 2 * 0 + _ ≤ 8; omega
  have hPre : ∀ U : State, U.heap = H → s.WarmedH U.vm → k_In Z cI cJ D none h U := fun U hU hW => ⟨by rw [hU]; exact Y.1, by rw [hU]; exact Y.2.1, va_K.moved hW.alike hK, by rw [hU]; exact ((C.2.2.2.2.2.2.2.2.1.kept Y.2.2.2.1).warm hW).sub (Or.inl rfl), fun w hw => k_tN_warm hw hW (C.2.2.2.2.2.2.1 w hw)⟩
  have hrecv : ∃ cellB : Cell, H[Z.2.1 (10 + i)]? = some cellB ∧ cellB.vm.isStatics = false ∧ s.vm.findClass M'.1.cls = some cellB.cls := by
    rw [hrc.2]
    exact vk_recv (adK := fun i => Z.2.1 (10 + i)) (i := i) C.2.2.2.2.2.2.2.2.1.2.2.2.2.1 hrc.1 Y.2.2
  have hrun := va_runV (l := l) (e := e) (R := R) (below := below) (meth := meth) (H := H) (locs := locs) (cells := cells) (slots := slots) (g := F0 m pc ls (st.map (kb Z))) (As := As.map (kb Z)) (rest := rest.map (kb Z)) ⟨C.1, C.2.1, C.2.2.1, C.2.2.2.1, hts⟩ hM (⟨callB_of na hts hG rfl rfl rfl (hts _ hw.1.2) (hts _ hl) hw.2.1 hd9, hts _ hw2.1, hts _ hw2.2⟩) (⟨k_In.blind, hrecv, fun U hU hW => ⟨rfl, hPre U hU hW⟩⟩) rfl (by rw [List.length_map]; exact Nat.succ.inj hAl) hL.2.1 (by show st.map (kb Z) = _; rw [hstk, List.map_append, List.map_reverse, List.map_cons, List.reverse_cons, List.append_assoc]; rfl) hcs hd (by constructor <;> omega)
  intro T hT XX
  obtain ⟨v, st₀, t, T', L9, e0, X', hLf, e1, e2, ⟨⟨r, h', hv, hpo, hP9, hz9⟩, hz, hk9⟩, stp⟩ := hrun T hT XX
  cases hv
  rw [e0] at hz hk9
  have hS9 : va_S (k_A Z) s.heap T'.heap (locs ++ L9) := ⟨Nat.le_trans Y.2.2.1 (by rw [e1]; exact hz), fun q g1 g2 => by rw [e1, hk9 q (Nat.lt_of_lt_of_le g1 Y.2.2.1) g2]; exact Y.2.2.2.1 q g1 g2, fun q hq => (List.mem_append.mp hq).elim (Y.2.2.2.2 q) (hLf q)⟩
  obtain ⟨t2, a1, b1⟩ := k r h' hpo p l e R s m args below meth c Z cI cJ D T'.heap (locs ++ L9) (cells + bc') (slots + bs') ls Q C ⟨by rw [e1]; exact hP9, by rw [e1]; exact hz9, hS9⟩ hL (by omega) (by omega) E T' rfl X'
  refine ⟨t2, stp t2 ?_, b1⟩
  have e5 : (r.map (kb Z)).toList ++ rest.map (kb Z) = (r.toList ++ rest).map (kb Z) := by cases r <;> simp
  rw [e5]
  exact a1
theorem k_callSX (hd : k_dc M pc (.invokestatic ix) 3 n) (hl : Cond.methodLink M.1.cls ix M'.1 ∈ k_tG) (hw : k_mw M' na) (hw2 : Cond.static M'.1 ∈ k_tG) (hp : k_popn na st [] = some (As, rest)) (hsp : SpX X d' bc' bs' M' (As) h Po') (hdd : d' < d) (hb : bc = bc' + bc2 ∧ bs = bs' + bs2) (hct : (rest.map fun v => v.category).sum ≤ 8) (k : ∀ (r : Option Value) (h' : k_H), Po' r h' → AW X M d bc2 bs2 n L (r.toList ++ rest) h' Po) : AW X M d bc bs pc L st h Po := by
  obtain ⟨hd, rfl⟩ := hd
  intro p l e R s m args below meth c Z cI cJ D H locs cells slots ls Q C Y hL h1 h2 E
  obtain ⟨rfl, rfl⟩ := hb
  obtain ⟨hstk, hAl⟩ := k_popn_nil hp
  have hM := hsp l Z cI cJ D (by omega)
  have hts := C.2.2.2.2.2.1
  have hK := C.2.2.2.2.2.2.2.1
  have hr := C.2.2.2.2.2.2.2.2.2.2
  have hG := k_wG_in (M' := M') hw.1.1
  have hd9 : d' + 1 ≤ R.frames ∧ 8 + (M'.2.2.1 + 11) + 37 * d' ≤ R.locals := by have := hw.2.2; omega
  have hcs : 2 * (F0 m pc ls (st.map (kb Z))).monitorRoom + ((rest.map (kb Z)).map fun v => v.category).sum ≤ 8 := by rw [k_catsum]; show 2 * 0 + _ ≤ 8; omega
  have hPre : ∀ U : State, U.heap = H → s.WarmedH U.vm → k_In Z cI cJ D X h U := fun U hU hW => ⟨by rw [hU]; exact Y.1, by rw [hU]; exact Y.2.1, va_K.moved hW.alike hK, by rw [hU]; exact ((C.2.2.2.2.2.2.2.2.1.kept Y.2.2.2.1).warm hW).sub (Or.inr rfl), fun w hw => k_tN_warm hw hW (C.2.2.2.2.2.2.1 w hw)⟩
  have hrun := va_runS (l := l) (e := e) (R := R) (below := below) (meth := meth) (H := H) (locs := locs) (cells := cells) (slots := slots) (g := F0 m pc ls (st.map (kb Z))) (As := As.map (kb Z)) (rest := rest.map (kb Z)) ⟨C.1, C.2.1, C.2.2.1, C.2.2.2.1, hts⟩ hM (⟨callB_of na hts hG rfl rfl rfl (hts _ hw.1.2) (hts _ hl) hw.2.1 hd9, hts _ hw2⟩) (⟨k_In.blind, fun U hU hW => ⟨rfl, hPre U hU hW⟩⟩) rfl (by rw [List.length_map]; exact hAl) hL.2.1 (by show st.map (kb Z) = _; rw [hstk, List.map_append, List.map_reverse]) hcs hd (by constructor <;> omega)
  intro T hT XX
  obtain ⟨v, st₀, t, T', L9, e0, X', hLf, e1, e2, ⟨⟨r, h', hv, hpo, hP9, hz9⟩, hz, hk9⟩, stp⟩ := hrun T hT XX
  cases hv
  rw [e0] at hz hk9
  have hS9 : va_S (k_A Z) s.heap T'.heap (locs ++ L9) := ⟨Nat.le_trans Y.2.2.1 (by rw [e1]; exact hz), fun q g1 g2 => by rw [e1, hk9 q (Nat.lt_of_lt_of_le g1 Y.2.2.1) g2]; exact Y.2.2.2.1 q g1 g2, fun q hq => (List.mem_append.mp hq).elim (Y.2.2.2.2 q) (hLf q)⟩
  obtain ⟨t2, a1, b1⟩ := k r h' hpo p l e R s m args below meth c Z cI cJ D T'.heap (locs ++ L9) (cells + bc') (slots + bs') ls Q C ⟨by rw [e1]; exact hP9, by rw [e1]; exact hz9, hS9⟩ hL (by omega) (by omega) E T' rfl X'
  refine ⟨t2, stp t2 ?_, b1⟩
  have e5 : (r.map (kb Z)).toList ++ rest.map (kb Z) = (r.toList ++ rest).map (kb Z) := by cases r <;> simp
  rw [e5]
  exact a1
end KC
theorem SpX.mono {X : k_X} {d bc bs : Nat} {M : k_M} {av : List Value} {h : k_H} {Po Po2 : Option Value → k_H → Prop} (k : SpX X d bc bs M av h Po) (hp : ∀ r h', Po r h' → Po2 r h') : SpX X d bc bs M av h Po2 := by
  intro l Z cI cJ D hgap
  have hM := k l Z cI cJ D hgap
  intro p e ha hc hk s m args below hf happ hPc hX
  obtain ⟨t, o, g1, g2, g3, ⟨⟨⟨r, h', q1, q2, q3⟩, hF⟩, g4⟩⟩ := hM p e ha hc hk s m args below hf happ hPc hX
  exact ⟨t, o, g1, g2, g3, ⟨⟨⟨r, h', q1, hp r h' q2, q3⟩, hF⟩, g4⟩⟩
theorem Sp.mono {d bc bs : Nat} {M : k_M} {av : List Value} {h : k_H} {Po Po2 : Option Value → k_H → Prop} (k : Sp d bc bs M av h Po) (hp : ∀ r h', Po r h' → Po2 r h') : Sp d bc bs M av h Po2 := SpX.mono k hp
theorem k_kb_ir (Z Z2 : k_Z) (h1 : Z.1 = Z2.1) (h2 : Z.2.1 = Z2.2.1) (v : Value) : kb Z v = kb Z2 v := by
  cases v <;> simp [kb, h1, h2]
theorem k_ce_ir (Z Z2 : k_Z) (h1 : Z.1 = Z2.1) (h2 : Z.2.1 = Z2.2.1) (h3 : cB Z = cB Z2) (cI cJ : ClassId) (e : k_E) : k_ce Z cI cJ e = k_ce Z2 cI cJ e := by
  have hb : kb Z = kb Z2 := funext (k_kb_ir Z Z2 h1 h2)
  rcases e with ⟨n, f | f | f⟩ | ⟨c, fs⟩
  · rfl
  · rfl
  · show Sum.inl (cB Z, _) = Sum.inl (cB Z2, _); rw [h3]
  · show Sum.inr (c, fs.map (kb Z)) = Sum.inr (c, fs.map (kb Z2)); rw [hb]
theorem k_ws_ir (Z Z2 : k_Z) (h1 : Z.1 = Z2.1) (h2 : Z.2.1 = Z2.2.1) (h3 : cB Z = cB Z2) (cI cJ : ClassId) (h : k_H) : k_ws Z cI cJ h = k_ws Z2 cI cJ h := by
  unfold k_ws
  congr 1
  funext k e
  rw [k_ce_ir Z Z2 h1 h2 h3, h1]
theorem k_RO.narrow {Z Z2 : k_Z} (h1 : Z.1 = Z2.1) (h2 : Z.2.1 = Z2.2.1) {X : k_X} {U : State} {H : Heap} (hA : ∀ q, k_A Z2 q → k_A Z q) (h : k_RO Z X U H) : k_RO Z2 X U H := by
  obtain ⟨a1, a2, a3, ⟨v, hv, a4⟩, a5, a6⟩ := h
  have nz : ∀ {C n d : String} {v : Value}, va_Z C n d v (k_A Z) U H → va_Z C n d v (k_A Z2) U H := by
    intro C n d v hz
    obtain ⟨cf, kf, fi, f, a, cell, b1, b2, b3, b4, b5, b6, b7, b8⟩ := hz
    exact ⟨cf, kf, fi, f, a, cell, b1, b2, b3, b4, b5, b6, b7, fun q => b8 (hA a q)⟩
  refine ⟨fun k hk => ?_, fun k hk => ?_, nz a3, ⟨v, hv, ?_⟩, ?_, ?_⟩
  · rw [← h2]; exact (a1 k hk).narrow hA
  · rw [← h2]; exact nz (a2 k hk)
  · rw [← k_kb_ir Z Z2 h1 h2]; exact nz a4
  · rw [← h2]; exact a5.narrow hA
  · rw [← h2]; exact a6
/-- a contract that makes nothing leaves alone what lies behind its heap -/
theorem Sp.frame {d : Nat} {M : k_M} {av : List Value} {h g : k_H} {Po : Option Value → k_H → Prop} (k : Sp d 0 0 M av h Po) : Sp d 0 0 M av (h ++ g) (fun r h2 => ∃ h', h2 = h' ++ g ∧ Po r h') := by
  by_cases hg : g = []
  · subst hg
    rw [List.append_nil]
    exact Sp.mono k (fun r h' hp => ⟨h', (List.append_nil h').symm, hp⟩)
  · have hgl : g.length ≠ 0 := fun q => hg (List.eq_nil_of_length_eq_zero q)
    intro l Z cI cJ D _
    let Z2 : k_Z := (Z.1, Z.2.1, (gp Z + g.length, Z.1 + h.length, cB Z))
    have hM := k l Z2 cI cJ D (fun q => absurd rfl q)
    intro p e ha hc hk s m args below hf happ hPc hX
    obtain ⟨p0, p1, p2, p3, p4, p5⟩ := hPc
    have hb : kb Z = kb Z2 := funext (k_kb_ir Z Z2 rfl rfl)
    have hw : ∀ x : k_H, k_ws Z cI cJ x = k_ws Z2 cI cJ x := k_ws_ir Z Z2 rfl rfl rfl cI cJ
    have hho : gp Z ≠ 0 → ho Z = Z.1 + h.length + g.length := fun q => by have := p2.2 q; rw [List.length_append] at this; omega
    have hAA : ∀ q, k_A Z2 q → k_A Z q := by
      intro q ⟨q1, q2⟩
      refine ⟨q1, fun z => q2 ?_⟩
      by_cases h0 : gp Z = 0
      · omega
      · have := hho h0
        show Z.1 + h.length ≤ q ∧ q < Z.1 + h.length + (gp Z + g.length)
        omega
    have hsz := p2.1
    rw [List.length_append] at hsz
    have cellg : ∀ (j : Nat) (x : k_E), g[j]? = some x → (k_ws Z cI cJ (h ++ g))[h.length + j]? = some (Z.1 + (h.length + j), k_ce Z cI cJ x) := fun j x hx => k_ws_get (by rw [List.getElem?_append_right (by omega), show h.length + j - h.length = j by omega]; exact hx)
    obtain ⟨t, o, g1, g2, g3, ⟨⟨⟨r, h', q1, q2, q3, q4⟩, hF⟩, L, g4, g5⟩⟩ := hM p e ha hc hk s m args below hf happ ⟨by rw [p0, hb], fun i q hq => by
        rw [← hw] at hq
        have hil : i < h.length := by
          have q := (List.getElem?_eq_some_iff.mp hq).1
          rw [k_ws, List.length_mapIdx] at q
          exact q
        obtain ⟨x, hx⟩ : ∃ x, h[i]? = some x := ⟨h[i], List.getElem?_eq_getElem hil⟩
        have e1 := k_ws_get (Z := Z) (cI := cI) (cJ := cJ) hx
        cases e1.symm.trans hq
        exact p1 i _ (k_ws_get (by rw [List.getElem?_append_left hil]; exact hx)), ⟨by show s.heap.size = Z.1 + h.length + (gp Z + g.length); omega, fun _ => rfl⟩, p3, k_RO.narrow (Z := Z) (Z2 := Z2) rfl rfl hAA p4, p5⟩ hX
    have hl : h'.length = h.length := by
      have := q4.2 (by show gp Z + g.length ≠ 0; omega)
      show h'.length = h.length
      have e : Z.1 + h'.length = Z.1 + h.length := this
      omega
    have hz4 : (stepsAlone p.tables e t s).heap.size = Z.1 + h'.length + (gp Z + g.length) := q4.1
    refine ⟨t, o, g1, g2, g3, ⟨⟨⟨r, h' ++ g, by rw [hb]; exact q1, ⟨h', rfl, q2⟩, ?_, ⟨by rw [List.length_append]; omega, fun q => by have := hho q; rw [List.length_append]; omega⟩⟩, ⟨hF.1, fun q z1 z2 => hF.2 q z1 (fun z => z2 (hAA q z))⟩⟩, L, g4, fun q hq => hAA _ (g5 q hq)⟩⟩
    intro i q hq
    by_cases hil : i < h'.length
    · obtain ⟨x, hx⟩ : ∃ x, h'[i]? = some x := ⟨h'[i], List.getElem?_eq_getElem hil⟩
      have e1 : (k_ws Z cI cJ (h' ++ g))[i]? = some (Z.1 + i, k_ce Z cI cJ x) := k_ws_get (by rw [List.getElem?_append_left hil]; exact hx)
      cases e1.symm.trans hq
      exact q3 i _ (by rw [← hw]; exact k_ws_get hx)
    · have hil2 : i < (h' ++ g).length := by
        have q := (List.getElem?_eq_some_iff.mp hq).1
        rw [k_ws, List.length_mapIdx] at q
        exact q
      rw [List.length_append] at hil2
      obtain ⟨x, hx⟩ : ∃ x, g[i - h'.length]? = some x := ⟨g[i - h'.length], List.getElem?_eq_getElem (by omega)⟩
      have e1 : (k_ws Z cI cJ (h' ++ g))[i]? = some (Z.1 + i, k_ce Z cI cJ x) := k_ws_get (by rw [List.getElem?_append_right (by omega)]; exact hx)
      cases e1.symm.trans hq
      have e2 := cellg _ _ hx
      rw [show h.length + (i - h'.length) = i by omega] at e2
      have e3 := p1 _ _ e2
      have e4 : (stepsAlone p.tables e t s).heap[Z.1 + i]? = s.heap[Z.1 + i]? := hF.2 _ (by show Z.1 + i < s.heap.size; omega) (fun z => z.2 ⟨by show Z.1 + h.length ≤ Z.1 + i; omega, by show Z.1 + i < Z.1 + h.length + (gp Z + g.length); omega⟩)
      exact e3.kept e4
