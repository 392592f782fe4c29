section KE
variable {X : k_X} {M : k_M} {d bc bs pc n : Nat} {L st : List Value} {h : k_H} {Po : Option Value → k_H → Prop}
theorem cVE1 {M' : k_M} {d' na ix a : Nat} {As rest : List Value} {Q : Int32 → k_S → Prop} (hd : k_dc M pc (.invokevirtual ix) 3 n) (hl : Cond.methodLink M.1.cls ix M'.1 ∈ k_tG) (hw : k_mw M' na) (hw2 : Cond.instanceMethod M'.1 ∈ k_tG ∧ Cond.selects M'.1.cls M'.1 M'.1 ∈ k_tG) (hrc : ∃ (ci : Nat) (fs : List Value) (q : vw_C), h[a]? = some (.inr (ci, fs)) ∧ vwCl[ci]? = some q ∧ q.1 = M'.1.cls) (hpq : k_popn (na + 1) st [] = some (.ref a :: As, rest)) (hsp : Sp d' 0 0 M' (.ref a :: As) h (fun r h' => ∃ v S', r = some (.int v) ∧ h' = hp S' ∧ Q v S')) (hdd : d' < d) (hct : (rest.map fun v => v.category).sum ≤ 8) (k : ∀ v S', Q v S' → AW X M d bc bs n L (.int v :: rest) (hp S') Po) : AW X M d bc bs pc L st h Po := by
  obtain ⟨ci, fs, q, hq1, hq2, hq3⟩ := hrc
  refine k_callV hd hl hw hw2 ⟨hq1, q, hq2, hq3⟩ hpq hsp hdd ⟨(Nat.zero_add _).symm, (Nat.zero_add _).symm⟩ hct ?_
  rintro r h' ⟨v, S', rfl, rfl, hQ⟩
  exact k v S' hQ
end KE
