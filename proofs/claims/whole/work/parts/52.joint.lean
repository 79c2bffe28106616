/-! Both sides together -/
theorem J_plain {G : jG} {R : Room} {F : jF} {M : jM} {X : Bool} {kc kn pc : Nat} {lo : List (Option Value)} {st : List Value} {h : jH} (k : J G R F M false kc kn pc lo st h) : J G R F M X kc kn pc lo st h := by
  intro p e s m args below meth c H locs ls C hS hH hL hX
  exact k p e s m args below meth c H locs ls C hS hH hL (fun q => by cases q)
theorem GS.ext {h : jH} {s s' : Nat → Nat} (g : GS h s) (h1 : s 1 ≤ 12) (he : ∀ k, k < 204 → s' k = s k) : GS h s' := g.put jFr.refl (g.ps.ext h1 he)
theorem HS.ext {h : jH} {P P' : Nat → Nat} {ch : Nat} (g : HS h P ch) (he : ∀ i, i < ch → ∀ k, k < 204 → P' (204 * i + k) = P (204 * i + k)) : HS h P' ch := by
  obtain ⟨nx, f, o, r, n8, c8, f8, a, p⟩ := g
  refine ⟨nx, f, o, r, n8, c8, f8, a, fun i hi => ?_⟩
  obtain ⟨q1, q2⟩ := p i hi
  refine ⟨q1.ext q2 (fun k hk => he i hi k hk), ?_⟩
  rw [he i hi 1 (by omega)]
  exact q2
section JOINT
variable {G : jG} {X : Bool} {h h' : jH} {Q : jQ_} {ch th ln tp K K' : Nat} {ea fa : Int32} {sv : Bool} {s s' sc sm P P' lf lf' tx : Nat → Nat}
theorem CPc.ext_s (cp : CPc h s sc P ch ea fa sv lf ln tx tp) (h1 : s 1 ≤ 12) (he : ∀ k, k < 204 → s' k = s k) : CPc h s' sc P ch ea fa sv lf ln tx tp := by
  obtain ⟨c0, gs, hs, sa, be, pg, li⟩ := cp
  exact ⟨c0, gs.ext h1 he, hs, sa, be, pg, li⟩
theorem CPc.ext_P (cp : CPc h s sc P ch ea fa sv lf ln tx tp) (he : ∀ i, i < ch → ∀ k, k < 204 → P' (204 * i + k) = P (204 * i + k)) : CPc h s sc P' ch ea fa sv lf ln tx tp := by
  obtain ⟨c0, gs, hs, sa, be, pg, li⟩ := cp
  exact ⟨c0, gs, hs.ext he, sa, be, pg, li⟩
theorem CPc.ext_lf (cp : CPc h s sc P ch ea fa sv lf ln tx tp) (he : ∀ i, i < ln → lf' i = lf i) : CPc h s sc P ch ea fa sv lf' ln tx tp := by
  obtain ⟨c0, gs, hs, sa, be, pg, ⟨f, l1, l2, l3⟩⟩ := cp
  exact ⟨c0, gs, hs, sa, be, pg, ⟨f, l1, l2, fun i hi => (l3 i hi).trans (he i hi).symm⟩⟩
theorem MPc.frm {C : Nat → Prop} (g : MPc h s sm P ch th ea fa sv lf ln tx tp) (hf : jFr C h h') (hc : ∀ j, 116 ≤ j → j ≤ 124 → ¬ C j) : MPc h' s sm P ch th ea fa sv lf ln tx tp := by
  obtain ⟨an, he, cm, W, F, C, h1, h2, h3, h4, h5, h6, h7, h8, h9⟩ := g
  exact ⟨an, he, cm, W, F, C, hf.at (hc _ (by omega) (by omega)) h1, hf.at (hc _ (by omega) (by omega)) h2, hf.at (hc _ (by omega) (by omega)) h3, hf.at (hc _ (by omega) (by omega)) h4, hf.at (hc _ (by omega) (by omega)) h5, hf.at (hc _ (by omega) (by omega)) h6, hf.at (hc _ (by omega) (by omega)) h7, hf.at (hc _ (by omega) (by omega)) h8, hf.at (hc _ (by omega) (by omega)) h9⟩
theorem c_X11_thrown (hm : MPc h s sm P ch th ea fa sv lf ln tx tp) (hQ : Q (.inl (some (.int (nI th)))) h) : jCT G M_X11_thrown 1 0 0 X [.ref 116] h Q := by
  refine jCT_of [some (.ref 116)] 0 rfl (by decide +kernel) rfl rfl ?_
  obtain ⟨an, he, cm, W, F, C, h1, h2, h3, h4, h5, h6, h7, h8, h9⟩ := hm
  refine J_aload_n (by rfl) (by rfl) dX11_thrown_0 ?_
  refine J_get dX11_thrown_1 f_X11_41 (by repeat (first | assumption | exact jget_same2 (by (try simp only [List.length_set]); exact jlt (by assumption)) | refine jget_ne (by first | decide | assumption | omega) ?_)) (by rfl) ?_
  exact J_ireturn dX11_thrown_4 rfl (hQ) (by decide) (by decide) (fun _ => rfl)
/-- the states of the past are sound -/
def PI (K ch : Nat) (P : Nat → Nat) : Prop := ∀ i, i < ch → Inv K (fun k => P (204 * i + k))
theorem PI.mono (h : PI K ch P) (hk : K ≤ K') : PI K' ch P := fun i hi => (h i hi).mono hk
theorem PI.past (hp : PI K ch P) (hc : ch ≤ 8) (I : Inv K s) (h : pastN ch P s P') : PI K (min (ch + 1) 8) P' := by
  intro i hi
  unfold pastN at h
  by_cases e8 : ch = 8
  · rw [if_pos e8] at h
    by_cases e7 : i = 7
    · subst e7
      exact I.ext (fun k hk => h.2 k hk)
    · exact (hp (i + 1) (by omega)).ext (fun k hk => h.1 i k (by omega) hk)
  · rw [if_neg e8] at h
    by_cases e7 : i = ch
    · subst e7
      exact I.ext (fun k hk => h.2 k hk)
    · exact (hp i (by omega)).ext (fun k hk => h.1 i k (by omega) hk)
theorem PI.undo (hp : PI K ch P) (h0 : 0 < ch) : Inv K (fun k => P (204 * (ch - 1) + k)) ∧ PI K (ch - 1) P := ⟨hp (ch - 1) (by omega), fun i hi => hp i (by omega)⟩
/-- the class and the reference stand in the heap, with the same state -/
abbrev JI (K : Nat) (h : jH) (th : Nat) : Prop :=
  ∃ (s sc sm P : Nat → Nat) (ch : Nat) (ea fa : Int32) (sv : Bool) (lf : Nat → Nat) (ln : Nat) (tx : Nat → Nat) (tp : Nat), CPc h s sc P ch ea fa sv lf ln tx tp ∧ MPc h s sm P ch th ea fa sv lf ln tx tp ∧ Inv K s ∧ (sv = true → Inv K sc ∧ ∀ k, k < 204 → sm k = sc k) ∧ PI K ch P ∧ ch ≤ 8 ∧ tp ≤ 60 ∧ (∀ k, k < tp → tx k < 65536) ∧ ln ≤ 80 ∧ (∀ i, i < ln → lf i < 65536) ∧ (ea = -1 ∨ 0 ≤ ea) ∧ (fa = -1 ∨ 0 ≤ fa)
theorem JI.mono (g : JI K h th) (hk : K ≤ K') : JI K' h th := by
  obtain ⟨s, sc, sm, P, ch, ea, fa, sv, lf, ln, tx, tp, cp, mp, I, hv, hp, h1, h2, h3, h4, h5, h6, h7⟩ := g
  exact ⟨s, sc, sm, P, ch, ea, fa, sv, lf, ln, tx, tp, cp, mp, I.mono hk, fun z => ⟨(hv z).1.mono hk, (hv z).2⟩, hp.mono hk, h1, h2, h3, h4, h5, h6, h7⟩
end JOINT
