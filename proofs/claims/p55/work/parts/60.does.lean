/-! The law's run of a text -/
/-- the past with one more state in it -/
def pastF (ch : Nat) (P W : Nat → Nat) : Nat → Nat := fun i => if ch = 8 then (if i < 1428 then P (i + 204) else W (i - 1428)) else if i < 204 * ch then P i else W (i - 204 * ch)
theorem pastF_N {ch : Nat} {P W : Nat → Nat} (hc : ch ≤ 8) : pastN ch P W (pastF ch P W) := by
  unfold pastN
  by_cases h8 : ch = 8
  · rw [if_pos h8]
    refine ⟨fun j i hj hi => ?_, fun i hi => ?_⟩
    · unfold pastF
      rw [if_pos h8, if_pos (by omega)]
      congr 1
      omega
    · unfold pastF
      rw [if_pos h8, if_neg (by omega), Nat.add_sub_cancel_left]
  · rw [if_neg h8]
    refine ⟨fun j i hj hi => ?_, fun i hi => ?_⟩
    · unfold pastF
      rw [if_neg h8, if_pos (by omega)]
    · unfold pastF
      rw [if_neg h8, if_neg (by omega)]
      congr 1
      omega
/-- what is taken back is as it was -/
theorem pastF_u {ch : Nat} {P W : Nat → Nat} (hc : ch ≤ 8) : (fun k => pastF ch P W (204 * (min (ch + 1) 8 - 1) + k)) = W := by
  funext k
  unfold pastF
  by_cases h8 : ch = 8
  · rw [if_pos h8, if_neg (by omega), show 204 * (min (ch + 1) 8 - 1) + k - 1428 = k by omega]
  · rw [if_neg h8, if_neg (by omega)]
    congr 1
    omega
/-- a run's ends -/
abbrev rO (Q : jQ_) (h : jH) (K : Nat) (s sS P : Nat → Nat) (ch : Nat) (sv : Bool) : Prop :=
  (∀ h' s' v, jFr clC h h' → Inv (K + 13) s' → Rt s' → s 0 ≤ s' 0 → v ≤ 1000 → LC h' s' sS (pastF ch P s) (min (ch + 1) 8) sv → Q (.inl (some (.int (nI v)))) h') ∧
  (∀ h' (v : Int), jFr clC h h' → -900009 < v → v ≤ -900001 → LC h' s sS P ch sv → Q (.inl (some (.int (iI v)))) h')
section DOES
variable {G : jG} {X : Bool} {h : jH} {Q : jQ_} {K ch : Nat} {sv : Bool} {s sS P : Nat → Nat}
theorem l_run {ea fa : Int32} {lf tx : Nat → Nat} {ln tp : Nat} (I : Inv K s) (R : Rt s) (hK : K + 20 < 2 ^ 30) (hch : ch ≤ 8) (ht : tp ≤ 60) (htx : ∀ k, k < tp → tx k < 65536) (cp : CPc h s sS P ch ea fa sv lf ln tx tp) (r : rO Q h K s sS P ch sv) : jCT G M_L_run 10 1 6 false [.ref 0] h Q := by
  refine w_run cp.c0 (fun Q' k1 k2 => c_X10_run I hK ht htx cp (fun q L _ h' hf cp' => k2 _ _ (.inl ⟨rfl, ?_⟩)) (fun q L i s1 _ _ _ h' hf cp' => k2 _ _ (.inr ⟨rfl, ?_⟩)) (fun q L s' _ hr I' hL h' hf hP => k1 _ _ ?_))
  · rw [e9_1]; exact r.2 h' _ hf (by decide) (by decide) ⟨_, _, _, _, _, cp'⟩
  · rw [e9_2]; exact r.2 h' _ hf (by decide) (by decide) ⟨_, _, _, _, _, cp'⟩
  · have hR := Rt_run L I R hr
    exact r.1 h' s' _ hf I' hR.1 hR.2 (by omega) ⟨_, _, _, _, _, hP _ (pastF_N hch)⟩
theorem l_does {c u w : Nat} {f : Nat → Int32} (hc2 : 116 ≤ c) (hu2 : 116 ≤ u) (hc : h[c]? = some (hSt u 0 0)) (hu : h[u]? = some (ba w f)) (hf : bFit f) (hw : w ≤ 60) (hcu : c ≠ u) (I : Inv K s) (R : Rt s) (hK : K + 20 < 2 ^ 30) (hch : ch ≤ 8) (g : LC h s sS P ch sv) (r : rO Q h K s sS P ch sv) : jCT G M_L_does 11 70 420 false [.ref 0, .ref c] h Q := by
  obtain ⟨ea, fa, lf, ln, tx, cp⟩ := g
  refine jCT_of [some (.ref 0), some (.ref c), none, none] 2 rfl (by decide +kernel) rfl rfl ?_
  refine J_iconst (nI 0) (by decide) dL_does_0 ?_
  refine J_istore_2 dL_does_1 ?_
  refine J_iconst (nI 0) (by decide) dL_does_2 ?_
  refine J_istore_3 dL_does_3 ?_
  suffices loop : ∀ k, k ≤ w → ∀ h1 n tx kc kn, CPc h1 s sS P ch ea fa sv lf ln tx k → (∀ q, q < k → tx q < 65536) → jFr clC h h1 → n ≤ 61 * k → kc ≤ k → kn ≤ 6 * k → J G (jR 11 70 420) (jFin G Q false 70 420) M_L_does false kc kn 4 [some (.ref 0), some (.ref c), some (.int (nI n)), some (.int (nI k))] [] h1 by
    exact loop 0 (by omega) h 0 tx 0 0 cp (fun q hq => by omega) jFr.refl (by omega) (by omega) (by omega)
  refine up_ind w (fun k hk ih => ?_)
  intro h1 n tx kc kn cp1 htx f1 hn q1 q2
  have c0 := cp1.c0
  have hc1 : h1[c]? = some (hSt u 0 0) := f1.at (by show ¬ c ≤ 115; omega) hc
  have hu1 : h1[u]? = some (ba w f) := f1.at (by show ¬ u ≤ 115; omega) hu
  have hv1 : StrV h1 (.ref c) w := .inr ⟨c, u, 0, 0, f, rfl, hc1, hu1, hf, by omega, hcu⟩
  refine J_iload_n (by rfl) dL_does_4 ?_
  refine J_aload_n (by rfl) (by rfl) dL_does_5 ?_
  refine J_T0v dL_does_6 s_L_88 m_J0_length_8abf5 rfl (hv1) rfl (c_lengthT hv1 (jKv_i ?_)) (hf := jfit_j (by rfl) (by rfl) (by omega) (by omega))
  refine J_icmp_ge_n 30 dL_does_9 (by decide) (fun c9 => ?_) (fun c9 => ?_)
  · refine J_iload_n (by rfl) dL_does_30 ?_
    refine J_if_ge_n 39 dL_does_31 (by decide) ?_
    refine J_aload_n (by rfl) (by rfl) dL_does_39 ?_
    refine J_SX1v dL_does_40 s_L_102 m_L_run rfl (l_run I R hK hch (by omega) htx cp1 ⟨fun h' s' v f2 I' R' h0 hv g' => jKv_i ?_, fun h' v f2 a b g' => jKv_i ?_⟩) (hf := jfit_j (by rfl) (by rfl) (by omega) (by omega))
    · exact J_ireturn dL_does_43 rfl (r.1 h' s' v (f1.trans f2) I' R' h0 hv g') (by omega) (by omega) (fun q => by cases q)
    · exact J_ireturn dL_does_43 rfl (r.2 h' v (f1.trans f2) a b g') (by omega) (by omega) (fun q => by cases q)
  · refine J_iload_n (by rfl) dL_does_12 ?_
    refine J_aload_n (by rfl) (by rfl) dL_does_13 ?_
    refine J_aload_n (by rfl) (by rfl) dL_does_14 ?_
    refine J_iload_n (by rfl) dL_does_15 ?_
    refine J_T1v dL_does_16 s_L_93 m_J0_charAt_5068e rfl (hv1) rfl (c_charAtT hc1 hu1 hf (by omega) hcu c9 (fun cc hcc => (jKv_i ?_))) (hf := jfit_j (by rfl) (by rfl) (by omega) (by omega))
    refine J_V1v (ci := 10) dL_does_19 s_L_97 m_X10_type rfl (by repeat (first | assumption | exact jget_same2 (by (try simp only [List.length_set]); exact jlt (by assumption)) | refine jget_ne (by first | decide | assumption | omega) ?_)) rfl (c_X10_type hcc (by omega) cp1 (fun _ h2 f2 cp2 => (jKv_i ?_)) (fun q => absurd q (by omega))) (hf := jfit_j (by rfl) (by rfl) (by omega) (by omega))
    refine J_iadd dL_does_22 ?_
    try rw [nI_add]
    refine J_istore_2 dL_does_23 ?_
    refine J_iinc_3 (nI 1) dL_does_24 (by decide) ?_
    try rw [nI_add]
    refine J_goto 4 dL_does_27 (by decide) ?_
    exact ih c9 h2 _ _ _ _ cp2 (fun q hq => by
      by_cases e : q = k
      · subst e; rw [updN_s]; exact hcc
      · rw [updN_n e]; exact htx q (by omega)) (f1.trans f2) (by omega) (by omega) (by omega)
end DOES
