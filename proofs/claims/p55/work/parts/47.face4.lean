/-! The class's face: run, the output line -/
theorem GS.k1 {h : jH} {s : Nat → Nat} (g : GS h s) : h[1]? = some (.inr (1, [.ref 2, .ref 11, .ref 16])) := by
  obtain ⟨_, _, _, _, _, _, _, _, _, _, _, _, _, _, g⟩ := g
  exact g.g1
section FACE4
variable {G : jG} {X : Bool} {h : jH} {Q : jQ_} {ch ln tp K q n vc sz : Nat} {ea fa : Int32} {sv : Bool} {s sS P lf tx ks as_ f : Nat → Nat} {LL : List (Nat × List Nat)} {L : (Nat → Nat) × Nat} {c0s : jC}
theorem c_X10_firstFailure (I : Inv K s) (hK : K + 20 < 2 ^ 30) (gs : GS h s) (c0 : h[0]? = some (.inr (10, [.ref 1, .ref 17, .ref 91, .ref 100, .ref 109, .ref 114, .int (jb sv), .int ea, .int fa]))) (w1 : h[109]? = some (hPg sz q n vc)) (w2 : h[111]? = some (ia 13 ks)) (w3 : h[112]? = some (ia 39 as_)) (hA : cmdsAre n ks as_ LL) (hn : n ≤ 12)
    (hQ1 : ∀ s', runS LL s 0 = (none, s') → Inv (K + 13) s' → ∀ h', jFr gC h h' → GS h' s' → Q (.inl (some (.int (-1)))) h')
    (hQ2 : ∀ i s', runS LL s 0 = (some i, s') → i ≤ 12 → ∀ h', jFr gC h h' → GS h' s' → Q (.inl (some (.int (nI i)))) h') : jCT G M_X10_firstFailure 6 0 0 X [.ref 0] h Q := by
  refine jCT_of [some (.ref 0), none, none, none, none, none] 5 rfl (by decide +kernel) rfl rfl ?_
  have hLn := hA.1
  refine J_iconst (nI 0) (by decide) dX10_firstFailure_0 ?_
  refine J_istore_1 dX10_firstFailure_1 ?_
  suffices loop : ∀ i, i ≤ n → ∀ h1 s1, jFr gC h h1 → GS h1 s1 → Inv (K + i) s1 → runS LL s 0 = runS (LL.drop i) s1 i → ∀ l2 l3 l4 l5, J G (jR 6 0 0) (jFin G Q X 0 0) M_X10_firstFailure X 0 0 2 [some (.ref 0), some (.int (nI i)), l2, l3, l4, l5] [] h1 by
    exact loop 0 (by omega) h s jFr.refl gs I rfl _ _ _ _
  refine up_ind n (fun i hi ih h1 s1 hf1 gs1 I1 hr l2 l3 l4 l5 => ?_)
  have k0 := hf1.at (by decide) c0
  have v1 := hf1.at (by decide) w1
  have v2 := hf1.at (by decide) w2
  have v3 := hf1.at (by decide) w3
  have kk1 := gs1.k1
  refine J_iload_n (by rfl) dX10_firstFailure_2 ?_
  refine J_aload_n (by rfl) (by rfl) dX10_firstFailure_3 ?_
  refine J_get dX10_firstFailure_4 f_X10_36 (by repeat (first | assumption | exact jget_same2 (by (try simp only [List.length_set]); exact jlt (by assumption)) | refine jget_ne (by first | decide | assumption | omega) ?_)) (by rfl) ?_
  refine J_get dX10_firstFailure_7 f_X10_314 (by repeat (first | assumption | exact jget_same2 (by (try simp only [List.length_set]); exact jlt (by assumption)) | refine jget_ne (by first | decide | assumption | omega) ?_)) (by rfl) ?_
  refine J_icmp_ge_n 92 dX10_firstFailure_10 (by decide) (fun c10 => ?_) (fun c10 => ?_)
  · have hin : i = n := by omega
    subst hin
    rw [List.drop_eq_nil_of_le (by omega)] at hr
    have hr : runS LL s 0 = (none, s1) := hr
    refine J_iconst (-1) (by decide) dX10_firstFailure_92 ?_
    exact J_ireturn dX10_firstFailure_93 rfl (hQ1 s1 hr (I1.mono (by omega)) h1 hf1 gs1) (by decide) (by decide) (fun _ => rfl)
  · obtain ⟨K1, V1, a1, a2, a3, a4⟩ := hA.2 i (by omega)
    rw [runS_drop a1] at hr
    have hTl := opT_lt (s := s1) (k := K1) (x := ar1 V1 0) (y := ar1 V1 1) (z := ar1 V1 2)
    have hfl := flK_le (k := K1) hTl
    refine J_aload_n (by rfl) (by rfl) dX10_firstFailure_13 ?_
    refine J_get dX10_firstFailure_14 f_X10_36 (by repeat (first | assumption | exact jget_same2 (by (try simp only [List.length_set]); exact jlt (by assumption)) | refine jget_ne (by first | decide | assumption | omega) ?_)) (by rfl) ?_
    refine J_iload_n (by rfl) dX10_firstFailure_17 ?_
    refine J_V1v (ci := 6) dX10_firstFailure_18 s_X10_339 m_X6_kindOf rfl (by repeat (first | assumption | exact jget_same2 (by (try simp only [List.length_set]); exact jlt (by assumption)) | refine jget_ne (by first | decide | assumption | omega) ?_)) rfl (c_X6_kindOf (i := i) (by omega) v1 v2 (jKv_i ?_))
    refine J_topi (nI K1) (by rw [a3]) ?_
    refine J_istore_2 dX10_firstFailure_21 ?_
    refine J_aload_n (by rfl) (by rfl) dX10_firstFailure_22 ?_
    refine J_get dX10_firstFailure_23 f_X10_36 (by repeat (first | assumption | exact jget_same2 (by (try simp only [List.length_set]); exact jlt (by assumption)) | refine jget_ne (by first | decide | assumption | omega) ?_)) (by rfl) ?_
    refine J_iload_n (by rfl) dX10_firstFailure_26 ?_
    refine J_iconst (nI 0) (by decide) dX10_firstFailure_27 ?_
    refine J_V2v (ci := 6) dX10_firstFailure_28 s_X10_342 m_X6_argumentOf rfl (by repeat (first | assumption | exact jget_same2 (by (try simp only [List.length_set]); exact jlt (by assumption)) | refine jget_ne (by first | decide | assumption | omega) ?_)) rfl (c_X6_argumentOf (i := i) (j := 0) (by omega) (by decide) v1 v3 (jKv_i ?_))
    refine J_topi (ar1 V1 0) (by rw [a4 0 (by decide)]; rfl) ?_
    refine J_istore_3 dX10_firstFailure_31 ?_
    refine J_aload_n (by rfl) (by rfl) dX10_firstFailure_32 ?_
    refine J_get dX10_firstFailure_33 f_X10_36 (by repeat (first | assumption | exact jget_same2 (by (try simp only [List.length_set]); exact jlt (by assumption)) | refine jget_ne (by first | decide | assumption | omega) ?_)) (by rfl) ?_
    refine J_iload_n (by rfl) dX10_firstFailure_36 ?_
    refine J_iconst (nI 1) (by decide) dX10_firstFailure_37 ?_
    refine J_V2v (ci := 6) dX10_firstFailure_38 s_X10_342 m_X6_argumentOf rfl (by repeat (first | assumption | exact jget_same2 (by (try simp only [List.length_set]); exact jlt (by assumption)) | refine jget_ne (by first | decide | assumption | omega) ?_)) rfl (c_X6_argumentOf (i := i) (j := 1) (by omega) (by decide) v1 v3 (jKv_i ?_))
    refine J_topi (ar1 V1 1) (by rw [a4 1 (by decide)]; rfl) ?_
    refine J_istore_4 dX10_firstFailure_41 ?_
    refine J_aload_n (by rfl) (by rfl) dX10_firstFailure_43 ?_
    refine J_get dX10_firstFailure_44 f_X10_36 (by repeat (first | assumption | exact jget_same2 (by (try simp only [List.length_set]); exact jlt (by assumption)) | refine jget_ne (by first | decide | assumption | omega) ?_)) (by rfl) ?_
    refine J_iload_n (by rfl) dX10_firstFailure_47 ?_
    refine J_iconst (nI 2) (by decide) dX10_firstFailure_48 ?_
    refine J_V2v (ci := 6) dX10_firstFailure_49 s_X10_342 m_X6_argumentOf rfl (by repeat (first | assumption | exact jget_same2 (by (try simp only [List.length_set]); exact jlt (by assumption)) | refine jget_ne (by first | decide | assumption | omega) ?_)) rfl (c_X6_argumentOf (i := i) (j := 2) (by omega) (by decide) v1 v3 (jKv_i ?_))
    refine J_topi (ar1 V1 2) (by rw [a4 2 (by decide)]; rfl) ?_
    refine J_istore_5 dX10_firstFailure_52 ?_
    refine J_aload_n (by rfl) (by rfl) dX10_firstFailure_54 ?_
    refine J_get dX10_firstFailure_55 f_X10_12 (by repeat (first | assumption | exact jget_same2 (by (try simp only [List.length_set]); exact jlt (by assumption)) | refine jget_ne (by first | decide | assumption | omega) ?_)) (by rfl) ?_
    refine J_iload_n (by rfl) dX10_firstFailure_58 ?_
    refine J_iload_n (by rfl) dX10_firstFailure_59 ?_
    refine J_iload (by rfl) dX10_firstFailure_60 ?_
    refine J_iload (by rfl) dX10_firstFailure_62 ?_
    refine J_V4v (ci := 1) dX10_firstFailure_64 s_X10_330 m_X1_faultOf rfl (by repeat (first | assumption | exact jget_same2 (by (try simp only [List.length_set]); exact jlt (by assumption)) | refine jget_ne (by first | decide | assumption | omega) ?_)) rfl (c_X1_faultOf (k := K1) (ar1 V1 0) (ar1 V1 1) (ar1 V1 2) a2 I1 gs1 (fun h2 hf2 gs2 => (jKv_i ?_)))
    have k02 := (hf1.trans hf2).at (by decide) c0
    have kk2 := gs2.k1
    refine J_if_eq_n 72 dX10_firstFailure_67 (by decide) (fun c67 => ?_) (fun c67 => ?_)
    · have hT := flK_0.mp c67
      rw [if_pos hT] at hr
      refine J_aload_n (by rfl) (by rfl) dX10_firstFailure_72 ?_
      refine J_get dX10_firstFailure_73 f_X10_12 (by repeat (first | assumption | exact jget_same2 (by (try simp only [List.length_set]); exact jlt (by assumption)) | refine jget_ne (by first | decide | assumption | omega) ?_)) (by rfl) ?_
      refine J_iload_n (by rfl) dX10_firstFailure_76 ?_
      refine J_iload_n (by rfl) dX10_firstFailure_77 ?_
      refine J_iload (by rfl) dX10_firstFailure_78 ?_
      refine J_iload (by rfl) dX10_firstFailure_80 ?_
      refine J_V4v (ci := 1) dX10_firstFailure_82 s_X10_336 m_X1_perform rfl (by repeat (first | assumption | exact jget_same2 (by (try simp only [List.length_set]); exact jlt (by assumption)) | refine jget_ne (by first | decide | assumption | omega) ?_)) rfl (c_X1_perform (ar1 V1 0) (ar1 V1 1) (ar1 V1 2) a2 I1 (by omega) gs2 hT (fun h3 hf3 gs3 => (jKv_i ?_)))
      refine J_pop (by rfl) dX10_firstFailure_85 ?_
      refine J_iinc_1 (nI 1) dX10_firstFailure_86 (by decide) ?_
      try rw [nI_add]
      refine J_goto 2 dX10_firstFailure_89 (by decide) ?_
      exact ih (by omega) h3 _ ((hf1.trans hf2).trans hf3) gs3 (Inv_op I1 a2) hr _ _ _ _
    · have hT : ¬ opT s1 K1 (ar1 V1 0) (ar1 V1 1) (ar1 V1 2) = 0 := fun e => by have := flK_0 (k := K1).mpr e; omega
      rw [if_neg hT] at hr
      refine J_iload_n (by rfl) dX10_firstFailure_70 ?_
      exact J_ireturn dX10_firstFailure_71 rfl (hQ2 i s1 hr (by omega) h2 (hf1.trans hf2) gs2) (by decide) (by decide) (fun _ => rfl)
theorem c_X10_run (I : Inv K s) (hK : K + 20 < 2 ^ 30) (ht : tp ≤ 60) (htx : ∀ k, k < tp → tx k < 65536) (cp : CPc h s sS P ch ea fa sv lf ln tx tp)
    (hQ1 : ∀ q L, prgS (sg tx tp) tp 13 0 [] = (false, q, L) → ∀ h', jFr clC h h' → CPc h' s sS P ch (nI q) fa sv lf ln tx 0 → Q (.inr "java/lang/IllegalArgumentException") h')
    (hQ2 : ∀ q L i s1, prgS (sg tx tp) tp 13 0 [] = (true, q, L) → runS L s 0 = (some i, s1) → i ≤ 12 → ∀ h', jFr clC h h' → CPc h' s sS P ch ea (nI i) sv lf ln tx 0 → Q (.inr "java/lang/UnsupportedOperationException") h')
    (hQ3 : ∀ q L s', prgS (sg tx tp) tp 13 0 [] = (true, q, L) → runS L s 0 = (none, s') → Inv (K + 13) s' → L.length ≤ 12 → ∀ h', jFr clC h h' → (∀ P', pastN ch P s P' → CPc h' s' sS P' (min (ch + 1) 8) ea fa sv lf ln tx 0) → Q (.inl (some (.int (nI L.length)))) h') : jCT G M_X10_run 9 1 6 false [.ref 0] h Q := by
  refine jCT_of [some (.ref 0), none, none] 2 rfl (by decide +kernel) rfl rfl ?_
  have c0 := cp.c0
  obtain ⟨po, ct, vc, ks, as_, vs, p1, p2, p3, p4, p5⟩ := cp.pg
  refine J_aload_n (by rfl) (by rfl) dX10_run_0 ?_
  refine J_get dX10_run_1 f_X10_36 (by repeat (first | assumption | exact jget_same2 (by (try simp only [List.length_set]); exact jlt (by assumption)) | refine jget_ne (by first | decide | assumption | omega) ?_)) (by rfl) ?_
  refine J_V0v (ci := 6) dX10_run_4 s_X10_285 m_X6_parse rfl (by repeat (first | assumption | exact jget_same2 (by (try simp only [List.length_set]); exact jlt (by assumption)) | refine jget_ne (by first | decide | assumption | omega) ?_)) rfl (c_X6_parse ht htx p1 p2 p3 p4 p5 (fun ok q L n ks' as' vs' vc' hp hq hA => (jKv_i ?_)))
  refine J_istore_1 dX10_run_7 ?_
  refine J_aload_n (by rfl) (by rfl) dX10_run_8 ?_
  refine J_get dX10_run_9 f_X10_36 (by repeat (first | assumption | exact jget_same2 (by (try simp only [List.length_set]); exact jlt (by assumption)) | refine jget_ne (by first | decide | assumption | omega) ?_)) (by rfl) ?_
  refine J_V00 (ci := 6) dX10_run_12 s_X10_288 m_X6_empty rfl (by repeat (first | assumption | exact jget_same2 (by (try simp only [List.length_set]); exact jlt (by assumption)) | refine jget_ne (by first | decide | assumption | omega) ?_)) rfl (c_X6_empty (sz := tp) (po := q) (ct := n) (vc := vc') (by repeat (first | assumption | exact jget_same2 (by (try simp only [List.length_set]); exact jlt (by assumption)) | refine jget_ne (by first | decide | assumption | omega) ?_)) (jK0_i ?_))
  have fr1 : jFr (fun j => 109 ≤ j ∧ j ≤ 113) h (((((h.set 109 (hPg tp q n vc')).set 111 (ia 13 ks')).set 112 (ia 39 as')).set 113 (ia 3 vs')).set 109 (hPg 0 q n vc')) := ((((jFr.refl.set 109 _ (by decide)).set 111 _ (by decide)).set 112 _ (by decide)).set 113 _ (by decide)).set 109 _ (by decide)
  have w1 : (((((h.set 109 (hPg tp q n vc')).set 111 (ia 13 ks')).set 112 (ia 39 as')).set 113 (ia 3 vs')).set 109 (hPg 0 q n vc'))[109]? = some (hPg 0 q n vc') := (by repeat (first | assumption | exact jget_same2 (by (try simp only [List.length_set]); exact jlt (by assumption)) | refine jget_ne (by first | decide | assumption | omega) ?_))
  have w0 : (((((h.set 109 (hPg tp q n vc')).set 111 (ia 13 ks')).set 112 (ia 39 as')).set 113 (ia 3 vs')).set 109 (hPg 0 q n vc'))[110]? = some (ca 60 tx) := (by repeat (first | assumption | exact jget_same2 (by (try simp only [List.length_set]); exact jlt (by assumption)) | refine jget_ne (by first | decide | assumption | omega) ?_))
  have w2 : (((((h.set 109 (hPg tp q n vc')).set 111 (ia 13 ks')).set 112 (ia 39 as')).set 113 (ia 3 vs')).set 109 (hPg 0 q n vc'))[111]? = some (ia 13 ks') := (by repeat (first | assumption | exact jget_same2 (by (try simp only [List.length_set]); exact jlt (by assumption)) | refine jget_ne (by first | decide | assumption | omega) ?_))
  have w3 : (((((h.set 109 (hPg tp q n vc')).set 111 (ia 13 ks')).set 112 (ia 39 as')).set 113 (ia 3 vs')).set 109 (hPg 0 q n vc'))[112]? = some (ia 39 as') := (by repeat (first | assumption | exact jget_same2 (by (try simp only [List.length_set]); exact jlt (by assumption)) | refine jget_ne (by first | decide | assumption | omega) ?_))
  have w4 : (((((h.set 109 (hPg tp q n vc')).set 111 (ia 13 ks')).set 112 (ia 39 as')).set 113 (ia 3 vs')).set 109 (hPg 0 q n vc'))[113]? = some (ia 3 vs') := (by repeat (first | assumption | exact jget_same2 (by (try simp only [List.length_set]); exact jlt (by assumption)) | refine jget_ne (by first | decide | assumption | omega) ?_))
  generalize ((((h.set 109 (hPg tp q n vc')).set 111 (ia 13 ks')).set 112 (ia 39 as')).set 113 (ia 3 vs')).set 109 (hPg 0 q n vc') = h1 at *
  have cp1 : CPc h1 s sS P ch ea fa sv lf ln tx 0 := cp.pgs fr1 ⟨q, n, vc', ks', as', vs', w1, w0, w2, w3, w4⟩
  have k0 := cp1.c0
  have hsv := cp.sa.2
  have fr1c : jFr clC h h1 := fr1.mono (fun j hj => Nat.le_trans hj.2 (by decide))
  cases ok with
  | false =>
    refine J_iload_n (by rfl) dX10_run_15 ?_
    refine J_if_ne_b 41 dX10_run_16 (by decide) (fun c16 => ?_) (fun c16 => ?_)
    · exact absurd c16 (by decide)
    · refine J_aload_n (by rfl) (by rfl) dX10_run_19 ?_
      refine J_aload_n (by rfl) (by rfl) dX10_run_20 ?_
      refine J_get dX10_run_21 f_X10_36 (by repeat (first | assumption | exact jget_same2 (by (try simp only [List.length_set]); exact jlt (by assumption)) | refine jget_ne (by first | decide | assumption | omega) ?_)) (by rfl) ?_
      refine J_get dX10_run_24 f_X10_291 (by repeat (first | assumption | exact jget_same2 (by (try simp only [List.length_set]); exact jlt (by assumption)) | refine jget_ne (by first | decide | assumption | omega) ?_)) (by rfl) ?_
      refine J_put_7 dX10_run_27 p_X10_51 (by repeat (first | assumption | exact jget_same2 (by (try simp only [List.length_set]); exact jlt (by assumption)) | refine jget_ne (by first | decide | assumption | omega) ?_)) ?_
      exact J_throwW (i := 30) t_X10_294_298 dX10_run_30 dX10_run_33 dX10_run_34 dX10_run_37 dX10_run_40 rfl rfl rfl rfl (by decide) (by exact Nat.le_of_ble_eq_true rfl) (by decide) (by decide) (by decide) (by decide) (hQ1 q L hp _ (fr1c.set 0 _ (by decide)) (cp1.c0s (nI q) fa sv hsv))
  | true =>
    obtain ⟨hA1, hn12⟩ := hA rfl
    have hLn := hA1.1
    obtain ⟨s9, hb9⟩ := cp1.be
    have kk100 := hb9.at0
    have kk1 := cp1.gs.k1
    refine J_iload_n (by rfl) dX10_run_15 ?_
    refine J_if_ne_b 41 dX10_run_16 (by decide) (fun c16 => ?_) (fun c16 => ?_)
    · refine J_aload_n (by rfl) (by rfl) dX10_run_41 ?_
      refine J_get dX10_run_42 f_X10_30 (by repeat (first | assumption | exact jget_same2 (by (try simp only [List.length_set]); exact jlt (by assumption)) | refine jget_ne (by first | decide | assumption | omega) ?_)) (by rfl) ?_
      refine J_aload_n (by rfl) (by rfl) dX10_run_45 ?_
      refine J_get dX10_run_46 f_X10_12 (by repeat (first | assumption | exact jget_same2 (by (try simp only [List.length_set]); exact jlt (by assumption)) | refine jget_ne (by first | decide | assumption | omega) ?_)) (by rfl) ?_
      refine J_get dX10_run_49 f_X10_62 (by repeat (first | assumption | exact jget_same2 (by (try simp only [List.length_set]); exact jlt (by assumption)) | refine jget_ne (by first | decide | assumption | omega) ?_)) (by rfl) ?_
      refine J_V10 (ci := 7) dX10_run_52 s_X10_299 m_X7_takeFrom rfl (by repeat (first | assumption | exact jget_same2 (by (try simp only [List.length_set]); exact jlt (by assumption)) | refine jget_ne (by first | decide | assumption | omega) ?_)) rfl (c_X7_takeFrom I.s1 (by omega) hb9 (GS.ps cp1.gs) (fun h2 hf2 hp2 => (jK0_i ?_)))
      have cp2 := cp1.bes hf2 hp2
      have k02 := cp2.c0
      have fr2c : jFr clC h h2 := fr1c.trans (hf2.mono (fun j hj => Nat.le_trans hj.2 (by decide)))
      have v1 := hf2.at (by show ¬ (_ ∧ _); omega) w1
      have v2 := hf2.at (by show ¬ (_ ∧ _); omega) w2
      have v3 := hf2.at (by show ¬ (_ ∧ _); omega) w3
      refine J_aload_n (by rfl) (by rfl) dX10_run_55 ?_
      refine J_V0v (ci := 10) dX10_run_56 s_X10_303 m_X10_firstFailure rfl (by repeat (first | assumption | exact jget_same2 (by (try simp only [List.length_set]); exact jlt (by assumption)) | refine jget_ne (by first | decide | assumption | omega) ?_)) rfl (c_X10_firstFailure I hK cp2.gs k02 v1 v2 v3 hA1 hn12 (fun s' hr hI' h3 hf3 gs3 => (jKv_i ?_)) (fun i s' hr hi h3 hf3 gs3 => (jKv_i ?_)))
      · have hp3 : PS 100 h3 s := hp2.frm hf3 (fun j a b => by show ¬ (_ ∧ _); omega)
        have hs3 := cp2.hs.frm hf3 (fun j a b => by show ¬ (_ ∧ _); omega)
        obtain ⟨nx, f, hq3⟩ := hs3
        have k17 := hq3.o
        have k03 := hf3.at (by decide) k02
        have v13 := hf3.at (by decide) v1
        have kk3 := hp3.at0
        refine J_istore_2 dX10_run_59 ?_
        refine J_iload_n (by rfl) dX10_run_60 ?_
        refine J_iconst (-1) (by decide) dX10_run_61 ?_
        refine J_icmp_eq 95 dX10_run_62 (by decide) (fun c62 => ?_) (fun c62 => ?_)
        · refine J_aload_n (by rfl) (by rfl) dX10_run_95 ?_
          refine J_get dX10_run_96 f_X10_19 (by repeat (first | assumption | exact jget_same2 (by (try simp only [List.length_set]); exact jlt (by assumption)) | refine jget_ne (by first | decide | assumption | omega) ?_)) (by rfl) ?_
          refine J_aload_n (by rfl) (by rfl) dX10_run_99 ?_
          refine J_get dX10_run_100 f_X10_30 (by repeat (first | assumption | exact jget_same2 (by (try simp only [List.length_set]); exact jlt (by assumption)) | refine jget_ne (by first | decide | assumption | omega) ?_)) (by rfl) ?_
          refine J_V10 (ci := 2) dX10_run_103 s_X10_311 m_X2_keep rfl (by repeat (first | assumption | exact jget_same2 (by (try simp only [List.length_set]); exact jlt (by assumption)) | refine jget_ne (by first | decide | assumption | omega) ?_)) rfl (c_X2_keepP (p0 := 100) (.inr (by decide)) I.s1 hq3 hp3 (fun h4 hf4 hP4 => (jK0_i ?_)))
          have k04 := hf4.at (by decide) k03
          have v14 := hf4.at (by decide) v13
          have hQ3 := hQ3 q L s' hp hr hI' (by rw [hLn]; exact hn12) h4 (fr2c.trans ((hf3.mono (fun j hj => Nat.le_trans hj.2 (by decide))).trans (hf4.mono (fun j hj => Nat.le_trans hj.2 (by decide))))) (fun P' hP' => by
            refine cp2.upd ((hf3.mono (fun j hj => ?_)).trans (hf4.mono (fun j hj => ?_))) (gs3.frm hf4 (fun j a b => by show ¬ (_ ∧ _); omega)) (hP4 P' hP')
            · have := hj.1; have := hj.2; omega
            · have := hj.1; have := hj.2; omega)
          rw [hLn] at hQ3
          refine J_aload_n (by rfl) (by rfl) dX10_run_106 ?_
          refine J_get dX10_run_107 f_X10_36 (by repeat (first | assumption | exact jget_same2 (by (try simp only [List.length_set]); exact jlt (by assumption)) | refine jget_ne (by first | decide | assumption | omega) ?_)) (by rfl) ?_
          refine J_get dX10_run_110 f_X10_314 (by repeat (first | assumption | exact jget_same2 (by (try simp only [List.length_set]); exact jlt (by assumption)) | refine jget_ne (by first | decide | assumption | omega) ?_)) (by rfl) ?_
          exact J_ireturn dX10_run_113 rfl (hQ3) (by decide) (by decide) (fun q => by cases q)
        · exact absurd rfl c62
      · have hp3 : PS 100 h3 s := hp2.frm hf3 (fun j a b => by show ¬ (_ ∧ _); omega)
        have k03 := hf3.at (by decide) k02
        have kk3 := hp3.at0
        have kk31 := gs3.k1
        have kk32 := (GS.ps gs3).at0
        refine J_istore_2 dX10_run_59 ?_
        refine J_iload_n (by rfl) dX10_run_60 ?_
        refine J_iconst (-1) (by decide) dX10_run_61 ?_
        refine J_icmp_eq 95 dX10_run_62 (by decide) (fun c62 => ?_) (fun c62 => ?_)
        · exact absurd c62 (nI_neg1 (by omega))
        · refine J_aload_n (by rfl) (by rfl) dX10_run_65 ?_
          refine J_get dX10_run_66 f_X10_12 (by repeat (first | assumption | exact jget_same2 (by (try simp only [List.length_set]); exact jlt (by assumption)) | refine jget_ne (by first | decide | assumption | omega) ?_)) (by rfl) ?_
          refine J_get dX10_run_69 f_X10_62 (by repeat (first | assumption | exact jget_same2 (by (try simp only [List.length_set]); exact jlt (by assumption)) | refine jget_ne (by first | decide | assumption | omega) ?_)) (by rfl) ?_
          refine J_aload_n (by rfl) (by rfl) dX10_run_72 ?_
          refine J_get dX10_run_73 f_X10_30 (by repeat (first | assumption | exact jget_same2 (by (try simp only [List.length_set]); exact jlt (by assumption)) | refine jget_ne (by first | decide | assumption | omega) ?_)) (by rfl) ?_
          refine J_V10 (ci := 7) dX10_run_76 s_X10_299 m_X7_takeFrom rfl (by repeat (first | assumption | exact jget_same2 (by (try simp only [List.length_set]); exact jlt (by assumption)) | refine jget_ne (by first | decide | assumption | omega) ?_)) rfl (c_X7_takeFrom I.s1 (by omega) (GS.ps gs3) hp3 (fun h4 hf4 hp4 => (jK0_i ?_)))
          have gs4 := gs3.put hf4 hp4
          have hs4 := (cp2.hs.frm hf3 (fun j a b => by show ¬ (_ ∧ _); omega)).frm hf4 (fun j a b => by show ¬ (_ ∧ _); omega)
          have cp4 := cp2.upd ((hf3.mono (fun j hj => by have := hj.1; have := hj.2; omega)).trans (hf4.mono (fun j hj => by have := hj.1; have := hj.2; omega))) gs4 hs4
          have k04 := cp4.c0
          refine J_aload_n (by rfl) (by rfl) dX10_run_79 ?_
          refine J_iload_n (by rfl) dX10_run_80 ?_
          refine J_put_8 dX10_run_81 p_X10_55 (by repeat (first | assumption | exact jget_same2 (by (try simp only [List.length_set]); exact jlt (by assumption)) | refine jget_ne (by first | decide | assumption | omega) ?_)) ?_
          exact J_throwW (i := 31) t_X10_306_310 dX10_run_84 dX10_run_87 dX10_run_88 dX10_run_91 dX10_run_94 rfl rfl rfl rfl (by decide) (by exact Nat.le_of_ble_eq_true rfl) (by decide) (by decide) (by decide) (by decide) (hQ2 q L i s' hp hr hi _ ((fr2c.trans ((hf3.mono (fun j hj => Nat.le_trans hj.2 (by decide))).trans (hf4.mono (fun j hj => Nat.le_trans hj.2 (by decide))))).set 0 _ (by decide)) (cp4.c0s ea (nI i) sv hsv))
    · exact absurd c16 (by decide)
theorem c_X3_puts {v : Nat} (hn : L.2 < 80) (hv : v < 65536) (hT : h[114]? = some (hLine L.2)) (hA : h[115]? = some (ca 80 L.1)) (hQ : Q (.inl none) ((h.set 114 (hLine (pS L v).2)).set 115 (ca 80 (pS L v).1))) : jCT G M_X3_putSign 1 0 0 X [.ref 114, .int (nI v)] h Q := by
  rw [← jsw (i := 114) (j := 115) (by decide)] at hQ
  exact c_X3_putSign hn hv hT hA hQ
theorem c_X3_putN {v : Nat} (hv : v < 100) (hn : L.2 + 2 ≤ 80) (hT : h[114]? = some (hLine L.2)) (hA : h[115]? = some (ca 80 L.1)) (hQ : Q (.inl none) ((h.set 114 (hLine (nS L v).2)).set 115 (ca 80 (nS L v).1))) : jCT G M_X3_putNumber 2 0 0 X [.ref 114, .int (nI v)] h Q := by
  rw [← jsw (i := 114) (j := 115) (by decide)] at hQ
  refine c_X3_putNumber hv hn hT hA ?_
  unfold nS at hQ
  by_cases z : v < 10
  · rw [if_pos z] at hQ ⊢
    exact hQ
  · rw [if_neg z] at hQ ⊢
    simp only [List.set_set, jsw (i := 114) (j := 115) (by decide)] at hQ ⊢
    exact hQ
theorem c_X10_writeRoute (I : Inv K s) (cp : CPc h s sS P ch ea fa sv lf ln tx tp)
    (hQ : ∀ h', jFr clC h h' → CPc h' s sS P ch ea fa sv (routeL s lf (s 1)).1 (routeL s lf (s 1)).2 tx tp → Q (.inl (some (.int (nI (routeL s lf (s 1)).2)))) h') : jCT G M_X10_writeRoute 4 0 0 X [.ref 0] h Q := by
  refine jCT_of [some (.ref 0), none, none] 2 rfl (by decide +kernel) rfl rfl ?_
  obtain ⟨c0, gs, hhs, hsa, hbe, hpg, hli⟩ := cp
  have cp : CPc h s sS P ch ea fa sv lf ln tx tp := ⟨c0, gs, hhs, hsa, hbe, hpg, hli⟩
  obtain ⟨fx, fy, fr, w, rt, ti, x9, y9, D, E, L9, m, num, den, g⟩ := gs
  have g0 := g
  have hgr := g.gr I
  obtain ⟨g1, g2, g3, g4, g5, g6, g7, g8, g9, g10, g11, g12, g13, g14, g15, g16, _, _, e3⟩ := g
  have hn := I.n12
  have hs1 := I.s1
  obtain ⟨f, w1, w2, w3⟩ := hli
  refine J_aload_n (by rfl) (by rfl) dX10_writeRoute_0 ?_
  refine J_get dX10_writeRoute_1 f_X10_12 (by repeat (first | assumption | exact jget_same2 (by (try simp only [List.length_set]); exact jlt (by assumption)) | refine jget_ne (by first | decide | assumption | omega) ?_)) (by rfl) ?_
  refine J_get dX10_writeRoute_4 f_X10_62 (by repeat (first | assumption | exact jget_same2 (by (try simp only [List.length_set]); exact jlt (by assumption)) | refine jget_ne (by first | decide | assumption | omega) ?_)) (by rfl) ?_
  refine J_get dX10_writeRoute_7 f_X10_144 (by repeat (first | assumption | exact jget_same2 (by (try simp only [List.length_set]); exact jlt (by assumption)) | refine jget_ne (by first | decide | assumption | omega) ?_)) (by rfl) ?_
  refine J_astore_1 dX10_writeRoute_10 ?_
  refine J_aload_n (by rfl) (by rfl) dX10_writeRoute_11 ?_
  refine J_get dX10_writeRoute_12 f_X10_43 (by repeat (first | assumption | exact jget_same2 (by (try simp only [List.length_set]); exact jlt (by assumption)) | refine jget_ne (by first | decide | assumption | omega) ?_)) (by rfl) ?_
  refine J_V00 (ci := 3) dX10_writeRoute_15 s_X10_249 m_X3_clear rfl (by repeat (first | assumption | exact jget_same2 (by (try simp only [List.length_set]); exact jlt (by assumption)) | refine jget_ne (by first | decide | assumption | omega) ?_)) rfl (c_X3_clear w1 (jK0_i ?_))
  refine J_iconst (nI 0) (by decide) dX10_writeRoute_18 ?_
  refine J_istore_2 dX10_writeRoute_19 ?_
  suffices loop : ∀ k, k ≤ s 1 → J G (jR 4 0 0) (jFin G Q X 0 0) M_X10_writeRoute X 0 0 20 [some (.ref 0), some (.ref 8), some (.int (nI k))] [] ((h.set 114 (hLine (routeL s f k).2)).set 115 (ca 80 (routeL s f k).1)) by
    have := loop 0 (by omega)
    rw [show (routeL s f 0).1 = f from rfl, hset_id (show (h.set 114 (hLine (routeL s f 0).2))[115]? = some (ca 80 f) from (by repeat (first | assumption | exact jget_same2 (by (try simp only [List.length_set]); exact jlt (by assumption)) | refine jget_ne (by first | decide | assumption | omega) ?_)))] at this
    exact this
  refine up_ind (s 1) (fun k hk ih => ?_)
  have hlen := routeL_len s f k
  have hst : routeL s f (k + 1) = stepR s k (routeL s f k) := rfl
  have hlk := routeL_lik s f lf k
  have hfrL : jFr (fun j => 114 ≤ j ∧ j ≤ 115) h ((h.set 114 (hLine (routeL s f k).2)).set 115 (ca 80 (routeL s f k).1)) := (jFr.refl.set 114 _ (by decide)).set 115 _ (by decide)
  refine J_iload_n (by rfl) dX10_writeRoute_20 ?_
  refine J_aload_n (by rfl) (by rfl) dX10_writeRoute_21 ?_
  refine J_get dX10_writeRoute_22 f_X10_157 (by repeat (first | assumption | exact jget_same2 (by (try simp only [List.length_set]); exact jlt (by assumption)) | refine jget_ne (by first | decide | assumption | omega) ?_)) (by rfl) ?_
  refine J_icmp_ge_n 99 dX10_writeRoute_25 (by decide) (fun c25 => ?_) (fun c25 => ?_)
  · have he9 : k = s 1 := by omega
    subst he9
    have e114 : ((h.set 114 (hLine (routeL s f (s 1)).2)).set 115 (ca 80 (routeL s f (s 1)).1))[114]? = some (hLine (routeL s lf (s 1)).2) := by rw [← hlk.1]; exact (by repeat (first | assumption | exact jget_same2 (by (try simp only [List.length_set]); exact jlt (by assumption)) | refine jget_ne (by first | decide | assumption | omega) ?_))
    have hQ := hQ _ (hfrL.mono (fun j hj => hj.2)) (cp.lns hfrL ⟨(routeL s f (s 1)).1, e114, (by repeat (first | assumption | exact jget_same2 (by (try simp only [List.length_set]); exact jlt (by assumption)) | refine jget_ne (by first | decide | assumption | omega) ?_)), fun i hi => hlk.2 i (by rw [hlk.1]; exact hi)⟩)
    refine J_aload_n (by rfl) (by rfl) dX10_writeRoute_99 ?_
    refine J_get dX10_writeRoute_100 f_X10_43 (by repeat (first | assumption | exact jget_same2 (by (try simp only [List.length_set]); exact jlt (by assumption)) | refine jget_ne (by first | decide | assumption | omega) ?_)) (by rfl) ?_
    refine J_get dX10_writeRoute_103 f_X10_262 (by repeat (first | assumption | exact jget_same2 (by (try simp only [List.length_set]); exact jlt (by assumption)) | refine jget_ne (by first | decide | assumption | omega) ?_)) (by rfl) ?_
    exact J_ireturn dX10_writeRoute_106 rfl (hQ) (by decide) (by decide) (fun _ => rfl)
  · obtain ⟨rfl, rfl, rfl, hr⟩ := e3 (by omega)
    have hT := I.t (by omega)
    have hrt := hT.2.2.2.2.2.2 k (by omega)
    have hrk := hr k (by omega)
    have hih := ih (by omega)
    rw [hst] at hih
    clear hlk hfrL
    generalize routeL s f k = L at *
    unfold stepR at hih
    have last : ∀ L2 : (Nat → Nat) × Nat, L2.2 ≤ 66 → (J G (jR 4 0 0) (jFin G Q X 0 0) M_X10_writeRoute X 0 0 20 [some (.ref 0), some (.ref 8), some (.int (nI (k + 1)))] [] ((h.set 114 (hLine (if 0 < k ∧ k + 1 < s 1 then pS L2 (turnC s k) else L2).2)).set 115 (ca 80 (if 0 < k ∧ k + 1 < s 1 then pS L2 (turnC s k) else L2).1))) → J G (jR 4 0 0) (jFin G Q X 0 0) M_X10_writeRoute X 0 0 70 [some (.ref 0), some (.ref 8), some (.int (nI k))] [] ((h.set 114 (hLine (L2).2)).set 115 (ca 80 (L2).1)) := by
      intro L2 hl2 hnx
      refine J_aload_n (by rfl) (by rfl) dX10_writeRoute_70 ?_
      refine J_iload_n (by rfl) dX10_writeRoute_71 ?_
      refine J_V1v (ci := 8) dX10_writeRoute_72 s_X10_164 m_X8_isInner rfl (by repeat (first | assumption | exact jget_same2 (by (try simp only [List.length_set]); exact jlt (by assumption)) | refine jget_ne (by first | decide | assumption | omega) ?_)) rfl (c_X8_isInner (i := k) (by omega) (by repeat (first | assumption | exact jget_same2 (by (try simp only [List.length_set]); exact jlt (by assumption)) | refine jget_ne (by first | decide | assumption | omega) ?_)) hs1 (jKv_i ?_))
      refine J_if_eq_b 93 dX10_writeRoute_75 (by decide) (fun c75 => ?_) (fun c75 => ?_)
      · simp only [decide_eq_false_iff_not] at c75
        rw [if_neg c75] at hnx
        refine J_iinc_2 (nI 1) dX10_writeRoute_93 (by decide) ?_
        try rw [nI_add]
        refine J_goto 20 dX10_writeRoute_96 (by decide) ?_
        exact hnx
      · simp only [decide_eq_true_eq] at c75
        rw [if_pos c75] at hnx
        have gp : GP ((h.set 114 (hLine (L2).2)).set 115 (ca 80 (L2).1)) s fx fy fr w rt (s 2) (s 3) (s 4) D E L9 m num den := g0.frm ((jFr.refl.set 114 _ (by decide)).set 115 _ (by decide) : jFr (fun j => 114 ≤ j ∧ j ≤ 115) h ((h.set 114 (hLine (L2).2)).set 115 (ca 80 (L2).1))) (fun j a b => by show ¬ (_ ∧ _); omega)
        refine J_aload_n (by rfl) (by rfl) dX10_writeRoute_78 ?_
        refine J_get dX10_writeRoute_79 f_X10_43 (by repeat (first | assumption | exact jget_same2 (by (try simp only [List.length_set]); exact jlt (by assumption)) | refine jget_ne (by first | decide | assumption | omega) ?_)) (by rfl) ?_
        refine J_aload_n (by rfl) (by rfl) dX10_writeRoute_82 ?_
        refine J_get dX10_writeRoute_83 f_X10_12 (by repeat (first | assumption | exact jget_same2 (by (try simp only [List.length_set]); exact jlt (by assumption)) | refine jget_ne (by first | decide | assumption | omega) ?_)) (by rfl) ?_
        refine J_iload_n (by rfl) dX10_writeRoute_86 ?_
        refine J_V1v (ci := 1) dX10_writeRoute_87 s_X10_170 m_X1_turnAt rfl (by repeat (first | assumption | exact jget_same2 (by (try simp only [List.length_set]); exact jlt (by assumption)) | refine jget_ne (by first | decide | assumption | omega) ?_)) rfl (c_X1_turnAt (i := k) I c75.1 c75.2 gp (jKv_i ?_))
        refine J_V10 (ci := 3) dX10_writeRoute_90 s_X10_252 m_X3_putSign rfl (by repeat (first | assumption | exact jget_same2 (by (try simp only [List.length_set]); exact jlt (by assumption)) | refine jget_ne (by first | decide | assumption | omega) ?_)) rfl (c_X3_puts (L := L2) (by omega) (turnC_lt s k) (by repeat (first | assumption | exact jget_same2 (by (try simp only [List.length_set]); exact jlt (by assumption)) | refine jget_ne (by first | decide | assumption | omega) ?_)) (by repeat (first | assumption | exact jget_same2 (by (try simp only [List.length_set]); exact jlt (by assumption)) | refine jget_ne (by first | decide | assumption | omega) ?_)) (jK0_i ?_))
        (try simp only [List.set_set, jsw (i := 114) (j := 115) (by decide)])
        refine J_iinc_2 (nI 1) dX10_writeRoute_93 (by decide) ?_
        try rw [nI_add]
        refine J_goto 20 dX10_writeRoute_96 (by decide) ?_
        exact hnx
    obtain ⟨X1, e1⟩ : ∃ X1, X1 = (if 0 < k then pS L 32 else L) := ⟨_, rfl⟩
    rw [← e1] at hih
    obtain ⟨X2, e2⟩ : ∃ X2, X2 = (if k = s 2 then pS X1 42 else X1) := ⟨_, rfl⟩
    rw [← e2] at hih
    have l1 : X1.2 ≤ L.2 + 1 := by rw [e1]; split; exact Nat.le_refl _; omega
    have l2 : X2.2 ≤ X1.2 + 1 := by rw [e2]; split; exact Nat.le_refl _; omega
    have l3 := nS_len X2 (s (192 + k))
    have f58 : J G (jR 4 0 0) (jFin G Q X 0 0) M_X10_writeRoute X 0 0 58 [some (.ref 0), some (.ref 8), some (.int (nI k))] [] ((h.set 114 (hLine (X2).2)).set 115 (ca 80 (X2).1)) := by
      refine J_aload_n (by rfl) (by rfl) dX10_writeRoute_58 ?_
      refine J_get dX10_writeRoute_59 f_X10_43 (by repeat (first | assumption | exact jget_same2 (by (try simp only [List.length_set]); exact jlt (by assumption)) | refine jget_ne (by first | decide | assumption | omega) ?_)) (by rfl) ?_
      refine J_aload_n (by rfl) (by rfl) dX10_writeRoute_62 ?_
      refine J_iload_n (by rfl) dX10_writeRoute_63 ?_
      refine J_V1v (ci := 8) dX10_writeRoute_64 s_X10_161 m_X8_waypointAt rfl (by repeat (first | assumption | exact jget_same2 (by (try simp only [List.length_set]); exact jlt (by assumption)) | refine jget_ne (by first | decide | assumption | omega) ?_)) rfl (c_X8_waypointAt (rt := rt) (i := k) (by omega) hs1 (by repeat (first | assumption | exact jget_same2 (by (try simp only [List.length_set]); exact jlt (by assumption)) | refine jget_ne (by first | decide | assumption | omega) ?_)) (by repeat (first | assumption | exact jget_same2 (by (try simp only [List.length_set]); exact jlt (by assumption)) | refine jget_ne (by first | decide | assumption | omega) ?_)) (jKv_i ?_))
      refine J_topi (nI (s (192 + k))) (by rw [hrk]) ?_
      refine J_V10 (ci := 3) dX10_writeRoute_67 s_X10_259 m_X3_putNumber rfl (by repeat (first | assumption | exact jget_same2 (by (try simp only [List.length_set]); exact jlt (by assumption)) | refine jget_ne (by first | decide | assumption | omega) ?_)) rfl (c_X3_putN (L := X2) (by omega) (by omega) (by repeat (first | assumption | exact jget_same2 (by (try simp only [List.length_set]); exact jlt (by assumption)) | refine jget_ne (by first | decide | assumption | omega) ?_)) (by repeat (first | assumption | exact jget_same2 (by (try simp only [List.length_set]); exact jlt (by assumption)) | refine jget_ne (by first | decide | assumption | omega) ?_)) (jK0_i ?_))
      (try simp only [List.set_set, jsw (i := 114) (j := 115) (by decide)])
      refine last (nS X2 (s (192 + k))) (by omega) ?_
      by_cases z : 0 < k ∧ k + 1 < s 1
      · rw [if_pos z] at hih ⊢
        exact hih
      · rw [if_neg z] at hih ⊢
        exact hih
    have f41 : J G (jR 4 0 0) (jFin G Q X 0 0) M_X10_writeRoute X 0 0 41 [some (.ref 0), some (.ref 8), some (.int (nI k))] [] ((h.set 114 (hLine (X1).2)).set 115 (ca 80 (X1).1)) := by
      have hs2 : s 2 < 2 ^ 31 := by have := hT.2.1; omega
      refine J_iload_n (by rfl) dX10_writeRoute_41 ?_
      refine J_aload_n (by rfl) (by rfl) dX10_writeRoute_42 ?_
      refine J_get dX10_writeRoute_43 f_X10_256 (by repeat (first | assumption | exact jget_same2 (by (try simp only [List.length_set]); exact jlt (by assumption)) | refine jget_ne (by first | decide | assumption | omega) ?_)) (by rfl) ?_
      refine J_icmp_ne_n 58 dX10_writeRoute_46 (by decide) (fun c46 => ?_) (fun c46 => ?_)
      · rw [if_neg (by omega)] at e2
        rw [e2] at f58
        exact f58
      · rw [if_pos (by omega)] at e2
        refine J_aload_n (by rfl) (by rfl) dX10_writeRoute_49 ?_
        refine J_get dX10_writeRoute_50 f_X10_43 (by repeat (first | assumption | exact jget_same2 (by (try simp only [List.length_set]); exact jlt (by assumption)) | refine jget_ne (by first | decide | assumption | omega) ?_)) (by rfl) ?_
        refine J_bipush (nI 42) (by decide) dX10_writeRoute_53 ?_
        refine J_V10 (ci := 3) dX10_writeRoute_55 s_X10_252 m_X3_putSign rfl (by repeat (first | assumption | exact jget_same2 (by (try simp only [List.length_set]); exact jlt (by assumption)) | refine jget_ne (by first | decide | assumption | omega) ?_)) rfl (c_X3_puts (L := X1) (v := 42) (by omega) (by decide) (by repeat (first | assumption | exact jget_same2 (by (try simp only [List.length_set]); exact jlt (by assumption)) | refine jget_ne (by first | decide | assumption | omega) ?_)) (by repeat (first | assumption | exact jget_same2 (by (try simp only [List.length_set]); exact jlt (by assumption)) | refine jget_ne (by first | decide | assumption | omega) ?_)) (jK0_i ?_))
        (try simp only [List.set_set, jsw (i := 114) (j := 115) (by decide)])
        rw [e2] at f58
        exact f58
    refine J_iload_n (by rfl) dX10_writeRoute_28 ?_
    refine J_if_le_n 41 dX10_writeRoute_29 (by decide) (fun c29 => ?_) (fun c29 => ?_)
    · rw [if_neg (by omega)] at e1
      rw [e1] at f41
      exact f41
    · rw [if_pos (by omega)] at e1
      refine J_aload_n (by rfl) (by rfl) dX10_writeRoute_32 ?_
      refine J_get dX10_writeRoute_33 f_X10_43 (by repeat (first | assumption | exact jget_same2 (by (try simp only [List.length_set]); exact jlt (by assumption)) | refine jget_ne (by first | decide | assumption | omega) ?_)) (by rfl) ?_
      refine J_bipush (nI 32) (by decide) dX10_writeRoute_36 ?_
      refine J_V10 (ci := 3) dX10_writeRoute_38 s_X10_252 m_X3_putSign rfl (by repeat (first | assumption | exact jget_same2 (by (try simp only [List.length_set]); exact jlt (by assumption)) | refine jget_ne (by first | decide | assumption | omega) ?_)) rfl (c_X3_puts (L := L) (v := 32) (by omega) (by decide) (by repeat (first | assumption | exact jget_same2 (by (try simp only [List.length_set]); exact jlt (by assumption)) | refine jget_ne (by first | decide | assumption | omega) ?_)) (by repeat (first | assumption | exact jget_same2 (by (try simp only [List.length_set]); exact jlt (by assumption)) | refine jget_ne (by first | decide | assumption | omega) ?_)) (jK0_i ?_))
      (try simp only [List.set_set, jsw (i := 114) (j := 115) (by decide)])
      rw [e1] at f41
      exact f41
theorem c_X10_writeTrails (x : Int32) (I : Inv K s) (cp : CPc h s sS P ch ea fa sv lf ln tx tp)
    (hQ1 : isIx x (s 0) = true → ∀ h', jFr clC h h' → CPc h' s sS P ch ea fa sv (trailL s lf (nP x) (s 0)).1 (trailL s lf (nP x) (s 0)).2 tx tp → Q (.inl (some (.int (nI (trailL s lf (nP x) (s 0)).2)))) h') (hQ2 : isIx x (s 0) = false → Q (.inr "java/lang/IndexOutOfBoundsException") h) : jCT G M_X10_writeTrails 7 1 6 false [.ref 0, .int x] h Q := by
  refine jCT_of [some (.ref 0), some (.int x), none, none] 2 rfl (by decide +kernel) rfl rfl ?_
  obtain ⟨c0, gs, hhs, hsa, hbe, hpg, hli⟩ := cp
  have cp : CPc h s sS P ch ea fa sv lf ln tx tp := ⟨c0, gs, hhs, hsa, hbe, hpg, hli⟩
  obtain ⟨fx, fy, fr, w, rt, ti, x9, y9, D, E, L9, m, num, den, g⟩ := gs
  have g0 := g
  have hgr := g.gr I
  obtain ⟨g1, g2, g3, g4, g5, g6, g7, g8, g9, g10, g11, g12, g13, g14, g15, g16, e1, e2, e3⟩ := g
  have hn := I.n12
  have hs1 := I.s1
  obtain ⟨f, w1, w2, w3⟩ := hli
  refine J_aload_n (by rfl) (by rfl) dX10_writeTrails_0 ?_
  refine J_iload_n (by rfl) dX10_writeTrails_1 ?_
  refine J_V10x (ci := 10) dX10_writeTrails_2 s_X10_74 m_X10_requireWaypoint rfl (by repeat (first | assumption | exact jget_same2 (by (try simp only [List.length_set]); exact jlt (by assumption)) | refine jget_ne (by first | decide | assumption | omega) ?_)) rfl (c_X10_requireWaypoint x I cp (fun c => jKx0_i ?_) (fun c => jKx0_x ?_))
  · obtain ⟨i, rfl, hi, ex⟩ := isIx_k c (by omega)
    have hQ1 := hQ1 c
    rw [ex] at hQ1
    refine J_aload_n (by rfl) (by rfl) dX10_writeTrails_5 ?_
    refine J_get dX10_writeTrails_6 f_X10_12 (by repeat (first | assumption | exact jget_same2 (by (try simp only [List.length_set]); exact jlt (by assumption)) | refine jget_ne (by first | decide | assumption | omega) ?_)) (by rfl) ?_
    refine J_get dX10_writeTrails_9 f_X10_62 (by repeat (first | assumption | exact jget_same2 (by (try simp only [List.length_set]); exact jlt (by assumption)) | refine jget_ne (by first | decide | assumption | omega) ?_)) (by rfl) ?_
    refine J_get dX10_writeTrails_12 f_X10_65 (by repeat (first | assumption | exact jget_same2 (by (try simp only [List.length_set]); exact jlt (by assumption)) | refine jget_ne (by first | decide | assumption | omega) ?_)) (by rfl) ?_
    refine J_astore_2 dX10_writeTrails_15 ?_
    refine J_aload_n (by rfl) (by rfl) dX10_writeTrails_16 ?_
    refine J_get dX10_writeTrails_17 f_X10_43 (by repeat (first | assumption | exact jget_same2 (by (try simp only [List.length_set]); exact jlt (by assumption)) | refine jget_ne (by first | decide | assumption | omega) ?_)) (by rfl) ?_
    refine J_V00 (ci := 3) dX10_writeTrails_20 s_X10_249 m_X3_clear rfl (by repeat (first | assumption | exact jget_same2 (by (try simp only [List.length_set]); exact jlt (by assumption)) | refine jget_ne (by first | decide | assumption | omega) ?_)) rfl (c_X3_clear w1 (jK0_i ?_))
    refine J_iconst (nI 0) (by decide) dX10_writeTrails_23 ?_
    refine J_istore_3 dX10_writeTrails_24 ?_
    suffices loop : ∀ k, k ≤ s 0 → J G (jR 7 1 6) (jFin G Q false 1 6) M_X10_writeTrails false 1 6 25 [some (.ref 0), some (.int (nI i)), some (.ref 3), some (.int (nI k))] [] ((h.set 114 (hLine (trailL s f i k).2)).set 115 (ca 80 (trailL s f i k).1)) by
      have := loop 0 (by omega)
      rw [show (trailL s f i 0).1 = f from rfl, hset_id (show (h.set 114 (hLine (trailL s f i 0).2))[115]? = some (ca 80 f) from (by repeat (first | assumption | exact jget_same2 (by (try simp only [List.length_set]); exact jlt (by assumption)) | refine jget_ne (by first | decide | assumption | omega) ?_)))] at this
      exact this
    refine up_ind (s 0) (fun k hk ih => ?_)
    have hlen := trailL_len s f i k
    have hst : trailL s f i (k + 1) = stepT s i k (trailL s f i k) := rfl
    have hlk := trailL_lik s f lf i k
    have hfrL : jFr (fun j => 114 ≤ j ∧ j ≤ 115) h ((h.set 114 (hLine (trailL s f i k).2)).set 115 (ca 80 (trailL s f i k).1)) := (jFr.refl.set 114 _ (by decide)).set 115 _ (by decide)
    refine J_iload_n (by rfl) dX10_writeTrails_25 ?_
    refine J_aload_n (by rfl) (by rfl) dX10_writeTrails_26 ?_
    refine J_get dX10_writeTrails_27 f_X10_69 (by repeat (first | assumption | exact jget_same2 (by (try simp only [List.length_set]); exact jlt (by assumption)) | refine jget_ne (by first | decide | assumption | omega) ?_)) (by rfl) ?_
    refine J_icmp_ge_n 87 dX10_writeTrails_30 (by decide) (fun c30 => ?_) (fun c30 => ?_)
    · have he9 : k = s 0 := by omega
      subst he9
      have e114 : ((h.set 114 (hLine (trailL s f i (s 0)).2)).set 115 (ca 80 (trailL s f i (s 0)).1))[114]? = some (hLine (trailL s lf i (s 0)).2) := by rw [← hlk.1]; exact (by repeat (first | assumption | exact jget_same2 (by (try simp only [List.length_set]); exact jlt (by assumption)) | refine jget_ne (by first | decide | assumption | omega) ?_))
      have hQ1 := hQ1 _ (hfrL.mono (fun j hj => hj.2)) (cp.lns hfrL ⟨(trailL s f i (s 0)).1, e114, (by repeat (first | assumption | exact jget_same2 (by (try simp only [List.length_set]); exact jlt (by assumption)) | refine jget_ne (by first | decide | assumption | omega) ?_)), fun i9 hi9 => hlk.2 i9 (by rw [hlk.1]; exact hi9)⟩)
      refine J_aload_n (by rfl) (by rfl) dX10_writeTrails_87 ?_
      refine J_get dX10_writeTrails_88 f_X10_43 (by repeat (first | assumption | exact jget_same2 (by (try simp only [List.length_set]); exact jlt (by assumption)) | refine jget_ne (by first | decide | assumption | omega) ?_)) (by rfl) ?_
      refine J_get dX10_writeTrails_91 f_X10_262 (by repeat (first | assumption | exact jget_same2 (by (try simp only [List.length_set]); exact jlt (by assumption)) | refine jget_ne (by first | decide | assumption | omega) ?_)) (by rfl) ?_
      exact J_ireturn dX10_writeTrails_94 rfl (hQ1) (by decide) (by decide) (fun q => by cases q)
    · have hl : w (i * 12 + k) < 2 ^ 31 := hgr.lt (by omega) (by omega)
      have hwl := I.lt (i * 12 + k) (by omega)
      have hwe := I.le (i * 12 + k) (by omega)
      have hwk := e2 (i * 12 + k) (by omega)
      have hih := ih (by omega)
      rw [hst] at hih
      clear hlk hfrL
      generalize trailL s f i k = L at *
      unfold stepT at hih
      have l1 := nS_len (pS L 45) k
      have l0 : (pS L 45).2 = L.2 + 1 := rfl
      have l2 : (pS (nS (pS L 45) k) 61).2 = (nS (pS L 45) k).2 + 1 := rfl
      have l3 := nS_len (pS (nS (pS L 45) k) 61) (wS s (i * 12 + k))
      refine J_aload_n (by rfl) (by rfl) dX10_writeTrails_33 ?_
      refine J_iload_n (by rfl) dX10_writeTrails_34 ?_
      refine J_iload_n (by rfl) dX10_writeTrails_35 ?_
      refine J_V2v (ci := 9) dX10_writeTrails_36 s_X10_91 m_X9_areJoined rfl (by repeat (first | assumption | exact jget_same2 (by (try simp only [List.length_set]); exact jlt (by assumption)) | refine jget_ne (by first | decide | assumption | omega) ?_)) rfl (c_X9_areJoined (i := i) (j := k) (by omega) (by omega) (by repeat (first | assumption | exact jget_same2 (by (try simp only [List.length_set]); exact jlt (by assumption)) | refine jget_ne (by first | decide | assumption | omega) ?_)) (by repeat (first | assumption | exact jget_same2 (by (try simp only [List.length_set]); exact jlt (by assumption)) | refine jget_ne (by first | decide | assumption | omega) ?_)) hl (jKv_i ?_))
      refine J_if_eq_b 81 dX10_writeTrails_39 (by decide) (fun c39 => ?_) (fun c39 => ?_)
      · simp only [decide_eq_false_iff_not] at c39
        rw [if_neg (by omega)] at hih
        refine J_iinc_3 (nI 1) dX10_writeTrails_81 (by decide) ?_
        try rw [nI_add]
        refine J_goto 25 dX10_writeTrails_84 (by decide) ?_
        exact hih
      · simp only [decide_eq_true_eq] at c39
        rw [if_pos (by omega)] at hih
        refine J_aload_n (by rfl) (by rfl) dX10_writeTrails_42 ?_
        refine J_get dX10_writeTrails_43 f_X10_43 (by repeat (first | assumption | exact jget_same2 (by (try simp only [List.length_set]); exact jlt (by assumption)) | refine jget_ne (by first | decide | assumption | omega) ?_)) (by rfl) ?_
        refine J_bipush (nI 45) (by decide) dX10_writeTrails_46 ?_
        refine J_V10 (ci := 3) dX10_writeTrails_48 s_X10_252 m_X3_putSign rfl (by repeat (first | assumption | exact jget_same2 (by (try simp only [List.length_set]); exact jlt (by assumption)) | refine jget_ne (by first | decide | assumption | omega) ?_)) rfl (c_X3_puts (L := L) (v := 45) (by omega) (by decide) (by repeat (first | assumption | exact jget_same2 (by (try simp only [List.length_set]); exact jlt (by assumption)) | refine jget_ne (by first | decide | assumption | omega) ?_)) (by repeat (first | assumption | exact jget_same2 (by (try simp only [List.length_set]); exact jlt (by assumption)) | refine jget_ne (by first | decide | assumption | omega) ?_)) (jK0_i ?_))
        (try simp only [List.set_set, jsw (i := 114) (j := 115) (by decide)])
        refine J_aload_n (by rfl) (by rfl) dX10_writeTrails_51 ?_
        refine J_get dX10_writeTrails_52 f_X10_43 (by repeat (first | assumption | exact jget_same2 (by (try simp only [List.length_set]); exact jlt (by assumption)) | refine jget_ne (by first | decide | assumption | omega) ?_)) (by rfl) ?_
        refine J_iload_n (by rfl) dX10_writeTrails_55 ?_
        refine J_V10 (ci := 3) dX10_writeTrails_56 s_X10_259 m_X3_putNumber rfl (by repeat (first | assumption | exact jget_same2 (by (try simp only [List.length_set]); exact jlt (by assumption)) | refine jget_ne (by first | decide | assumption | omega) ?_)) rfl (c_X3_putN (L := pS L 45) (by omega) (by omega) (by repeat (first | assumption | exact jget_same2 (by (try simp only [List.length_set]); exact jlt (by assumption)) | refine jget_ne (by first | decide | assumption | omega) ?_)) (by repeat (first | assumption | exact jget_same2 (by (try simp only [List.length_set]); exact jlt (by assumption)) | refine jget_ne (by first | decide | assumption | omega) ?_)) (jK0_i ?_))
        (try simp only [List.set_set, jsw (i := 114) (j := 115) (by decide)])
        refine J_aload_n (by rfl) (by rfl) dX10_writeTrails_59 ?_
        refine J_get dX10_writeTrails_60 f_X10_43 (by repeat (first | assumption | exact jget_same2 (by (try simp only [List.length_set]); exact jlt (by assumption)) | refine jget_ne (by first | decide | assumption | omega) ?_)) (by rfl) ?_
        refine J_bipush (nI 61) (by decide) dX10_writeTrails_63 ?_
        refine J_V10 (ci := 3) dX10_writeTrails_65 s_X10_252 m_X3_putSign rfl (by repeat (first | assumption | exact jget_same2 (by (try simp only [List.length_set]); exact jlt (by assumption)) | refine jget_ne (by first | decide | assumption | omega) ?_)) rfl (c_X3_puts (L := nS (pS L 45) k) (v := 61) (by omega) (by decide) (by repeat (first | assumption | exact jget_same2 (by (try simp only [List.length_set]); exact jlt (by assumption)) | refine jget_ne (by first | decide | assumption | omega) ?_)) (by repeat (first | assumption | exact jget_same2 (by (try simp only [List.length_set]); exact jlt (by assumption)) | refine jget_ne (by first | decide | assumption | omega) ?_)) (jK0_i ?_))
        (try simp only [List.set_set, jsw (i := 114) (j := 115) (by decide)])
        refine J_aload_n (by rfl) (by rfl) dX10_writeTrails_68 ?_
        refine J_get dX10_writeTrails_69 f_X10_43 (by repeat (first | assumption | exact jget_same2 (by (try simp only [List.length_set]); exact jlt (by assumption)) | refine jget_ne (by first | decide | assumption | omega) ?_)) (by rfl) ?_
        refine J_aload_n (by rfl) (by rfl) dX10_writeTrails_72 ?_
        refine J_iload_n (by rfl) dX10_writeTrails_73 ?_
        refine J_iload_n (by rfl) dX10_writeTrails_74 ?_
        refine J_V2v (ci := 9) dX10_writeTrails_75 s_X10_102 m_X9_lengthBetween rfl (by repeat (first | assumption | exact jget_same2 (by (try simp only [List.length_set]); exact jlt (by assumption)) | refine jget_ne (by first | decide | assumption | omega) ?_)) rfl (c_X9_lengthBetween (i := i) (j := k) (by omega) (by omega) (by repeat (first | assumption | exact jget_same2 (by (try simp only [List.length_set]); exact jlt (by assumption)) | refine jget_ne (by first | decide | assumption | omega) ?_)) (by repeat (first | assumption | exact jget_same2 (by (try simp only [List.length_set]); exact jlt (by assumption)) | refine jget_ne (by first | decide | assumption | omega) ?_)) (jKv_i ?_))
        refine J_topi (nI (wS s (i * 12 + k))) (by rw [hwk]) ?_
        refine J_V10 (ci := 3) dX10_writeTrails_78 s_X10_259 m_X3_putNumber rfl (by repeat (first | assumption | exact jget_same2 (by (try simp only [List.length_set]); exact jlt (by assumption)) | refine jget_ne (by first | decide | assumption | omega) ?_)) rfl (c_X3_putN (L := pS (nS (pS L 45) k) 61) (by omega) (by omega) (by repeat (first | assumption | exact jget_same2 (by (try simp only [List.length_set]); exact jlt (by assumption)) | refine jget_ne (by first | decide | assumption | omega) ?_)) (by repeat (first | assumption | exact jget_same2 (by (try simp only [List.length_set]); exact jlt (by assumption)) | refine jget_ne (by first | decide | assumption | omega) ?_)) (jK0_i ?_))
        (try simp only [List.set_set, jsw (i := 114) (j := 115) (by decide)])
        refine J_iinc_3 (nI 1) dX10_writeTrails_81 (by decide) ?_
        try rw [nI_add]
        refine J_goto 25 dX10_writeTrails_84 (by decide) ?_
        exact hih
  · exact JX_out rfl (by decide) (by decide) (hQ2 c)
end FACE4
