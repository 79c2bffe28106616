/-! The law's body: questions that leave the class's heap as it is -/
section LAWQ
variable {G : jG} {F : jF} {h : jH} {i kc kn K th : Nat} {l6 l7 l8 : Option Value} {f : Nat → Int64} {g : Nat → UInt64}
theorem lawq_waypointX (hi : i + 4 ≤ g_L G) (hL : g_L G ≤ 2048) (hc : kc + 10 ≤ room_1.cells) (hn : kn + 60 ≤ room_1.slots) (hK : K < 2 ^ 29) (g1 : JI K h th) (o1 : h[125]? = some (.inl (3, 1, .inr (.inl f)))) (o2 : h[126]? = some (.inl (4, 1, .inr (.inr (.inr (.inl g))))))
    (next : ∀ h' th' f' g' l6 l7 l8, JI (K + 13) h' th' → h'[125]? = some (.inl (3, 1, .inr (.inl f'))) → h'[126]? = some (.inl (4, 1, .inr (.inr (.inr (.inl g'))))) → J G room_1 F M_L_law false (kc + 10) (kn + 60) 2508 [some (.retAddr 0), some (.ref 0), some (.ref 116), some (.ref 125), some (.ref 126), some (.int (nI i)), l6, l7, l8] [] h') :
    J G room_1 F M_L_law false kc kn 864 [some (.retAddr 0), some (.ref 0), some (.ref 116), some (.ref 125), some (.ref 126), some (.int (nI i)), l6, l7, l8] [] h := by
  obtain ⟨s, sc, sm, P, ch, ea, fa, sv, lf, ln, tx, tp, cp, mp, I, hv, hp, h1', h2', h3, h4, h5, h6, h7⟩ := g1
  have c0 := cp.c0
  refine J_aload_n (by rfl) (by rfl) dL_law_864 ?_
  refine J_aload_n (by rfl) (by rfl) dL_law_865 ?_
  refine J_iload (by rfl) dL_law_866 ?_
  refine J_iconst (nI 1) (by decide) dL_law_868 ?_
  refine J_iadd dL_law_869 ?_
  try rw [nI_add]
  refine J_xald (i + 1) dL_law_870 rfl (by omega) (by omega) ?_
  obtain ⟨x, hx⟩ : ∃ x, x = g_S G (i + 1) := ⟨_, rfl⟩
  rw [← hx]
  have cont : ∀ (h1 : jH) (f1 : Nat → Int64), jFr (fun j => j = 125) h h1 → h1[125]? = some (.inl (3, 1, .inr (.inl f1))) → (Tp s x = 0 → f1 0 = (nI (s (12 + 3 * nP x + 0))).toInt64) → J G room_1 F M_L_law false (kc + 1) (kn + 6) 875 [some (.retAddr 0), some (.ref 0), some (.ref 116), some (.ref 125), some (.ref 126), some (.int (nI i)), l6, l7, l8] [.int (nI (Tp s x))] h1 := by
    intro h1 f1 hf1 q1 q2
    have cp1 := cp.frm hf1 (fun j hj => by omega)
    have mp1 := MPc.frm mp hf1 (fun j a b => by omega)
    have q3 := hf1.at (by decide) o2
    have e116 := mp1
    obtain ⟨an9, he9, cm9, W9, F9, C9, m116, _⟩ := e116
    refine J_istore_6 dL_law_875 ?_
    refine J_aload_n (by rfl) (by rfl) dL_law_877 ?_
    refine J_aload_n (by rfl) (by rfl) dL_law_878 ?_
    refine J_iload (by rfl) dL_law_879 ?_
    refine J_iconst (nI 1) (by decide) dL_law_881 ?_
    refine J_iadd dL_law_882 ?_
    try rw [nI_add]
    refine J_xald (i + 1) dL_law_883 rfl (by omega) (by omega) ?_
    rw [← hx]
    refine J_V1v (ci := 11) dL_law_884 s_L_182 m_X11_waypointX rfl (by repeat (first | assumption | exact jget_same2 (by (try simp only [List.length_set]); exact jlt (by assumption)) | refine jget_ne (by first | decide | assumption | omega) ?_)) rfl (c_X11_waypointX x I mp1 (fun h2 hf2 mp2 => (jKv_i ?_))) (hf := jfit_k rfl rfl (by omega) (by omega))
    refine J_istore_7 dL_law_887 ?_
    refine J_aload_n (by rfl) (by rfl) dL_law_889 ?_
    have cp2 := cp1.frm hf2 (fun j hj => by show ¬ (_ ∧ _); omega)
    have e116 := mp2
    obtain ⟨an8, he8, cm8, W8, F8, C8, m1162, _⟩ := e116
    have o12 := hf2.at (by decide) q1
    have o22 := hf2.at (by decide) q3
    have ji : JI (K + 13) h2 (Tp s x) := ⟨_, sc, sm, P, _, ea, fa, sv, lf, ln, tx, tp, cp2, mp2, I.mono (by omega), fun w => ⟨(hv w).1.mono (by omega), (hv w).2⟩, hp.mono (by omega), h1', h2', h3, h4, h5, h6, h7⟩
    have hT2 : Tp s x ≤ 1 := by unfold Tp; split <;> omega
    refine J_V0v (ci := 11) dL_law_890 s_L_146 m_X11_thrown rfl (by repeat (first | assumption | exact jget_same2 (by (try simp only [List.length_set]); exact jlt (by assumption)) | refine jget_ne (by first | decide | assumption | omega) ?_)) rfl (c_X11_thrown mp2 (jKv_i ?_)) (hf := jfit_k rfl rfl (by omega) (by omega))
    refine J_iload (by rfl) dL_law_893 ?_
    refine J_icmp_eq 900 dL_law_895 (by decide) (fun c895 => ?_) (fun c895 => ?_)
    · refine J_iload (by rfl) dL_law_900 ?_
      refine J_if_ne_n 917 dL_law_902 (by decide) (fun c902 => ?_) (fun c902 => ?_)
      · refine J_goto 2508 dL_law_917 (by decide) ?_
        exact J_widen (by omega) (by omega) (next h2 _ f1 g _ _ _ ji o12 o22)
      · refine J_aload_n (by rfl) (by rfl) dL_law_905 ?_
        refine J_iconst (nI 0) (by decide) dL_law_906 ?_
        refine J_lald (0) dL_law_907 (by repeat (first | assumption | exact jget_same2 (by (try simp only [List.length_set]); exact jlt (by assumption)) | refine jget_ne (by first | decide | assumption | omega) ?_)) (by first | rfl | (simp only [pk_mul, nI_add]; done) | (simp only [pk_mul, nI_add]; congr 1; omega) | (congr 1; omega)) (by omega) ?_
        refine J_iload (by rfl) dL_law_908 ?_
        refine J_i2l dL_law_910 ?_
        refine J_lcmp dL_law_911 ?_
        refine J_topi (nI 0) (by rw [q2 (by omega), if_pos (by omega)]; unfold lg_cmp; simp; rfl) ?_
        refine J_if_eq_n 917 dL_law_912 (by decide) (fun c912 => ?_) (fun c912 => ?_)
        · refine J_goto 2508 dL_law_917 (by decide) ?_
          exact J_widen (by omega) (by omega) (next h2 _ f1 g _ _ _ ji o12 o22)
        · exact absurd c912 (Nat.lt_irrefl 0)
    · exact absurd rfl c895
  refine J_aload_n (by rfl) (by rfl) dL_law_871 ?_
  refine J_SX3v dL_law_872 s_L_180 m_L_waypointX rfl (w_waypointX x c0 (fun Q' k1 k2 => c_X10_waypointX x I cp (fun hc => k1 _ _ _ o1 (jKv_i ?_)) (fun hc => k2 _ _ ?_))) (jfit_k rfl rfl (by omega) (by omega))
  · have hT : Tp s x = 0 := by unfold Tp; rw [if_pos hc]
    have := cont _ _ (jFr.refl.set 125 (.inl (3, 1, .inr (.inl (vp_updL f 0 (nI (s (12 + 3 * nP x + 0))).toInt64)))) rfl) (jget_same2 (jlt o1)) (fun _ => rfl)
    rw [hT] at this
    exact this
  · have hT : Tp s x = 1 := by unfold Tp; rw [if_neg (by rw [hc]; decide)]
    have := cont h f jFr.refl o1 (fun e => by omega)
    rw [hT] at this
    exact ⟨rfl, jKv_i this⟩
theorem lawq_waypointY (hi : i + 4 ≤ g_L G) (hL : g_L G ≤ 2048) (hc : kc + 10 ≤ room_1.cells) (hn : kn + 60 ≤ room_1.slots) (hK : K < 2 ^ 29) (g1 : JI K h th) (o1 : h[125]? = some (.inl (3, 1, .inr (.inl f)))) (o2 : h[126]? = some (.inl (4, 1, .inr (.inr (.inr (.inl g))))))
    (next : ∀ h' th' f' g' l6 l7 l8, JI (K + 13) h' th' → h'[125]? = some (.inl (3, 1, .inr (.inl f'))) → h'[126]? = some (.inl (4, 1, .inr (.inr (.inr (.inl g'))))) → J G room_1 F M_L_law false (kc + 10) (kn + 60) 2508 [some (.retAddr 0), some (.ref 0), some (.ref 116), some (.ref 125), some (.ref 126), some (.int (nI i)), l6, l7, l8] [] h') :
    J G room_1 F M_L_law false kc kn 920 [some (.retAddr 0), some (.ref 0), some (.ref 116), some (.ref 125), some (.ref 126), some (.int (nI i)), l6, l7, l8] [] h := by
  obtain ⟨s, sc, sm, P, ch, ea, fa, sv, lf, ln, tx, tp, cp, mp, I, hv, hp, h1', h2', h3, h4, h5, h6, h7⟩ := g1
  have c0 := cp.c0
  refine J_aload_n (by rfl) (by rfl) dL_law_920 ?_
  refine J_aload_n (by rfl) (by rfl) dL_law_921 ?_
  refine J_iload (by rfl) dL_law_922 ?_
  refine J_iconst (nI 1) (by decide) dL_law_924 ?_
  refine J_iadd dL_law_925 ?_
  try rw [nI_add]
  refine J_xald (i + 1) dL_law_926 rfl (by omega) (by omega) ?_
  obtain ⟨x, hx⟩ : ∃ x, x = g_S G (i + 1) := ⟨_, rfl⟩
  rw [← hx]
  have cont : ∀ (h1 : jH) (f1 : Nat → Int64), jFr (fun j => j = 125) h h1 → h1[125]? = some (.inl (3, 1, .inr (.inl f1))) → (Tp s x = 0 → f1 0 = (nI (s (12 + 3 * nP x + 1))).toInt64) → J G room_1 F M_L_law false (kc + 1) (kn + 6) 931 [some (.retAddr 0), some (.ref 0), some (.ref 116), some (.ref 125), some (.ref 126), some (.int (nI i)), l6, l7, l8] [.int (nI (Tp s x))] h1 := by
    intro h1 f1 hf1 q1 q2
    have cp1 := cp.frm hf1 (fun j hj => by omega)
    have mp1 := MPc.frm mp hf1 (fun j a b => by omega)
    have q3 := hf1.at (by decide) o2
    have e116 := mp1
    obtain ⟨an9, he9, cm9, W9, F9, C9, m116, _⟩ := e116
    refine J_istore_6 dL_law_931 ?_
    refine J_aload_n (by rfl) (by rfl) dL_law_933 ?_
    refine J_aload_n (by rfl) (by rfl) dL_law_934 ?_
    refine J_iload (by rfl) dL_law_935 ?_
    refine J_iconst (nI 1) (by decide) dL_law_937 ?_
    refine J_iadd dL_law_938 ?_
    try rw [nI_add]
    refine J_xald (i + 1) dL_law_939 rfl (by omega) (by omega) ?_
    rw [← hx]
    refine J_V1v (ci := 11) dL_law_940 s_L_185 m_X11_waypointY rfl (by repeat (first | assumption | exact jget_same2 (by (try simp only [List.length_set]); exact jlt (by assumption)) | refine jget_ne (by first | decide | assumption | omega) ?_)) rfl (c_X11_waypointY x I mp1 (fun h2 hf2 mp2 => (jKv_i ?_))) (hf := jfit_k rfl rfl (by omega) (by omega))
    refine J_istore_7 dL_law_943 ?_
    refine J_aload_n (by rfl) (by rfl) dL_law_945 ?_
    have cp2 := cp1.frm hf2 (fun j hj => by show ¬ (_ ∧ _); omega)
    have e116 := mp2
    obtain ⟨an8, he8, cm8, W8, F8, C8, m1162, _⟩ := e116
    have o12 := hf2.at (by decide) q1
    have o22 := hf2.at (by decide) q3
    have ji : JI (K + 13) h2 (Tp s x) := ⟨_, sc, sm, P, _, ea, fa, sv, lf, ln, tx, tp, cp2, mp2, I.mono (by omega), fun w => ⟨(hv w).1.mono (by omega), (hv w).2⟩, hp.mono (by omega), h1', h2', h3, h4, h5, h6, h7⟩
    have hT2 : Tp s x ≤ 1 := by unfold Tp; split <;> omega
    refine J_V0v (ci := 11) dL_law_946 s_L_146 m_X11_thrown rfl (by repeat (first | assumption | exact jget_same2 (by (try simp only [List.length_set]); exact jlt (by assumption)) | refine jget_ne (by first | decide | assumption | omega) ?_)) rfl (c_X11_thrown mp2 (jKv_i ?_)) (hf := jfit_k rfl rfl (by omega) (by omega))
    refine J_iload (by rfl) dL_law_949 ?_
    refine J_icmp_eq 956 dL_law_951 (by decide) (fun c951 => ?_) (fun c951 => ?_)
    · refine J_iload (by rfl) dL_law_956 ?_
      refine J_if_ne_n 973 dL_law_958 (by decide) (fun c958 => ?_) (fun c958 => ?_)
      · refine J_goto 2508 dL_law_973 (by decide) ?_
        exact J_widen (by omega) (by omega) (next h2 _ f1 g _ _ _ ji o12 o22)
      · refine J_aload_n (by rfl) (by rfl) dL_law_961 ?_
        refine J_iconst (nI 0) (by decide) dL_law_962 ?_
        refine J_lald (0) dL_law_963 (by repeat (first | assumption | exact jget_same2 (by (try simp only [List.length_set]); exact jlt (by assumption)) | refine jget_ne (by first | decide | assumption | omega) ?_)) (by first | rfl | (simp only [pk_mul, nI_add]; done) | (simp only [pk_mul, nI_add]; congr 1; omega) | (congr 1; omega)) (by omega) ?_
        refine J_iload (by rfl) dL_law_964 ?_
        refine J_i2l dL_law_966 ?_
        refine J_lcmp dL_law_967 ?_
        refine J_topi (nI 0) (by rw [q2 (by omega), if_pos (by omega)]; unfold lg_cmp; simp; rfl) ?_
        refine J_if_eq_n 973 dL_law_968 (by decide) (fun c968 => ?_) (fun c968 => ?_)
        · refine J_goto 2508 dL_law_973 (by decide) ?_
          exact J_widen (by omega) (by omega) (next h2 _ f1 g _ _ _ ji o12 o22)
        · exact absurd c968 (Nat.lt_irrefl 0)
    · exact absurd rfl c951
  refine J_aload_n (by rfl) (by rfl) dL_law_927 ?_
  refine J_SX3v dL_law_928 s_L_183 m_L_waypointY rfl (w_waypointY x c0 (fun Q' k1 k2 => c_X10_waypointY x I cp (fun hc => k1 _ _ _ o1 (jKv_i ?_)) (fun hc => k2 _ _ ?_))) (jfit_k rfl rfl (by omega) (by omega))
  · have hT : Tp s x = 0 := by unfold Tp; rw [if_pos hc]
    have := cont _ _ (jFr.refl.set 125 (.inl (3, 1, .inr (.inl (vp_updL f 0 (nI (s (12 + 3 * nP x + 1))).toInt64)))) rfl) (jget_same2 (jlt o1)) (fun _ => rfl)
    rw [hT] at this
    exact this
  · have hT : Tp s x = 1 := by unfold Tp; rw [if_neg (by rw [hc]; decide)]
    have := cont h f jFr.refl o1 (fun e => by omega)
    rw [hT] at this
    exact ⟨rfl, jKv_i this⟩
theorem lawq_radius (hi : i + 4 ≤ g_L G) (hL : g_L G ≤ 2048) (hc : kc + 10 ≤ room_1.cells) (hn : kn + 60 ≤ room_1.slots) (hK : K < 2 ^ 29) (g1 : JI K h th) (o1 : h[125]? = some (.inl (3, 1, .inr (.inl f)))) (o2 : h[126]? = some (.inl (4, 1, .inr (.inr (.inr (.inl g))))))
    (next : ∀ h' th' f' g' l6 l7 l8, JI (K + 13) h' th' → h'[125]? = some (.inl (3, 1, .inr (.inl f'))) → h'[126]? = some (.inl (4, 1, .inr (.inr (.inr (.inl g'))))) → J G room_1 F M_L_law false (kc + 10) (kn + 60) 2508 [some (.retAddr 0), some (.ref 0), some (.ref 116), some (.ref 125), some (.ref 126), some (.int (nI i)), l6, l7, l8] [] h') :
    J G room_1 F M_L_law false kc kn 976 [some (.retAddr 0), some (.ref 0), some (.ref 116), some (.ref 125), some (.ref 126), some (.int (nI i)), l6, l7, l8] [] h := by
  obtain ⟨s, sc, sm, P, ch, ea, fa, sv, lf, ln, tx, tp, cp, mp, I, hv, hp, h1', h2', h3, h4, h5, h6, h7⟩ := g1
  have c0 := cp.c0
  refine J_aload_n (by rfl) (by rfl) dL_law_976 ?_
  refine J_aload_n (by rfl) (by rfl) dL_law_977 ?_
  refine J_iload (by rfl) dL_law_978 ?_
  refine J_iconst (nI 1) (by decide) dL_law_980 ?_
  refine J_iadd dL_law_981 ?_
  try rw [nI_add]
  refine J_xald (i + 1) dL_law_982 rfl (by omega) (by omega) ?_
  obtain ⟨x, hx⟩ : ∃ x, x = g_S G (i + 1) := ⟨_, rfl⟩
  rw [← hx]
  have cont : ∀ (h1 : jH) (f1 : Nat → Int64), jFr (fun j => j = 125) h h1 → h1[125]? = some (.inl (3, 1, .inr (.inl f1))) → (Tp s x = 0 → f1 0 = (nI (s (12 + 3 * nP x + 2))).toInt64) → J G room_1 F M_L_law false (kc + 1) (kn + 6) 987 [some (.retAddr 0), some (.ref 0), some (.ref 116), some (.ref 125), some (.ref 126), some (.int (nI i)), l6, l7, l8] [.int (nI (Tp s x))] h1 := by
    intro h1 f1 hf1 q1 q2
    have cp1 := cp.frm hf1 (fun j hj => by omega)
    have mp1 := MPc.frm mp hf1 (fun j a b => by omega)
    have q3 := hf1.at (by decide) o2
    have e116 := mp1
    obtain ⟨an9, he9, cm9, W9, F9, C9, m116, _⟩ := e116
    refine J_istore_6 dL_law_987 ?_
    refine J_aload_n (by rfl) (by rfl) dL_law_989 ?_
    refine J_aload_n (by rfl) (by rfl) dL_law_990 ?_
    refine J_iload (by rfl) dL_law_991 ?_
    refine J_iconst (nI 1) (by decide) dL_law_993 ?_
    refine J_iadd dL_law_994 ?_
    try rw [nI_add]
    refine J_xald (i + 1) dL_law_995 rfl (by omega) (by omega) ?_
    rw [← hx]
    refine J_V1v (ci := 11) dL_law_996 s_L_188 m_X11_radius rfl (by repeat (first | assumption | exact jget_same2 (by (try simp only [List.length_set]); exact jlt (by assumption)) | refine jget_ne (by first | decide | assumption | omega) ?_)) rfl (c_X11_radius x I mp1 (fun h2 hf2 mp2 => (jKv_i ?_))) (hf := jfit_k rfl rfl (by omega) (by omega))
    refine J_istore_7 dL_law_999 ?_
    refine J_aload_n (by rfl) (by rfl) dL_law_1001 ?_
    have cp2 := cp1.frm hf2 (fun j hj => by show ¬ (_ ∧ _); omega)
    have e116 := mp2
    obtain ⟨an8, he8, cm8, W8, F8, C8, m1162, _⟩ := e116
    have o12 := hf2.at (by decide) q1
    have o22 := hf2.at (by decide) q3
    have ji : JI (K + 13) h2 (Tp s x) := ⟨_, sc, sm, P, _, ea, fa, sv, lf, ln, tx, tp, cp2, mp2, I.mono (by omega), fun w => ⟨(hv w).1.mono (by omega), (hv w).2⟩, hp.mono (by omega), h1', h2', h3, h4, h5, h6, h7⟩
    have hT2 : Tp s x ≤ 1 := by unfold Tp; split <;> omega
    refine J_V0v (ci := 11) dL_law_1002 s_L_146 m_X11_thrown rfl (by repeat (first | assumption | exact jget_same2 (by (try simp only [List.length_set]); exact jlt (by assumption)) | refine jget_ne (by first | decide | assumption | omega) ?_)) rfl (c_X11_thrown mp2 (jKv_i ?_)) (hf := jfit_k rfl rfl (by omega) (by omega))
    refine J_iload (by rfl) dL_law_1005 ?_
    refine J_icmp_eq 1012 dL_law_1007 (by decide) (fun c1007 => ?_) (fun c1007 => ?_)
    · refine J_iload (by rfl) dL_law_1012 ?_
      refine J_if_ne_n 1029 dL_law_1014 (by decide) (fun c1014 => ?_) (fun c1014 => ?_)
      · refine J_goto 2508 dL_law_1029 (by decide) ?_
        exact J_widen (by omega) (by omega) (next h2 _ f1 g _ _ _ ji o12 o22)
      · refine J_aload_n (by rfl) (by rfl) dL_law_1017 ?_
        refine J_iconst (nI 0) (by decide) dL_law_1018 ?_
        refine J_lald (0) dL_law_1019 (by repeat (first | assumption | exact jget_same2 (by (try simp only [List.length_set]); exact jlt (by assumption)) | refine jget_ne (by first | decide | assumption | omega) ?_)) (by first | rfl | (simp only [pk_mul, nI_add]; done) | (simp only [pk_mul, nI_add]; congr 1; omega) | (congr 1; omega)) (by omega) ?_
        refine J_iload (by rfl) dL_law_1020 ?_
        refine J_i2l dL_law_1022 ?_
        refine J_lcmp dL_law_1023 ?_
        refine J_topi (nI 0) (by rw [q2 (by omega), if_pos (by omega)]; unfold lg_cmp; simp; rfl) ?_
        refine J_if_eq_n 1029 dL_law_1024 (by decide) (fun c1024 => ?_) (fun c1024 => ?_)
        · refine J_goto 2508 dL_law_1029 (by decide) ?_
          exact J_widen (by omega) (by omega) (next h2 _ f1 g _ _ _ ji o12 o22)
        · exact absurd c1024 (Nat.lt_irrefl 0)
    · exact absurd rfl c1007
  refine J_aload_n (by rfl) (by rfl) dL_law_983 ?_
  refine J_SX3v dL_law_984 s_L_186 m_L_radius rfl (w_radius x c0 (fun Q' k1 k2 => c_X10_radius x I cp (fun hc => k1 _ _ _ o1 (jKv_i ?_)) (fun hc => k2 _ _ ?_))) (jfit_k rfl rfl (by omega) (by omega))
  · have hT : Tp s x = 0 := by unfold Tp; rw [if_pos hc]
    have := cont _ _ (jFr.refl.set 125 (.inl (3, 1, .inr (.inl (vp_updL f 0 (nI (s (12 + 3 * nP x + 2))).toInt64)))) rfl) (jget_same2 (jlt o1)) (fun _ => rfl)
    rw [hT] at this
    exact this
  · have hT : Tp s x = 1 := by unfold Tp; rw [if_neg (by rw [hc]; decide)]
    have := cont h f jFr.refl o1 (fun e => by omega)
    rw [hT] at this
    exact ⟨rfl, jKv_i this⟩
theorem lawq_routeLength (hi : i + 4 ≤ g_L G) (hL : g_L G ≤ 2048) (hc : kc + 10 ≤ room_1.cells) (hn : kn + 60 ≤ room_1.slots) (hK : K < 2 ^ 29) (g1 : JI K h th) (o1 : h[125]? = some (.inl (3, 1, .inr (.inl f)))) (o2 : h[126]? = some (.inl (4, 1, .inr (.inr (.inr (.inl g))))))
    (next : ∀ h' th' f' g' l6 l7 l8, JI (K + 13) h' th' → h'[125]? = some (.inl (3, 1, .inr (.inl f'))) → h'[126]? = some (.inl (4, 1, .inr (.inr (.inr (.inl g'))))) → J G room_1 F M_L_law false (kc + 10) (kn + 60) 2508 [some (.retAddr 0), some (.ref 0), some (.ref 116), some (.ref 125), some (.ref 126), some (.int (nI i)), l6, l7, l8] [] h') :
    J G room_1 F M_L_law false kc kn 1431 [some (.retAddr 0), some (.ref 0), some (.ref 116), some (.ref 125), some (.ref 126), some (.int (nI i)), l6, l7, l8] [] h := by
  obtain ⟨s, sc, sm, P, ch, ea, fa, sv, lf, ln, tx, tp, cp, mp, I, hv, hp, h1', h2', h3, h4, h5, h6, h7⟩ := g1
  have c0 := cp.c0
  have cont : ∀ (h1 : jH) (f1 : Nat → Int64), jFr (fun j => j = 125) h h1 → h1[125]? = some (.inl (3, 1, .inr (.inl f1))) → (T8 s = 0 → f1 0 = (nI (s 1)).toInt64) → J G room_1 F M_L_law false (kc + 1) (kn + 6) 1436 [some (.retAddr 0), some (.ref 0), some (.ref 116), some (.ref 125), some (.ref 126), some (.int (nI i)), l6, l7, l8] [.int (nI (T8 s))] h1 := by
    intro h1 f1 hf1 q1 q2
    have cp1 := cp.frm hf1 (fun j hj => by omega)
    have mp1 := MPc.frm mp hf1 (fun j a b => by omega)
    have q3 := hf1.at (by decide) o2
    have e116 := mp1
    obtain ⟨an9, he9, cm9, W9, F9, C9, m116, _⟩ := e116
    refine J_istore_6 dL_law_1436 ?_
    refine J_aload_n (by rfl) (by rfl) dL_law_1438 ?_
    refine J_V0v (ci := 11) dL_law_1439 s_L_223 m_X11_routeLength rfl (by repeat (first | assumption | exact jget_same2 (by (try simp only [List.length_set]); exact jlt (by assumption)) | refine jget_ne (by first | decide | assumption | omega) ?_)) rfl (c_X11_routeLength  I mp1 (fun h2 hf2 mp2 => (jKv_i ?_))) (hf := jfit_k rfl rfl (by omega) (by omega))
    refine J_istore_7 dL_law_1442 ?_
    refine J_aload_n (by rfl) (by rfl) dL_law_1444 ?_
    have cp2 := cp1.frm hf2 (fun j hj => by show ¬ (_ ∧ _); omega)
    have e116 := mp2
    obtain ⟨an8, he8, cm8, W8, F8, C8, m1162, _⟩ := e116
    have o12 := hf2.at (by decide) q1
    have o22 := hf2.at (by decide) q3
    have ji : JI (K + 13) h2 (T8 s) := ⟨_, sc, sm, P, _, ea, fa, sv, lf, ln, tx, tp, cp2, mp2, I.mono (by omega), fun w => ⟨(hv w).1.mono (by omega), (hv w).2⟩, hp.mono (by omega), h1', h2', h3, h4, h5, h6, h7⟩
    have hT2 : T8 s ≤ 1 := by unfold T8; split <;> omega
    refine J_V0v (ci := 11) dL_law_1445 s_L_146 m_X11_thrown rfl (by repeat (first | assumption | exact jget_same2 (by (try simp only [List.length_set]); exact jlt (by assumption)) | refine jget_ne (by first | decide | assumption | omega) ?_)) rfl (c_X11_thrown mp2 (jKv_i ?_)) (hf := jfit_k rfl rfl (by omega) (by omega))
    refine J_iload (by rfl) dL_law_1448 ?_
    refine J_icmp_eq 1455 dL_law_1450 (by decide) (fun c1450 => ?_) (fun c1450 => ?_)
    · refine J_iload (by rfl) dL_law_1455 ?_
      refine J_if_ne_n 1472 dL_law_1457 (by decide) (fun c1457 => ?_) (fun c1457 => ?_)
      · refine J_goto 2508 dL_law_1472 (by decide) ?_
        exact J_widen (by omega) (by omega) (next h2 _ f1 g _ _ _ ji o12 o22)
      · refine J_aload_n (by rfl) (by rfl) dL_law_1460 ?_
        refine J_iconst (nI 0) (by decide) dL_law_1461 ?_
        refine J_lald (0) dL_law_1462 (by repeat (first | assumption | exact jget_same2 (by (try simp only [List.length_set]); exact jlt (by assumption)) | refine jget_ne (by first | decide | assumption | omega) ?_)) (by first | rfl | (simp only [pk_mul, nI_add]; done) | (simp only [pk_mul, nI_add]; congr 1; omega) | (congr 1; omega)) (by omega) ?_
        refine J_iload (by rfl) dL_law_1463 ?_
        refine J_i2l dL_law_1465 ?_
        refine J_lcmp dL_law_1466 ?_
        refine J_topi (nI 0) (by rw [q2 (by omega), if_pos (by omega)]; unfold lg_cmp; simp; rfl) ?_
        refine J_if_eq_n 1472 dL_law_1467 (by decide) (fun c1467 => ?_) (fun c1467 => ?_)
        · refine J_goto 2508 dL_law_1472 (by decide) ?_
          exact J_widen (by omega) (by omega) (next h2 _ f1 g _ _ _ ji o12 o22)
        · exact absurd c1467 (Nat.lt_irrefl 0)
    · exact absurd rfl c1450
  refine J_aload_n (by rfl) (by rfl) dL_law_1431 ?_
  refine J_aload_n (by rfl) (by rfl) dL_law_1432 ?_
  refine J_SX2v dL_law_1433 s_L_221 m_L_routeLength rfl (w_routeLength  c0 (fun Q' k1 k2 => c_X10_routeLength  I cp (fun hc => k1 _ _ _ o1 (jKv_i ?_)) (fun hc => k2 _ _ ?_))) (jfit_k rfl rfl (by omega) (by omega))
  · have hT : T8 s = 0 := by unfold T8; rw [if_pos hc]
    have := cont _ _ (jFr.refl.set 125 (.inl (3, 1, .inr (.inl (vp_updL f 0 (nI (s 1)).toInt64)))) rfl) (jget_same2 (jlt o1)) (fun _ => rfl)
    rw [hT] at this
    exact this
  · have hT : T8 s = 1 := by unfold T8; rw [if_neg hc]
    have := cont h f jFr.refl o1 (fun e => by omega)
    rw [hT] at this
    exact ⟨rfl, jKv_i this⟩
theorem lawq_hikerX (hi : i + 4 ≤ g_L G) (hL : g_L G ≤ 2048) (hc : kc + 10 ≤ room_1.cells) (hn : kn + 60 ≤ room_1.slots) (hK : K < 2 ^ 29) (g1 : JI K h th) (o1 : h[125]? = some (.inl (3, 1, .inr (.inl f)))) (o2 : h[126]? = some (.inl (4, 1, .inr (.inr (.inr (.inl g))))))
    (next : ∀ h' th' f' g' l6 l7 l8, JI (K + 13) h' th' → h'[125]? = some (.inl (3, 1, .inr (.inl f'))) → h'[126]? = some (.inl (4, 1, .inr (.inr (.inr (.inl g'))))) → J G room_1 F M_L_law false (kc + 10) (kn + 60) 2508 [some (.retAddr 0), some (.ref 0), some (.ref 116), some (.ref 125), some (.ref 126), some (.int (nI i)), l6, l7, l8] [] h') :
    J G room_1 F M_L_law false kc kn 1631 [some (.retAddr 0), some (.ref 0), some (.ref 116), some (.ref 125), some (.ref 126), some (.int (nI i)), l6, l7, l8] [] h := by
  obtain ⟨s, sc, sm, P, ch, ea, fa, sv, lf, ln, tx, tp, cp, mp, I, hv, hp, h1', h2', h3, h4, h5, h6, h7⟩ := g1
  have c0 := cp.c0
  have cont : ∀ (h1 : jH) (f1 : Nat → Int64), jFr (fun j => j = 125) h h1 → h1[125]? = some (.inl (3, 1, .inr (.inl f1))) → (T8 s = 0 → f1 0 = (nI (s 3)).toInt64) → J G room_1 F M_L_law false (kc + 1) (kn + 6) 1636 [some (.retAddr 0), some (.ref 0), some (.ref 116), some (.ref 125), some (.ref 126), some (.int (nI i)), l6, l7, l8] [.int (nI (T8 s))] h1 := by
    intro h1 f1 hf1 q1 q2
    have cp1 := cp.frm hf1 (fun j hj => by omega)
    have mp1 := MPc.frm mp hf1 (fun j a b => by omega)
    have q3 := hf1.at (by decide) o2
    have e116 := mp1
    obtain ⟨an9, he9, cm9, W9, F9, C9, m116, _⟩ := e116
    refine J_istore_6 dL_law_1636 ?_
    refine J_aload_n (by rfl) (by rfl) dL_law_1638 ?_
    refine J_V0v (ci := 11) dL_law_1639 s_L_235 m_X11_hikerX rfl (by repeat (first | assumption | exact jget_same2 (by (try simp only [List.length_set]); exact jlt (by assumption)) | refine jget_ne (by first | decide | assumption | omega) ?_)) rfl (c_X11_hikerX  I mp1 (fun h2 hf2 mp2 => (jKv_i ?_))) (hf := jfit_k rfl rfl (by omega) (by omega))
    refine J_istore_7 dL_law_1642 ?_
    refine J_aload_n (by rfl) (by rfl) dL_law_1644 ?_
    have cp2 := cp1.frm hf2 (fun j hj => by show ¬ (_ ∧ _); omega)
    have e116 := mp2
    obtain ⟨an8, he8, cm8, W8, F8, C8, m1162, _⟩ := e116
    have o12 := hf2.at (by decide) q1
    have o22 := hf2.at (by decide) q3
    have ji : JI (K + 13) h2 (T8 s) := ⟨_, sc, sm, P, _, ea, fa, sv, lf, ln, tx, tp, cp2, mp2, I.mono (by omega), fun w => ⟨(hv w).1.mono (by omega), (hv w).2⟩, hp.mono (by omega), h1', h2', h3, h4, h5, h6, h7⟩
    have hT2 : T8 s ≤ 1 := by unfold T8; split <;> omega
    refine J_V0v (ci := 11) dL_law_1645 s_L_146 m_X11_thrown rfl (by repeat (first | assumption | exact jget_same2 (by (try simp only [List.length_set]); exact jlt (by assumption)) | refine jget_ne (by first | decide | assumption | omega) ?_)) rfl (c_X11_thrown mp2 (jKv_i ?_)) (hf := jfit_k rfl rfl (by omega) (by omega))
    refine J_iload (by rfl) dL_law_1648 ?_
    refine J_icmp_eq 1655 dL_law_1650 (by decide) (fun c1650 => ?_) (fun c1650 => ?_)
    · refine J_iload (by rfl) dL_law_1655 ?_
      refine J_if_ne_n 1672 dL_law_1657 (by decide) (fun c1657 => ?_) (fun c1657 => ?_)
      · refine J_goto 2508 dL_law_1672 (by decide) ?_
        exact J_widen (by omega) (by omega) (next h2 _ f1 g _ _ _ ji o12 o22)
      · refine J_aload_n (by rfl) (by rfl) dL_law_1660 ?_
        refine J_iconst (nI 0) (by decide) dL_law_1661 ?_
        refine J_lald (0) dL_law_1662 (by repeat (first | assumption | exact jget_same2 (by (try simp only [List.length_set]); exact jlt (by assumption)) | refine jget_ne (by first | decide | assumption | omega) ?_)) (by first | rfl | (simp only [pk_mul, nI_add]; done) | (simp only [pk_mul, nI_add]; congr 1; omega) | (congr 1; omega)) (by omega) ?_
        refine J_iload (by rfl) dL_law_1663 ?_
        refine J_i2l dL_law_1665 ?_
        refine J_lcmp dL_law_1666 ?_
        refine J_topi (nI 0) (by rw [q2 (by omega), if_pos (by omega)]; unfold lg_cmp; simp; rfl) ?_
        refine J_if_eq_n 1672 dL_law_1667 (by decide) (fun c1667 => ?_) (fun c1667 => ?_)
        · refine J_goto 2508 dL_law_1672 (by decide) ?_
          exact J_widen (by omega) (by omega) (next h2 _ f1 g _ _ _ ji o12 o22)
        · exact absurd c1667 (Nat.lt_irrefl 0)
    · exact absurd rfl c1650
  refine J_aload_n (by rfl) (by rfl) dL_law_1631 ?_
  refine J_aload_n (by rfl) (by rfl) dL_law_1632 ?_
  refine J_SX2v dL_law_1633 s_L_233 m_L_hikerX rfl (w_hikerX  c0 (fun Q' k1 k2 => c_X10_hikerX  I cp (fun hc => k1 _ _ _ o1 (jKv_i ?_)) (fun hc => k2 _ _ ?_))) (jfit_k rfl rfl (by omega) (by omega))
  · have hT : T8 s = 0 := by unfold T8; rw [if_pos hc]
    have := cont _ _ (jFr.refl.set 125 (.inl (3, 1, .inr (.inl (vp_updL f 0 (nI (s 3)).toInt64)))) rfl) (jget_same2 (jlt o1)) (fun _ => rfl)
    rw [hT] at this
    exact this
  · have hT : T8 s = 1 := by unfold T8; rw [if_neg hc]
    have := cont h f jFr.refl o1 (fun e => by omega)
    rw [hT] at this
    exact ⟨rfl, jKv_i this⟩
theorem lawq_hikerY (hi : i + 4 ≤ g_L G) (hL : g_L G ≤ 2048) (hc : kc + 10 ≤ room_1.cells) (hn : kn + 60 ≤ room_1.slots) (hK : K < 2 ^ 29) (g1 : JI K h th) (o1 : h[125]? = some (.inl (3, 1, .inr (.inl f)))) (o2 : h[126]? = some (.inl (4, 1, .inr (.inr (.inr (.inl g))))))
    (next : ∀ h' th' f' g' l6 l7 l8, JI (K + 13) h' th' → h'[125]? = some (.inl (3, 1, .inr (.inl f'))) → h'[126]? = some (.inl (4, 1, .inr (.inr (.inr (.inl g'))))) → J G room_1 F M_L_law false (kc + 10) (kn + 60) 2508 [some (.retAddr 0), some (.ref 0), some (.ref 116), some (.ref 125), some (.ref 126), some (.int (nI i)), l6, l7, l8] [] h') :
    J G room_1 F M_L_law false kc kn 1675 [some (.retAddr 0), some (.ref 0), some (.ref 116), some (.ref 125), some (.ref 126), some (.int (nI i)), l6, l7, l8] [] h := by
  obtain ⟨s, sc, sm, P, ch, ea, fa, sv, lf, ln, tx, tp, cp, mp, I, hv, hp, h1', h2', h3, h4, h5, h6, h7⟩ := g1
  have c0 := cp.c0
  have cont : ∀ (h1 : jH) (f1 : Nat → Int64), jFr (fun j => j = 125) h h1 → h1[125]? = some (.inl (3, 1, .inr (.inl f1))) → (T8 s = 0 → f1 0 = (nI (s 4)).toInt64) → J G room_1 F M_L_law false (kc + 1) (kn + 6) 1680 [some (.retAddr 0), some (.ref 0), some (.ref 116), some (.ref 125), some (.ref 126), some (.int (nI i)), l6, l7, l8] [.int (nI (T8 s))] h1 := by
    intro h1 f1 hf1 q1 q2
    have cp1 := cp.frm hf1 (fun j hj => by omega)
    have mp1 := MPc.frm mp hf1 (fun j a b => by omega)
    have q3 := hf1.at (by decide) o2
    have e116 := mp1
    obtain ⟨an9, he9, cm9, W9, F9, C9, m116, _⟩ := e116
    refine J_istore_6 dL_law_1680 ?_
    refine J_aload_n (by rfl) (by rfl) dL_law_1682 ?_
    refine J_V0v (ci := 11) dL_law_1683 s_L_238 m_X11_hikerY rfl (by repeat (first | assumption | exact jget_same2 (by (try simp only [List.length_set]); exact jlt (by assumption)) | refine jget_ne (by first | decide | assumption | omega) ?_)) rfl (c_X11_hikerY  I mp1 (fun h2 hf2 mp2 => (jKv_i ?_))) (hf := jfit_k rfl rfl (by omega) (by omega))
    refine J_istore_7 dL_law_1686 ?_
    refine J_aload_n (by rfl) (by rfl) dL_law_1688 ?_
    have cp2 := cp1.frm hf2 (fun j hj => by show ¬ (_ ∧ _); omega)
    have e116 := mp2
    obtain ⟨an8, he8, cm8, W8, F8, C8, m1162, _⟩ := e116
    have o12 := hf2.at (by decide) q1
    have o22 := hf2.at (by decide) q3
    have ji : JI (K + 13) h2 (T8 s) := ⟨_, sc, sm, P, _, ea, fa, sv, lf, ln, tx, tp, cp2, mp2, I.mono (by omega), fun w => ⟨(hv w).1.mono (by omega), (hv w).2⟩, hp.mono (by omega), h1', h2', h3, h4, h5, h6, h7⟩
    have hT2 : T8 s ≤ 1 := by unfold T8; split <;> omega
    refine J_V0v (ci := 11) dL_law_1689 s_L_146 m_X11_thrown rfl (by repeat (first | assumption | exact jget_same2 (by (try simp only [List.length_set]); exact jlt (by assumption)) | refine jget_ne (by first | decide | assumption | omega) ?_)) rfl (c_X11_thrown mp2 (jKv_i ?_)) (hf := jfit_k rfl rfl (by omega) (by omega))
    refine J_iload (by rfl) dL_law_1692 ?_
    refine J_icmp_eq 1699 dL_law_1694 (by decide) (fun c1694 => ?_) (fun c1694 => ?_)
    · refine J_iload (by rfl) dL_law_1699 ?_
      refine J_if_ne_n 1716 dL_law_1701 (by decide) (fun c1701 => ?_) (fun c1701 => ?_)
      · refine J_goto 2508 dL_law_1716 (by decide) ?_
        exact J_widen (by omega) (by omega) (next h2 _ f1 g _ _ _ ji o12 o22)
      · refine J_aload_n (by rfl) (by rfl) dL_law_1704 ?_
        refine J_iconst (nI 0) (by decide) dL_law_1705 ?_
        refine J_lald (0) dL_law_1706 (by repeat (first | assumption | exact jget_same2 (by (try simp only [List.length_set]); exact jlt (by assumption)) | refine jget_ne (by first | decide | assumption | omega) ?_)) (by first | rfl | (simp only [pk_mul, nI_add]; done) | (simp only [pk_mul, nI_add]; congr 1; omega) | (congr 1; omega)) (by omega) ?_
        refine J_iload (by rfl) dL_law_1707 ?_
        refine J_i2l dL_law_1709 ?_
        refine J_lcmp dL_law_1710 ?_
        refine J_topi (nI 0) (by rw [q2 (by omega), if_pos (by omega)]; unfold lg_cmp; simp; rfl) ?_
        refine J_if_eq_n 1716 dL_law_1711 (by decide) (fun c1711 => ?_) (fun c1711 => ?_)
        · refine J_goto 2508 dL_law_1716 (by decide) ?_
          exact J_widen (by omega) (by omega) (next h2 _ f1 g _ _ _ ji o12 o22)
        · exact absurd c1711 (Nat.lt_irrefl 0)
    · exact absurd rfl c1694
  refine J_aload_n (by rfl) (by rfl) dL_law_1675 ?_
  refine J_aload_n (by rfl) (by rfl) dL_law_1676 ?_
  refine J_SX2v dL_law_1677 s_L_236 m_L_hikerY rfl (w_hikerY  c0 (fun Q' k1 k2 => c_X10_hikerY  I cp (fun hc => k1 _ _ _ o1 (jKv_i ?_)) (fun hc => k2 _ _ ?_))) (jfit_k rfl rfl (by omega) (by omega))
  · have hT : T8 s = 0 := by unfold T8; rw [if_pos hc]
    have := cont _ _ (jFr.refl.set 125 (.inl (3, 1, .inr (.inl (vp_updL f 0 (nI (s 4)).toInt64)))) rfl) (jget_same2 (jlt o1)) (fun _ => rfl)
    rw [hT] at this
    exact this
  · have hT : T8 s = 1 := by unfold T8; rw [if_neg hc]
    have := cont h f jFr.refl o1 (fun e => by omega)
    rw [hT] at this
    exact ⟨rfl, jKv_i this⟩
theorem lawq_target (hi : i + 4 ≤ g_L G) (hL : g_L G ≤ 2048) (hc : kc + 10 ≤ room_1.cells) (hn : kn + 60 ≤ room_1.slots) (hK : K < 2 ^ 29) (g1 : JI K h th) (o1 : h[125]? = some (.inl (3, 1, .inr (.inl f)))) (o2 : h[126]? = some (.inl (4, 1, .inr (.inr (.inr (.inl g))))))
    (next : ∀ h' th' f' g' l6 l7 l8, JI (K + 13) h' th' → h'[125]? = some (.inl (3, 1, .inr (.inl f'))) → h'[126]? = some (.inl (4, 1, .inr (.inr (.inr (.inl g'))))) → J G room_1 F M_L_law false (kc + 10) (kn + 60) 2508 [some (.retAddr 0), some (.ref 0), some (.ref 116), some (.ref 125), some (.ref 126), some (.int (nI i)), l6, l7, l8] [] h') :
    J G room_1 F M_L_law false kc kn 1587 [some (.retAddr 0), some (.ref 0), some (.ref 116), some (.ref 125), some (.ref 126), some (.int (nI i)), l6, l7, l8] [] h := by
  obtain ⟨s, sc, sm, P, ch, ea, fa, sv, lf, ln, tx, tp, cp, mp, I, hv, hp, h1', h2', h3, h4, h5, h6, h7⟩ := g1
  have c0 := cp.c0
  have cont : ∀ (h1 : jH) (f1 : Nat → Int64), jFr (fun j => j = 125) h h1 → h1[125]? = some (.inl (3, 1, .inr (.inl f1))) → (T8 s = 0 → f1 0 = (nI (aimS s)).toInt64) → J G room_1 F M_L_law false (kc + 1) (kn + 6) 1592 [some (.retAddr 0), some (.ref 0), some (.ref 116), some (.ref 125), some (.ref 126), some (.int (nI i)), l6, l7, l8] [.int (nI (T8 s))] h1 := by
    intro h1 f1 hf1 q1 q2
    have cp1 := cp.frm hf1 (fun j hj => by omega)
    have mp1 := MPc.frm mp hf1 (fun j a b => by omega)
    have q3 := hf1.at (by decide) o2
    have e116 := mp1
    obtain ⟨an9, he9, cm9, W9, F9, C9, m116, _⟩ := e116
    refine J_istore_6 dL_law_1592 ?_
    refine J_aload_n (by rfl) (by rfl) dL_law_1594 ?_
    refine J_V0v (ci := 11) dL_law_1595 s_L_232 m_X11_target rfl (by repeat (first | assumption | exact jget_same2 (by (try simp only [List.length_set]); exact jlt (by assumption)) | refine jget_ne (by first | decide | assumption | omega) ?_)) rfl (c_X11_target  I mp1 (fun h2 hf2 mp2 => (jKv_i ?_))) (hf := jfit_k rfl rfl (by omega) (by omega))
    refine J_istore_7 dL_law_1598 ?_
    refine J_aload_n (by rfl) (by rfl) dL_law_1600 ?_
    have cp2 := cp1.frm hf2 (fun j hj => by show ¬ (_ ∧ _); omega)
    have e116 := mp2
    obtain ⟨an8, he8, cm8, W8, F8, C8, m1162, _⟩ := e116
    have o12 := hf2.at (by decide) q1
    have o22 := hf2.at (by decide) q3
    have ji : JI (K + 13) h2 (T8 s) := ⟨_, sc, sm, P, _, ea, fa, sv, lf, ln, tx, tp, cp2, mp2, I.mono (by omega), fun w => ⟨(hv w).1.mono (by omega), (hv w).2⟩, hp.mono (by omega), h1', h2', h3, h4, h5, h6, h7⟩
    have hT2 : T8 s ≤ 1 := by unfold T8; split <;> omega
    refine J_V0v (ci := 11) dL_law_1601 s_L_146 m_X11_thrown rfl (by repeat (first | assumption | exact jget_same2 (by (try simp only [List.length_set]); exact jlt (by assumption)) | refine jget_ne (by first | decide | assumption | omega) ?_)) rfl (c_X11_thrown mp2 (jKv_i ?_)) (hf := jfit_k rfl rfl (by omega) (by omega))
    refine J_iload (by rfl) dL_law_1604 ?_
    refine J_icmp_eq 1611 dL_law_1606 (by decide) (fun c1606 => ?_) (fun c1606 => ?_)
    · refine J_iload (by rfl) dL_law_1611 ?_
      refine J_if_ne_n 1628 dL_law_1613 (by decide) (fun c1613 => ?_) (fun c1613 => ?_)
      · refine J_goto 2508 dL_law_1628 (by decide) ?_
        exact J_widen (by omega) (by omega) (next h2 _ f1 g _ _ _ ji o12 o22)
      · refine J_aload_n (by rfl) (by rfl) dL_law_1616 ?_
        refine J_iconst (nI 0) (by decide) dL_law_1617 ?_
        refine J_lald (0) dL_law_1618 (by repeat (first | assumption | exact jget_same2 (by (try simp only [List.length_set]); exact jlt (by assumption)) | refine jget_ne (by first | decide | assumption | omega) ?_)) (by first | rfl | (simp only [pk_mul, nI_add]; done) | (simp only [pk_mul, nI_add]; congr 1; omega) | (congr 1; omega)) (by omega) ?_
        refine J_iload (by rfl) dL_law_1619 ?_
        refine J_i2l dL_law_1621 ?_
        refine J_lcmp dL_law_1622 ?_
        refine J_topi (nI 0) (by rw [q2 (by omega), if_pos (by omega)]; unfold lg_cmp; simp; rfl) ?_
        refine J_if_eq_n 1628 dL_law_1623 (by decide) (fun c1623 => ?_) (fun c1623 => ?_)
        · refine J_goto 2508 dL_law_1628 (by decide) ?_
          exact J_widen (by omega) (by omega) (next h2 _ f1 g _ _ _ ji o12 o22)
        · exact absurd c1623 (Nat.lt_irrefl 0)
    · exact absurd rfl c1606
  refine J_aload_n (by rfl) (by rfl) dL_law_1587 ?_
  refine J_aload_n (by rfl) (by rfl) dL_law_1588 ?_
  refine J_SX2v dL_law_1589 s_L_230 m_L_target rfl (w_target  c0 (fun Q' k1 k2 => c_X10_target  I cp (fun hc => k1 _ _ _ o1 (jKv_i ?_)) (fun hc => k2 _ _ ?_))) (jfit_k rfl rfl (by omega) (by omega))
  · have hT : T8 s = 0 := by unfold T8; rw [if_pos hc]
    have := cont _ _ (jFr.refl.set 125 (.inl (3, 1, .inr (.inl (vp_updL f 0 (nI (aimS s)).toInt64)))) rfl) (jget_same2 (jlt o1)) (fun _ => rfl)
    rw [hT] at this
    exact this
  · have hT : T8 s = 1 := by unfold T8; rw [if_neg hc]
    have := cont h f jFr.refl o1 (fun e => by omega)
    rw [hT] at this
    exact ⟨rfl, jKv_i this⟩
end LAWQ
