/-! The law's body: questions that throw nothing -/
section LAWN
variable {G : jG} {F : jF} {h : jH} {i kc kn K th : Nat} {l6 l7 l8 : Option Value} {f : Nat → Int64} {g : Nat → UInt64}
theorem lawn_waypoints (hc : kc + 10 ≤ room_1.cells) (hn : kn + 60 ≤ room_1.slots) (g1 : JI K h th) (o1 : h[125]? = some (.inl (3, 1, .inr (.inl f)))) (o2 : h[126]? = some (.inl (4, 1, .inr (.inr (.inr (.inl g))))))
    (next : ∀ h' th' f' g' l6 l7 l8, JI (K + 13) h' th' → h'[125]? = some (.inl (3, 1, .inr (.inl f'))) → h'[126]? = some (.inl (4, 1, .inr (.inr (.inr (.inl g'))))) → J G room_1 F M_L_law false (kc + 10) (kn + 60) 2508 [some (.retAddr 0), some (.ref 0), some (.ref 116), some (.ref 125), some (.ref 126), some (.int (nI i)), l6, l7, l8] [] h') :
    J G room_1 F M_L_law false kc kn 851 [some (.retAddr 0), some (.ref 0), some (.ref 116), some (.ref 125), some (.ref 126), some (.int (nI i)), l6, l7, l8] [] h := by
  obtain ⟨s, sc, sm, P, ch, ea, fa, sv, lf, ln, tx, tp, cp, mp, I, hv, hp, h1', h2', h3, h4, h5, h6, h7⟩ := g1
  have c0 := cp.c0
  have e116 := mp
  obtain ⟨an9, he9, cm9, W9, F9, C9, m116, _⟩ := e116
  refine J_aload_n (by rfl) (by rfl) dL_law_851 ?_
  refine J_V0v (ci := 10) dL_law_852 s_L_176 m_X10_waypoints rfl (by repeat (first | assumption | exact jget_same2 (by (try simp only [List.length_set]); exact jlt (by assumption)) | refine jget_ne (by first | decide | assumption | omega) ?_)) rfl (c_X10_waypoints I cp (jKv_i ?_)) (hf := jfit_k rfl rfl (by omega) (by omega))
  refine J_aload_n (by rfl) (by rfl) dL_law_855 ?_
  refine J_V0v (ci := 11) dL_law_856 s_L_179 m_X11_waypoints rfl (by repeat (first | assumption | exact jget_same2 (by (try simp only [List.length_set]); exact jlt (by assumption)) | refine jget_ne (by first | decide | assumption | omega) ?_)) rfl (c_X11_waypoints I mp (fun h2 hf2 mp2 => (jKv_i ?_))) (hf := jfit_k rfl rfl (by omega) (by omega))
  have cp2 := cp.frm hf2 (fun j hj => by show ¬ (_ ∧ _); omega)
  have ji : JI (K + 13) h2 0 := ⟨_, sc, sm, P, _, ea, fa, sv, lf, ln, tx, tp, cp2, mp2, I.mono (by omega), fun w => ⟨(hv w).1.mono (by omega), (hv w).2⟩, hp.mono (by omega), h1', h2', h3, h4, h5, h6, h7⟩
  refine J_icmp_eq 2508 dL_law_859 (by decide) (fun c859 => ?_) (fun c859 => ?_)
  · exact J_widen (by omega) (by omega) (next h2 _ f g _ _ _ ji (hf2.at (by decide) o1) (hf2.at (by decide) o2))
  · exact absurd rfl c859
theorem lawn_trails (hc : kc + 10 ≤ room_1.cells) (hn : kn + 60 ≤ room_1.slots) (g1 : JI K h th) (o1 : h[125]? = some (.inl (3, 1, .inr (.inl f)))) (o2 : h[126]? = some (.inl (4, 1, .inr (.inr (.inr (.inl g))))))
    (next : ∀ h' th' f' g' l6 l7 l8, JI (K + 13) h' th' → h'[125]? = some (.inl (3, 1, .inr (.inl f'))) → h'[126]? = some (.inl (4, 1, .inr (.inr (.inr (.inl g'))))) → J G room_1 F M_L_law false (kc + 10) (kn + 60) 2508 [some (.retAddr 0), some (.ref 0), some (.ref 116), some (.ref 125), some (.ref 126), some (.int (nI i)), l6, l7, l8] [] h') :
    J G room_1 F M_L_law false kc kn 1032 [some (.retAddr 0), some (.ref 0), some (.ref 116), some (.ref 125), some (.ref 126), some (.int (nI i)), l6, l7, l8] [] h := by
  obtain ⟨s, sc, sm, P, ch, ea, fa, sv, lf, ln, tx, tp, cp, mp, I, hv, hp, h1', h2', h3, h4, h5, h6, h7⟩ := g1
  have c0 := cp.c0
  have e116 := mp
  obtain ⟨an9, he9, cm9, W9, F9, C9, m116, _⟩ := e116
  refine J_aload_n (by rfl) (by rfl) dL_law_1032 ?_
  refine J_V0v (ci := 10) dL_law_1033 s_L_189 m_X10_trails rfl (by repeat (first | assumption | exact jget_same2 (by (try simp only [List.length_set]); exact jlt (by assumption)) | refine jget_ne (by first | decide | assumption | omega) ?_)) rfl (c_X10_trails I cp (jKv_i ?_)) (hf := jfit_k rfl rfl (by omega) (by omega))
  refine J_aload_n (by rfl) (by rfl) dL_law_1036 ?_
  refine J_V0v (ci := 11) dL_law_1037 s_L_192 m_X11_trails rfl (by repeat (first | assumption | exact jget_same2 (by (try simp only [List.length_set]); exact jlt (by assumption)) | refine jget_ne (by first | decide | assumption | omega) ?_)) rfl (c_X11_trails I mp (fun h2 hf2 mp2 => (jKv_i ?_))) (hf := jfit_k rfl rfl (by omega) (by omega))
  have cp2 := cp.frm hf2 (fun j hj => by show ¬ (_ ∧ _); omega)
  have ji : JI (K + 13) h2 0 := ⟨_, sc, sm, P, _, ea, fa, sv, lf, ln, tx, tp, cp2, mp2, I.mono (by omega), fun w => ⟨(hv w).1.mono (by omega), (hv w).2⟩, hp.mono (by omega), h1', h2', h3, h4, h5, h6, h7⟩
  refine J_icmp_eq 2508 dL_law_1040 (by decide) (fun c1040 => ?_) (fun c1040 => ?_)
  · exact J_widen (by omega) (by omega) (next h2 _ f g _ _ _ ji (hf2.at (by decide) o1) (hf2.at (by decide) o2))
  · exact absurd rfl c1040
theorem lawn_battery (hc : kc + 10 ≤ room_1.cells) (hn : kn + 60 ≤ room_1.slots) (g1 : JI K h th) (o1 : h[125]? = some (.inl (3, 1, .inr (.inl f)))) (o2 : h[126]? = some (.inl (4, 1, .inr (.inr (.inr (.inl g))))))
    (next : ∀ h' th' f' g' l6 l7 l8, JI (K + 13) h' th' → h'[125]? = some (.inl (3, 1, .inr (.inl f'))) → h'[126]? = some (.inl (4, 1, .inr (.inr (.inr (.inl g'))))) → J G room_1 F M_L_law false (kc + 10) (kn + 60) 2508 [some (.retAddr 0), some (.ref 0), some (.ref 116), some (.ref 125), some (.ref 126), some (.int (nI i)), l6, l7, l8] [] h') :
    J G room_1 F M_L_law false kc kn 1844 [some (.retAddr 0), some (.ref 0), some (.ref 116), some (.ref 125), some (.ref 126), some (.int (nI i)), l6, l7, l8] [] h := by
  obtain ⟨s, sc, sm, P, ch, ea, fa, sv, lf, ln, tx, tp, cp, mp, I, hv, hp, h1', h2', h3, h4, h5, h6, h7⟩ := g1
  have c0 := cp.c0
  have e116 := mp
  obtain ⟨an9, he9, cm9, W9, F9, C9, m116, _⟩ := e116
  refine J_aload_n (by rfl) (by rfl) dL_law_1844 ?_
  refine J_V0v (ci := 10) dL_law_1845 s_L_249 m_X10_battery rfl (by repeat (first | assumption | exact jget_same2 (by (try simp only [List.length_set]); exact jlt (by assumption)) | refine jget_ne (by first | decide | assumption | omega) ?_)) rfl (c_X10_battery I cp (jKv_i ?_)) (hf := jfit_k rfl rfl (by omega) (by omega))
  refine J_aload_n (by rfl) (by rfl) dL_law_1848 ?_
  refine J_V0v (ci := 11) dL_law_1849 s_L_252 m_X11_battery rfl (by repeat (first | assumption | exact jget_same2 (by (try simp only [List.length_set]); exact jlt (by assumption)) | refine jget_ne (by first | decide | assumption | omega) ?_)) rfl (c_X11_battery I mp (fun h2 hf2 mp2 => (jKv_i ?_))) (hf := jfit_k rfl rfl (by omega) (by omega))
  have cp2 := cp.frm hf2 (fun j hj => by show ¬ (_ ∧ _); omega)
  have ji : JI (K + 13) h2 0 := ⟨_, sc, sm, P, _, ea, fa, sv, lf, ln, tx, tp, cp2, mp2, I.mono (by omega), fun w => ⟨(hv w).1.mono (by omega), (hv w).2⟩, hp.mono (by omega), h1', h2', h3, h4, h5, h6, h7⟩
  refine J_icmp_eq 2508 dL_law_1852 (by decide) (fun c1852 => ?_) (fun c1852 => ?_)
  · exact J_widen (by omega) (by omega) (next h2 _ f g _ _ _ ji (hf2.at (by decide) o1) (hf2.at (by decide) o2))
  · exact absurd rfl c1852
theorem lawn_mode (hc : kc + 10 ≤ room_1.cells) (hn : kn + 60 ≤ room_1.slots) (g1 : JI K h th) (o1 : h[125]? = some (.inl (3, 1, .inr (.inl f)))) (o2 : h[126]? = some (.inl (4, 1, .inr (.inr (.inr (.inl g))))))
    (next : ∀ h' th' f' g' l6 l7 l8, JI (K + 13) h' th' → h'[125]? = some (.inl (3, 1, .inr (.inl f'))) → h'[126]? = some (.inl (4, 1, .inr (.inr (.inr (.inl g'))))) → J G room_1 F M_L_law false (kc + 10) (kn + 60) 2508 [some (.retAddr 0), some (.ref 0), some (.ref 116), some (.ref 125), some (.ref 126), some (.int (nI i)), l6, l7, l8] [] h') :
    J G room_1 F M_L_law false kc kn 1857 [some (.retAddr 0), some (.ref 0), some (.ref 116), some (.ref 125), some (.ref 126), some (.int (nI i)), l6, l7, l8] [] h := by
  obtain ⟨s, sc, sm, P, ch, ea, fa, sv, lf, ln, tx, tp, cp, mp, I, hv, hp, h1', h2', h3, h4, h5, h6, h7⟩ := g1
  have c0 := cp.c0
  have e116 := mp
  obtain ⟨an9, he9, cm9, W9, F9, C9, m116, _⟩ := e116
  refine J_aload_n (by rfl) (by rfl) dL_law_1857 ?_
  refine J_V0v (ci := 10) dL_law_1858 s_L_253 m_X10_mode rfl (by repeat (first | assumption | exact jget_same2 (by (try simp only [List.length_set]); exact jlt (by assumption)) | refine jget_ne (by first | decide | assumption | omega) ?_)) rfl (c_X10_mode I cp (jKv_i ?_)) (hf := jfit_k rfl rfl (by omega) (by omega))
  refine J_aload_n (by rfl) (by rfl) dL_law_1861 ?_
  refine J_V0v (ci := 11) dL_law_1862 s_L_256 m_X11_mode rfl (by repeat (first | assumption | exact jget_same2 (by (try simp only [List.length_set]); exact jlt (by assumption)) | refine jget_ne (by first | decide | assumption | omega) ?_)) rfl (c_X11_mode I mp (fun h2 hf2 mp2 => (jKv_i ?_))) (hf := jfit_k rfl rfl (by omega) (by omega))
  have cp2 := cp.frm hf2 (fun j hj => by show ¬ (_ ∧ _); omega)
  have ji : JI (K + 13) h2 0 := ⟨_, sc, sm, P, _, ea, fa, sv, lf, ln, tx, tp, cp2, mp2, I.mono (by omega), fun w => ⟨(hv w).1.mono (by omega), (hv w).2⟩, hp.mono (by omega), h1', h2', h3, h4, h5, h6, h7⟩
  refine J_icmp_eq 2508 dL_law_1865 (by decide) (fun c1865 => ?_) (fun c1865 => ?_)
  · exact J_widen (by omega) (by omega) (next h2 _ f g _ _ _ ji (hf2.at (by decide) o1) (hf2.at (by decide) o2))
  · exact absurd rfl c1865
theorem lawn_tolerance (hc : kc + 10 ≤ room_1.cells) (hn : kn + 60 ≤ room_1.slots) (g1 : JI K h th) (o1 : h[125]? = some (.inl (3, 1, .inr (.inl f)))) (o2 : h[126]? = some (.inl (4, 1, .inr (.inr (.inr (.inl g))))))
    (next : ∀ h' th' f' g' l6 l7 l8, JI (K + 13) h' th' → h'[125]? = some (.inl (3, 1, .inr (.inl f'))) → h'[126]? = some (.inl (4, 1, .inr (.inr (.inr (.inl g'))))) → J G room_1 F M_L_law false (kc + 10) (kn + 60) 2508 [some (.retAddr 0), some (.ref 0), some (.ref 116), some (.ref 125), some (.ref 126), some (.int (nI i)), l6, l7, l8] [] h') :
    J G room_1 F M_L_law false kc kn 1870 [some (.retAddr 0), some (.ref 0), some (.ref 116), some (.ref 125), some (.ref 126), some (.int (nI i)), l6, l7, l8] [] h := by
  obtain ⟨s, sc, sm, P, ch, ea, fa, sv, lf, ln, tx, tp, cp, mp, I, hv, hp, h1', h2', h3, h4, h5, h6, h7⟩ := g1
  have c0 := cp.c0
  have e116 := mp
  obtain ⟨an9, he9, cm9, W9, F9, C9, m116, _⟩ := e116
  refine J_aload_n (by rfl) (by rfl) dL_law_1870 ?_
  refine J_V0v (ci := 10) dL_law_1871 s_L_257 m_X10_tolerance rfl (by repeat (first | assumption | exact jget_same2 (by (try simp only [List.length_set]); exact jlt (by assumption)) | refine jget_ne (by first | decide | assumption | omega) ?_)) rfl (c_X10_tolerance I cp (jKv_i ?_)) (hf := jfit_k rfl rfl (by omega) (by omega))
  refine J_aload_n (by rfl) (by rfl) dL_law_1874 ?_
  refine J_V0v (ci := 11) dL_law_1875 s_L_260 m_X11_tolerance rfl (by repeat (first | assumption | exact jget_same2 (by (try simp only [List.length_set]); exact jlt (by assumption)) | refine jget_ne (by first | decide | assumption | omega) ?_)) rfl (c_X11_tolerance I mp (fun h2 hf2 mp2 => (jKv_i ?_))) (hf := jfit_k rfl rfl (by omega) (by omega))
  have cp2 := cp.frm hf2 (fun j hj => by show ¬ (_ ∧ _); omega)
  have ji : JI (K + 13) h2 0 := ⟨_, sc, sm, P, _, ea, fa, sv, lf, ln, tx, tp, cp2, mp2, I.mono (by omega), fun w => ⟨(hv w).1.mono (by omega), (hv w).2⟩, hp.mono (by omega), h1', h2', h3, h4, h5, h6, h7⟩
  refine J_icmp_eq 2508 dL_law_1878 (by decide) (fun c1878 => ?_) (fun c1878 => ?_)
  · exact J_widen (by omega) (by omega) (next h2 _ f g _ _ _ ji (hf2.at (by decide) o1) (hf2.at (by decide) o2))
  · exact absurd rfl c1878
theorem lawn_updates (hc : kc + 10 ≤ room_1.cells) (hn : kn + 60 ≤ room_1.slots) (g1 : JI K h th) (o1 : h[125]? = some (.inl (3, 1, .inr (.inl f)))) (o2 : h[126]? = some (.inl (4, 1, .inr (.inr (.inr (.inl g))))))
    (next : ∀ h' th' f' g' l6 l7 l8, JI (K + 13) h' th' → h'[125]? = some (.inl (3, 1, .inr (.inl f'))) → h'[126]? = some (.inl (4, 1, .inr (.inr (.inr (.inl g'))))) → J G room_1 F M_L_law false (kc + 10) (kn + 60) 2508 [some (.retAddr 0), some (.ref 0), some (.ref 116), some (.ref 125), some (.ref 126), some (.int (nI i)), l6, l7, l8] [] h') :
    J G room_1 F M_L_law false kc kn 1909 [some (.retAddr 0), some (.ref 0), some (.ref 116), some (.ref 125), some (.ref 126), some (.int (nI i)), l6, l7, l8] [] h := by
  obtain ⟨s, sc, sm, P, ch, ea, fa, sv, lf, ln, tx, tp, cp, mp, I, hv, hp, h1', h2', h3, h4, h5, h6, h7⟩ := g1
  have c0 := cp.c0
  have e116 := mp
  obtain ⟨an9, he9, cm9, W9, F9, C9, m116, _⟩ := e116
  refine J_aload_n (by rfl) (by rfl) dL_law_1909 ?_
  refine J_V0v (ci := 10) dL_law_1910 s_L_269 m_X10_updates rfl (by repeat (first | assumption | exact jget_same2 (by (try simp only [List.length_set]); exact jlt (by assumption)) | refine jget_ne (by first | decide | assumption | omega) ?_)) rfl (c_X10_updates I cp (jKv_i ?_)) (hf := jfit_k rfl rfl (by omega) (by omega))
  refine J_aload_n (by rfl) (by rfl) dL_law_1913 ?_
  refine J_V0v (ci := 11) dL_law_1914 s_L_272 m_X11_updates rfl (by repeat (first | assumption | exact jget_same2 (by (try simp only [List.length_set]); exact jlt (by assumption)) | refine jget_ne (by first | decide | assumption | omega) ?_)) rfl (c_X11_updates I mp (fun h2 hf2 mp2 => (jKv_i ?_))) (hf := jfit_k rfl rfl (by omega) (by omega))
  have cp2 := cp.frm hf2 (fun j hj => by show ¬ (_ ∧ _); omega)
  have ji : JI (K + 13) h2 0 := ⟨_, sc, sm, P, _, ea, fa, sv, lf, ln, tx, tp, cp2, mp2, I.mono (by omega), fun w => ⟨(hv w).1.mono (by omega), (hv w).2⟩, hp.mono (by omega), h1', h2', h3, h4, h5, h6, h7⟩
  refine J_icmp_eq 2508 dL_law_1917 (by decide) (fun c1917 => ?_) (fun c1917 => ?_)
  · exact J_widen (by omega) (by omega) (next h2 _ f g _ _ _ ji (hf2.at (by decide) o1) (hf2.at (by decide) o2))
  · exact absurd rfl c1917
theorem lawn_alarms (hc : kc + 10 ≤ room_1.cells) (hn : kn + 60 ≤ room_1.slots) (g1 : JI K h th) (o1 : h[125]? = some (.inl (3, 1, .inr (.inl f)))) (o2 : h[126]? = some (.inl (4, 1, .inr (.inr (.inr (.inl g))))))
    (next : ∀ h' th' f' g' l6 l7 l8, JI (K + 13) h' th' → h'[125]? = some (.inl (3, 1, .inr (.inl f'))) → h'[126]? = some (.inl (4, 1, .inr (.inr (.inr (.inl g'))))) → J G room_1 F M_L_law false (kc + 10) (kn + 60) 2508 [some (.retAddr 0), some (.ref 0), some (.ref 116), some (.ref 125), some (.ref 126), some (.int (nI i)), l6, l7, l8] [] h') :
    J G room_1 F M_L_law false kc kn 1922 [some (.retAddr 0), some (.ref 0), some (.ref 116), some (.ref 125), some (.ref 126), some (.int (nI i)), l6, l7, l8] [] h := by
  obtain ⟨s, sc, sm, P, ch, ea, fa, sv, lf, ln, tx, tp, cp, mp, I, hv, hp, h1', h2', h3, h4, h5, h6, h7⟩ := g1
  have c0 := cp.c0
  have e116 := mp
  obtain ⟨an9, he9, cm9, W9, F9, C9, m116, _⟩ := e116
  refine J_aload_n (by rfl) (by rfl) dL_law_1922 ?_
  refine J_V0v (ci := 10) dL_law_1923 s_L_273 m_X10_alarms rfl (by repeat (first | assumption | exact jget_same2 (by (try simp only [List.length_set]); exact jlt (by assumption)) | refine jget_ne (by first | decide | assumption | omega) ?_)) rfl (c_X10_alarms I cp (jKv_i ?_)) (hf := jfit_k rfl rfl (by omega) (by omega))
  refine J_aload_n (by rfl) (by rfl) dL_law_1926 ?_
  refine J_V0v (ci := 11) dL_law_1927 s_L_276 m_X11_alarms rfl (by repeat (first | assumption | exact jget_same2 (by (try simp only [List.length_set]); exact jlt (by assumption)) | refine jget_ne (by first | decide | assumption | omega) ?_)) rfl (c_X11_alarms I mp (fun h2 hf2 mp2 => (jKv_i ?_))) (hf := jfit_k rfl rfl (by omega) (by omega))
  have cp2 := cp.frm hf2 (fun j hj => by show ¬ (_ ∧ _); omega)
  have ji : JI (K + 13) h2 0 := ⟨_, sc, sm, P, _, ea, fa, sv, lf, ln, tx, tp, cp2, mp2, I.mono (by omega), fun w => ⟨(hv w).1.mono (by omega), (hv w).2⟩, hp.mono (by omega), h1', h2', h3, h4, h5, h6, h7⟩
  refine J_icmp_eq 2508 dL_law_1930 (by decide) (fun c1930 => ?_) (fun c1930 => ?_)
  · exact J_widen (by omega) (by omega) (next h2 _ f g _ _ _ ji (hf2.at (by decide) o1) (hf2.at (by decide) o2))
  · exact absurd rfl c1930
theorem lawn_reached (hc : kc + 10 ≤ room_1.cells) (hn : kn + 60 ≤ room_1.slots) (g1 : JI K h th) (o1 : h[125]? = some (.inl (3, 1, .inr (.inl f)))) (o2 : h[126]? = some (.inl (4, 1, .inr (.inr (.inr (.inl g))))))
    (next : ∀ h' th' f' g' l6 l7 l8, JI (K + 13) h' th' → h'[125]? = some (.inl (3, 1, .inr (.inl f'))) → h'[126]? = some (.inl (4, 1, .inr (.inr (.inr (.inl g'))))) → J G room_1 F M_L_law false (kc + 10) (kn + 60) 2508 [some (.retAddr 0), some (.ref 0), some (.ref 116), some (.ref 125), some (.ref 126), some (.int (nI i)), l6, l7, l8] [] h') :
    J G room_1 F M_L_law false kc kn 1935 [some (.retAddr 0), some (.ref 0), some (.ref 116), some (.ref 125), some (.ref 126), some (.int (nI i)), l6, l7, l8] [] h := by
  obtain ⟨s, sc, sm, P, ch, ea, fa, sv, lf, ln, tx, tp, cp, mp, I, hv, hp, h1', h2', h3, h4, h5, h6, h7⟩ := g1
  have c0 := cp.c0
  have e116 := mp
  obtain ⟨an9, he9, cm9, W9, F9, C9, m116, _⟩ := e116
  refine J_aload_n (by rfl) (by rfl) dL_law_1935 ?_
  refine J_V0v (ci := 10) dL_law_1936 s_L_277 m_X10_reached rfl (by repeat (first | assumption | exact jget_same2 (by (try simp only [List.length_set]); exact jlt (by assumption)) | refine jget_ne (by first | decide | assumption | omega) ?_)) rfl (c_X10_reached I cp (jKv_i ?_)) (hf := jfit_k rfl rfl (by omega) (by omega))
  refine J_aload_n (by rfl) (by rfl) dL_law_1939 ?_
  refine J_V0v (ci := 11) dL_law_1940 s_L_280 m_X11_reached rfl (by repeat (first | assumption | exact jget_same2 (by (try simp only [List.length_set]); exact jlt (by assumption)) | refine jget_ne (by first | decide | assumption | omega) ?_)) rfl (c_X11_reached I mp (fun h2 hf2 mp2 => (jKv_i ?_))) (hf := jfit_k rfl rfl (by omega) (by omega))
  have cp2 := cp.frm hf2 (fun j hj => by show ¬ (_ ∧ _); omega)
  have ji : JI (K + 13) h2 0 := ⟨_, sc, sm, P, _, ea, fa, sv, lf, ln, tx, tp, cp2, mp2, I.mono (by omega), fun w => ⟨(hv w).1.mono (by omega), (hv w).2⟩, hp.mono (by omega), h1', h2', h3, h4, h5, h6, h7⟩
  refine J_icmp_eq 2508 dL_law_1943 (by decide) (fun c1943 => ?_) (fun c1943 => ?_)
  · exact J_widen (by omega) (by omega) (next h2 _ f g _ _ _ ji (hf2.at (by decide) o1) (hf2.at (by decide) o2))
  · exact absurd rfl c1943
theorem lawn_updatesLeft (hc : kc + 10 ≤ room_1.cells) (hn : kn + 60 ≤ room_1.slots) (g1 : JI K h th) (o1 : h[125]? = some (.inl (3, 1, .inr (.inl f)))) (o2 : h[126]? = some (.inl (4, 1, .inr (.inr (.inr (.inl g))))))
    (next : ∀ h' th' f' g' l6 l7 l8, JI (K + 13) h' th' → h'[125]? = some (.inl (3, 1, .inr (.inl f'))) → h'[126]? = some (.inl (4, 1, .inr (.inr (.inr (.inl g'))))) → J G room_1 F M_L_law false (kc + 10) (kn + 60) 2508 [some (.retAddr 0), some (.ref 0), some (.ref 116), some (.ref 125), some (.ref 126), some (.int (nI i)), l6, l7, l8] [] h') :
    J G room_1 F M_L_law false kc kn 1883 [some (.retAddr 0), some (.ref 0), some (.ref 116), some (.ref 125), some (.ref 126), some (.int (nI i)), l6, l7, l8] [] h := by
  obtain ⟨s, sc, sm, P, ch, ea, fa, sv, lf, ln, tx, tp, cp, mp, I, hv, hp, h1', h2', h3, h4, h5, h6, h7⟩ := g1
  have c0 := cp.c0
  have e116 := mp
  obtain ⟨an9, he9, cm9, W9, F9, C9, m116, _⟩ := e116
  refine J_aload_n (by rfl) (by rfl) dL_law_1883 ?_
  refine J_V0v (ci := 10) dL_law_1884 s_L_261 m_X10_updatesLeft rfl (by repeat (first | assumption | exact jget_same2 (by (try simp only [List.length_set]); exact jlt (by assumption)) | refine jget_ne (by first | decide | assumption | omega) ?_)) rfl (c_X10_updatesLeft I cp (jKv_i ?_)) (hf := jfit_k rfl rfl (by omega) (by omega))
  refine J_aload_n (by rfl) (by rfl) dL_law_1887 ?_
  refine J_V0v (ci := 11) dL_law_1888 s_L_264 m_X11_updatesLeft rfl (by repeat (first | assumption | exact jget_same2 (by (try simp only [List.length_set]); exact jlt (by assumption)) | refine jget_ne (by first | decide | assumption | omega) ?_)) rfl (c_X11_updatesLeft I mp (fun h2 hf2 mp2 => (jKv_i ?_))) (hf := jfit_k rfl rfl (by omega) (by omega))
  have cp2 := cp.frm hf2 (fun j hj => by show ¬ (_ ∧ _); omega)
  have ji : JI (K + 13) h2 0 := ⟨_, sc, sm, P, _, ea, fa, sv, lf, ln, tx, tp, cp2, mp2, I.mono (by omega), fun w => ⟨(hv w).1.mono (by omega), (hv w).2⟩, hp.mono (by omega), h1', h2', h3, h4, h5, h6, h7⟩
  refine J_icmp_eq 2508 dL_law_1891 (by decide) (fun c1891 => ?_) (fun c1891 => ?_)
  · exact J_widen (by omega) (by omega) (next h2 _ f g _ _ _ ji (hf2.at (by decide) o1) (hf2.at (by decide) o2))
  · exact absurd rfl c1891
theorem lawn_updatesLeftByCounting (hc : kc + 10 ≤ room_1.cells) (hn : kn + 60 ≤ room_1.slots) (g1 : JI K h th) (o1 : h[125]? = some (.inl (3, 1, .inr (.inl f)))) (o2 : h[126]? = some (.inl (4, 1, .inr (.inr (.inr (.inl g))))))
    (next : ∀ h' th' f' g' l6 l7 l8, JI (K + 13) h' th' → h'[125]? = some (.inl (3, 1, .inr (.inl f'))) → h'[126]? = some (.inl (4, 1, .inr (.inr (.inr (.inl g'))))) → J G room_1 F M_L_law false (kc + 10) (kn + 60) 2508 [some (.retAddr 0), some (.ref 0), some (.ref 116), some (.ref 125), some (.ref 126), some (.int (nI i)), l6, l7, l8] [] h') :
    J G room_1 F M_L_law false kc kn 1896 [some (.retAddr 0), some (.ref 0), some (.ref 116), some (.ref 125), some (.ref 126), some (.int (nI i)), l6, l7, l8] [] h := by
  obtain ⟨s, sc, sm, P, ch, ea, fa, sv, lf, ln, tx, tp, cp, mp, I, hv, hp, h1', h2', h3, h4, h5, h6, h7⟩ := g1
  have c0 := cp.c0
  have e116 := mp
  obtain ⟨an9, he9, cm9, W9, F9, C9, m116, _⟩ := e116
  refine J_aload_n (by rfl) (by rfl) dL_law_1896 ?_
  refine J_V0v (ci := 10) dL_law_1897 s_L_265 m_X10_updatesLeftByCounting rfl (by repeat (first | assumption | exact jget_same2 (by (try simp only [List.length_set]); exact jlt (by assumption)) | refine jget_ne (by first | decide | assumption | omega) ?_)) rfl (c_X10_updatesLeftByCounting I cp (jKv_i ?_)) (hf := jfit_k rfl rfl (by omega) (by omega))
  refine J_aload_n (by rfl) (by rfl) dL_law_1900 ?_
  refine J_V0v (ci := 11) dL_law_1901 s_L_268 m_X11_updatesLeftByCounting rfl (by repeat (first | assumption | exact jget_same2 (by (try simp only [List.length_set]); exact jlt (by assumption)) | refine jget_ne (by first | decide | assumption | omega) ?_)) rfl (c_X11_updatesLeftByCounting I mp (fun h2 hf2 mp2 => (jKv_i ?_))) (hf := jfit_k rfl rfl (by omega) (by omega))
  have cp2 := cp.frm hf2 (fun j hj => by show ¬ (_ ∧ _); omega)
  have ji : JI (K + 13) h2 0 := ⟨_, sc, sm, P, _, ea, fa, sv, lf, ln, tx, tp, cp2, mp2, I.mono (by omega), fun w => ⟨(hv w).1.mono (by omega), (hv w).2⟩, hp.mono (by omega), h1', h2', h3, h4, h5, h6, h7⟩
  refine J_icmp_eq 2508 dL_law_1904 (by decide) (fun c1904 => ?_) (fun c1904 => ?_)
  · exact J_widen (by omega) (by omega) (next h2 _ f g _ _ _ ji (hf2.at (by decide) o1) (hf2.at (by decide) o2))
  · exact absurd rfl c1904
end LAWN
