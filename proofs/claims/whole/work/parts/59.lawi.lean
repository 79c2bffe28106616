/-! The law's body: questions that catch nothing but work; save, writeRoute -/
section LAWI
variable {G : jG} {F : jF} {h : jH} {i kc kn K th : Nat} {l6 l7 l8 : Option Value} {f : Nat → Int64} {g : Nat → UInt64}
theorem lawg_isTouring (hi : i + 4 ≤ g_L G) (hL : g_L G ≤ 2048) (hc : kc + 10 ≤ room_1.cells) (hn : kn + 60 ≤ room_1.slots) (hK : K < 2 ^ 29) (g1 : JI K h th) (o1 : h[125]? = some (.inl (3, 1, .inr (.inl f)))) (o2 : h[126]? = some (.inl (4, 1, .inr (.inr (.inr (.inl g))))))
    (next : ∀ h' th' f' g' l6 l7 l8, JI (K + 13) h' th' → h'[125]? = some (.inl (3, 1, .inr (.inl f'))) → h'[126]? = some (.inl (4, 1, .inr (.inr (.inr (.inl g'))))) → J G room_1 F M_L_law false (kc + 10) (kn + 60) 2508 [some (.retAddr 0), some (.ref 0), some (.ref 116), some (.ref 125), some (.ref 126), some (.int (nI i)), l6, l7, l8] [] h') :
    J G room_1 F M_L_law false kc kn 1418 [some (.retAddr 0), some (.ref 0), some (.ref 116), some (.ref 125), some (.ref 126), some (.int (nI i)), l6, l7, l8] [] h := by
  obtain ⟨s, sc, sm, P, ch, ea, fa, sv, lf, ln, tx, tp, cp, mp, I, hv, hp, h1', h2', h3, h4, h5, h6, h7⟩ := g1
  have c0 := cp.c0
  have e116 := mp
  obtain ⟨an9, he9, cm9, W9, F9, C9, m116, _⟩ := e116
  refine J_aload_n (by rfl) (by rfl) dL_law_1418 ?_
  refine J_V0v (ci := 10) dL_law_1419 s_L_216 m_X10_isTouring rfl (by repeat (first | assumption | exact jget_same2 (by (try simp only [List.length_set]); exact jlt (by assumption)) | refine jget_ne (by first | decide | assumption | omega) ?_)) rfl (c_X10_isTouring I cp (jKv_i ?_)) (hf := jfit_k rfl rfl (by omega) (by omega))
  have mp4 := mp
  have cp4 := cp
  have o14 := o1
  have o24 := o2
  have e117 := mp4
  obtain ⟨an7, he7, cm7, W7, F7, C7, m1164, _⟩ := e117
  refine J_aload_n (by rfl) (by rfl) dL_law_1422 ?_
  refine J_V0v (ci := 11) dL_law_1423 s_L_220 m_X11_isTouring rfl (by repeat (first | assumption | exact jget_same2 (by (try simp only [List.length_set]); exact jlt (by assumption)) | refine jget_ne (by first | decide | assumption | omega) ?_)) rfl (c_X11_isTouring I mp4 (fun h2 hf2 mp2 => (jKv_i ?_))) (hf := jfit_k rfl rfl (by omega) (by omega))
  have ji : JI (K + 13) h2 0 := ⟨_, sc, sm, P, _, ea, fa, sv, lf, ln, tx, tp, (cp4).frm hf2 (fun j hj => by show ¬ (_ ∧ _); omega), mp2, I.mono (by omega), fun w => ⟨(hv w).1.mono (by omega), (hv w).2⟩, hp.mono (by omega), h1', h2', h3, h4, h5, h6, h7⟩
  refine J_icmp_eq 2508 dL_law_1426 (by decide) (fun c1426 => ?_) (fun c1426 => ?_)
  · exact J_widen (by omega) (by omega) (next h2 _ f g _ _ _ ji (hf2.at (by decide) o14) (hf2.at (by decide) o24))
  · exact absurd rfl c1426
theorem lawg_isAlarm (hi : i + 4 ≤ g_L G) (hL : g_L G ≤ 2048) (hc : kc + 10 ≤ room_1.cells) (hn : kn + 60 ≤ room_1.slots) (hK : K < 2 ^ 29) (g1 : JI K h th) (o1 : h[125]? = some (.inl (3, 1, .inr (.inl f)))) (o2 : h[126]? = some (.inl (4, 1, .inr (.inr (.inr (.inl g))))))
    (next : ∀ h' th' f' g' l6 l7 l8, JI (K + 13) h' th' → h'[125]? = some (.inl (3, 1, .inr (.inl f'))) → h'[126]? = some (.inl (4, 1, .inr (.inr (.inr (.inl g'))))) → J G room_1 F M_L_law false (kc + 10) (kn + 60) 2508 [some (.retAddr 0), some (.ref 0), some (.ref 116), some (.ref 125), some (.ref 126), some (.int (nI i)), l6, l7, l8] [] h') :
    J G room_1 F M_L_law false kc kn 1763 [some (.retAddr 0), some (.ref 0), some (.ref 116), some (.ref 125), some (.ref 126), some (.int (nI i)), l6, l7, l8] [] h := by
  obtain ⟨s, sc, sm, P, ch, ea, fa, sv, lf, ln, tx, tp, cp, mp, I, hv, hp, h1', h2', h3, h4, h5, h6, h7⟩ := g1
  have c0 := cp.c0
  have e116 := mp
  obtain ⟨an9, he9, cm9, W9, F9, C9, m116, _⟩ := e116
  refine J_aload_n (by rfl) (by rfl) dL_law_1763 ?_
  refine J_V0v (ci := 10) dL_law_1764 s_L_242 m_X10_isAlarm rfl (by repeat (first | assumption | exact jget_same2 (by (try simp only [List.length_set]); exact jlt (by assumption)) | refine jget_ne (by first | decide | assumption | omega) ?_)) rfl (c_X10_isAlarm I cp (jKv_i ?_)) (hf := jfit_k rfl rfl (by omega) (by omega))
  have mp4 := mp
  have cp4 := cp
  have o14 := o1
  have o24 := o2
  have e117 := mp4
  obtain ⟨an7, he7, cm7, W7, F7, C7, m1164, _⟩ := e117
  refine J_aload_n (by rfl) (by rfl) dL_law_1767 ?_
  refine J_V0v (ci := 11) dL_law_1768 s_L_245 m_X11_isAlarm rfl (by repeat (first | assumption | exact jget_same2 (by (try simp only [List.length_set]); exact jlt (by assumption)) | refine jget_ne (by first | decide | assumption | omega) ?_)) rfl (c_X11_isAlarm I mp4 (fun h2 hf2 mp2 => (jKv_i ?_))) (hf := jfit_k rfl rfl (by omega) (by omega))
  have ji : JI (K + 13) h2 0 := ⟨_, sc, sm, P, _, ea, fa, sv, lf, ln, tx, tp, (cp4).frm hf2 (fun j hj => by show ¬ (_ ∧ _); omega), mp2, I.mono (by omega), fun w => ⟨(hv w).1.mono (by omega), (hv w).2⟩, hp.mono (by omega), h1', h2', h3, h4, h5, h6, h7⟩
  refine J_icmp_eq 2508 dL_law_1771 (by decide) (fun c1771 => ?_) (fun c1771 => ?_)
  · exact J_widen (by omega) (by omega) (next h2 _ f g _ _ _ ji (hf2.at (by decide) o14) (hf2.at (by decide) o24))
  · exact absurd rfl c1771
theorem lawg_components (hi : i + 4 ≤ g_L G) (hL : g_L G ≤ 2048) (hc : kc + 10 ≤ room_1.cells) (hn : kn + 60 ≤ room_1.slots) (hK : K < 2 ^ 29) (g1 : JI K h th) (o1 : h[125]? = some (.inl (3, 1, .inr (.inl f)))) (o2 : h[126]? = some (.inl (4, 1, .inr (.inr (.inr (.inl g))))))
    (next : ∀ h' th' f' g' l6 l7 l8, JI (K + 13) h' th' → h'[125]? = some (.inl (3, 1, .inr (.inl f'))) → h'[126]? = some (.inl (4, 1, .inr (.inr (.inr (.inl g'))))) → J G room_1 F M_L_law false (kc + 10) (kn + 60) 2508 [some (.retAddr 0), some (.ref 0), some (.ref 116), some (.ref 125), some (.ref 126), some (.int (nI i)), l6, l7, l8] [] h') :
    J G room_1 F M_L_law false kc kn 1324 [some (.retAddr 0), some (.ref 0), some (.ref 116), some (.ref 125), some (.ref 126), some (.int (nI i)), l6, l7, l8] [] h := by
  obtain ⟨s, sc, sm, P, ch, ea, fa, sv, lf, ln, tx, tp, cp, mp, I, hv, hp, h1', h2', h3, h4, h5, h6, h7⟩ := g1
  have c0 := cp.c0
  have e116 := mp
  obtain ⟨an9, he9, cm9, W9, F9, C9, m116, _⟩ := e116
  refine J_aload_n (by rfl) (by rfl) dL_law_1324 ?_
  refine J_V0v (ci := 10) dL_law_1325 s_L_205 m_X10_components rfl (by repeat (first | assumption | exact jget_same2 (by (try simp only [List.length_set]); exact jlt (by assumption)) | refine jget_ne (by first | decide | assumption | omega) ?_)) rfl (c_X10_components I cp (fun k4 hf4 cp4 => (jKv_i ?_))) (hf := jfit_k rfl rfl (by omega) (by omega))
  have mp4 := MPc.frm mp hf4 (fun j a b => by first | omega | (show ¬ (_ ∧ _); omega) | (show ¬ (_ ≤ _); omega))
  have o14 := hf4.at (by first | decide | omega | (show ¬ (_ ∧ _); omega) | (show ¬ (_ ≤ _); omega)) o1
  have o24 := hf4.at (by first | decide | omega | (show ¬ (_ ∧ _); omega) | (show ¬ (_ ≤ _); omega)) o2
  have e117 := mp4
  obtain ⟨an7, he7, cm7, W7, F7, C7, m1164, _⟩ := e117
  refine J_aload_n (by rfl) (by rfl) dL_law_1328 ?_
  refine J_V0v (ci := 11) dL_law_1329 s_L_208 m_X11_components rfl (by repeat (first | assumption | exact jget_same2 (by (try simp only [List.length_set]); exact jlt (by assumption)) | refine jget_ne (by first | decide | assumption | omega) ?_)) rfl (c_X11_components I mp4 (fun h2 hf2 mp2 => (jKv_i ?_))) (hf := jfit_k rfl rfl (by omega) (by omega))
  have ji : JI (K + 13) h2 0 := ⟨_, sc, sm, P, _, ea, fa, sv, lf, ln, tx, tp, (cp4).frm hf2 (fun j hj => by show ¬ (_ ∧ _); omega), mp2, I.mono (by omega), fun w => ⟨(hv w).1.mono (by omega), (hv w).2⟩, hp.mono (by omega), h1', h2', h3, h4, h5, h6, h7⟩
  refine J_icmp_eq 2508 dL_law_1332 (by decide) (fun c1332 => ?_) (fun c1332 => ?_)
  · exact J_widen (by omega) (by omega) (next h2 _ f g _ _ _ ji (hf2.at (by decide) o14) (hf2.at (by decide) o24))
  · exact absurd rfl c1332
theorem lawg_componentsByMerging (hi : i + 4 ≤ g_L G) (hL : g_L G ≤ 2048) (hc : kc + 10 ≤ room_1.cells) (hn : kn + 60 ≤ room_1.slots) (hK : K < 2 ^ 29) (g1 : JI K h th) (o1 : h[125]? = some (.inl (3, 1, .inr (.inl f)))) (o2 : h[126]? = some (.inl (4, 1, .inr (.inr (.inr (.inl g))))))
    (next : ∀ h' th' f' g' l6 l7 l8, JI (K + 13) h' th' → h'[125]? = some (.inl (3, 1, .inr (.inl f'))) → h'[126]? = some (.inl (4, 1, .inr (.inr (.inr (.inl g'))))) → J G room_1 F M_L_law false (kc + 10) (kn + 60) 2508 [some (.retAddr 0), some (.ref 0), some (.ref 116), some (.ref 125), some (.ref 126), some (.int (nI i)), l6, l7, l8] [] h') :
    J G room_1 F M_L_law false kc kn 1337 [some (.retAddr 0), some (.ref 0), some (.ref 116), some (.ref 125), some (.ref 126), some (.int (nI i)), l6, l7, l8] [] h := by
  obtain ⟨s, sc, sm, P, ch, ea, fa, sv, lf, ln, tx, tp, cp, mp, I, hv, hp, h1', h2', h3, h4, h5, h6, h7⟩ := g1
  have c0 := cp.c0
  have e116 := mp
  obtain ⟨an9, he9, cm9, W9, F9, C9, m116, _⟩ := e116
  refine J_aload_n (by rfl) (by rfl) dL_law_1337 ?_
  refine J_V0v (ci := 10) dL_law_1338 s_L_209 m_X10_componentsByMerging rfl (by repeat (first | assumption | exact jget_same2 (by (try simp only [List.length_set]); exact jlt (by assumption)) | refine jget_ne (by first | decide | assumption | omega) ?_)) rfl (c_X10_componentsByMerging I cp (fun k4 hf4 cp4 => (jKv_i ?_))) (hf := jfit_k rfl rfl (by omega) (by omega))
  have mp4 := MPc.frm mp hf4 (fun j a b => by first | omega | (show ¬ (_ ∧ _); omega) | (show ¬ (_ ≤ _); omega))
  have o14 := hf4.at (by first | decide | omega | (show ¬ (_ ∧ _); omega) | (show ¬ (_ ≤ _); omega)) o1
  have o24 := hf4.at (by first | decide | omega | (show ¬ (_ ∧ _); omega) | (show ¬ (_ ≤ _); omega)) o2
  have e117 := mp4
  obtain ⟨an7, he7, cm7, W7, F7, C7, m1164, _⟩ := e117
  refine J_aload_n (by rfl) (by rfl) dL_law_1341 ?_
  refine J_V0v (ci := 11) dL_law_1342 s_L_212 m_X11_componentsByMerging rfl (by repeat (first | assumption | exact jget_same2 (by (try simp only [List.length_set]); exact jlt (by assumption)) | refine jget_ne (by first | decide | assumption | omega) ?_)) rfl (c_X11_componentsByMerging I mp4 (fun h2 hf2 mp2 => (jKv_i ?_))) (hf := jfit_k rfl rfl (by omega) (by omega))
  have ji : JI (K + 13) h2 0 := ⟨_, sc, sm, P, _, ea, fa, sv, lf, ln, tx, tp, (cp4).frm hf2 (fun j hj => by show ¬ (_ ∧ _); omega), mp2, I.mono (by omega), fun w => ⟨(hv w).1.mono (by omega), (hv w).2⟩, hp.mono (by omega), h1', h2', h3, h4, h5, h6, h7⟩
  refine J_icmp_eq 2508 dL_law_1345 (by decide) (fun c1345 => ?_) (fun c1345 => ?_)
  · exact J_widen (by omega) (by omega) (next h2 _ f g _ _ _ ji (hf2.at (by decide) o14) (hf2.at (by decide) o24))
  · exact absurd rfl c1345
theorem lawg_isConsistent (hi : i + 4 ≤ g_L G) (hL : g_L G ≤ 2048) (hc : kc + 10 ≤ room_1.cells) (hn : kn + 60 ≤ room_1.slots) (hK : K < 2 ^ 29) (g1 : JI K h th) (o1 : h[125]? = some (.inl (3, 1, .inr (.inl f)))) (o2 : h[126]? = some (.inl (4, 1, .inr (.inr (.inr (.inl g))))))
    (next : ∀ h' th' f' g' l6 l7 l8, JI (K + 13) h' th' → h'[125]? = some (.inl (3, 1, .inr (.inl f'))) → h'[126]? = some (.inl (4, 1, .inr (.inr (.inr (.inl g'))))) → J G room_1 F M_L_law false (kc + 10) (kn + 60) 2508 [some (.retAddr 0), some (.ref 0), some (.ref 116), some (.ref 125), some (.ref 126), some (.int (nI i)), l6, l7, l8] [] h') :
    J G room_1 F M_L_law false kc kn 2079 [some (.retAddr 0), some (.ref 0), some (.ref 116), some (.ref 125), some (.ref 126), some (.int (nI i)), l6, l7, l8] [] h := by
  obtain ⟨s, sc, sm, P, ch, ea, fa, sv, lf, ln, tx, tp, cp, mp, I, hv, hp, h1', h2', h3, h4, h5, h6, h7⟩ := g1
  have c0 := cp.c0
  have e116 := mp
  obtain ⟨an9, he9, cm9, W9, F9, C9, m116, _⟩ := e116
  refine J_aload_n (by rfl) (by rfl) dL_law_2079 ?_
  refine J_V0v (ci := 10) dL_law_2080 s_L_288 m_X10_isConsistent rfl (by repeat (first | assumption | exact jget_same2 (by (try simp only [List.length_set]); exact jlt (by assumption)) | refine jget_ne (by first | decide | assumption | omega) ?_)) rfl (c_X10_isConsistent I cp (fun k4 hf4 cp4 => (jKv_i ?_))) (hf := jfit_k rfl rfl (by omega) (by omega))
  have mp4 := MPc.frm mp hf4 (fun j a b => by first | omega | (show ¬ (_ ∧ _); omega) | (show ¬ (_ ≤ _); omega))
  have o14 := hf4.at (by first | decide | omega | (show ¬ (_ ∧ _); omega) | (show ¬ (_ ≤ _); omega)) o1
  have o24 := hf4.at (by first | decide | omega | (show ¬ (_ ∧ _); omega) | (show ¬ (_ ≤ _); omega)) o2
  have e117 := mp4
  obtain ⟨an7, he7, cm7, W7, F7, C7, m1164, _⟩ := e117
  refine J_aload_n (by rfl) (by rfl) dL_law_2083 ?_
  refine J_V0v (ci := 11) dL_law_2084 s_L_291 m_X11_isConsistent rfl (by repeat (first | assumption | exact jget_same2 (by (try simp only [List.length_set]); exact jlt (by assumption)) | refine jget_ne (by first | decide | assumption | omega) ?_)) rfl (c_X11_isConsistent I mp4 (fun h2 hf2 mp2 => (jKv_i ?_))) (hf := jfit_k rfl rfl (by omega) (by omega))
  have ji : JI (K + 13) h2 0 := ⟨_, sc, sm, P, _, ea, fa, sv, lf, ln, tx, tp, (cp4).frm hf2 (fun j hj => by show ¬ (_ ∧ _); omega), mp2, I.mono (by omega), fun w => ⟨(hv w).1.mono (by omega), (hv w).2⟩, hp.mono (by omega), h1', h2', h3, h4, h5, h6, h7⟩
  refine J_icmp_eq 2508 dL_law_2087 (by decide) (fun c2087 => ?_) (fun c2087 => ?_)
  · exact J_widen (by omega) (by omega) (next h2 _ f g _ _ _ ji (hf2.at (by decide) o14) (hf2.at (by decide) o24))
  · exact absurd rfl c2087
theorem lawg_save (hi : i + 4 ≤ g_L G) (hL : g_L G ≤ 2048) (hc : kc + 10 ≤ room_1.cells) (hn : kn + 60 ≤ room_1.slots) (hK : K < 2 ^ 29) (g1 : JI K h th) (o1 : h[125]? = some (.inl (3, 1, .inr (.inl f)))) (o2 : h[126]? = some (.inl (4, 1, .inr (.inr (.inr (.inl g))))))
    (next : ∀ h' th' f' g' l6 l7 l8, JI (K + 13) h' th' → h'[125]? = some (.inl (3, 1, .inr (.inl f'))) → h'[126]? = some (.inl (4, 1, .inr (.inr (.inr (.inl g'))))) → J G room_1 F M_L_law false (kc + 10) (kn + 60) 2508 [some (.retAddr 0), some (.ref 0), some (.ref 116), some (.ref 125), some (.ref 126), some (.int (nI i)), l6, l7, l8] [] h') :
    J G room_1 F M_L_law false kc kn 2451 [some (.retAddr 0), some (.ref 0), some (.ref 116), some (.ref 125), some (.ref 126), some (.int (nI i)), l6, l7, l8] [] h := by
  obtain ⟨s, sc, sm, P, ch, ea, fa, sv, lf, ln, tx, tp, cp, mp, I, hv, hp, h1', h2', h3, h4, h5, h6, h7⟩ := g1
  have c0 := cp.c0
  have e116 := mp
  obtain ⟨an9, he9, cm9, W9, F9, C9, m116, _⟩ := e116
  refine J_aload_n (by rfl) (by rfl) dL_law_2451 ?_
  refine J_V0v (ci := 10) dL_law_2452 s_L_318 m_X10_save rfl (by repeat (first | assumption | exact jget_same2 (by (try simp only [List.length_set]); exact jlt (by assumption)) | refine jget_ne (by first | decide | assumption | omega) ?_)) rfl (c_X10_save I cp (fun k4 hf4 cp4 => (jKv_i ?_))) (hf := jfit_k rfl rfl (by omega) (by omega))
  have mp4 := MPc.frm mp hf4 (fun j a b => by first | omega | (show ¬ (_ ∧ _); omega) | (show ¬ (_ ≤ _); omega))
  have o14 := hf4.at (by first | decide | omega | (show ¬ (_ ∧ _); omega) | (show ¬ (_ ≤ _); omega)) o1
  have o24 := hf4.at (by first | decide | omega | (show ¬ (_ ∧ _); omega) | (show ¬ (_ ≤ _); omega)) o2
  have e117 := mp4
  obtain ⟨an7, he7, cm7, W7, F7, C7, m1164, _⟩ := e117
  refine J_aload_n (by rfl) (by rfl) dL_law_2455 ?_
  refine J_V0v (ci := 11) dL_law_2456 s_L_321 m_X11_save rfl (by repeat (first | assumption | exact jget_same2 (by (try simp only [List.length_set]); exact jlt (by assumption)) | refine jget_ne (by first | decide | assumption | omega) ?_)) rfl (c_X11_save mp4 (fun h2 s9 hf2 e9 mp2 => (jKv_i ?_))) (hf := jfit_k rfl rfl (by omega) (by omega))
  have ji : JI (K + 13) h2 0 := ⟨_, _, s9, P, _, ea, fa, _, lf, ln, tx, tp, (cp4).frm hf2 (fun j hj => by show ¬ (_ ∧ _); omega), mp2, I.mono (by omega), fun _ => ⟨I.mono (by omega), e9⟩, hp.mono (by omega), h1', h2', h3, h4, h5, h6, h7⟩
  refine J_icmp_eq 2508 dL_law_2459 (by decide) (fun c2459 => ?_) (fun c2459 => ?_)
  · exact J_widen (by omega) (by omega) (next h2 _ f g _ _ _ ji (hf2.at (by decide) o14) (hf2.at (by decide) o24))
  · exact absurd rfl c2459
theorem lawg_writeRoute (hi : i + 4 ≤ g_L G) (hL : g_L G ≤ 2048) (hc : kc + 10 ≤ room_1.cells) (hn : kn + 60 ≤ room_1.slots) (hK : K < 2 ^ 29) (g1 : JI K h th) (o1 : h[125]? = some (.inl (3, 1, .inr (.inl f)))) (o2 : h[126]? = some (.inl (4, 1, .inr (.inr (.inr (.inl g))))))
    (next : ∀ h' th' f' g' l6 l7 l8, JI (K + 13) h' th' → h'[125]? = some (.inl (3, 1, .inr (.inl f'))) → h'[126]? = some (.inl (4, 1, .inr (.inr (.inr (.inl g'))))) → J G room_1 F M_L_law false (kc + 10) (kn + 60) 2508 [some (.retAddr 0), some (.ref 0), some (.ref 116), some (.ref 125), some (.ref 126), some (.int (nI i)), l6, l7, l8] [] h') :
    J G room_1 F M_L_law false kc kn 2092 [some (.retAddr 0), some (.ref 0), some (.ref 116), some (.ref 125), some (.ref 126), some (.int (nI i)), l6, l7, l8] [] h := by
  obtain ⟨s, sc, sm, P, ch, ea, fa, sv, lf, ln, tx, tp, cp, mp, I, hv, hp, h1', h2', h3, h4, h5, h6, h7⟩ := g1
  have c0 := cp.c0
  have e116 := mp
  obtain ⟨an9, he9, cm9, W9, F9, C9, m116, _⟩ := e116
  have hln := routeL_len s lf (s 1)
  have hsg : Sgn (routeL s lf (s 1)) := routeL_sgn lf (s 1) (fun j hj => by
    have h9 := (I.t (by omega)).2.2.2.2.2.2 j hj
    have := I.n12
    omega)
  refine J_aload_n (by rfl) (by rfl) dL_law_2092 ?_
  refine J_V0v (ci := 10) dL_law_2093 s_L_292 m_X10_writeRoute rfl (by repeat (first | assumption | exact jget_same2 (by (try simp only [List.length_set]); exact jlt (by assumption)) | refine jget_ne (by first | decide | assumption | omega) ?_)) rfl (c_X10_writeRoute I cp (fun k4 hf4 cp4 => (jKv_i ?_))) (hf := jfit_k rfl rfl (by omega) (by omega))
  have mp4 := MPc.frm mp hf4 (fun j a b => by first | omega | (show ¬ (_ ∧ _); omega) | (show ¬ (_ ≤ _); omega))
  have o14 := hf4.at (by first | decide | omega | (show ¬ (_ ∧ _); omega) | (show ¬ (_ ≤ _); omega)) o1
  have o24 := hf4.at (by first | decide | omega | (show ¬ (_ ∧ _); omega) | (show ¬ (_ ≤ _); omega)) o2
  have e117 := mp4
  obtain ⟨an7, he7, cm7, W7, F7, C7, m1164, _⟩ := e117
  refine J_aload_n (by rfl) (by rfl) dL_law_2096 ?_
  refine J_V0v (ci := 11) dL_law_2097 s_L_295 m_X11_writeRoute rfl (by repeat (first | assumption | exact jget_same2 (by (try simp only [List.length_set]); exact jlt (by assumption)) | refine jget_ne (by first | decide | assumption | omega) ?_)) rfl (c_X11_writeRoute I mp4 (fun h2 hf2 mp2 => (jKv_i ?_))) (hf := jfit_k rfl rfl (by omega) (by omega))
  have ji : JI (K + 13) h2 0 := ⟨_, sc, sm, P, _, ea, fa, sv, _, _, tx, tp, (cp4).frm hf2 (fun j hj => by show ¬ (_ ∧ _); omega), mp2, I.mono (by omega), fun w => ⟨(hv w).1.mono (by omega), (hv w).2⟩, hp.mono (by omega), h1', h2', h3, (by have := I.s1; omega), hsg, h6, h7⟩
  refine J_icmp_eq 2508 dL_law_2100 (by decide) (fun c2100 => ?_) (fun c2100 => ?_)
  · exact J_widen (by omega) (by omega) (next h2 _ f g _ _ _ ji (hf2.at (by decide) o14) (hf2.at (by decide) o24))
  · exact absurd rfl c2100
end LAWI
