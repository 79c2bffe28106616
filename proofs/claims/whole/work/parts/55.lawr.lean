/-! The law's body: more questions that leave the class's heap as it is -/
section LAWR
variable {G : jG} {F : jF} {h : jH} {i kc kn K th : Nat} {l6 l7 l8 : Option Value} {f : Nat → Int64} {g : Nat → UInt64}
theorem lawq_trailLength (hi : i + 4 ≤ g_L G) (hL : g_L G ≤ 2048) (hc : kc + 10 ≤ room_1.cells) (hn : kn + 60 ≤ room_1.slots) (hK : K < 2 ^ 29) (g1 : JI K h th) (o1 : h[125]? = some (.inl (3, 1, .inr (.inl f)))) (o2 : h[126]? = some (.inl (4, 1, .inr (.inr (.inr (.inl g))))))
    (next : ∀ h' th' f' g' l6 l7 l8, JI (K + 13) h' th' → h'[125]? = some (.inl (3, 1, .inr (.inl f'))) → h'[126]? = some (.inl (4, 1, .inr (.inr (.inr (.inl g'))))) → J G room_1 F M_L_law false (kc + 10) (kn + 60) 2508 [some (.retAddr 0), some (.ref 0), some (.ref 116), some (.ref 125), some (.ref 126), some (.int (nI i)), l6, l7, l8] [] h') :
    J G room_1 F M_L_law false kc kn 1120 [some (.retAddr 0), some (.ref 0), some (.ref 116), some (.ref 125), some (.ref 126), some (.int (nI i)), l6, l7, l8] [] h := by
  obtain ⟨s, sc, sm, P, ch, ea, fa, sv, lf, ln, tx, tp, cp, mp, I, hv, hp, h1', h2', h3, h4, h5, h6, h7⟩ := g1
  have c0 := cp.c0
  refine J_aload_n (by rfl) (by rfl) dL_law_1120 ?_
  refine J_aload_n (by rfl) (by rfl) dL_law_1121 ?_
  refine J_iload (by rfl) dL_law_1122 ?_
  refine J_iconst (nI 1) (by decide) dL_law_1124 ?_
  refine J_iadd dL_law_1125 ?_
  try rw [nI_add]
  refine J_xald (i + 1) dL_law_1126 rfl (by omega) (by omega) ?_
  refine J_aload_n (by rfl) (by rfl) dL_law_1127 ?_
  refine J_iload (by rfl) dL_law_1128 ?_
  refine J_iconst (nI 2) (by decide) dL_law_1130 ?_
  refine J_iadd dL_law_1131 ?_
  try rw [nI_add]
  refine J_xald (i + 2) dL_law_1132 rfl (by omega) (by omega) ?_
  obtain ⟨x, hx⟩ : ∃ x, x = g_S G (i + 1) := ⟨_, rfl⟩
  obtain ⟨y, hy⟩ : ∃ y, y = g_S G (i + 2) := ⟨_, rfl⟩
  rw [← hx, ← hy]
  have cont : ∀ (h1 : jH) (f1 : Nat → Int64), jFr (fun j => j = 125) h h1 → h1[125]? = some (.inl (3, 1, .inr (.inl f1))) → (T2 s x y = 0 → f1 0 = (nI (wS s (nP x * 12 + nP y))).toInt64) → J G room_1 F M_L_law false (kc + 3) (kn + 18) 1137 [some (.retAddr 0), some (.ref 0), some (.ref 116), some (.ref 125), some (.ref 126), some (.int (nI i)), l6, l7, l8] [.int (nI (T2 s x y))] h1 := by
    intro h1 f1 hf1 q1 q2
    have cp1 := cp.frm hf1 (fun j hj => by omega)
    have mp1 := MPc.frm mp hf1 (fun j a b => by omega)
    have q3 := hf1.at (by decide) o2
    have e116 := mp1
    obtain ⟨an9, he9, cm9, W9, F9, C9, m116, _⟩ := e116
    refine J_istore_6 dL_law_1137 ?_
    refine J_aload_n (by rfl) (by rfl) dL_law_1139 ?_
    refine J_aload_n (by rfl) (by rfl) dL_law_1140 ?_
    refine J_iload (by rfl) dL_law_1141 ?_
    refine J_iconst (nI 1) (by decide) dL_law_1143 ?_
    refine J_iadd dL_law_1144 ?_
    try rw [nI_add]
    refine J_xald (i + 1) dL_law_1145 rfl (by omega) (by omega) ?_
    refine J_aload_n (by rfl) (by rfl) dL_law_1146 ?_
    refine J_iload (by rfl) dL_law_1147 ?_
    refine J_iconst (nI 2) (by decide) dL_law_1149 ?_
    refine J_iadd dL_law_1150 ?_
    try rw [nI_add]
    refine J_xald (i + 2) dL_law_1151 rfl (by omega) (by omega) ?_
    rw [← hx, ← hy]
    refine J_V2v (ci := 11) dL_law_1152 s_L_198 m_X11_trailLength rfl (by repeat (first | assumption | exact jget_same2 (by (try simp only [List.length_set]); exact jlt (by assumption)) | refine jget_ne (by first | decide | assumption | omega) ?_)) rfl (c_X11_trailLength x y I mp1 (fun h2 hf2 mp2 => (jKv_i ?_))) (hf := jfit_k rfl rfl (by omega) (by omega))
    refine J_istore_7 dL_law_1155 ?_
    refine J_aload_n (by rfl) (by rfl) dL_law_1157 ?_
    have cp2 := cp1.frm hf2 (fun j hj => by show ¬ (_ ∧ _); omega)
    have e116 := mp2
    obtain ⟨an8, he8, cm8, W8, F8, C8, m1162, _⟩ := e116
    have o12 := hf2.at (by decide) q1
    have o22 := hf2.at (by decide) q3
    have ji : JI (K + 13) h2 (T2 s x y) := ⟨_, sc, sm, P, _, ea, fa, sv, lf, ln, tx, tp, cp2, mp2, I.mono (by omega), fun w => ⟨(hv w).1.mono (by omega), (hv w).2⟩, hp.mono (by omega), h1', h2', h3, h4, h5, h6, h7⟩
    have hT2 : T2 s x y ≤ 2 := by unfold T2; (try split) <;> (try split) <;> (try split) <;> (try split) <;> omega
    refine J_V0v (ci := 11) dL_law_1158 s_L_146 m_X11_thrown rfl (by repeat (first | assumption | exact jget_same2 (by (try simp only [List.length_set]); exact jlt (by assumption)) | refine jget_ne (by first | decide | assumption | omega) ?_)) rfl (c_X11_thrown mp2 (jKv_i ?_)) (hf := jfit_k rfl rfl (by omega) (by omega))
    refine J_iload (by rfl) dL_law_1161 ?_
    refine J_icmp_eq 1168 dL_law_1163 (by decide) (fun c1163 => ?_) (fun c1163 => ?_)
    · refine J_iload (by rfl) dL_law_1168 ?_
      refine J_if_ne_n 1185 dL_law_1170 (by decide) (fun c1170 => ?_) (fun c1170 => ?_)
      · refine J_goto 2508 dL_law_1185 (by decide) ?_
        exact J_widen (by omega) (by omega) (next h2 _ f1 g _ _ _ ji o12 o22)
      · refine J_aload_n (by rfl) (by rfl) dL_law_1173 ?_
        refine J_iconst (nI 0) (by decide) dL_law_1174 ?_
        refine J_lald (0) dL_law_1175 (by repeat (first | assumption | exact jget_same2 (by (try simp only [List.length_set]); exact jlt (by assumption)) | refine jget_ne (by first | decide | assumption | omega) ?_)) (by first | rfl | (simp only [pk_mul, nI_add]; done) | (simp only [pk_mul, nI_add]; congr 1; omega) | (congr 1; omega)) (by omega) ?_
        refine J_iload (by rfl) dL_law_1176 ?_
        refine J_i2l dL_law_1178 ?_
        refine J_lcmp dL_law_1179 ?_
        refine J_topi (nI 0) (by rw [q2 (by omega), if_pos (by omega)]; unfold lg_cmp; simp; rfl) ?_
        refine J_if_eq_n 1185 dL_law_1180 (by decide) (fun c1180 => ?_) (fun c1180 => ?_)
        · refine J_goto 2508 dL_law_1185 (by decide) ?_
          exact J_widen (by omega) (by omega) (next h2 _ f1 g _ _ _ ji o12 o22)
        · exact absurd c1180 (Nat.lt_irrefl 0)
    · exact absurd rfl c1163
  refine J_aload_n (by rfl) (by rfl) dL_law_1133 ?_
  refine J_SX4v dL_law_1134 s_L_196 m_L_trailLength rfl (w_trailLength x y c0 (fun Q' k1 k2 => c_X10_trailLength x y I cp (fun hc => k1 _ _ _ o1 (jKv_i ?_)) (fun hc => k2 _ _ ?_) (fun hc => k2 _ _ ?_))) (jfit_k rfl rfl (by omega) (by omega))
  · have hT : T2 s x y = 0 := hc
    have := cont _ _ (jFr.refl.set 125 (.inl (3, 1, .inr (.inl (vp_updL f 0 (nI (wS s (nP x * 12 + nP y))).toInt64)))) rfl) (jget_same2 (jlt o1)) (fun _ => rfl)
    rw [hT] at this
    exact this
  · have this := cont h f jFr.refl o1 (fun e => by omega)
    rw [hc] at this
    exact .inl ⟨rfl, jKv_i this⟩
  · have this := cont h f jFr.refl o1 (fun e => by omega)
    rw [hc] at this
    exact .inr (⟨rfl, jKv_i this⟩)
theorem lawq_routeWaypoint (hi : i + 4 ≤ g_L G) (hL : g_L G ≤ 2048) (hc : kc + 10 ≤ room_1.cells) (hn : kn + 60 ≤ room_1.slots) (hK : K < 2 ^ 29) (g1 : JI K h th) (o1 : h[125]? = some (.inl (3, 1, .inr (.inl f)))) (o2 : h[126]? = some (.inl (4, 1, .inr (.inr (.inr (.inl g))))))
    (next : ∀ h' th' f' g' l6 l7 l8, JI (K + 13) h' th' → h'[125]? = some (.inl (3, 1, .inr (.inl f'))) → h'[126]? = some (.inl (4, 1, .inr (.inr (.inr (.inl g'))))) → J G room_1 F M_L_law false (kc + 10) (kn + 60) 2508 [some (.retAddr 0), some (.ref 0), some (.ref 116), some (.ref 125), some (.ref 126), some (.int (nI i)), l6, l7, l8] [] h') :
    J G room_1 F M_L_law false kc kn 1475 [some (.retAddr 0), some (.ref 0), some (.ref 116), some (.ref 125), some (.ref 126), some (.int (nI i)), l6, l7, l8] [] h := by
  obtain ⟨s, sc, sm, P, ch, ea, fa, sv, lf, ln, tx, tp, cp, mp, I, hv, hp, h1', h2', h3, h4, h5, h6, h7⟩ := g1
  have c0 := cp.c0
  refine J_aload_n (by rfl) (by rfl) dL_law_1475 ?_
  refine J_aload_n (by rfl) (by rfl) dL_law_1476 ?_
  refine J_iload (by rfl) dL_law_1477 ?_
  refine J_iconst (nI 1) (by decide) dL_law_1479 ?_
  refine J_iadd dL_law_1480 ?_
  try rw [nI_add]
  refine J_xald (i + 1) dL_law_1481 rfl (by omega) (by omega) ?_
  obtain ⟨x, hx⟩ : ∃ x, x = g_S G (i + 1) := ⟨_, rfl⟩
  rw [← hx]
  have cont : ∀ (h1 : jH) (f1 : Nat → Int64), jFr (fun j => j = 125) h h1 → h1[125]? = some (.inl (3, 1, .inr (.inl f1))) → (Tri s x = 0 → f1 0 = (nI (s (192 + nP x))).toInt64) → J G room_1 F M_L_law false (kc + 2) (kn + 12) 1486 [some (.retAddr 0), some (.ref 0), some (.ref 116), some (.ref 125), some (.ref 126), some (.int (nI i)), l6, l7, l8] [.int (nI (Tri s x))] h1 := by
    intro h1 f1 hf1 q1 q2
    have cp1 := cp.frm hf1 (fun j hj => by omega)
    have mp1 := MPc.frm mp hf1 (fun j a b => by omega)
    have q3 := hf1.at (by decide) o2
    have e116 := mp1
    obtain ⟨an9, he9, cm9, W9, F9, C9, m116, _⟩ := e116
    refine J_istore_6 dL_law_1486 ?_
    refine J_aload_n (by rfl) (by rfl) dL_law_1488 ?_
    refine J_aload_n (by rfl) (by rfl) dL_law_1489 ?_
    refine J_iload (by rfl) dL_law_1490 ?_
    refine J_iconst (nI 1) (by decide) dL_law_1492 ?_
    refine J_iadd dL_law_1493 ?_
    try rw [nI_add]
    refine J_xald (i + 1) dL_law_1494 rfl (by omega) (by omega) ?_
    rw [← hx]
    refine J_V1v (ci := 11) dL_law_1495 s_L_226 m_X11_routeWaypoint rfl (by repeat (first | assumption | exact jget_same2 (by (try simp only [List.length_set]); exact jlt (by assumption)) | refine jget_ne (by first | decide | assumption | omega) ?_)) rfl (c_X11_routeWaypoint x I mp1 (fun h2 hf2 mp2 => (jKv_i ?_))) (hf := jfit_k rfl rfl (by omega) (by omega))
    refine J_istore_7 dL_law_1498 ?_
    refine J_aload_n (by rfl) (by rfl) dL_law_1500 ?_
    have cp2 := cp1.frm hf2 (fun j hj => by show ¬ (_ ∧ _); omega)
    have e116 := mp2
    obtain ⟨an8, he8, cm8, W8, F8, C8, m1162, _⟩ := e116
    have o12 := hf2.at (by decide) q1
    have o22 := hf2.at (by decide) q3
    have ji : JI (K + 13) h2 (Tri s x) := ⟨_, sc, sm, P, _, ea, fa, sv, lf, ln, tx, tp, cp2, mp2, I.mono (by omega), fun w => ⟨(hv w).1.mono (by omega), (hv w).2⟩, hp.mono (by omega), h1', h2', h3, h4, h5, h6, h7⟩
    have hT2 : Tri s x ≤ 2 := by unfold Tri; (try split) <;> (try split) <;> (try split) <;> (try split) <;> omega
    refine J_V0v (ci := 11) dL_law_1501 s_L_146 m_X11_thrown rfl (by repeat (first | assumption | exact jget_same2 (by (try simp only [List.length_set]); exact jlt (by assumption)) | refine jget_ne (by first | decide | assumption | omega) ?_)) rfl (c_X11_thrown mp2 (jKv_i ?_)) (hf := jfit_k rfl rfl (by omega) (by omega))
    refine J_iload (by rfl) dL_law_1504 ?_
    refine J_icmp_eq 1511 dL_law_1506 (by decide) (fun c1506 => ?_) (fun c1506 => ?_)
    · refine J_iload (by rfl) dL_law_1511 ?_
      refine J_if_ne_n 1528 dL_law_1513 (by decide) (fun c1513 => ?_) (fun c1513 => ?_)
      · refine J_goto 2508 dL_law_1528 (by decide) ?_
        exact J_widen (by omega) (by omega) (next h2 _ f1 g _ _ _ ji o12 o22)
      · refine J_aload_n (by rfl) (by rfl) dL_law_1516 ?_
        refine J_iconst (nI 0) (by decide) dL_law_1517 ?_
        refine J_lald (0) dL_law_1518 (by repeat (first | assumption | exact jget_same2 (by (try simp only [List.length_set]); exact jlt (by assumption)) | refine jget_ne (by first | decide | assumption | omega) ?_)) (by first | rfl | (simp only [pk_mul, nI_add]; done) | (simp only [pk_mul, nI_add]; congr 1; omega) | (congr 1; omega)) (by omega) ?_
        refine J_iload (by rfl) dL_law_1519 ?_
        refine J_i2l dL_law_1521 ?_
        refine J_lcmp dL_law_1522 ?_
        refine J_topi (nI 0) (by rw [q2 (by omega), if_pos (by omega)]; unfold lg_cmp; simp; rfl) ?_
        refine J_if_eq_n 1528 dL_law_1523 (by decide) (fun c1523 => ?_) (fun c1523 => ?_)
        · refine J_goto 2508 dL_law_1528 (by decide) ?_
          exact J_widen (by omega) (by omega) (next h2 _ f1 g _ _ _ ji o12 o22)
        · exact absurd c1523 (Nat.lt_irrefl 0)
    · exact absurd rfl c1506
  refine J_aload_n (by rfl) (by rfl) dL_law_1482 ?_
  refine J_SX3v dL_law_1483 s_L_224 m_L_routeWaypoint rfl (w_routeWaypoint x c0 (fun Q' k1 k2 => c_X10_routeWaypoint x I cp (fun hc => k1 _ _ _ o1 (jKv_i ?_)) (fun hc => k2 _ _ ?_) (fun hc => k2 _ _ ?_))) (jfit_k rfl rfl (by omega) (by omega))
  · have hT : Tri s x = 0 := hc
    have := cont _ _ (jFr.refl.set 125 (.inl (3, 1, .inr (.inl (vp_updL f 0 (nI (s (192 + nP x))).toInt64)))) rfl) (jget_same2 (jlt o1)) (fun _ => rfl)
    rw [hT] at this
    exact this
  · have this := cont h f jFr.refl o1 (fun e => by omega)
    rw [hc] at this
    exact .inl ⟨rfl, jKv_i this⟩
  · have this := cont h f jFr.refl o1 (fun e => by omega)
    rw [hc] at this
    exact .inr (⟨rfl, jKv_i this⟩)
theorem lawq_nearest (hi : i + 4 ≤ g_L G) (hL : g_L G ≤ 2048) (hc : kc + 10 ≤ room_1.cells) (hn : kn + 60 ≤ room_1.slots) (hK : K < 2 ^ 29) (g1 : JI K h th) (o1 : h[125]? = some (.inl (3, 1, .inr (.inl f)))) (o2 : h[126]? = some (.inl (4, 1, .inr (.inr (.inr (.inl g))))))
    (next : ∀ h' th' f' g' l6 l7 l8, JI (K + 13) h' th' → h'[125]? = some (.inl (3, 1, .inr (.inl f'))) → h'[126]? = some (.inl (4, 1, .inr (.inr (.inr (.inl g'))))) → J G room_1 F M_L_law false (kc + 10) (kn + 60) 2508 [some (.retAddr 0), some (.ref 0), some (.ref 116), some (.ref 125), some (.ref 126), some (.int (nI i)), l6, l7, l8] [] h') :
    J G room_1 F M_L_law false kc kn 1350 [some (.retAddr 0), some (.ref 0), some (.ref 116), some (.ref 125), some (.ref 126), some (.int (nI i)), l6, l7, l8] [] h := by
  obtain ⟨s, sc, sm, P, ch, ea, fa, sv, lf, ln, tx, tp, cp, mp, I, hv, hp, h1', h2', h3, h4, h5, h6, h7⟩ := g1
  have c0 := cp.c0
  refine J_aload_n (by rfl) (by rfl) dL_law_1350 ?_
  refine J_aload_n (by rfl) (by rfl) dL_law_1351 ?_
  refine J_iload (by rfl) dL_law_1352 ?_
  refine J_iconst (nI 1) (by decide) dL_law_1354 ?_
  refine J_iadd dL_law_1355 ?_
  try rw [nI_add]
  refine J_xald (i + 1) dL_law_1356 rfl (by omega) (by omega) ?_
  refine J_aload_n (by rfl) (by rfl) dL_law_1357 ?_
  refine J_iload (by rfl) dL_law_1358 ?_
  refine J_iconst (nI 2) (by decide) dL_law_1360 ?_
  refine J_iadd dL_law_1361 ?_
  try rw [nI_add]
  refine J_xald (i + 2) dL_law_1362 rfl (by omega) (by omega) ?_
  obtain ⟨x, hx⟩ : ∃ x, x = g_S G (i + 1) := ⟨_, rfl⟩
  obtain ⟨y, hy⟩ : ∃ y, y = g_S G (i + 2) := ⟨_, rfl⟩
  rw [← hx, ← hy]
  have cont : ∀ (h1 : jH) (f1 : Nat → Int64), jFr (fun j => j = 125) h h1 → h1[125]? = some (.inl (3, 1, .inr (.inl f1))) → (Tn s x y = 0 → f1 0 = (nI (amin (sqd (pX s) (pY s) (nP x) (nP y)) (s 0 - 1))).toInt64) → J G room_1 F M_L_law false (kc + 2) (kn + 12) 1367 [some (.retAddr 0), some (.ref 0), some (.ref 116), some (.ref 125), some (.ref 126), some (.int (nI i)), l6, l7, l8] [.int (nI (Tn s x y))] h1 := by
    intro h1 f1 hf1 q1 q2
    have cp1 := cp.frm hf1 (fun j hj => by omega)
    have mp1 := MPc.frm mp hf1 (fun j a b => by omega)
    have q3 := hf1.at (by decide) o2
    have e116 := mp1
    obtain ⟨an9, he9, cm9, W9, F9, C9, m116, _⟩ := e116
    refine J_istore_6 dL_law_1367 ?_
    refine J_aload_n (by rfl) (by rfl) dL_law_1369 ?_
    refine J_aload_n (by rfl) (by rfl) dL_law_1370 ?_
    refine J_iload (by rfl) dL_law_1371 ?_
    refine J_iconst (nI 1) (by decide) dL_law_1373 ?_
    refine J_iadd dL_law_1374 ?_
    try rw [nI_add]
    refine J_xald (i + 1) dL_law_1375 rfl (by omega) (by omega) ?_
    refine J_aload_n (by rfl) (by rfl) dL_law_1376 ?_
    refine J_iload (by rfl) dL_law_1377 ?_
    refine J_iconst (nI 2) (by decide) dL_law_1379 ?_
    refine J_iadd dL_law_1380 ?_
    try rw [nI_add]
    refine J_xald (i + 2) dL_law_1381 rfl (by omega) (by omega) ?_
    rw [← hx, ← hy]
    refine J_V2v (ci := 11) dL_law_1382 s_L_215 m_X11_nearest rfl (by repeat (first | assumption | exact jget_same2 (by (try simp only [List.length_set]); exact jlt (by assumption)) | refine jget_ne (by first | decide | assumption | omega) ?_)) rfl (c_X11_nearest x y I mp1 (fun h2 hf2 mp2 => (jKv_i ?_))) (hf := jfit_k rfl rfl (by omega) (by omega))
    refine J_istore_7 dL_law_1385 ?_
    refine J_aload_n (by rfl) (by rfl) dL_law_1387 ?_
    have cp2 := cp1.frm hf2 (fun j hj => by show ¬ (_ ∧ _); omega)
    have e116 := mp2
    obtain ⟨an8, he8, cm8, W8, F8, C8, m1162, _⟩ := e116
    have o12 := hf2.at (by decide) q1
    have o22 := hf2.at (by decide) q3
    have ji : JI (K + 13) h2 (Tn s x y) := ⟨_, sc, sm, P, _, ea, fa, sv, lf, ln, tx, tp, cp2, mp2, I.mono (by omega), fun w => ⟨(hv w).1.mono (by omega), (hv w).2⟩, hp.mono (by omega), h1', h2', h3, h4, h5, h6, h7⟩
    have hT2 : Tn s x y ≤ 2 := by unfold Tn; (try split) <;> (try split) <;> (try split) <;> (try split) <;> omega
    refine J_V0v (ci := 11) dL_law_1388 s_L_146 m_X11_thrown rfl (by repeat (first | assumption | exact jget_same2 (by (try simp only [List.length_set]); exact jlt (by assumption)) | refine jget_ne (by first | decide | assumption | omega) ?_)) rfl (c_X11_thrown mp2 (jKv_i ?_)) (hf := jfit_k rfl rfl (by omega) (by omega))
    refine J_iload (by rfl) dL_law_1391 ?_
    refine J_icmp_eq 1398 dL_law_1393 (by decide) (fun c1393 => ?_) (fun c1393 => ?_)
    · refine J_iload (by rfl) dL_law_1398 ?_
      refine J_if_ne_n 1415 dL_law_1400 (by decide) (fun c1400 => ?_) (fun c1400 => ?_)
      · refine J_goto 2508 dL_law_1415 (by decide) ?_
        exact J_widen (by omega) (by omega) (next h2 _ f1 g _ _ _ ji o12 o22)
      · refine J_aload_n (by rfl) (by rfl) dL_law_1403 ?_
        refine J_iconst (nI 0) (by decide) dL_law_1404 ?_
        refine J_lald (0) dL_law_1405 (by repeat (first | assumption | exact jget_same2 (by (try simp only [List.length_set]); exact jlt (by assumption)) | refine jget_ne (by first | decide | assumption | omega) ?_)) (by first | rfl | (simp only [pk_mul, nI_add]; done) | (simp only [pk_mul, nI_add]; congr 1; omega) | (congr 1; omega)) (by omega) ?_
        refine J_iload (by rfl) dL_law_1406 ?_
        refine J_i2l dL_law_1408 ?_
        refine J_lcmp dL_law_1409 ?_
        refine J_topi (nI 0) (by rw [q2 (by omega), if_pos (by omega)]; unfold lg_cmp; simp; rfl) ?_
        refine J_if_eq_n 1415 dL_law_1410 (by decide) (fun c1410 => ?_) (fun c1410 => ?_)
        · refine J_goto 2508 dL_law_1415 (by decide) ?_
          exact J_widen (by omega) (by omega) (next h2 _ f1 g _ _ _ ji o12 o22)
        · exact absurd c1410 (Nat.lt_irrefl 0)
    · exact absurd rfl c1393
  refine J_aload_n (by rfl) (by rfl) dL_law_1363 ?_
  refine J_SX4v dL_law_1364 s_L_213 m_L_nearest rfl (w_nearest x y c0 (fun Q' k1 k2 => c_X10_nearest x y I cp (fun hc => k1 _ _ _ o1 (jKv_i ?_)) (fun hc => k2 _ _ ?_) (fun hc => k2 _ _ ?_))) (jfit_k rfl rfl (by omega) (by omega))
  · have hT : Tn s x y = 0 := hc
    have := cont _ _ (jFr.refl.set 125 (.inl (3, 1, .inr (.inl (vp_updL f 0 (nI (amin (sqd (pX s) (pY s) (nP x) (nP y)) (s 0 - 1))).toInt64)))) rfl) (jget_same2 (jlt o1)) (fun _ => rfl)
    rw [hT] at this
    exact this
  · have this := cont h f jFr.refl o1 (fun e => by omega)
    rw [hc] at this
    exact .inl ⟨rfl, jKv_i this⟩
  · have this := cont h f jFr.refl o1 (fun e => by omega)
    rw [hc] at this
    exact .inr (⟨rfl, jKv_i this⟩)
theorem lawq_turn (hi : i + 4 ≤ g_L G) (hL : g_L G ≤ 2048) (hc : kc + 10 ≤ room_1.cells) (hn : kn + 60 ≤ room_1.slots) (hK : K < 2 ^ 29) (g1 : JI K h th) (o1 : h[125]? = some (.inl (3, 1, .inr (.inl f)))) (o2 : h[126]? = some (.inl (4, 1, .inr (.inr (.inr (.inl g))))))
    (next : ∀ h' th' f' g' l6 l7 l8, JI (K + 13) h' th' → h'[125]? = some (.inl (3, 1, .inr (.inl f'))) → h'[126]? = some (.inl (4, 1, .inr (.inr (.inr (.inl g'))))) → J G room_1 F M_L_law false (kc + 10) (kn + 60) 2508 [some (.retAddr 0), some (.ref 0), some (.ref 116), some (.ref 125), some (.ref 126), some (.int (nI i)), l6, l7, l8] [] h') :
    J G room_1 F M_L_law false kc kn 1531 [some (.retAddr 0), some (.ref 0), some (.ref 116), some (.ref 125), some (.ref 126), some (.int (nI i)), l6, l7, l8] [] h := by
  obtain ⟨s, sc, sm, P, ch, ea, fa, sv, lf, ln, tx, tp, cp, mp, I, hv, hp, h1', h2', h3, h4, h5, h6, h7⟩ := g1
  have c0 := cp.c0
  refine J_aload_n (by rfl) (by rfl) dL_law_1531 ?_
  refine J_aload_n (by rfl) (by rfl) dL_law_1532 ?_
  refine J_iload (by rfl) dL_law_1533 ?_
  refine J_iconst (nI 1) (by decide) dL_law_1535 ?_
  refine J_iadd dL_law_1536 ?_
  try rw [nI_add]
  refine J_xald (i + 1) dL_law_1537 rfl (by omega) (by omega) ?_
  obtain ⟨x, hx⟩ : ∃ x, x = g_S G (i + 1) := ⟨_, rfl⟩
  rw [← hx]
  have cont : ∀ (h1 : jH) (f1 : Nat → Int64), jFr (fun j => j = 125) h h1 → h1[125]? = some (.inl (3, 1, .inr (.inl f1))) → (Ttu s x = 0 → f1 0 = (nI (turnC s (nP x))).toInt64) → J G room_1 F M_L_law false (kc + 3) (kn + 18) 1542 [some (.retAddr 0), some (.ref 0), some (.ref 116), some (.ref 125), some (.ref 126), some (.int (nI i)), l6, l7, l8] [.int (nI (Ttu s x))] h1 := by
    intro h1 f1 hf1 q1 q2
    have cp1 := cp.frm hf1 (fun j hj => by omega)
    have mp1 := MPc.frm mp hf1 (fun j a b => by omega)
    have q3 := hf1.at (by decide) o2
    have e116 := mp1
    obtain ⟨an9, he9, cm9, W9, F9, C9, m116, _⟩ := e116
    refine J_istore_6 dL_law_1542 ?_
    refine J_aload_n (by rfl) (by rfl) dL_law_1544 ?_
    refine J_aload_n (by rfl) (by rfl) dL_law_1545 ?_
    refine J_iload (by rfl) dL_law_1546 ?_
    refine J_iconst (nI 1) (by decide) dL_law_1548 ?_
    refine J_iadd dL_law_1549 ?_
    try rw [nI_add]
    refine J_xald (i + 1) dL_law_1550 rfl (by omega) (by omega) ?_
    rw [← hx]
    refine J_V1v (ci := 11) dL_law_1551 s_L_229 m_X11_turn rfl (by repeat (first | assumption | exact jget_same2 (by (try simp only [List.length_set]); exact jlt (by assumption)) | refine jget_ne (by first | decide | assumption | omega) ?_)) rfl (c_X11_turn x I mp1 (fun h2 hf2 mp2 => (jKv_i ?_))) (hf := jfit_k rfl rfl (by omega) (by omega))
    refine J_istore_7 dL_law_1554 ?_
    refine J_aload_n (by rfl) (by rfl) dL_law_1556 ?_
    have cp2 := cp1.frm hf2 (fun j hj => by show ¬ (_ ∧ _); omega)
    have e116 := mp2
    obtain ⟨an8, he8, cm8, W8, F8, C8, m1162, _⟩ := e116
    have o12 := hf2.at (by decide) q1
    have o22 := hf2.at (by decide) q3
    have ji : JI (K + 13) h2 (Ttu s x) := ⟨_, sc, sm, P, _, ea, fa, sv, lf, ln, tx, tp, cp2, mp2, I.mono (by omega), fun w => ⟨(hv w).1.mono (by omega), (hv w).2⟩, hp.mono (by omega), h1', h2', h3, h4, h5, h6, h7⟩
    have hT2 : Ttu s x ≤ 3 := by unfold Ttu; (try split) <;> (try split) <;> (try split) <;> (try split) <;> omega
    refine J_V0v (ci := 11) dL_law_1557 s_L_146 m_X11_thrown rfl (by repeat (first | assumption | exact jget_same2 (by (try simp only [List.length_set]); exact jlt (by assumption)) | refine jget_ne (by first | decide | assumption | omega) ?_)) rfl (c_X11_thrown mp2 (jKv_i ?_)) (hf := jfit_k rfl rfl (by omega) (by omega))
    refine J_iload (by rfl) dL_law_1560 ?_
    refine J_icmp_eq 1567 dL_law_1562 (by decide) (fun c1562 => ?_) (fun c1562 => ?_)
    · refine J_iload (by rfl) dL_law_1567 ?_
      refine J_if_ne_n 1584 dL_law_1569 (by decide) (fun c1569 => ?_) (fun c1569 => ?_)
      · refine J_goto 2508 dL_law_1584 (by decide) ?_
        exact J_widen (by omega) (by omega) (next h2 _ f1 g _ _ _ ji o12 o22)
      · refine J_aload_n (by rfl) (by rfl) dL_law_1572 ?_
        refine J_iconst (nI 0) (by decide) dL_law_1573 ?_
        refine J_lald (0) dL_law_1574 (by repeat (first | assumption | exact jget_same2 (by (try simp only [List.length_set]); exact jlt (by assumption)) | refine jget_ne (by first | decide | assumption | omega) ?_)) (by first | rfl | (simp only [pk_mul, nI_add]; done) | (simp only [pk_mul, nI_add]; congr 1; omega) | (congr 1; omega)) (by omega) ?_
        refine J_iload (by rfl) dL_law_1575 ?_
        refine J_i2l dL_law_1577 ?_
        refine J_lcmp dL_law_1578 ?_
        refine J_topi (nI 0) (by rw [q2 (by omega), if_pos (by omega)]; unfold lg_cmp; simp; rfl) ?_
        refine J_if_eq_n 1584 dL_law_1579 (by decide) (fun c1579 => ?_) (fun c1579 => ?_)
        · refine J_goto 2508 dL_law_1584 (by decide) ?_
          exact J_widen (by omega) (by omega) (next h2 _ f1 g _ _ _ ji o12 o22)
        · exact absurd c1579 (Nat.lt_irrefl 0)
    · exact absurd rfl c1562
  refine J_aload_n (by rfl) (by rfl) dL_law_1538 ?_
  refine J_SX3v dL_law_1539 s_L_227 m_L_turn rfl (w_turn x c0 (fun Q' k1 k2 => c_X10_turn x I cp (fun hc => k1 _ _ _ o1 (jKv_i ?_)) (fun hc => k2 _ _ ?_) (fun hc => k2 _ _ ?_) (fun hc => k2 _ _ ?_))) (jfit_k rfl rfl (by omega) (by omega))
  · have hT : Ttu s x = 0 := hc
    have := cont _ _ (jFr.refl.set 125 (.inl (3, 1, .inr (.inl (vp_updL f 0 (nI (turnC s (nP x))).toInt64)))) rfl) (jget_same2 (jlt o1)) (fun _ => rfl)
    rw [hT] at this
    exact this
  · have this := cont h f jFr.refl o1 (fun e => by omega)
    rw [hc] at this
    exact .inl ⟨rfl, jKv_i this⟩
  · have this := cont h f jFr.refl o1 (fun e => by omega)
    rw [hc] at this
    exact .inr (.inl ⟨rfl, jKv_i this⟩)
  · have this := cont h f jFr.refl o1 (fun e => by omega)
    rw [hc] at this
    exact .inr (.inr (⟨rfl, jKv_i this⟩))
end LAWR
