/-! The law's body, case by case -/
abbrev M_L_law : jM := (⟨"TrailGuideLaw", "law", "([I)Z"⟩, cL_law, 9, ret, none)
theorem jfit_k {R : Room} {n d mc ms kc kn : Nat} (h1 : Nat.ble (d + 1) R.frames = true) (h2 : Nat.ble (8 + (n + 11) + 46 * d) R.locals = true) (h3 : kc + mc ≤ R.cells) (h4 : kn + ms ≤ R.slots) : jfit R n d mc ms kc kn = true := by
  simp only [jfit, Bool.and_eq_true]
  exact ⟨h1, h2, Nat.ble_eq_true_of_le h3, Nat.ble_eq_true_of_le h4⟩
section LAW
variable {G : jG} {F : jF} {h : jH} {i kc kn K th : Nat} {l6 l7 l8 : Option Value} {f : Nat → Int64} {g : Nat → UInt64}
theorem law_0 (hi : i + 4 ≤ g_L G) (hL : g_L G ≤ 2048) (hc : kc + 10 ≤ room_1.cells) (hn : kn + 60 ≤ room_1.slots) (hK : K < 2 ^ 29) (g1 : JI K h th) (o1 : h[125]? = some (.inl (3, 1, .inr (.inl f)))) (o2 : h[126]? = some (.inl (4, 1, .inr (.inr (.inr (.inl g))))))
    (next : ∀ h' th' f' g' l6 l7 l8, JI (K + 13) h' th' → h'[125]? = some (.inl (3, 1, .inr (.inl f'))) → h'[126]? = some (.inl (4, 1, .inr (.inr (.inr (.inl g'))))) → J G room_1 F M_L_law false (kc + 10) (kn + 60) 2508 [some (.retAddr 0), some (.ref 0), some (.ref 116), some (.ref 125), some (.ref 126), some (.int (nI i)), l6, l7, l8] [] h') :
    J G room_1 F M_L_law false kc kn 268 [some (.retAddr 0), some (.ref 0), some (.ref 116), some (.ref 125), some (.ref 126), some (.int (nI i)), l6, l7, l8] [] h := by
  obtain ⟨s, sc, sm, P, ch, ea, fa, sv, lf, ln, tx, tp, cp, mp, I, hv, hp, h1', h2', h3, h4, h5, h6, h7⟩ := g1
  have c0 := cp.c0
  refine J_aload_n (by rfl) (by rfl) dL_law_268 ?_
  refine J_aload_n (by rfl) (by rfl) dL_law_269 ?_
  refine J_iload (by rfl) dL_law_270 ?_
  refine J_iconst (nI 1) (by decide) dL_law_272 ?_
  refine J_iadd dL_law_273 ?_
  try rw [nI_add]
  refine J_xald (i + 1) dL_law_274 rfl (by omega) (by omega) ?_
  refine J_aload_n (by rfl) (by rfl) dL_law_275 ?_
  refine J_iload (by rfl) dL_law_276 ?_
  refine J_iconst (nI 2) (by decide) dL_law_278 ?_
  refine J_iadd dL_law_279 ?_
  try rw [nI_add]
  refine J_xald (i + 2) dL_law_280 rfl (by omega) (by omega) ?_
  refine J_aload_n (by rfl) (by rfl) dL_law_281 ?_
  refine J_iload (by rfl) dL_law_282 ?_
  refine J_iconst (nI 3) (by decide) dL_law_284 ?_
  refine J_iadd dL_law_285 ?_
  try rw [nI_add]
  refine J_xald (i + 3) dL_law_286 rfl (by omega) (by omega) ?_
  obtain ⟨x, hx⟩ : ∃ x, x = g_S G (i + 1) := ⟨_, rfl⟩
  obtain ⟨y, hy⟩ : ∃ y, y = g_S G (i + 2) := ⟨_, rfl⟩
  obtain ⟨z, hz⟩ : ∃ z, z = g_S G (i + 3) := ⟨_, rfl⟩
  rw [← hx, ← hy, ← hz]
  have hT2 : opT s 0 x y z ≤ 2 := by show T0 s x y z ≤ 2; unfold T0; split <;> (try split) <;> omega
  have cont : ∀ (h1 : jH) (f1 : Nat → Int64), (∀ P1, (opT s 0 x y z = 0 → pastN ch P s P1) → (opT s 0 x y z ≠ 0 → P1 = P) → CPc h1 (opN s 0 x y z) sc P1 (if opT s 0 x y z = 0 then min (ch + 1) 8 else ch) ea fa sv lf ln tx tp) → MPc h1 s sm P ch th ea fa sv lf ln tx tp → h1[125]? = some (.inl (3, 1, .inr (.inl f1))) → (opT s 0 x y z = 0 → f1 0 = (nI (opA s 0 x y z)).toInt64) → h1[126]? = some (.inl (4, 1, .inr (.inr (.inr (.inl g))))) → J G room_1 F M_L_law false (kc + 1) (kn + 6) 291 [some (.retAddr 0), some (.ref 0), some (.ref 116), some (.ref 125), some (.ref 126), some (.int (nI i)), l6, l7, l8] [.int (nI (opT s 0 x y z))] h1 := by
    intro h1 f1 cp1 mp1 q1 q2 q3
    have e116 := mp1
    obtain ⟨an9, he9, cm9, W9, F9, C9, m116, _⟩ := e116
    refine J_istore_6 dL_law_291 ?_
    refine J_aload_n (by rfl) (by rfl) dL_law_293 ?_
    refine J_aload_n (by rfl) (by rfl) dL_law_294 ?_
    refine J_iload (by rfl) dL_law_295 ?_
    refine J_iconst (nI 1) (by decide) dL_law_297 ?_
    refine J_iadd dL_law_298 ?_
    try rw [nI_add]
    refine J_xald (i + 1) dL_law_299 rfl (by omega) (by omega) ?_
    refine J_aload_n (by rfl) (by rfl) dL_law_300 ?_
    refine J_iload (by rfl) dL_law_301 ?_
    refine J_iconst (nI 2) (by decide) dL_law_303 ?_
    refine J_iadd dL_law_304 ?_
    try rw [nI_add]
    refine J_xald (i + 2) dL_law_305 rfl (by omega) (by omega) ?_
    refine J_aload_n (by rfl) (by rfl) dL_law_306 ?_
    refine J_iload (by rfl) dL_law_307 ?_
    refine J_iconst (nI 3) (by decide) dL_law_309 ?_
    refine J_iadd dL_law_310 ?_
    try rw [nI_add]
    refine J_xald (i + 3) dL_law_311 rfl (by omega) (by omega) ?_
    rw [← hx, ← hy, ← hz]
    refine J_V3v (ci := 11) dL_law_312 s_L_145 m_X11_addWaypoint rfl (by repeat (first | assumption | exact jget_same2 (by (try simp only [List.length_set]); exact jlt (by assumption)) | refine jget_ne (by first | decide | assumption | omega) ?_)) rfl (c_X11_addWaypoint x y z I (by omega) h1' mp1 (fun h2 P2 hf2 a1 a2 mp2 => (jKv_i ?_))) (hf := jfit_k rfl rfl (by omega) (by omega))
    refine J_istore_7 dL_law_315 ?_
    refine J_aload_n (by rfl) (by rfl) dL_law_317 ?_
    have cp2 := (cp1 P2 a1 a2).frm hf2 (fun j hj => by show ¬ (_ ∧ _); omega)
    have e116 := mp2
    obtain ⟨an8, he8, cm8, W8, F8, C8, m1162, _⟩ := e116
    have o12 := hf2.at (by decide) q1
    have o22 := hf2.at (by decide) q3
    have ji : JI (K + 13) h2 (opT s 0 x y z) := by
      refine ⟨_, sc, sm, P2, _, ea, fa, sv, lf, ln, tx, tp, cp2, mp2, (Inv_op I (by decide)).mono (by omega), fun w => ⟨(hv w).1.mono (by omega), (hv w).2⟩, ?_, ?_, h2', h3, h4, h5, h6, h7⟩
      · by_cases hT : opT s 0 x y z = 0
        · rw [if_pos hT]; exact (hp.past h1' I (a1 hT)).mono (by omega)
        · rw [if_neg hT, a2 hT]; exact hp.mono (by omega)
      · split <;> omega
    refine J_V0v (ci := 11) dL_law_318 s_L_146 m_X11_thrown rfl (by repeat (first | assumption | exact jget_same2 (by (try simp only [List.length_set]); exact jlt (by assumption)) | refine jget_ne (by first | decide | assumption | omega) ?_)) rfl (c_X11_thrown mp2 (jKv_i ?_)) (hf := jfit_k rfl rfl (by omega) (by omega))
    refine J_iload (by rfl) dL_law_321 ?_
    refine J_icmp_eq 328 dL_law_323 (by decide) (fun c323 => ?_) (fun c323 => ?_)
    · refine J_iload (by rfl) dL_law_328 ?_
      refine J_if_ne_n 345 dL_law_330 (by decide) (fun c330 => ?_) (fun c330 => ?_)
      · refine J_goto 2508 dL_law_345 (by decide) ?_
        exact J_widen (by omega) (by omega) (next h2 _ f1 g _ _ _ ji o12 o22)
      · refine J_aload_n (by rfl) (by rfl) dL_law_333 ?_
        refine J_iconst (nI 0) (by decide) dL_law_334 ?_
        refine J_lald (0) dL_law_335 (by repeat (first | assumption | exact jget_same2 (by (try simp only [List.length_set]); exact jlt (by assumption)) | refine jget_ne (by first | decide | assumption | omega) ?_)) (by first | rfl | (simp only [pk_mul, nI_add]; done) | (simp only [pk_mul, nI_add]; congr 1; omega) | (congr 1; omega)) (by omega) ?_
        refine J_iload (by rfl) dL_law_336 ?_
        refine J_i2l dL_law_338 ?_
        refine J_lcmp dL_law_339 ?_
        refine J_topi (nI 0) (by rw [q2 (by omega)]; unfold lg_cmp; simp; rfl) ?_
        refine J_if_eq_n 345 dL_law_340 (by decide) (fun c340 => ?_) (fun c340 => ?_)
        · refine J_goto 2508 dL_law_345 (by decide) ?_
          exact J_widen (by omega) (by omega) (next h2 _ f1 g _ _ _ ji o12 o22)
        · exact absurd c340 (Nat.lt_irrefl 0)
    · exact absurd rfl c323
  refine J_aload_n (by rfl) (by rfl) dL_law_287 ?_
  refine J_SX5v dL_law_288 s_L_140 m_L_addWaypoint rfl (w_addWaypoint x y z c0 (fun Q' k1 k2 => c_X10_addWaypoint x y z I (by omega) cp (fun hT h' hf hP => k1 _ _ _ (hf.at (by decide) o1) (jKv_i ?_)) (fun hT h' hf cp' => k2 _ _ ?_))) (jfit_k rfl rfl (by omega) (by omega))
  · have e : nI 0 = nI (opT s 0 x y z) := by rw [hT]
    rw [e]
    have o1' := hf.at (by decide) o1
    refine cont _ _ (fun P1 a1 a2 => ?_) ?_ (jget_same2 (jlt o1')) (fun _ => rfl) ?_
    · rw [if_pos hT]
      exact (hP P1 (a1 hT)).frm (jFr.refl.set 125 _ rfl : jFr (fun j => j = 125) _ _) (fun j hj => by omega)
    · exact (MPc.frm mp hf (fun j a b => by show ¬ (_ ≤ _); omega)).frm (jFr.refl.set 125 _ rfl : jFr (fun j => j = 125) _ _) (fun j a b => by omega)
    · exact (jFr.refl.set 125 _ rfl : jFr (fun j => j = 125) _ _).at (by decide) (hf.at (by decide) o2)
  · have nx := cont h' f (fun P1 a1 a2 => by
        rw [if_neg hT, a2 hT, show opN s 0 x y z = s by unfold opN; rw [if_neg hT]]
        exact cp') (MPc.frm mp hf (fun j a b => by show ¬ (_ ≤ _); omega)) (hf.at (by decide) o1) (fun e => absurd e hT) (hf.at (by decide) o2)
    generalize opT s 0 x y z = T at nx hT hT2 ⊢
    rcases (show T = 1 ∨ T = 2 by omega) with rfl | rfl
    · exact .inl ⟨rfl, jKv_i nx⟩
    · exact .inr ⟨rfl, jKv_i nx⟩
theorem law_1 (hi : i + 4 ≤ g_L G) (hL : g_L G ≤ 2048) (hc : kc + 10 ≤ room_1.cells) (hn : kn + 60 ≤ room_1.slots) (hK : K < 2 ^ 29) (g1 : JI K h th) (o1 : h[125]? = some (.inl (3, 1, .inr (.inl f)))) (o2 : h[126]? = some (.inl (4, 1, .inr (.inr (.inr (.inl g))))))
    (next : ∀ h' th' f' g' l6 l7 l8, JI (K + 13) h' th' → h'[125]? = some (.inl (3, 1, .inr (.inl f'))) → h'[126]? = some (.inl (4, 1, .inr (.inr (.inr (.inl g'))))) → J G room_1 F M_L_law false (kc + 10) (kn + 60) 2508 [some (.retAddr 0), some (.ref 0), some (.ref 116), some (.ref 125), some (.ref 126), some (.int (nI i)), l6, l7, l8] [] h') :
    J G room_1 F M_L_law false kc kn 348 [some (.retAddr 0), some (.ref 0), some (.ref 116), some (.ref 125), some (.ref 126), some (.int (nI i)), l6, l7, l8] [] h := by
  obtain ⟨s, sc, sm, P, ch, ea, fa, sv, lf, ln, tx, tp, cp, mp, I, hv, hp, h1', h2', h3, h4, h5, h6, h7⟩ := g1
  have c0 := cp.c0
  refine J_aload_n (by rfl) (by rfl) dL_law_348 ?_
  refine J_aload_n (by rfl) (by rfl) dL_law_349 ?_
  refine J_iload (by rfl) dL_law_350 ?_
  refine J_iconst (nI 1) (by decide) dL_law_352 ?_
  refine J_iadd dL_law_353 ?_
  try rw [nI_add]
  refine J_xald (i + 1) dL_law_354 rfl (by omega) (by omega) ?_
  refine J_aload_n (by rfl) (by rfl) dL_law_355 ?_
  refine J_iload (by rfl) dL_law_356 ?_
  refine J_iconst (nI 2) (by decide) dL_law_358 ?_
  refine J_iadd dL_law_359 ?_
  try rw [nI_add]
  refine J_xald (i + 2) dL_law_360 rfl (by omega) (by omega) ?_
  refine J_aload_n (by rfl) (by rfl) dL_law_361 ?_
  refine J_iload (by rfl) dL_law_362 ?_
  refine J_iconst (nI 3) (by decide) dL_law_364 ?_
  refine J_iadd dL_law_365 ?_
  try rw [nI_add]
  refine J_xald (i + 3) dL_law_366 rfl (by omega) (by omega) ?_
  obtain ⟨x, hx⟩ : ∃ x, x = g_S G (i + 1) := ⟨_, rfl⟩
  obtain ⟨y, hy⟩ : ∃ y, y = g_S G (i + 2) := ⟨_, rfl⟩
  obtain ⟨z, hz⟩ : ∃ z, z = g_S G (i + 3) := ⟨_, rfl⟩
  rw [← hx, ← hy, ← hz]
  have hT2 : opT s 1 x y z ≤ 3 := by show T1 s x y z ≤ 3; unfold T1; (try split) <;> (try split) <;> (try split) <;> (try split) <;> omega
  have cont : ∀ (h1 : jH) (f1 : Nat → Int64), (∀ P1, (opT s 1 x y z = 0 → pastN ch P s P1) → (opT s 1 x y z ≠ 0 → P1 = P) → CPc h1 (opN s 1 x y z) sc P1 (if opT s 1 x y z = 0 then min (ch + 1) 8 else ch) ea fa sv lf ln tx tp) → MPc h1 s sm P ch th ea fa sv lf ln tx tp → h1[125]? = some (.inl (3, 1, .inr (.inl f1))) → (opT s 1 x y z = 0 → f1 0 = (nI (opA s 1 x y z)).toInt64) → h1[126]? = some (.inl (4, 1, .inr (.inr (.inr (.inl g))))) → J G room_1 F M_L_law false (kc + 1) (kn + 6) 371 [some (.retAddr 0), some (.ref 0), some (.ref 116), some (.ref 125), some (.ref 126), some (.int (nI i)), l6, l7, l8] [.int (nI (opT s 1 x y z))] h1 := by
    intro h1 f1 cp1 mp1 q1 q2 q3
    have e116 := mp1
    obtain ⟨an9, he9, cm9, W9, F9, C9, m116, _⟩ := e116
    refine J_istore_6 dL_law_371 ?_
    refine J_aload_n (by rfl) (by rfl) dL_law_373 ?_
    refine J_aload_n (by rfl) (by rfl) dL_law_374 ?_
    refine J_iload (by rfl) dL_law_375 ?_
    refine J_iconst (nI 1) (by decide) dL_law_377 ?_
    refine J_iadd dL_law_378 ?_
    try rw [nI_add]
    refine J_xald (i + 1) dL_law_379 rfl (by omega) (by omega) ?_
    refine J_aload_n (by rfl) (by rfl) dL_law_380 ?_
    refine J_iload (by rfl) dL_law_381 ?_
    refine J_iconst (nI 2) (by decide) dL_law_383 ?_
    refine J_iadd dL_law_384 ?_
    try rw [nI_add]
    refine J_xald (i + 2) dL_law_385 rfl (by omega) (by omega) ?_
    refine J_aload_n (by rfl) (by rfl) dL_law_386 ?_
    refine J_iload (by rfl) dL_law_387 ?_
    refine J_iconst (nI 3) (by decide) dL_law_389 ?_
    refine J_iadd dL_law_390 ?_
    try rw [nI_add]
    refine J_xald (i + 3) dL_law_391 rfl (by omega) (by omega) ?_
    rw [← hx, ← hy, ← hz]
    refine J_V3v (ci := 11) dL_law_392 s_L_151 m_X11_addTrail rfl (by repeat (first | assumption | exact jget_same2 (by (try simp only [List.length_set]); exact jlt (by assumption)) | refine jget_ne (by first | decide | assumption | omega) ?_)) rfl (c_X11_addTrail x y z I (by omega) h1' mp1 (fun h2 P2 hf2 a1 a2 mp2 => (jKv_i ?_))) (hf := jfit_k rfl rfl (by omega) (by omega))
    refine J_istore_7 dL_law_395 ?_
    refine J_aload_n (by rfl) (by rfl) dL_law_397 ?_
    have cp2 := (cp1 P2 a1 a2).frm hf2 (fun j hj => by show ¬ (_ ∧ _); omega)
    have e116 := mp2
    obtain ⟨an8, he8, cm8, W8, F8, C8, m1162, _⟩ := e116
    have o12 := hf2.at (by decide) q1
    have o22 := hf2.at (by decide) q3
    have ji : JI (K + 13) h2 (opT s 1 x y z) := by
      refine ⟨_, sc, sm, P2, _, ea, fa, sv, lf, ln, tx, tp, cp2, mp2, (Inv_op I (by decide)).mono (by omega), fun w => ⟨(hv w).1.mono (by omega), (hv w).2⟩, ?_, ?_, h2', h3, h4, h5, h6, h7⟩
      · by_cases hT : opT s 1 x y z = 0
        · rw [if_pos hT]; exact (hp.past h1' I (a1 hT)).mono (by omega)
        · rw [if_neg hT, a2 hT]; exact hp.mono (by omega)
      · split <;> omega
    refine J_V0v (ci := 11) dL_law_398 s_L_146 m_X11_thrown rfl (by repeat (first | assumption | exact jget_same2 (by (try simp only [List.length_set]); exact jlt (by assumption)) | refine jget_ne (by first | decide | assumption | omega) ?_)) rfl (c_X11_thrown mp2 (jKv_i ?_)) (hf := jfit_k rfl rfl (by omega) (by omega))
    refine J_iload (by rfl) dL_law_401 ?_
    refine J_icmp_eq 408 dL_law_403 (by decide) (fun c403 => ?_) (fun c403 => ?_)
    · refine J_iload (by rfl) dL_law_408 ?_
      refine J_if_ne_n 425 dL_law_410 (by decide) (fun c410 => ?_) (fun c410 => ?_)
      · refine J_goto 2508 dL_law_425 (by decide) ?_
        exact J_widen (by omega) (by omega) (next h2 _ f1 g _ _ _ ji o12 o22)
      · refine J_aload_n (by rfl) (by rfl) dL_law_413 ?_
        refine J_iconst (nI 0) (by decide) dL_law_414 ?_
        refine J_lald (0) dL_law_415 (by repeat (first | assumption | exact jget_same2 (by (try simp only [List.length_set]); exact jlt (by assumption)) | refine jget_ne (by first | decide | assumption | omega) ?_)) (by first | rfl | (simp only [pk_mul, nI_add]; done) | (simp only [pk_mul, nI_add]; congr 1; omega) | (congr 1; omega)) (by omega) ?_
        refine J_iload (by rfl) dL_law_416 ?_
        refine J_i2l dL_law_418 ?_
        refine J_lcmp dL_law_419 ?_
        refine J_topi (nI 0) (by rw [q2 (by omega)]; unfold lg_cmp; simp; rfl) ?_
        refine J_if_eq_n 425 dL_law_420 (by decide) (fun c420 => ?_) (fun c420 => ?_)
        · refine J_goto 2508 dL_law_425 (by decide) ?_
          exact J_widen (by omega) (by omega) (next h2 _ f1 g _ _ _ ji o12 o22)
        · exact absurd c420 (Nat.lt_irrefl 0)
    · exact absurd rfl c403
  refine J_aload_n (by rfl) (by rfl) dL_law_367 ?_
  refine J_SX5v dL_law_368 s_L_149 m_L_addTrail rfl (w_addTrail x y z c0 (fun Q' k1 k2 => c_X10_addTrail x y z I (by omega) cp (fun hT h' hf hP => k1 _ _ _ (hf.at (by decide) o1) (jKv_i ?_)) (fun hT h' hf cp' => k2 _ _ ?_))) (jfit_k rfl rfl (by omega) (by omega))
  · have e : nI 0 = nI (opT s 1 x y z) := by rw [hT]
    rw [e]
    have o1' := hf.at (by decide) o1
    refine cont _ _ (fun P1 a1 a2 => ?_) ?_ (jget_same2 (jlt o1')) (fun _ => rfl) ?_
    · rw [if_pos hT]
      exact (hP P1 (a1 hT)).frm (jFr.refl.set 125 _ rfl : jFr (fun j => j = 125) _ _) (fun j hj => by omega)
    · exact (MPc.frm mp hf (fun j a b => by show ¬ (_ ≤ _); omega)).frm (jFr.refl.set 125 _ rfl : jFr (fun j => j = 125) _ _) (fun j a b => by omega)
    · exact (jFr.refl.set 125 _ rfl : jFr (fun j => j = 125) _ _).at (by decide) (hf.at (by decide) o2)
  · have nx := cont h' f (fun P1 a1 a2 => by
        rw [if_neg hT, a2 hT, show opN s 1 x y z = s by unfold opN; rw [if_neg hT]]
        exact cp') (MPc.frm mp hf (fun j a b => by show ¬ (_ ≤ _); omega)) (hf.at (by decide) o1) (fun e => absurd e hT) (hf.at (by decide) o2)
    generalize opT s 1 x y z = T at nx hT hT2 ⊢
    rcases (show T = 1 ∨ T = 2 ∨ T = 3 by omega) with rfl | rfl | rfl
    · exact .inl ⟨rfl, jKv_i nx⟩
    · exact .inr (.inl ⟨rfl, jKv_i nx⟩)
    · exact .inr (.inr (⟨rfl, jKv_i nx⟩))
theorem law_2 (hi : i + 4 ≤ g_L G) (hL : g_L G ≤ 2048) (hc : kc + 10 ≤ room_1.cells) (hn : kn + 60 ≤ room_1.slots) (hK : K < 2 ^ 29) (g1 : JI K h th) (o1 : h[125]? = some (.inl (3, 1, .inr (.inl f)))) (o2 : h[126]? = some (.inl (4, 1, .inr (.inr (.inr (.inl g))))))
    (next : ∀ h' th' f' g' l6 l7 l8, JI (K + 13) h' th' → h'[125]? = some (.inl (3, 1, .inr (.inl f'))) → h'[126]? = some (.inl (4, 1, .inr (.inr (.inr (.inl g'))))) → J G room_1 F M_L_law false (kc + 10) (kn + 60) 2508 [some (.retAddr 0), some (.ref 0), some (.ref 116), some (.ref 125), some (.ref 126), some (.int (nI i)), l6, l7, l8] [] h') :
    J G room_1 F M_L_law false kc kn 428 [some (.retAddr 0), some (.ref 0), some (.ref 116), some (.ref 125), some (.ref 126), some (.int (nI i)), l6, l7, l8] [] h := by
  obtain ⟨s, sc, sm, P, ch, ea, fa, sv, lf, ln, tx, tp, cp, mp, I, hv, hp, h1', h2', h3, h4, h5, h6, h7⟩ := g1
  have c0 := cp.c0
  refine J_aload_n (by rfl) (by rfl) dL_law_428 ?_
  refine J_aload_n (by rfl) (by rfl) dL_law_429 ?_
  refine J_iload (by rfl) dL_law_430 ?_
  refine J_iconst (nI 1) (by decide) dL_law_432 ?_
  refine J_iadd dL_law_433 ?_
  try rw [nI_add]
  refine J_xald (i + 1) dL_law_434 rfl (by omega) (by omega) ?_
  refine J_aload_n (by rfl) (by rfl) dL_law_435 ?_
  refine J_iload (by rfl) dL_law_436 ?_
  refine J_iconst (nI 2) (by decide) dL_law_438 ?_
  refine J_iadd dL_law_439 ?_
  try rw [nI_add]
  refine J_xald (i + 2) dL_law_440 rfl (by omega) (by omega) ?_
  obtain ⟨x, hx⟩ : ∃ x, x = g_S G (i + 1) := ⟨_, rfl⟩
  obtain ⟨y, hy⟩ : ∃ y, y = g_S G (i + 2) := ⟨_, rfl⟩
  rw [← hx, ← hy]
  have hT2 : opT s 2 x y 0 ≤ 2 := by show T2 s x y ≤ 2; unfold T2; (try split) <;> (try split) <;> (try split) <;> (try split) <;> omega
  have cont : ∀ (h1 : jH) (f1 : Nat → Int64), (∀ P1, (opT s 2 x y 0 = 0 → pastN ch P s P1) → (opT s 2 x y 0 ≠ 0 → P1 = P) → CPc h1 (opN s 2 x y 0) sc P1 (if opT s 2 x y 0 = 0 then min (ch + 1) 8 else ch) ea fa sv lf ln tx tp) → MPc h1 s sm P ch th ea fa sv lf ln tx tp → h1[125]? = some (.inl (3, 1, .inr (.inl f1))) → (opT s 2 x y 0 = 0 → f1 0 = (nI (opA s 2 x y 0)).toInt64) → h1[126]? = some (.inl (4, 1, .inr (.inr (.inr (.inl g))))) → J G room_1 F M_L_law false (kc + 1) (kn + 6) 445 [some (.retAddr 0), some (.ref 0), some (.ref 116), some (.ref 125), some (.ref 126), some (.int (nI i)), l6, l7, l8] [.int (nI (opT s 2 x y 0))] h1 := by
    intro h1 f1 cp1 mp1 q1 q2 q3
    have e116 := mp1
    obtain ⟨an9, he9, cm9, W9, F9, C9, m116, _⟩ := e116
    refine J_istore_6 dL_law_445 ?_
    refine J_aload_n (by rfl) (by rfl) dL_law_447 ?_
    refine J_aload_n (by rfl) (by rfl) dL_law_448 ?_
    refine J_iload (by rfl) dL_law_449 ?_
    refine J_iconst (nI 1) (by decide) dL_law_451 ?_
    refine J_iadd dL_law_452 ?_
    try rw [nI_add]
    refine J_xald (i + 1) dL_law_453 rfl (by omega) (by omega) ?_
    refine J_aload_n (by rfl) (by rfl) dL_law_454 ?_
    refine J_iload (by rfl) dL_law_455 ?_
    refine J_iconst (nI 2) (by decide) dL_law_457 ?_
    refine J_iadd dL_law_458 ?_
    try rw [nI_add]
    refine J_xald (i + 2) dL_law_459 rfl (by omega) (by omega) ?_
    rw [← hx, ← hy]
    refine J_V2v (ci := 11) dL_law_460 s_L_155 m_X11_removeTrail rfl (by repeat (first | assumption | exact jget_same2 (by (try simp only [List.length_set]); exact jlt (by assumption)) | refine jget_ne (by first | decide | assumption | omega) ?_)) rfl (c_X11_removeTrail x y I (by omega) h1' mp1 (fun h2 P2 hf2 a1 a2 mp2 => (jKv_i ?_))) (hf := jfit_k rfl rfl (by omega) (by omega))
    refine J_istore_7 dL_law_463 ?_
    refine J_aload_n (by rfl) (by rfl) dL_law_465 ?_
    have cp2 := (cp1 P2 a1 a2).frm hf2 (fun j hj => by show ¬ (_ ∧ _); omega)
    have e116 := mp2
    obtain ⟨an8, he8, cm8, W8, F8, C8, m1162, _⟩ := e116
    have o12 := hf2.at (by decide) q1
    have o22 := hf2.at (by decide) q3
    have ji : JI (K + 13) h2 (opT s 2 x y 0) := by
      refine ⟨_, sc, sm, P2, _, ea, fa, sv, lf, ln, tx, tp, cp2, mp2, (Inv_op I (by decide)).mono (by omega), fun w => ⟨(hv w).1.mono (by omega), (hv w).2⟩, ?_, ?_, h2', h3, h4, h5, h6, h7⟩
      · by_cases hT : opT s 2 x y 0 = 0
        · rw [if_pos hT]; exact (hp.past h1' I (a1 hT)).mono (by omega)
        · rw [if_neg hT, a2 hT]; exact hp.mono (by omega)
      · split <;> omega
    refine J_V0v (ci := 11) dL_law_466 s_L_146 m_X11_thrown rfl (by repeat (first | assumption | exact jget_same2 (by (try simp only [List.length_set]); exact jlt (by assumption)) | refine jget_ne (by first | decide | assumption | omega) ?_)) rfl (c_X11_thrown mp2 (jKv_i ?_)) (hf := jfit_k rfl rfl (by omega) (by omega))
    refine J_iload (by rfl) dL_law_469 ?_
    refine J_icmp_eq 476 dL_law_471 (by decide) (fun c471 => ?_) (fun c471 => ?_)
    · refine J_iload (by rfl) dL_law_476 ?_
      refine J_if_ne_n 493 dL_law_478 (by decide) (fun c478 => ?_) (fun c478 => ?_)
      · refine J_goto 2508 dL_law_493 (by decide) ?_
        exact J_widen (by omega) (by omega) (next h2 _ f1 g _ _ _ ji o12 o22)
      · refine J_aload_n (by rfl) (by rfl) dL_law_481 ?_
        refine J_iconst (nI 0) (by decide) dL_law_482 ?_
        refine J_lald (0) dL_law_483 (by repeat (first | assumption | exact jget_same2 (by (try simp only [List.length_set]); exact jlt (by assumption)) | refine jget_ne (by first | decide | assumption | omega) ?_)) (by first | rfl | (simp only [pk_mul, nI_add]; done) | (simp only [pk_mul, nI_add]; congr 1; omega) | (congr 1; omega)) (by omega) ?_
        refine J_iload (by rfl) dL_law_484 ?_
        refine J_i2l dL_law_486 ?_
        refine J_lcmp dL_law_487 ?_
        refine J_topi (nI 0) (by rw [q2 (by omega)]; unfold lg_cmp; simp; rfl) ?_
        refine J_if_eq_n 493 dL_law_488 (by decide) (fun c488 => ?_) (fun c488 => ?_)
        · refine J_goto 2508 dL_law_493 (by decide) ?_
          exact J_widen (by omega) (by omega) (next h2 _ f1 g _ _ _ ji o12 o22)
        · exact absurd c488 (Nat.lt_irrefl 0)
    · exact absurd rfl c471
  refine J_aload_n (by rfl) (by rfl) dL_law_441 ?_
  refine J_SX4v dL_law_442 s_L_152 m_L_removeTrail rfl (w_removeTrail x y c0 (fun Q' k1 k2 => c_X10_removeTrail x y I (by omega) cp (fun hT h' hf hP => k1 _ _ _ (hf.at (by decide) o1) (jKv_i ?_)) (fun hT h' hf cp' => k2 _ _ ?_))) (jfit_k rfl rfl (by omega) (by omega))
  · have e : nI 0 = nI (opT s 2 x y 0) := by rw [hT]
    rw [e]
    have o1' := hf.at (by decide) o1
    refine cont _ _ (fun P1 a1 a2 => ?_) ?_ (jget_same2 (jlt o1')) (fun _ => rfl) ?_
    · rw [if_pos hT]
      exact (hP P1 (a1 hT)).frm (jFr.refl.set 125 _ rfl : jFr (fun j => j = 125) _ _) (fun j hj => by omega)
    · exact (MPc.frm mp hf (fun j a b => by show ¬ (_ ≤ _); omega)).frm (jFr.refl.set 125 _ rfl : jFr (fun j => j = 125) _ _) (fun j a b => by omega)
    · exact (jFr.refl.set 125 _ rfl : jFr (fun j => j = 125) _ _).at (by decide) (hf.at (by decide) o2)
  · have nx := cont h' f (fun P1 a1 a2 => by
        rw [if_neg hT, a2 hT, show opN s 2 x y 0 = s by unfold opN; rw [if_neg hT]]
        exact cp') (MPc.frm mp hf (fun j a b => by show ¬ (_ ≤ _); omega)) (hf.at (by decide) o1) (fun e => absurd e hT) (hf.at (by decide) o2)
    generalize opT s 2 x y 0 = T at nx hT hT2 ⊢
    rcases (show T = 1 ∨ T = 2 by omega) with rfl | rfl
    · exact .inl ⟨rfl, jKv_i nx⟩
    · exact .inr (⟨rfl, jKv_i nx⟩)
theorem law_3 (hi : i + 4 ≤ g_L G) (hL : g_L G ≤ 2048) (hc : kc + 10 ≤ room_1.cells) (hn : kn + 60 ≤ room_1.slots) (hK : K < 2 ^ 29) (g1 : JI K h th) (o1 : h[125]? = some (.inl (3, 1, .inr (.inl f)))) (o2 : h[126]? = some (.inl (4, 1, .inr (.inr (.inr (.inl g))))))
    (next : ∀ h' th' f' g' l6 l7 l8, JI (K + 13) h' th' → h'[125]? = some (.inl (3, 1, .inr (.inl f'))) → h'[126]? = some (.inl (4, 1, .inr (.inr (.inr (.inl g'))))) → J G room_1 F M_L_law false (kc + 10) (kn + 60) 2508 [some (.retAddr 0), some (.ref 0), some (.ref 116), some (.ref 125), some (.ref 126), some (.int (nI i)), l6, l7, l8] [] h') :
    J G room_1 F M_L_law false kc kn 496 [some (.retAddr 0), some (.ref 0), some (.ref 116), some (.ref 125), some (.ref 126), some (.int (nI i)), l6, l7, l8] [] h := by
  obtain ⟨s, sc, sm, P, ch, ea, fa, sv, lf, ln, tx, tp, cp, mp, I, hv, hp, h1', h2', h3, h4, h5, h6, h7⟩ := g1
  have c0 := cp.c0
  refine J_aload_n (by rfl) (by rfl) dL_law_496 ?_
  refine J_aload_n (by rfl) (by rfl) dL_law_497 ?_
  refine J_iload (by rfl) dL_law_498 ?_
  refine J_iconst (nI 1) (by decide) dL_law_500 ?_
  refine J_iadd dL_law_501 ?_
  try rw [nI_add]
  refine J_xald (i + 1) dL_law_502 rfl (by omega) (by omega) ?_
  refine J_aload_n (by rfl) (by rfl) dL_law_503 ?_
  refine J_iload (by rfl) dL_law_504 ?_
  refine J_iconst (nI 2) (by decide) dL_law_506 ?_
  refine J_iadd dL_law_507 ?_
  try rw [nI_add]
  refine J_xald (i + 2) dL_law_508 rfl (by omega) (by omega) ?_
  obtain ⟨x, hx⟩ : ∃ x, x = g_S G (i + 1) := ⟨_, rfl⟩
  obtain ⟨y, hy⟩ : ∃ y, y = g_S G (i + 2) := ⟨_, rfl⟩
  rw [← hx, ← hy]
  have hT2 : opT s 3 x y 0 ≤ 4 := by show T3 s x y ≤ 4; unfold T3; (try split) <;> (try split) <;> (try split) <;> (try split) <;> omega
  have cont : ∀ (h1 : jH) (f1 : Nat → Int64), (∀ P1, (opT s 3 x y 0 = 0 → pastN ch P s P1) → (opT s 3 x y 0 ≠ 0 → P1 = P) → CPc h1 (opN s 3 x y 0) sc P1 (if opT s 3 x y 0 = 0 then min (ch + 1) 8 else ch) ea fa sv lf ln tx tp) → MPc h1 s sm P ch th ea fa sv lf ln tx tp → h1[125]? = some (.inl (3, 1, .inr (.inl f1))) → (opT s 3 x y 0 = 0 → f1 0 = (nI (opA s 3 x y 0)).toInt64) → h1[126]? = some (.inl (4, 1, .inr (.inr (.inr (.inl g))))) → J G room_1 F M_L_law false (kc + 1) (kn + 6) 513 [some (.retAddr 0), some (.ref 0), some (.ref 116), some (.ref 125), some (.ref 126), some (.int (nI i)), l6, l7, l8] [.int (nI (opT s 3 x y 0))] h1 := by
    intro h1 f1 cp1 mp1 q1 q2 q3
    have e116 := mp1
    obtain ⟨an9, he9, cm9, W9, F9, C9, m116, _⟩ := e116
    refine J_istore_6 dL_law_513 ?_
    refine J_aload_n (by rfl) (by rfl) dL_law_515 ?_
    refine J_aload_n (by rfl) (by rfl) dL_law_516 ?_
    refine J_iload (by rfl) dL_law_517 ?_
    refine J_iconst (nI 1) (by decide) dL_law_519 ?_
    refine J_iadd dL_law_520 ?_
    try rw [nI_add]
    refine J_xald (i + 1) dL_law_521 rfl (by omega) (by omega) ?_
    refine J_aload_n (by rfl) (by rfl) dL_law_522 ?_
    refine J_iload (by rfl) dL_law_523 ?_
    refine J_iconst (nI 2) (by decide) dL_law_525 ?_
    refine J_iadd dL_law_526 ?_
    try rw [nI_add]
    refine J_xald (i + 2) dL_law_527 rfl (by omega) (by omega) ?_
    rw [← hx, ← hy]
    refine J_V2v (ci := 11) dL_law_528 s_L_158 m_X11_startTour rfl (by repeat (first | assumption | exact jget_same2 (by (try simp only [List.length_set]); exact jlt (by assumption)) | refine jget_ne (by first | decide | assumption | omega) ?_)) rfl (c_X11_startTour x y I (by omega) h1' mp1 (fun h2 P2 hf2 a1 a2 mp2 => (jKv_i ?_))) (hf := jfit_k rfl rfl (by omega) (by omega))
    refine J_istore_7 dL_law_531 ?_
    refine J_aload_n (by rfl) (by rfl) dL_law_533 ?_
    have cp2 := (cp1 P2 a1 a2).frm hf2 (fun j hj => by show ¬ (_ ∧ _); omega)
    have e116 := mp2
    obtain ⟨an8, he8, cm8, W8, F8, C8, m1162, _⟩ := e116
    have o12 := hf2.at (by decide) q1
    have o22 := hf2.at (by decide) q3
    have ji : JI (K + 13) h2 (opT s 3 x y 0) := by
      refine ⟨_, sc, sm, P2, _, ea, fa, sv, lf, ln, tx, tp, cp2, mp2, (Inv_op I (by decide)).mono (by omega), fun w => ⟨(hv w).1.mono (by omega), (hv w).2⟩, ?_, ?_, h2', h3, h4, h5, h6, h7⟩
      · by_cases hT : opT s 3 x y 0 = 0
        · rw [if_pos hT]; exact (hp.past h1' I (a1 hT)).mono (by omega)
        · rw [if_neg hT, a2 hT]; exact hp.mono (by omega)
      · split <;> omega
    refine J_V0v (ci := 11) dL_law_534 s_L_146 m_X11_thrown rfl (by repeat (first | assumption | exact jget_same2 (by (try simp only [List.length_set]); exact jlt (by assumption)) | refine jget_ne (by first | decide | assumption | omega) ?_)) rfl (c_X11_thrown mp2 (jKv_i ?_)) (hf := jfit_k rfl rfl (by omega) (by omega))
    refine J_iload (by rfl) dL_law_537 ?_
    refine J_icmp_eq 544 dL_law_539 (by decide) (fun c539 => ?_) (fun c539 => ?_)
    · refine J_iload (by rfl) dL_law_544 ?_
      refine J_if_ne_n 561 dL_law_546 (by decide) (fun c546 => ?_) (fun c546 => ?_)
      · refine J_goto 2508 dL_law_561 (by decide) ?_
        exact J_widen (by omega) (by omega) (next h2 _ f1 g _ _ _ ji o12 o22)
      · refine J_aload_n (by rfl) (by rfl) dL_law_549 ?_
        refine J_iconst (nI 0) (by decide) dL_law_550 ?_
        refine J_lald (0) dL_law_551 (by repeat (first | assumption | exact jget_same2 (by (try simp only [List.length_set]); exact jlt (by assumption)) | refine jget_ne (by first | decide | assumption | omega) ?_)) (by first | rfl | (simp only [pk_mul, nI_add]; done) | (simp only [pk_mul, nI_add]; congr 1; omega) | (congr 1; omega)) (by omega) ?_
        refine J_iload (by rfl) dL_law_552 ?_
        refine J_i2l dL_law_554 ?_
        refine J_lcmp dL_law_555 ?_
        refine J_topi (nI 0) (by rw [q2 (by omega)]; unfold lg_cmp; simp; rfl) ?_
        refine J_if_eq_n 561 dL_law_556 (by decide) (fun c556 => ?_) (fun c556 => ?_)
        · refine J_goto 2508 dL_law_561 (by decide) ?_
          exact J_widen (by omega) (by omega) (next h2 _ f1 g _ _ _ ji o12 o22)
        · exact absurd c556 (Nat.lt_irrefl 0)
    · exact absurd rfl c539
  refine J_aload_n (by rfl) (by rfl) dL_law_509 ?_
  refine J_SX4v dL_law_510 s_L_156 m_L_startTour rfl (w_startTour x y c0 (fun Q' k1 k2 => c_X10_startTour x y I (by omega) cp (fun hT h' hf hP => k1 _ _ _ (hf.at (by decide) o1) (jKv_i ?_)) (fun hT h' hf cp' => k2 _ _ ?_))) (jfit_k rfl rfl (by omega) (by omega))
  · have e : nI 0 = nI (opT s 3 x y 0) := by rw [hT]
    rw [e]
    have o1' := hf.at (by decide) o1
    refine cont _ _ (fun P1 a1 a2 => ?_) ?_ (jget_same2 (jlt o1')) (fun _ => rfl) ?_
    · rw [if_pos hT]
      exact (hP P1 (a1 hT)).frm (jFr.refl.set 125 _ rfl : jFr (fun j => j = 125) _ _) (fun j hj => by omega)
    · exact (MPc.frm mp hf (fun j a b => by show ¬ (_ ≤ _); omega)).frm (jFr.refl.set 125 _ rfl : jFr (fun j => j = 125) _ _) (fun j a b => by omega)
    · exact (jFr.refl.set 125 _ rfl : jFr (fun j => j = 125) _ _).at (by decide) (hf.at (by decide) o2)
  · have nx := cont h' f (fun P1 a1 a2 => by
        rw [if_neg hT, a2 hT, show opN s 3 x y 0 = s by unfold opN; rw [if_neg hT]]
        exact cp') (MPc.frm mp hf (fun j a b => by show ¬ (_ ≤ _); omega)) (hf.at (by decide) o1) (fun e => absurd e hT) (hf.at (by decide) o2)
    generalize opT s 3 x y 0 = T at nx hT hT2 ⊢
    rcases (show T = 1 ∨ T = 2 ∨ T = 3 ∨ T = 4 by omega) with rfl | rfl | rfl | rfl
    · exact .inl ⟨rfl, jKv_i nx⟩
    · exact .inr (.inl ⟨rfl, jKv_i nx⟩)
    · exact .inr (.inr (.inl ⟨rfl, jKv_i nx⟩))
    · exact .inr (.inr (.inr (⟨rfl, jKv_i nx⟩)))
theorem law_4 (hi : i + 4 ≤ g_L G) (hL : g_L G ≤ 2048) (hc : kc + 10 ≤ room_1.cells) (hn : kn + 60 ≤ room_1.slots) (hK : K < 2 ^ 29) (g1 : JI K h th) (o1 : h[125]? = some (.inl (3, 1, .inr (.inl f)))) (o2 : h[126]? = some (.inl (4, 1, .inr (.inr (.inr (.inl g))))))
    (next : ∀ h' th' f' g' l6 l7 l8, JI (K + 13) h' th' → h'[125]? = some (.inl (3, 1, .inr (.inl f'))) → h'[126]? = some (.inl (4, 1, .inr (.inr (.inr (.inl g'))))) → J G room_1 F M_L_law false (kc + 10) (kn + 60) 2508 [some (.retAddr 0), some (.ref 0), some (.ref 116), some (.ref 125), some (.ref 126), some (.int (nI i)), l6, l7, l8] [] h') :
    J G room_1 F M_L_law false kc kn 564 [some (.retAddr 0), some (.ref 0), some (.ref 116), some (.ref 125), some (.ref 126), some (.int (nI i)), l6, l7, l8] [] h := by
  obtain ⟨s, sc, sm, P, ch, ea, fa, sv, lf, ln, tx, tp, cp, mp, I, hv, hp, h1', h2', h3, h4, h5, h6, h7⟩ := g1
  have c0 := cp.c0
  have hT2 : opT s 8 0 0 0 ≤ 1 := by show T8 s ≤ 1; unfold T8; (try split) <;> (try split) <;> (try split) <;> (try split) <;> omega
  have cont : ∀ (h1 : jH) (f1 : Nat → Int64), (∀ P1, (opT s 8 0 0 0 = 0 → pastN ch P s P1) → (opT s 8 0 0 0 ≠ 0 → P1 = P) → CPc h1 (opN s 8 0 0 0) sc P1 (if opT s 8 0 0 0 = 0 then min (ch + 1) 8 else ch) ea fa sv lf ln tx tp) → MPc h1 s sm P ch th ea fa sv lf ln tx tp → h1[125]? = some (.inl (3, 1, .inr (.inl f1))) → (opT s 8 0 0 0 = 0 → f1 0 = (nI (opA s 8 0 0 0)).toInt64) → h1[126]? = some (.inl (4, 1, .inr (.inr (.inr (.inl g))))) → J G room_1 F M_L_law false (kc + 1) (kn + 6) 569 [some (.retAddr 0), some (.ref 0), some (.ref 116), some (.ref 125), some (.ref 126), some (.int (nI i)), l6, l7, l8] [.int (nI (opT s 8 0 0 0))] h1 := by
    intro h1 f1 cp1 mp1 q1 q2 q3
    have e116 := mp1
    obtain ⟨an9, he9, cm9, W9, F9, C9, m116, _⟩ := e116
    refine J_istore_6 dL_law_569 ?_
    refine J_aload_n (by rfl) (by rfl) dL_law_571 ?_
    refine J_V0v (ci := 11) dL_law_572 s_L_162 m_X11_stopTour rfl (by repeat (first | assumption | exact jget_same2 (by (try simp only [List.length_set]); exact jlt (by assumption)) | refine jget_ne (by first | decide | assumption | omega) ?_)) rfl (c_X11_stopTour  I (by omega) h1' mp1 (fun h2 P2 hf2 a1 a2 mp2 => (jKv_i ?_))) (hf := jfit_k rfl rfl (by omega) (by omega))
    refine J_istore_7 dL_law_575 ?_
    refine J_aload_n (by rfl) (by rfl) dL_law_577 ?_
    have cp2 := (cp1 P2 a1 a2).frm hf2 (fun j hj => by show ¬ (_ ∧ _); omega)
    have e116 := mp2
    obtain ⟨an8, he8, cm8, W8, F8, C8, m1162, _⟩ := e116
    have o12 := hf2.at (by decide) q1
    have o22 := hf2.at (by decide) q3
    have ji : JI (K + 13) h2 (opT s 8 0 0 0) := by
      refine ⟨_, sc, sm, P2, _, ea, fa, sv, lf, ln, tx, tp, cp2, mp2, (Inv_op I (by decide)).mono (by omega), fun w => ⟨(hv w).1.mono (by omega), (hv w).2⟩, ?_, ?_, h2', h3, h4, h5, h6, h7⟩
      · by_cases hT : opT s 8 0 0 0 = 0
        · rw [if_pos hT]; exact (hp.past h1' I (a1 hT)).mono (by omega)
        · rw [if_neg hT, a2 hT]; exact hp.mono (by omega)
      · split <;> omega
    refine J_V0v (ci := 11) dL_law_578 s_L_146 m_X11_thrown rfl (by repeat (first | assumption | exact jget_same2 (by (try simp only [List.length_set]); exact jlt (by assumption)) | refine jget_ne (by first | decide | assumption | omega) ?_)) rfl (c_X11_thrown mp2 (jKv_i ?_)) (hf := jfit_k rfl rfl (by omega) (by omega))
    refine J_iload (by rfl) dL_law_581 ?_
    refine J_icmp_eq 588 dL_law_583 (by decide) (fun c583 => ?_) (fun c583 => ?_)
    · refine J_iload (by rfl) dL_law_588 ?_
      refine J_if_ne_n 605 dL_law_590 (by decide) (fun c590 => ?_) (fun c590 => ?_)
      · refine J_goto 2508 dL_law_605 (by decide) ?_
        exact J_widen (by omega) (by omega) (next h2 _ f1 g _ _ _ ji o12 o22)
      · refine J_aload_n (by rfl) (by rfl) dL_law_593 ?_
        refine J_iconst (nI 0) (by decide) dL_law_594 ?_
        refine J_lald (0) dL_law_595 (by repeat (first | assumption | exact jget_same2 (by (try simp only [List.length_set]); exact jlt (by assumption)) | refine jget_ne (by first | decide | assumption | omega) ?_)) (by first | rfl | (simp only [pk_mul, nI_add]; done) | (simp only [pk_mul, nI_add]; congr 1; omega) | (congr 1; omega)) (by omega) ?_
        refine J_iload (by rfl) dL_law_596 ?_
        refine J_i2l dL_law_598 ?_
        refine J_lcmp dL_law_599 ?_
        refine J_topi (nI 0) (by rw [q2 (by omega)]; unfold lg_cmp; simp; rfl) ?_
        refine J_if_eq_n 605 dL_law_600 (by decide) (fun c600 => ?_) (fun c600 => ?_)
        · refine J_goto 2508 dL_law_605 (by decide) ?_
          exact J_widen (by omega) (by omega) (next h2 _ f1 g _ _ _ ji o12 o22)
        · exact absurd c600 (Nat.lt_irrefl 0)
    · exact absurd rfl c583
  refine J_aload_n (by rfl) (by rfl) dL_law_564 ?_
  refine J_aload_n (by rfl) (by rfl) dL_law_565 ?_
  refine J_SX2v dL_law_566 s_L_159 m_L_stopTour rfl (w_stopTour c0 (fun Q' k1 k2 => c_X10_stopTour I (by omega) cp (fun hT h' hf hP => k1 _ _ _ (hf.at (by decide) o1) (jKv_i ?_)) (fun hT h' hf cp' => k2 _ _ ?_))) (jfit_k rfl rfl (by omega) (by omega))
  · have e : nI 0 = nI (opT s 8 0 0 0) := by rw [hT]
    rw [e]
    have o1' := hf.at (by decide) o1
    refine cont _ _ (fun P1 a1 a2 => ?_) ?_ (jget_same2 (jlt o1')) (fun _ => rfl) ?_
    · rw [if_pos hT]
      exact (hP P1 (a1 hT)).frm (jFr.refl.set 125 _ rfl : jFr (fun j => j = 125) _ _) (fun j hj => by omega)
    · exact (MPc.frm mp hf (fun j a b => by show ¬ (_ ≤ _); omega)).frm (jFr.refl.set 125 _ rfl : jFr (fun j => j = 125) _ _) (fun j a b => by omega)
    · exact (jFr.refl.set 125 _ rfl : jFr (fun j => j = 125) _ _).at (by decide) (hf.at (by decide) o2)
  · have nx := cont h' f (fun P1 a1 a2 => by
        rw [if_neg hT, a2 hT, show opN s 8 0 0 0 = s by unfold opN; rw [if_neg hT]]
        exact cp') (MPc.frm mp hf (fun j a b => by show ¬ (_ ≤ _); omega)) (hf.at (by decide) o1) (fun e => absurd e hT) (hf.at (by decide) o2)
    generalize opT s 8 0 0 0 = T at nx hT hT2 ⊢
    rcases (show T = 1 by omega) with rfl
    · exact ⟨rfl, jKv_i nx⟩
theorem law_6 (hi : i + 4 ≤ g_L G) (hL : g_L G ≤ 2048) (hc : kc + 10 ≤ room_1.cells) (hn : kn + 60 ≤ room_1.slots) (hK : K < 2 ^ 29) (g1 : JI K h th) (o1 : h[125]? = some (.inl (3, 1, .inr (.inl f)))) (o2 : h[126]? = some (.inl (4, 1, .inr (.inr (.inr (.inl g))))))
    (next : ∀ h' th' f' g' l6 l7 l8, JI (K + 13) h' th' → h'[125]? = some (.inl (3, 1, .inr (.inl f'))) → h'[126]? = some (.inl (4, 1, .inr (.inr (.inr (.inl g'))))) → J G room_1 F M_L_law false (kc + 10) (kn + 60) 2508 [some (.retAddr 0), some (.ref 0), some (.ref 116), some (.ref 125), some (.ref 126), some (.int (nI i)), l6, l7, l8] [] h') :
    J G room_1 F M_L_law false kc kn 683 [some (.retAddr 0), some (.ref 0), some (.ref 116), some (.ref 125), some (.ref 126), some (.int (nI i)), l6, l7, l8] [] h := by
  obtain ⟨s, sc, sm, P, ch, ea, fa, sv, lf, ln, tx, tp, cp, mp, I, hv, hp, h1', h2', h3, h4, h5, h6, h7⟩ := g1
  have c0 := cp.c0
  refine J_aload_n (by rfl) (by rfl) dL_law_683 ?_
  refine J_aload_n (by rfl) (by rfl) dL_law_684 ?_
  refine J_iload (by rfl) dL_law_685 ?_
  refine J_iconst (nI 1) (by decide) dL_law_687 ?_
  refine J_iadd dL_law_688 ?_
  try rw [nI_add]
  refine J_xald (i + 1) dL_law_689 rfl (by omega) (by omega) ?_
  obtain ⟨x, hx⟩ : ∃ x, x = g_S G (i + 1) := ⟨_, rfl⟩
  rw [← hx]
  have hT2 : opT s 5 x 0 0 ≤ 1 := by show T5 x ≤ 1; unfold T5; (try split) <;> (try split) <;> (try split) <;> (try split) <;> omega
  have cont : ∀ (h1 : jH) (f1 : Nat → Int64), (∀ P1, (opT s 5 x 0 0 = 0 → pastN ch P s P1) → (opT s 5 x 0 0 ≠ 0 → P1 = P) → CPc h1 (opN s 5 x 0 0) sc P1 (if opT s 5 x 0 0 = 0 then min (ch + 1) 8 else ch) ea fa sv lf ln tx tp) → MPc h1 s sm P ch th ea fa sv lf ln tx tp → h1[125]? = some (.inl (3, 1, .inr (.inl f1))) → (opT s 5 x 0 0 = 0 → f1 0 = (nI (opA s 5 x 0 0)).toInt64) → h1[126]? = some (.inl (4, 1, .inr (.inr (.inr (.inl g))))) → J G room_1 F M_L_law false (kc + 1) (kn + 6) 694 [some (.retAddr 0), some (.ref 0), some (.ref 116), some (.ref 125), some (.ref 126), some (.int (nI i)), l6, l7, l8] [.int (nI (opT s 5 x 0 0))] h1 := by
    intro h1 f1 cp1 mp1 q1 q2 q3
    have e116 := mp1
    obtain ⟨an9, he9, cm9, W9, F9, C9, m116, _⟩ := e116
    refine J_istore_6 dL_law_694 ?_
    refine J_aload_n (by rfl) (by rfl) dL_law_696 ?_
    refine J_aload_n (by rfl) (by rfl) dL_law_697 ?_
    refine J_iload (by rfl) dL_law_698 ?_
    refine J_iconst (nI 1) (by decide) dL_law_700 ?_
    refine J_iadd dL_law_701 ?_
    try rw [nI_add]
    refine J_xald (i + 1) dL_law_702 rfl (by omega) (by omega) ?_
    rw [← hx]
    refine J_V1v (ci := 11) dL_law_703 s_L_169 m_X11_setTolerance rfl (by repeat (first | assumption | exact jget_same2 (by (try simp only [List.length_set]); exact jlt (by assumption)) | refine jget_ne (by first | decide | assumption | omega) ?_)) rfl (c_X11_setTolerance x I (by omega) h1' mp1 (fun h2 P2 hf2 a1 a2 mp2 => (jKv_i ?_))) (hf := jfit_k rfl rfl (by omega) (by omega))
    refine J_istore_7 dL_law_706 ?_
    refine J_aload_n (by rfl) (by rfl) dL_law_708 ?_
    have cp2 := (cp1 P2 a1 a2).frm hf2 (fun j hj => by show ¬ (_ ∧ _); omega)
    have e116 := mp2
    obtain ⟨an8, he8, cm8, W8, F8, C8, m1162, _⟩ := e116
    have o12 := hf2.at (by decide) q1
    have o22 := hf2.at (by decide) q3
    have ji : JI (K + 13) h2 (opT s 5 x 0 0) := by
      refine ⟨_, sc, sm, P2, _, ea, fa, sv, lf, ln, tx, tp, cp2, mp2, (Inv_op I (by decide)).mono (by omega), fun w => ⟨(hv w).1.mono (by omega), (hv w).2⟩, ?_, ?_, h2', h3, h4, h5, h6, h7⟩
      · by_cases hT : opT s 5 x 0 0 = 0
        · rw [if_pos hT]; exact (hp.past h1' I (a1 hT)).mono (by omega)
        · rw [if_neg hT, a2 hT]; exact hp.mono (by omega)
      · split <;> omega
    refine J_V0v (ci := 11) dL_law_709 s_L_146 m_X11_thrown rfl (by repeat (first | assumption | exact jget_same2 (by (try simp only [List.length_set]); exact jlt (by assumption)) | refine jget_ne (by first | decide | assumption | omega) ?_)) rfl (c_X11_thrown mp2 (jKv_i ?_)) (hf := jfit_k rfl rfl (by omega) (by omega))
    refine J_iload (by rfl) dL_law_712 ?_
    refine J_icmp_eq 719 dL_law_714 (by decide) (fun c714 => ?_) (fun c714 => ?_)
    · refine J_iload (by rfl) dL_law_719 ?_
      refine J_if_ne_n 736 dL_law_721 (by decide) (fun c721 => ?_) (fun c721 => ?_)
      · refine J_goto 2508 dL_law_736 (by decide) ?_
        exact J_widen (by omega) (by omega) (next h2 _ f1 g _ _ _ ji o12 o22)
      · refine J_aload_n (by rfl) (by rfl) dL_law_724 ?_
        refine J_iconst (nI 0) (by decide) dL_law_725 ?_
        refine J_lald (0) dL_law_726 (by repeat (first | assumption | exact jget_same2 (by (try simp only [List.length_set]); exact jlt (by assumption)) | refine jget_ne (by first | decide | assumption | omega) ?_)) (by first | rfl | (simp only [pk_mul, nI_add]; done) | (simp only [pk_mul, nI_add]; congr 1; omega) | (congr 1; omega)) (by omega) ?_
        refine J_iload (by rfl) dL_law_727 ?_
        refine J_i2l dL_law_729 ?_
        refine J_lcmp dL_law_730 ?_
        refine J_topi (nI 0) (by rw [q2 (by omega)]; unfold lg_cmp; simp; rfl) ?_
        refine J_if_eq_n 736 dL_law_731 (by decide) (fun c731 => ?_) (fun c731 => ?_)
        · refine J_goto 2508 dL_law_736 (by decide) ?_
          exact J_widen (by omega) (by omega) (next h2 _ f1 g _ _ _ ji o12 o22)
        · exact absurd c731 (Nat.lt_irrefl 0)
    · exact absurd rfl c714
  refine J_aload_n (by rfl) (by rfl) dL_law_690 ?_
  refine J_SX3v dL_law_691 s_L_166 m_L_setTolerance rfl (w_setTolerance x c0 (fun Q' k1 k2 => c_X10_setTolerance x I (by omega) cp (fun hT h' hf hP => k1 _ _ _ (hf.at (by decide) o1) (jKv_i ?_)) (fun hT h' hf cp' => k2 _ _ ?_))) (jfit_k rfl rfl (by omega) (by omega))
  · have e : nI 0 = nI (opT s 5 x 0 0) := by rw [hT]
    rw [e]
    have o1' := hf.at (by decide) o1
    refine cont _ _ (fun P1 a1 a2 => ?_) ?_ (jget_same2 (jlt o1')) (fun _ => rfl) ?_
    · rw [if_pos hT]
      exact (hP P1 (a1 hT)).frm (jFr.refl.set 125 _ rfl : jFr (fun j => j = 125) _ _) (fun j hj => by omega)
    · exact (MPc.frm mp hf (fun j a b => by show ¬ (_ ≤ _); omega)).frm (jFr.refl.set 125 _ rfl : jFr (fun j => j = 125) _ _) (fun j a b => by omega)
    · exact (jFr.refl.set 125 _ rfl : jFr (fun j => j = 125) _ _).at (by decide) (hf.at (by decide) o2)
  · have nx := cont h' f (fun P1 a1 a2 => by
        rw [if_neg hT, a2 hT, show opN s 5 x 0 0 = s by unfold opN; rw [if_neg hT]]
        exact cp') (MPc.frm mp hf (fun j a b => by show ¬ (_ ≤ _); omega)) (hf.at (by decide) o1) (fun e => absurd e hT) (hf.at (by decide) o2)
    generalize opT s 5 x 0 0 = T at nx hT hT2 ⊢
    rcases (show T = 1 by omega) with rfl
    · exact ⟨rfl, jKv_i nx⟩
theorem law_7 (hi : i + 4 ≤ g_L G) (hL : g_L G ≤ 2048) (hc : kc + 10 ≤ room_1.cells) (hn : kn + 60 ≤ room_1.slots) (hK : K < 2 ^ 29) (g1 : JI K h th) (o1 : h[125]? = some (.inl (3, 1, .inr (.inl f)))) (o2 : h[126]? = some (.inl (4, 1, .inr (.inr (.inr (.inl g))))))
    (next : ∀ h' th' f' g' l6 l7 l8, JI (K + 13) h' th' → h'[125]? = some (.inl (3, 1, .inr (.inl f'))) → h'[126]? = some (.inl (4, 1, .inr (.inr (.inr (.inl g'))))) → J G room_1 F M_L_law false (kc + 10) (kn + 60) 2508 [some (.retAddr 0), some (.ref 0), some (.ref 116), some (.ref 125), some (.ref 126), some (.int (nI i)), l6, l7, l8] [] h') :
    J G room_1 F M_L_law false kc kn 739 [some (.retAddr 0), some (.ref 0), some (.ref 116), some (.ref 125), some (.ref 126), some (.int (nI i)), l6, l7, l8] [] h := by
  obtain ⟨s, sc, sm, P, ch, ea, fa, sv, lf, ln, tx, tp, cp, mp, I, hv, hp, h1', h2', h3, h4, h5, h6, h7⟩ := g1
  have c0 := cp.c0
  refine J_aload_n (by rfl) (by rfl) dL_law_739 ?_
  refine J_aload_n (by rfl) (by rfl) dL_law_740 ?_
  refine J_iload (by rfl) dL_law_741 ?_
  refine J_iconst (nI 1) (by decide) dL_law_743 ?_
  refine J_iadd dL_law_744 ?_
  try rw [nI_add]
  refine J_xald (i + 1) dL_law_745 rfl (by omega) (by omega) ?_
  obtain ⟨x, hx⟩ : ∃ x, x = g_S G (i + 1) := ⟨_, rfl⟩
  rw [← hx]
  have hT2 : opT s 4 x 0 0 ≤ 1 := by show T4 x ≤ 1; unfold T4; (try split) <;> (try split) <;> (try split) <;> (try split) <;> omega
  have cont : ∀ (h1 : jH) (f1 : Nat → Int64), (∀ P1, (opT s 4 x 0 0 = 0 → pastN ch P s P1) → (opT s 4 x 0 0 ≠ 0 → P1 = P) → CPc h1 (opN s 4 x 0 0) sc P1 (if opT s 4 x 0 0 = 0 then min (ch + 1) 8 else ch) ea fa sv lf ln tx tp) → MPc h1 s sm P ch th ea fa sv lf ln tx tp → h1[125]? = some (.inl (3, 1, .inr (.inl f1))) → (opT s 4 x 0 0 = 0 → f1 0 = (nI (opA s 4 x 0 0)).toInt64) → h1[126]? = some (.inl (4, 1, .inr (.inr (.inr (.inl g))))) → J G room_1 F M_L_law false (kc + 1) (kn + 6) 750 [some (.retAddr 0), some (.ref 0), some (.ref 116), some (.ref 125), some (.ref 126), some (.int (nI i)), l6, l7, l8] [.int (nI (opT s 4 x 0 0))] h1 := by
    intro h1 f1 cp1 mp1 q1 q2 q3
    have e116 := mp1
    obtain ⟨an9, he9, cm9, W9, F9, C9, m116, _⟩ := e116
    refine J_istore_6 dL_law_750 ?_
    refine J_aload_n (by rfl) (by rfl) dL_law_752 ?_
    refine J_aload_n (by rfl) (by rfl) dL_law_753 ?_
    refine J_iload (by rfl) dL_law_754 ?_
    refine J_iconst (nI 1) (by decide) dL_law_756 ?_
    refine J_iadd dL_law_757 ?_
    try rw [nI_add]
    refine J_xald (i + 1) dL_law_758 rfl (by omega) (by omega) ?_
    rw [← hx]
    refine J_V1v (ci := 11) dL_law_759 s_L_172 m_X11_setMode rfl (by repeat (first | assumption | exact jget_same2 (by (try simp only [List.length_set]); exact jlt (by assumption)) | refine jget_ne (by first | decide | assumption | omega) ?_)) rfl (c_X11_setMode x I (by omega) h1' mp1 (fun h2 P2 hf2 a1 a2 mp2 => (jKv_i ?_))) (hf := jfit_k rfl rfl (by omega) (by omega))
    refine J_istore_7 dL_law_762 ?_
    refine J_aload_n (by rfl) (by rfl) dL_law_764 ?_
    have cp2 := (cp1 P2 a1 a2).frm hf2 (fun j hj => by show ¬ (_ ∧ _); omega)
    have e116 := mp2
    obtain ⟨an8, he8, cm8, W8, F8, C8, m1162, _⟩ := e116
    have o12 := hf2.at (by decide) q1
    have o22 := hf2.at (by decide) q3
    have ji : JI (K + 13) h2 (opT s 4 x 0 0) := by
      refine ⟨_, sc, sm, P2, _, ea, fa, sv, lf, ln, tx, tp, cp2, mp2, (Inv_op I (by decide)).mono (by omega), fun w => ⟨(hv w).1.mono (by omega), (hv w).2⟩, ?_, ?_, h2', h3, h4, h5, h6, h7⟩
      · by_cases hT : opT s 4 x 0 0 = 0
        · rw [if_pos hT]; exact (hp.past h1' I (a1 hT)).mono (by omega)
        · rw [if_neg hT, a2 hT]; exact hp.mono (by omega)
      · split <;> omega
    refine J_V0v (ci := 11) dL_law_765 s_L_146 m_X11_thrown rfl (by repeat (first | assumption | exact jget_same2 (by (try simp only [List.length_set]); exact jlt (by assumption)) | refine jget_ne (by first | decide | assumption | omega) ?_)) rfl (c_X11_thrown mp2 (jKv_i ?_)) (hf := jfit_k rfl rfl (by omega) (by omega))
    refine J_iload (by rfl) dL_law_768 ?_
    refine J_icmp_eq 775 dL_law_770 (by decide) (fun c770 => ?_) (fun c770 => ?_)
    · refine J_iload (by rfl) dL_law_775 ?_
      refine J_if_ne_n 792 dL_law_777 (by decide) (fun c777 => ?_) (fun c777 => ?_)
      · refine J_goto 2508 dL_law_792 (by decide) ?_
        exact J_widen (by omega) (by omega) (next h2 _ f1 g _ _ _ ji o12 o22)
      · refine J_aload_n (by rfl) (by rfl) dL_law_780 ?_
        refine J_iconst (nI 0) (by decide) dL_law_781 ?_
        refine J_lald (0) dL_law_782 (by repeat (first | assumption | exact jget_same2 (by (try simp only [List.length_set]); exact jlt (by assumption)) | refine jget_ne (by first | decide | assumption | omega) ?_)) (by first | rfl | (simp only [pk_mul, nI_add]; done) | (simp only [pk_mul, nI_add]; congr 1; omega) | (congr 1; omega)) (by omega) ?_
        refine J_iload (by rfl) dL_law_783 ?_
        refine J_i2l dL_law_785 ?_
        refine J_lcmp dL_law_786 ?_
        refine J_topi (nI 0) (by rw [q2 (by omega)]; unfold lg_cmp; simp; rfl) ?_
        refine J_if_eq_n 792 dL_law_787 (by decide) (fun c787 => ?_) (fun c787 => ?_)
        · refine J_goto 2508 dL_law_792 (by decide) ?_
          exact J_widen (by omega) (by omega) (next h2 _ f1 g _ _ _ ji o12 o22)
        · exact absurd c787 (Nat.lt_irrefl 0)
    · exact absurd rfl c770
  refine J_aload_n (by rfl) (by rfl) dL_law_746 ?_
  refine J_SX3v dL_law_747 s_L_170 m_L_setMode rfl (w_setMode x c0 (fun Q' k1 k2 => c_X10_setMode x I (by omega) cp (fun hT h' hf hP => k1 _ _ _ (hf.at (by decide) o1) (jKv_i ?_)) (fun hT h' hf cp' => k2 _ _ ?_))) (jfit_k rfl rfl (by omega) (by omega))
  · have e : nI 0 = nI (opT s 4 x 0 0) := by rw [hT]
    rw [e]
    have o1' := hf.at (by decide) o1
    refine cont _ _ (fun P1 a1 a2 => ?_) ?_ (jget_same2 (jlt o1')) (fun _ => rfl) ?_
    · rw [if_pos hT]
      exact (hP P1 (a1 hT)).frm (jFr.refl.set 125 _ rfl : jFr (fun j => j = 125) _ _) (fun j hj => by omega)
    · exact (MPc.frm mp hf (fun j a b => by show ¬ (_ ≤ _); omega)).frm (jFr.refl.set 125 _ rfl : jFr (fun j => j = 125) _ _) (fun j a b => by omega)
    · exact (jFr.refl.set 125 _ rfl : jFr (fun j => j = 125) _ _).at (by decide) (hf.at (by decide) o2)
  · have nx := cont h' f (fun P1 a1 a2 => by
        rw [if_neg hT, a2 hT, show opN s 4 x 0 0 = s by unfold opN; rw [if_neg hT]]
        exact cp') (MPc.frm mp hf (fun j a b => by show ¬ (_ ≤ _); omega)) (hf.at (by decide) o1) (fun e => absurd e hT) (hf.at (by decide) o2)
    generalize opT s 4 x 0 0 = T at nx hT hT2 ⊢
    rcases (show T = 1 by omega) with rfl
    · exact ⟨rfl, jKv_i nx⟩
theorem law_8 (hi : i + 4 ≤ g_L G) (hL : g_L G ≤ 2048) (hc : kc + 10 ≤ room_1.cells) (hn : kn + 60 ≤ room_1.slots) (hK : K < 2 ^ 29) (g1 : JI K h th) (o1 : h[125]? = some (.inl (3, 1, .inr (.inl f)))) (o2 : h[126]? = some (.inl (4, 1, .inr (.inr (.inr (.inl g))))))
    (next : ∀ h' th' f' g' l6 l7 l8, JI (K + 13) h' th' → h'[125]? = some (.inl (3, 1, .inr (.inl f'))) → h'[126]? = some (.inl (4, 1, .inr (.inr (.inr (.inl g'))))) → J G room_1 F M_L_law false (kc + 10) (kn + 60) 2508 [some (.retAddr 0), some (.ref 0), some (.ref 116), some (.ref 125), some (.ref 126), some (.int (nI i)), l6, l7, l8] [] h') :
    J G room_1 F M_L_law false kc kn 795 [some (.retAddr 0), some (.ref 0), some (.ref 116), some (.ref 125), some (.ref 126), some (.int (nI i)), l6, l7, l8] [] h := by
  obtain ⟨s, sc, sm, P, ch, ea, fa, sv, lf, ln, tx, tp, cp, mp, I, hv, hp, h1', h2', h3, h4, h5, h6, h7⟩ := g1
  have c0 := cp.c0
  refine J_aload_n (by rfl) (by rfl) dL_law_795 ?_
  refine J_aload_n (by rfl) (by rfl) dL_law_796 ?_
  refine J_iload (by rfl) dL_law_797 ?_
  refine J_iconst (nI 1) (by decide) dL_law_799 ?_
  refine J_iadd dL_law_800 ?_
  try rw [nI_add]
  refine J_xald (i + 1) dL_law_801 rfl (by omega) (by omega) ?_
  obtain ⟨x, hx⟩ : ∃ x, x = g_S G (i + 1) := ⟨_, rfl⟩
  rw [← hx]
  have hT2 : opT s 6 x 0 0 ≤ 1 := by show T6 x ≤ 1; unfold T6; (try split) <;> (try split) <;> (try split) <;> (try split) <;> omega
  have cont : ∀ (h1 : jH) (f1 : Nat → Int64), (∀ P1, (opT s 6 x 0 0 = 0 → pastN ch P s P1) → (opT s 6 x 0 0 ≠ 0 → P1 = P) → CPc h1 (opN s 6 x 0 0) sc P1 (if opT s 6 x 0 0 = 0 then min (ch + 1) 8 else ch) ea fa sv lf ln tx tp) → MPc h1 s sm P ch th ea fa sv lf ln tx tp → h1[125]? = some (.inl (3, 1, .inr (.inl f1))) → (opT s 6 x 0 0 = 0 → f1 0 = (nI (opA s 6 x 0 0)).toInt64) → h1[126]? = some (.inl (4, 1, .inr (.inr (.inr (.inl g))))) → J G room_1 F M_L_law false (kc + 1) (kn + 6) 806 [some (.retAddr 0), some (.ref 0), some (.ref 116), some (.ref 125), some (.ref 126), some (.int (nI i)), l6, l7, l8] [.int (nI (opT s 6 x 0 0))] h1 := by
    intro h1 f1 cp1 mp1 q1 q2 q3
    have e116 := mp1
    obtain ⟨an9, he9, cm9, W9, F9, C9, m116, _⟩ := e116
    refine J_istore_6 dL_law_806 ?_
    refine J_aload_n (by rfl) (by rfl) dL_law_808 ?_
    refine J_aload_n (by rfl) (by rfl) dL_law_809 ?_
    refine J_iload (by rfl) dL_law_810 ?_
    refine J_iconst (nI 1) (by decide) dL_law_812 ?_
    refine J_iadd dL_law_813 ?_
    try rw [nI_add]
    refine J_xald (i + 1) dL_law_814 rfl (by omega) (by omega) ?_
    rw [← hx]
    refine J_V1v (ci := 11) dL_law_815 s_L_175 m_X11_charge rfl (by repeat (first | assumption | exact jget_same2 (by (try simp only [List.length_set]); exact jlt (by assumption)) | refine jget_ne (by first | decide | assumption | omega) ?_)) rfl (c_X11_charge x I (by omega) h1' mp1 (fun h2 P2 hf2 a1 a2 mp2 => (jKv_i ?_))) (hf := jfit_k rfl rfl (by omega) (by omega))
    refine J_istore_7 dL_law_818 ?_
    refine J_aload_n (by rfl) (by rfl) dL_law_820 ?_
    have cp2 := (cp1 P2 a1 a2).frm hf2 (fun j hj => by show ¬ (_ ∧ _); omega)
    have e116 := mp2
    obtain ⟨an8, he8, cm8, W8, F8, C8, m1162, _⟩ := e116
    have o12 := hf2.at (by decide) q1
    have o22 := hf2.at (by decide) q3
    have ji : JI (K + 13) h2 (opT s 6 x 0 0) := by
      refine ⟨_, sc, sm, P2, _, ea, fa, sv, lf, ln, tx, tp, cp2, mp2, (Inv_op I (by decide)).mono (by omega), fun w => ⟨(hv w).1.mono (by omega), (hv w).2⟩, ?_, ?_, h2', h3, h4, h5, h6, h7⟩
      · by_cases hT : opT s 6 x 0 0 = 0
        · rw [if_pos hT]; exact (hp.past h1' I (a1 hT)).mono (by omega)
        · rw [if_neg hT, a2 hT]; exact hp.mono (by omega)
      · split <;> omega
    refine J_V0v (ci := 11) dL_law_821 s_L_146 m_X11_thrown rfl (by repeat (first | assumption | exact jget_same2 (by (try simp only [List.length_set]); exact jlt (by assumption)) | refine jget_ne (by first | decide | assumption | omega) ?_)) rfl (c_X11_thrown mp2 (jKv_i ?_)) (hf := jfit_k rfl rfl (by omega) (by omega))
    refine J_iload (by rfl) dL_law_824 ?_
    refine J_icmp_eq 831 dL_law_826 (by decide) (fun c826 => ?_) (fun c826 => ?_)
    · refine J_iload (by rfl) dL_law_831 ?_
      refine J_if_ne_n 848 dL_law_833 (by decide) (fun c833 => ?_) (fun c833 => ?_)
      · refine J_goto 2508 dL_law_848 (by decide) ?_
        exact J_widen (by omega) (by omega) (next h2 _ f1 g _ _ _ ji o12 o22)
      · refine J_aload_n (by rfl) (by rfl) dL_law_836 ?_
        refine J_iconst (nI 0) (by decide) dL_law_837 ?_
        refine J_lald (0) dL_law_838 (by repeat (first | assumption | exact jget_same2 (by (try simp only [List.length_set]); exact jlt (by assumption)) | refine jget_ne (by first | decide | assumption | omega) ?_)) (by first | rfl | (simp only [pk_mul, nI_add]; done) | (simp only [pk_mul, nI_add]; congr 1; omega) | (congr 1; omega)) (by omega) ?_
        refine J_iload (by rfl) dL_law_839 ?_
        refine J_i2l dL_law_841 ?_
        refine J_lcmp dL_law_842 ?_
        refine J_topi (nI 0) (by rw [q2 (by omega)]; unfold lg_cmp; simp; rfl) ?_
        refine J_if_eq_n 848 dL_law_843 (by decide) (fun c843 => ?_) (fun c843 => ?_)
        · refine J_goto 2508 dL_law_848 (by decide) ?_
          exact J_widen (by omega) (by omega) (next h2 _ f1 g _ _ _ ji o12 o22)
        · exact absurd c843 (Nat.lt_irrefl 0)
    · exact absurd rfl c826
  refine J_aload_n (by rfl) (by rfl) dL_law_802 ?_
  refine J_SX3v dL_law_803 s_L_173 m_L_charge rfl (w_charge x c0 (fun Q' k1 k2 => c_X10_charge x I (by omega) cp (fun hT h' hf hP => k1 _ _ _ (hf.at (by decide) o1) (jKv_i ?_)) (fun hT h' hf cp' => k2 _ _ ?_))) (jfit_k rfl rfl (by omega) (by omega))
  · have e : nI 0 = nI (opT s 6 x 0 0) := by rw [hT]
    rw [e]
    have o1' := hf.at (by decide) o1
    refine cont _ _ (fun P1 a1 a2 => ?_) ?_ (jget_same2 (jlt o1')) (fun _ => rfl) ?_
    · rw [if_pos hT]
      exact (hP P1 (a1 hT)).frm (jFr.refl.set 125 _ rfl : jFr (fun j => j = 125) _ _) (fun j hj => by omega)
    · exact (MPc.frm mp hf (fun j a b => by show ¬ (_ ≤ _); omega)).frm (jFr.refl.set 125 _ rfl : jFr (fun j => j = 125) _ _) (fun j a b => by omega)
    · exact (jFr.refl.set 125 _ rfl : jFr (fun j => j = 125) _ _).at (by decide) (hf.at (by decide) o2)
  · have nx := cont h' f (fun P1 a1 a2 => by
        rw [if_neg hT, a2 hT, show opN s 6 x 0 0 = s by unfold opN; rw [if_neg hT]]
        exact cp') (MPc.frm mp hf (fun j a b => by show ¬ (_ ≤ _); omega)) (hf.at (by decide) o1) (fun e => absurd e hT) (hf.at (by decide) o2)
    generalize opT s 6 x 0 0 = T at nx hT hT2 ⊢
    rcases (show T = 1 by omega) with rfl
    · exact ⟨rfl, jKv_i nx⟩
theorem law_5 (hi : i + 4 ≤ g_L G) (hL : g_L G ≤ 2048) (hc : kc + 10 ≤ room_1.cells) (hn : kn + 60 ≤ room_1.slots) (hK : K < 2 ^ 29) (g1 : JI K h th) (o1 : h[125]? = some (.inl (3, 1, .inr (.inl f)))) (o2 : h[126]? = some (.inl (4, 1, .inr (.inr (.inr (.inl g))))))
    (next : ∀ h' th' f' g' l6 l7 l8, JI (K + 13) h' th' → h'[125]? = some (.inl (3, 1, .inr (.inl f'))) → h'[126]? = some (.inl (4, 1, .inr (.inr (.inr (.inl g'))))) → J G room_1 F M_L_law false (kc + 10) (kn + 60) 2508 [some (.retAddr 0), some (.ref 0), some (.ref 116), some (.ref 125), some (.ref 126), some (.int (nI i)), l6, l7, l8] [] h') :
    J G room_1 F M_L_law false kc kn 608 [some (.retAddr 0), some (.ref 0), some (.ref 116), some (.ref 125), some (.ref 126), some (.int (nI i)), l6, l7, l8] [] h := by
  obtain ⟨s, sc, sm, P, ch, ea, fa, sv, lf, ln, tx, tp, cp, mp, I, hv, hp, h1', h2', h3, h4, h5, h6, h7⟩ := g1
  have c0 := cp.c0
  refine J_aload_n (by rfl) (by rfl) dL_law_608 ?_
  refine J_aload_n (by rfl) (by rfl) dL_law_609 ?_
  refine J_iload (by rfl) dL_law_610 ?_
  refine J_iconst (nI 1) (by decide) dL_law_612 ?_
  refine J_iadd dL_law_613 ?_
  try rw [nI_add]
  refine J_xald (i + 1) dL_law_614 rfl (by omega) (by omega) ?_
  refine J_aload_n (by rfl) (by rfl) dL_law_615 ?_
  refine J_iload (by rfl) dL_law_616 ?_
  refine J_iconst (nI 2) (by decide) dL_law_618 ?_
  refine J_iadd dL_law_619 ?_
  try rw [nI_add]
  refine J_xald (i + 2) dL_law_620 rfl (by omega) (by omega) ?_
  obtain ⟨x, hx⟩ : ∃ x, x = g_S G (i + 1) := ⟨_, rfl⟩
  obtain ⟨y, hy⟩ : ∃ y, y = g_S G (i + 2) := ⟨_, rfl⟩
  rw [← hx, ← hy]
  have hT2 : opT s 7 x y 0 ≤ 3 := by show T7 s x y ≤ 3; unfold T7; (try split) <;> (try split) <;> (try split) <;> (try split) <;> omega
  have cont : ∀ (h1 : jH) (f1 : Nat → Int64), (∀ P1, (opT s 7 x y 0 = 0 → pastN ch P s P1) → (opT s 7 x y 0 ≠ 0 → P1 = P) → CPc h1 (opN s 7 x y 0) sc P1 (if opT s 7 x y 0 = 0 then min (ch + 1) 8 else ch) ea fa sv lf ln tx tp) → MPc h1 s sm P ch th ea fa sv lf ln tx tp → h1[125]? = some (.inl (3, 1, .inr (.inl f1))) → (opT s 7 x y 0 = 0 → f1 0 = (if decide (opA s 7 x y 0 = 1) = true then 1 else 0)) → h1[126]? = some (.inl (4, 1, .inr (.inr (.inr (.inl g))))) → J G room_1 F M_L_law false (kc + 1) (kn + 6) 625 [some (.retAddr 0), some (.ref 0), some (.ref 116), some (.ref 125), some (.ref 126), some (.int (nI i)), l6, l7, l8] [.int (nI (opT s 7 x y 0))] h1 := by
    intro h1 f1 cp1 mp1 q1 q2 q3
    have e116 := mp1
    obtain ⟨an9, he9, cm9, W9, F9, C9, m116, _⟩ := e116
    refine J_istore_6 dL_law_625 ?_
    refine J_aload_n (by rfl) (by rfl) dL_law_627 ?_
    refine J_aload_n (by rfl) (by rfl) dL_law_628 ?_
    refine J_iload (by rfl) dL_law_629 ?_
    refine J_iconst (nI 1) (by decide) dL_law_631 ?_
    refine J_iadd dL_law_632 ?_
    try rw [nI_add]
    refine J_xald (i + 1) dL_law_633 rfl (by omega) (by omega) ?_
    refine J_aload_n (by rfl) (by rfl) dL_law_634 ?_
    refine J_iload (by rfl) dL_law_635 ?_
    refine J_iconst (nI 2) (by decide) dL_law_637 ?_
    refine J_iadd dL_law_638 ?_
    try rw [nI_add]
    refine J_xald (i + 2) dL_law_639 rfl (by omega) (by omega) ?_
    rw [← hx, ← hy]
    refine J_V2v (ci := 11) dL_law_640 s_L_165 m_X11_update rfl (by repeat (first | assumption | exact jget_same2 (by (try simp only [List.length_set]); exact jlt (by assumption)) | refine jget_ne (by first | decide | assumption | omega) ?_)) rfl (c_X11_update x y I (by omega) h1' mp1 (fun h2 P2 hf2 a1 a2 mp2 => (jKv_i ?_))) (hf := jfit_k rfl rfl (by omega) (by omega))
    refine J_istore_7 dL_law_643 ?_
    refine J_aload_n (by rfl) (by rfl) dL_law_645 ?_
    have cp2 := (cp1 P2 a1 a2).frm hf2 (fun j hj => by show ¬ (_ ∧ _); omega)
    have e116 := mp2
    obtain ⟨an8, he8, cm8, W8, F8, C8, m1162, _⟩ := e116
    have o12 := hf2.at (by decide) q1
    have o22 := hf2.at (by decide) q3
    have ji : JI (K + 13) h2 (opT s 7 x y 0) := by
      refine ⟨_, sc, sm, P2, _, ea, fa, sv, lf, ln, tx, tp, cp2, mp2, (Inv_op I (by decide)).mono (by omega), fun w => ⟨(hv w).1.mono (by omega), (hv w).2⟩, ?_, ?_, h2', h3, h4, h5, h6, h7⟩
      · by_cases hT : opT s 7 x y 0 = 0
        · rw [if_pos hT]; exact (hp.past h1' I (a1 hT)).mono (by omega)
        · rw [if_neg hT, a2 hT]; exact hp.mono (by omega)
      · split <;> omega
    refine J_V0v (ci := 11) dL_law_646 s_L_146 m_X11_thrown rfl (by repeat (first | assumption | exact jget_same2 (by (try simp only [List.length_set]); exact jlt (by assumption)) | refine jget_ne (by first | decide | assumption | omega) ?_)) rfl (c_X11_thrown mp2 (jKv_i ?_)) (hf := jfit_k rfl rfl (by omega) (by omega))
    refine J_iload (by rfl) dL_law_649 ?_
    refine J_icmp_eq 656 dL_law_651 (by decide) (fun c651 => ?_) (fun c651 => ?_)
    · refine J_iload (by rfl) dL_law_656 ?_
      refine J_if_ne_n 680 dL_law_658 (by decide) (fun c658 => ?_) (fun c658 => ?_)
      · refine J_goto 2508 dL_law_680 (by decide) ?_
        exact J_widen (by omega) (by omega) (next h2 _ f1 g _ _ _ ji o12 o22)
      · have q2 := q2 (by omega)
        refine J_aload_n (by rfl) (by rfl) dL_law_661 ?_
        refine J_iconst (nI 0) (by decide) dL_law_662 ?_
        refine J_lald (0) dL_law_663 (by repeat (first | assumption | exact jget_same2 (by (try simp only [List.length_set]); exact jlt (by assumption)) | refine jget_ne (by first | decide | assumption | omega) ?_)) (by first | rfl | (simp only [pk_mul, nI_add]; done) | (simp only [pk_mul, nI_add]; congr 1; omega) | (congr 1; omega)) (by omega) ?_
        refine J_iload (by rfl) dL_law_664 ?_
        refine J_if_eq_b 673 dL_law_666 (by decide) (fun c666 => ?_) (fun c666 => ?_)
        · rw [c666, if_neg (by decide)] at q2
          rw [q2]
          refine J_lconst (lN 0) (by decide) dL_law_673 ?_
          refine J_lcmp dL_law_674 ?_
          refine J_topi (nI 0) (by rfl) ?_
          refine J_if_eq_n 680 dL_law_675 (by decide) (fun c675 => ?_) (fun c675 => ?_)
          · refine J_goto 2508 dL_law_680 (by decide) ?_
            exact J_widen (by omega) (by omega) (next h2 _ f1 g _ _ _ ji o12 o22)
          · exact absurd c675 (Nat.lt_irrefl 0)
        · rw [c666, if_pos rfl] at q2
          rw [q2]
          refine J_lconst (lN 1) (by decide) dL_law_669 ?_
          refine J_goto 674 dL_law_670 (by decide) ?_
          refine J_lcmp dL_law_674 ?_
          refine J_topi (nI 0) (by rfl) ?_
          refine J_if_eq_n 680 dL_law_675 (by decide) (fun c675 => ?_) (fun c675 => ?_)
          · refine J_goto 2508 dL_law_680 (by decide) ?_
            exact J_widen (by omega) (by omega) (next h2 _ f1 g _ _ _ ji o12 o22)
          · exact absurd c675 (Nat.lt_irrefl 0)
    · exact absurd rfl c651
  refine J_aload_n (by rfl) (by rfl) dL_law_621 ?_
  refine J_SX4v dL_law_622 s_L_163 m_L_update rfl (w_update x y c0 (fun Q' k1 k2 => c_X10_update x y I (by omega) cp (fun hT h' hf hP => k1 _ _ _ (hf.at (by decide) o1) (jKv_i ?_)) (fun hT h' hf cp' => k2 _ _ ?_))) (jfit_k rfl rfl (by omega) (by omega))
  · have e : nI 0 = nI (opT s 7 x y 0) := by rw [hT]
    rw [e]
    have o1' := hf.at (by decide) o1
    refine cont _ _ (fun P1 a1 a2 => ?_) ?_ (jget_same2 (jlt o1')) (fun _ => rfl) ?_
    · rw [if_pos hT]
      exact (hP P1 (a1 hT)).frm (jFr.refl.set 125 _ rfl : jFr (fun j => j = 125) _ _) (fun j hj => by omega)
    · exact (MPc.frm mp hf (fun j a b => by show ¬ (_ ≤ _); omega)).frm (jFr.refl.set 125 _ rfl : jFr (fun j => j = 125) _ _) (fun j a b => by omega)
    · exact (jFr.refl.set 125 _ rfl : jFr (fun j => j = 125) _ _).at (by decide) (hf.at (by decide) o2)
  · have nx := cont h' f (fun P1 a1 a2 => by
        rw [if_neg hT, a2 hT, show opN s 7 x y 0 = s by unfold opN; rw [if_neg hT]]
        exact cp') (MPc.frm mp hf (fun j a b => by show ¬ (_ ≤ _); omega)) (hf.at (by decide) o1) (fun e => absurd e hT) (hf.at (by decide) o2)
    generalize opT s 7 x y 0 = T at nx hT hT2 ⊢
    rcases (show T = 1 ∨ T = 2 ∨ T = 3 by omega) with rfl | rfl | rfl
    · exact .inl ⟨rfl, jKv_i nx⟩
    · exact .inr (.inl ⟨rfl, jKv_i nx⟩)
    · exact .inr (.inr (⟨rfl, jKv_i nx⟩))
end LAW
