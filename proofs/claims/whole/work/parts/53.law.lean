/-! The law's body, case by case -/
abbrev M_L_law : jM := (⟨"TrailGuideLaw", "law", "([I)Z"⟩, cL_law, 9, ret, none)
theorem jfit_k {R : Room} {n d mc ms kc kn : Nat} (h1 : Nat.ble (d + 1) R.frames = true) (h2 : Nat.ble (8 + (n + 11) + 46 * d) R.locals = true) (h3 : kc + mc ≤ R.cells) (h4 : kn + ms ≤ R.slots) : jfit R n d mc ms kc kn = true := by
  simp only [jfit, Bool.and_eq_true]
  exact ⟨h1, h2, Nat.ble_eq_true_of_le h3, Nat.ble_eq_true_of_le h4⟩
section LAW
variable {G : jG} {F : jF} {h : jH} {i kc kn K th : Nat} {l6 l7 l8 : Option Value} {f : Nat → Int64} {g : Nat → UInt64}
theorem law_0 (hi : i + 4 ≤ g_L G) (hL : g_L G ≤ 2048) (hc : kc + 10 ≤ room_1.cells) (hn : kn + 60 ≤ room_1.slots) (hK : K < 2 ^ 29) (g1 : JI K h th) (o1 : h[125]? = some (.inl (3, 1, .inr (.inl f)))) (o2 : h[126]? = some (.inl (4, 1, .inr (.inr (.inr (.inl g))))))
    (next : ∀ h' th' f' g' l6 l7 l8, JI (K + 13) h' th' → h'[125]? = some (.inl (3, 1, .inr (.inl f'))) → h'[126]? = some (.inl (4, 1, .inr (.inr (.inr (.inl g'))))) → J G room_1 F M_L_law false (kc + 10) (kn + 60) 2508 [some (.retAddr 0), some (.ref 0), some (.ref 116), some (.ref 125), some (.ref 126), some (.int (nI i)), l6, l7, l8] [] h') :
    J G room_1 F M_L_law false kc kn 268 [some (.retAddr 0), some (.ref 0), some (.ref 116), some (.ref 125), some (.ref 126), some (.int (nI i)), l6, l7, l8] [] h := by
  obtain ⟨s, sc, sm, P, ch, ea, fa, sv, lf, ln, tx, tp, cp, mp, I, hv, hp, h1', h2', h3, h4, h5, h6, h7⟩ := g1
  have c0 := cp.c0
  refine J_aload_n (by rfl) (by rfl) dL_law_268 ?_
  refine J_aload_n (by rfl) (by rfl) dL_law_269 ?_
  refine J_iload (by rfl) dL_law_270 ?_
  refine J_iconst (nI 1) (by decide) dL_law_272 ?_
  refine J_iadd dL_law_273 ?_
  try rw [nI_add]
  refine J_xald (i + 1) dL_law_274 rfl (by omega) (by omega) ?_
  refine J_aload_n (by rfl) (by rfl) dL_law_275 ?_
  refine J_iload (by rfl) dL_law_276 ?_
  refine J_iconst (nI 2) (by decide) dL_law_278 ?_
  refine J_iadd dL_law_279 ?_
  try rw [nI_add]
  refine J_xald (i + 2) dL_law_280 rfl (by omega) (by omega) ?_
  refine J_aload_n (by rfl) (by rfl) dL_law_281 ?_
  refine J_iload (by rfl) dL_law_282 ?_
  refine J_iconst (nI 3) (by decide) dL_law_284 ?_
  refine J_iadd dL_law_285 ?_
  try rw [nI_add]
  refine J_xald (i + 3) dL_law_286 rfl (by omega) (by omega) ?_
  obtain ⟨x, hx⟩ : ∃ x, x = g_S G (i + 1) := ⟨_, rfl⟩
  obtain ⟨y, hy⟩ : ∃ y, y = g_S G (i + 2) := ⟨_, rfl⟩
  obtain ⟨z, hz⟩ : ∃ z, z = g_S G (i + 3) := ⟨_, rfl⟩
  rw [← hx, ← hy, ← hz]
  have hT2 : opT s 0 x y z ≤ 2 := by show T0 s x y z ≤ 2; unfold T0; split <;> (try split) <;> omega
  have cont : ∀ (h1 : jH) (f1 : Nat → Int64), (∀ P1, (opT s 0 x y z = 0 → pastN ch P s P1) → (opT s 0 x y z ≠ 0 → P1 = P) → CPc h1 (opN s 0 x y z) sc P1 (if opT s 0 x y z = 0 then min (ch + 1) 8 else ch) ea fa sv lf ln tx tp) → MPc h1 s sm P ch th ea fa sv lf ln tx tp → h1[125]? = some (.inl (3, 1, .inr (.inl f1))) → (opT s 0 x y z = 0 → f1 0 = (nI (opA s 0 x y z)).toInt64) → h1[126]? = some (.inl (4, 1, .inr (.inr (.inr (.inl g))))) → J G room_1 F M_L_law false (kc + 1) (kn + 6) 291 [some (.retAddr 0), some (.ref 0), some (.ref 116), some (.ref 125), some (.ref 126), some (.int (nI i)), l6, l7, l8] [.int (nI (opT s 0 x y z))] h1 := by
    intro h1 f1 cp1 mp1 q1 q2 q3
    have e116 := mp1
    obtain ⟨an9, he9, cm9, W9, F9, C9, m116, _⟩ := e116
    refine J_istore_6 dL_law_291 ?_
    refine J_aload_n (by rfl) (by rfl) dL_law_293 ?_
    refine J_aload_n (by rfl) (by rfl) dL_law_294 ?_
    refine J_iload (by rfl) dL_law_295 ?_
    refine J_iconst (nI 1) (by decide) dL_law_297 ?_
    refine J_iadd dL_law_298 ?_
    try rw [nI_add]
    refine J_xald (i + 1) dL_law_299 rfl (by omega) (by omega) ?_
    refine J_aload_n (by rfl) (by rfl) dL_law_300 ?_
    refine J_iload (by rfl) dL_law_301 ?_
    refine J_iconst (nI 2) (by decide) dL_law_303 ?_
    refine J_iadd dL_law_304 ?_
    try rw [nI_add]
    refine J_xald (i + 2) dL_law_305 rfl (by omega) (by omega) ?_
    refine J_aload_n (by rfl) (by rfl) dL_law_306 ?_
    refine J_iload (by rfl) dL_law_307 ?_
    refine J_iconst (nI 3) (by decide) dL_law_309 ?_
    refine J_iadd dL_law_310 ?_
    try rw [nI_add]
    refine J_xald (i + 3) dL_law_311 rfl (by omega) (by omega) ?_
    rw [← hx, ← hy, ← hz]
    refine J_V3v (ci := 11) dL_law_312 s_L_145 m_X11_addWaypoint rfl (by repeat (first | assumption | exact jget_same2 (by (try simp only [List.length_set]); exact jlt (by assumption)) | refine jget_ne (by first | decide | assumption | omega) ?_)) rfl (c_X11_addWaypoint x y z I (by omega) h1' mp1 (fun h2 P2 hf2 a1 a2 mp2 => (jKv_i ?_))) (hf := jfit_k rfl rfl (by omega) (by omega))
    refine J_istore_7 dL_law_315 ?_
    refine J_aload_n (by rfl) (by rfl) dL_law_317 ?_
    have cp2 := (cp1 P2 a1 a2).frm hf2 (fun j hj => by show ¬ (_ ∧ _); omega)
    have e116 := mp2
    obtain ⟨an8, he8, cm8, W8, F8, C8, m1162, _⟩ := e116
    have o12 := hf2.at (by decide) q1
    have o22 := hf2.at (by decide) q3
    have ji : JI (K + 13) h2 (opT s 0 x y z) := by
      refine ⟨_, sc, sm, P2, _, ea, fa, sv, lf, ln, tx, tp, cp2, mp2, (Inv_op I (by decide)).mono (by omega), fun w => ⟨(hv w).1.mono (by omega), (hv w).2⟩, ?_, ?_, h2', h3, h4, h5, h6, h7⟩
      · by_cases hT : opT s 0 x y z = 0
        · rw [if_pos hT]; exact (hp.past h1' I (a1 hT)).mono (by omega)
        · rw [if_neg hT, a2 hT]; exact hp.mono (by omega)
      · split <;> omega
    refine J_V0v (ci := 11) dL_law_318 s_L_146 m_X11_thrown rfl (by repeat (first | assumption | exact jget_same2 (by (try simp only [List.length_set]); exact jlt (by assumption)) | refine jget_ne (by first | decide | assumption | omega) ?_)) rfl (c_X11_thrown mp2 (jKv_i ?_)) (hf := jfit_k rfl rfl (by omega) (by omega))
    refine J_iload (by rfl) dL_law_321 ?_
    refine J_icmp_eq 328 dL_law_323 (by decide) (fun c323 => ?_) (fun c323 => ?_)
    · refine J_iload (by rfl) dL_law_328 ?_
      refine J_if_ne_n 345 dL_law_330 (by decide) (fun c330 => ?_) (fun c330 => ?_)
      · refine J_goto 2508 dL_law_345 (by decide) ?_
        exact J_widen (by omega) (by omega) (next h2 _ f1 g _ _ _ ji o12 o22)
      · refine J_aload_n (by rfl) (by rfl) dL_law_333 ?_
        refine J_iconst (nI 0) (by decide) dL_law_334 ?_
        refine J_lald (0) dL_law_335 (by repeat (first | assumption | exact jget_same2 (by (try simp only [List.length_set]); exact jlt (by assumption)) | refine jget_ne (by first | decide | assumption | omega) ?_)) (by first | rfl | (simp only [pk_mul, nI_add]; done) | (simp only [pk_mul, nI_add]; congr 1; omega) | (congr 1; omega)) (by omega) ?_
        refine J_iload (by rfl) dL_law_336 ?_
        refine J_i2l dL_law_338 ?_
        refine J_lcmp dL_law_339 ?_
        refine J_topi (nI 0) (by rw [q2 (by omega)]; unfold lg_cmp; simp; rfl) ?_
        refine J_if_eq_n 345 dL_law_340 (by decide) (fun c340 => ?_) (fun c340 => ?_)
        · refine J_goto 2508 dL_law_345 (by decide) ?_
          exact J_widen (by omega) (by omega) (next h2 _ f1 g _ _ _ ji o12 o22)
        · exact absurd c340 (Nat.lt_irrefl 0)
    · exact absurd rfl c323
  refine J_aload_n (by rfl) (by rfl) dL_law_287 ?_
  refine J_SX5v dL_law_288 s_L_140 m_L_addWaypoint rfl (w_addWaypoint x y z c0 (fun Q' k1 k2 => c_X10_addWaypoint x y z I (by omega) cp (fun hT h' hf hP => k1 _ _ _ (hf.at (by decide) o1) (jKv_i ?_)) (fun hT h' hf cp' => k2 _ _ ?_))) (jfit_k rfl rfl (by omega) (by omega))
  · have e : nI 0 = nI (opT s 0 x y z) := by rw [hT]
    rw [e]
    have o1' := hf.at (by decide) o1
    refine cont _ _ (fun P1 a1 a2 => ?_) ?_ (jget_same2 (jlt o1')) (fun _ => rfl) ?_
    · rw [if_pos hT]
      exact (hP P1 (a1 hT)).frm (jFr.refl.set 125 _ rfl : jFr (fun j => j = 125) _ _) (fun j hj => by omega)
    · exact (MPc.frm mp hf (fun j a b => by show ¬ (_ ≤ _); omega)).frm (jFr.refl.set 125 _ rfl : jFr (fun j => j = 125) _ _) (fun j a b => by omega)
    · exact (jFr.refl.set 125 _ rfl : jFr (fun j => j = 125) _ _).at (by decide) (hf.at (by decide) o2)
  · have nx := cont h' f (fun P1 a1 a2 => by
        rw [if_neg hT, a2 hT, show opN s 0 x y z = s by unfold opN; rw [if_neg hT]]
        exact cp') (MPc.frm mp hf (fun j a b => by show ¬ (_ ≤ _); omega)) (hf.at (by decide) o1) (fun e => absurd e hT) (hf.at (by decide) o2)
    generalize opT s 0 x y z = T at nx hT hT2 ⊢
    rcases (show T = 1 ∨ T = 2 by omega) with rfl | rfl
    · exact .inl ⟨rfl, jKv_i nx⟩
    · exact .inr ⟨rfl, jKv_i nx⟩
end LAW
