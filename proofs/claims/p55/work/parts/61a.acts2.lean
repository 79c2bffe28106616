/-! The law's acts: the switch -/
abbrev kpx (h h' : jH) : Prop := h.length ≤ h'.length ∧ Rest h' ∧ ∀ j, 116 ≤ j → j < h.length → h'[j]? = h[j]?
theorem kpx.refl {h : jH} (r : Rest h) : kpx h h := ⟨Nat.le_refl _, r, fun _ _ _ => rfl⟩
theorem kpx.frm {h h1 h' : jH} (k : kpx h h1) (hf : jFr clC h1 h') : kpx h h' :=
  ⟨by rw [hf.1]; exact k.1, k.2.1.frm hf (fun j hj => by show ¬ j ≤ 115; omega), fun j h1 h2 => (hf.2 j (by show ¬ j ≤ 115; omega)).trans (k.2.2 j h1 h2)⟩
/-- an act's ends -/
abbrev aO (QA : jQG) (G0 : jG) (h : jH) (K : Nat) (s sS P : Nat → Nat) (ch : Nat) (sv : Bool) : Prop :=
  (∀ (G' : jG) h' s' v, gEx h.length G0 G' → kpx h h' → Inv (K + 13) s' → Rt s' → s 0 ≤ s' 0 → v ≤ 1000 → LC h' s' sS (pastF ch P s) (min (ch + 1) 8) sv → QA G' (.inl (some (.int (nI v)))) h') ∧
  (∀ (G' : jG) h' (v : Int), gEx h.length G0 G' → kpx h h' → -900009 < v → v ≤ -900001 → LC h' s sS P ch sv → QA G' (.inl (some (.int (iI v)))) h')
section ACTS
variable {G : jG} {X : Bool} {h : jH} {Q : jQ_} {QA : jQG} {K ch : Nat} {sv : Bool} {s sS P : Nat → Nat}
theorem dQ_r {k : Nat} {x y z : Int32} (I : Inv K s) (R : Rt s) (hch : ch ≤ 8) (hk : k ≤ 8) (r : rO Q h K s sS P ch sv) : dQ Q h s sS P ch sv k x y z :=
  ⟨fun _ h' hf hP => r.1 h' _ _ hf ((Inv_op I hk).mono (by omega)) (Rt_op I R hk).1 (Rt_op I R hk).2 (opA_le I) (hP _ (pastF_N hch)), fun _ h' v hf g a b => r.2 h' v hf a b g⟩
theorem rO_k {G0 G1 : jG} {h0 : jH} {R : Room} {F : jF} {M : jM} {kc kn pc : Nat} {lo : List (Option Value)} {st : List Value} (e : gEx h0.length G0 G1) (kp : kpx h0 h) (o : aO QA G0 h0 K s sS P ch sv) (k : ∀ (v : Int32) h', QA G1 (.inl (some (.int v))) h' → J G1 R F M X kc kn pc lo (.int v :: st) h') : rO (jKv fun r h' => J G1 R F M X kc kn pc lo (r :: st) h') h K s sS P ch sv :=
  ⟨fun h' s' v hf I' R' h0 hv g' => jKv_i (k _ _ (o.1 G1 h' s' v e (kp.frm hf) I' R' h0 hv g')), fun h' v hf a b g' => jKv_i (k _ _ (o.2 G1 h' v e (kp.frm hf) a b g'))⟩
/-- the text that is made, run -/
theorem l_tail {i a b c : Nat} (I : Inv K s) (R : Rt s) (hK : K + 20 < 2 ^ 30) (hch : ch ≤ 8) (hl : 116 ≤ h.length) (g : LC h s sS P ch sv) (o : aO QA G h K s sS P ch sv) {G5 : jG} {h5 : jH} {b5 v5 cap5 n5 w kc kn : Nat} {x : Value} (B : BS G G5 h h5 b5 v5 cap5 n5) (hn1 : 8 ≤ n5) (hn2 : n5 ≤ 10) (hv : StrV h5 x w) (ha : apt h5 x b5 v5) (hw : w = 5 ∨ 15 ≤ w ∧ w ≤ 21) (q1 : kc ≤ 40) (q2 : kn ≤ 60000) : J G5 (jR 12 150 70000) (jFinA G h.length QA 150 70000) M_L_acts false kc kn 408 [some (.ref 0), some (.retAddr 0), some (.int (nI i)), some (.int (nI a)), some (.int (nI b)), some (.int (nI c))] [x, .ref b5, .ref 0] h5 := by
  have bl := B.2.1
  refine J_apS dL_acts_408 s_L_155 B hv ha ⟨by show 0 < h5.length; omega, trivial, trivial, trivial, trivial, trivial, trivial⟩ ⟨by show 0 < h5.length; omega, trivial⟩ (fun G6 h6 v6 cap6 B6 l6 => ?_) (by omega) (jfit_j (by rfl) (by rfl) (by omega) (by omega))
  have c6 := B6.2.2.2.2.2.2.2
  refine J_toS dL_acts_411 s_L_168 B6 (by omega) ⟨by show 0 < h6.length; omega, trivial, trivial, trivial, trivial, trivial, trivial⟩ ⟨by show 0 < h6.length; omega, trivial⟩ (fun G7 h7 f7 e7 len7 ok7 k7 t7 u7 bf7 => ?_) (jfit_j (by rfl) (by rfl) (by omega) (by omega))
  have bl6 := B6.2.1
  have k9 : ∀ j, j < h.length → h7[j]? = h[j]? := fun j hj => by rw [k7 j (by omega)]; exact B6.2.2.2.1 j hj
  obtain ⟨ea, fa, lf, ln, tx, cp⟩ := g
  have g7 : LC h7 s sS P ch sv := ⟨ea, fa, lf, ln, tx, cp.grow (fun j hj => k9 j (by omega))⟩
  refine J_S2v dL_acts_414 s_L_180 m_L_does rfl (l_does (by omega) (by omega) t7 u7 bf7 (by omega) (by omega) I R hK hch g7 (rO_k (B6.1.trans e7 bl6) ⟨by omega, Rest.of (by omega) ok7, fun j _ hj => k9 j hj⟩ o (fun v h' q => ?_))) (hf := jfit_j (by rfl) (by rfl) (by omega) (by omega))
  exact J_iretA (B6.1.trans e7 bl6) dL_acts_417 rfl q (by omega) (by omega)
theorem l_text {i a b c : Nat} (ha : a < 9) (hb : b < 9) (hc : c < 40) (I : Inv K s) (R : Rt s) (hK : K + 20 < 2 ^ 30) (hch : ch ≤ 8) (r : Rest h) (g : LC h s sS P ch sv) (o : aO QA G h K s sS P ch sv) : J G (jR 12 150 70000) (jFinA G h.length QA 150 70000) M_L_acts false 0 0 275 [some (.ref 0), some (.retAddr 0), some (.int (nI i)), some (.int (nI a)), some (.int (nI b)), some (.int (nI c))] [] h := by
  have hl := r.1
  have ok := g
  obtain ⟨ea, fa, lf, ln, tx, cp⟩ := ok
  have hh := cp.hOk r
  have za := szN_1 (k := a) (by omega)
  have zb := szN_1 (k := b) (by omega)
  have zc := szN_b c
  have z2 := szN_b (2 * c)
  have z11 := szN_b (11 * a)
  refine J_aload_n (by rfl) (by rfl) dL_acts_275 ?_
  refine J_mkB dL_acts_276 n_L_150 dL_acts_279 dL_acts_280 s_L_152 hh ⟨by show 0 < h.length; omega, trivial, trivial, trivial, trivial, trivial, trivial⟩ ⟨by show 0 < h.length; omega, trivial⟩ (fun G1 h1 b1 v1 B1 => ?_)
  have l1 := B1.2.1
  refine J_ldcS (i := 11) dL_acts_283 rfl rfl rfl ?_
  refine J_apS dL_acts_285 s_L_155 B1 sv_11 apt_c ⟨by show 0 < h1.length; omega, trivial, trivial, trivial, trivial, trivial, trivial⟩ ⟨by show 0 < h1.length; omega, trivial⟩ (fun G2 h2 v2 cap2 B2 m2 => ?_)
  have l2 := B2.2.1
  refine J_iconst (nI 2) (by decide) dL_acts_288 ?_
  refine J_iload (by rfl) dL_acts_289 ?_
  refine J_imul dL_acts_291 ?_
  try rw [pk_mul]
  refine J_apI dL_acts_292 s_L_159 B2 (by omega) ⟨by show 0 < h2.length; omega, trivial, trivial, trivial, trivial, trivial, trivial⟩ ⟨by show 0 < h2.length; omega, trivial⟩ (fun G3 h3 v3 cap3 B3 m3 => ?_)
  have l3 := B3.2.1
  refine J_ldcS (i := 12) dL_acts_295 rfl rfl rfl ?_
  refine J_apS dL_acts_297 s_L_155 B3 sv_12 apt_c ⟨by show 0 < h3.length; omega, trivial, trivial, trivial, trivial, trivial, trivial⟩ ⟨by show 0 < h3.length; omega, trivial⟩ (fun G4 h4 v4 cap4 B4 m4 => ?_)
  have l4 := B4.2.1
  refine J_bipush (nI 11) (by decide) dL_acts_300 ?_
  refine J_iload_n (by rfl) dL_acts_302 ?_
  refine J_imul dL_acts_303 ?_
  try rw [pk_mul]
  refine J_apI dL_acts_304 s_L_159 B4 (by omega) ⟨by show 0 < h4.length; omega, trivial, trivial, trivial, trivial, trivial, trivial⟩ ⟨by show 0 < h4.length; omega, trivial⟩ (fun G5 h5 v5 cap5 B5 m5 => ?_)
  have l5 := B5.2.1
  have Bo := B5
  have hno : 8 ≤ 0 + 5 + szN (2 * c) + 1 + szN (11 * a) := by omega
  have hno2 : 0 + 5 + szN (2 * c) + 1 + szN (11 * a) ≤ 10 := by omega
  have bbo : b1 < h5.length ∧ v5 < h5.length := Bo.2.2.2.2.2.2.1.b
  refine J_iload (by rfl) dL_acts_307 ?_
  refine J_iconst (nI 3) (by decide) dL_acts_309 ?_
  refine J_irem_n (by omega) (by omega) (by omega) dL_acts_310 ?_
  refine J_if_ne_n 319 dL_acts_311 (by decide) (fun c311 => ?_) (fun c311 => ?_)
  · refine J_iload (by rfl) dL_acts_319 ?_
    refine J_iconst (nI 3) (by decide) dL_acts_321 ?_
    refine J_irem_n (by omega) (by omega) (by omega) dL_acts_322 ?_
    refine J_iconst (nI 1) (by decide) dL_acts_323 ?_
    refine J_icmp_ne_n 350 dL_acts_324 (by decide) (fun c324 => ?_) (fun c324 => ?_)
    · skip
      refine J_mkB dL_acts_350 n_L_150 dL_acts_353 dL_acts_354 s_L_152 Bo.2.2.1 ⟨by show 0 < h5.length; omega, trivial, trivial, trivial, trivial, trivial, trivial⟩ ⟨by show b1 < h5.length; omega, by show 0 < h5.length; omega, trivial⟩ (fun G6 h6 b2 v6 B6 => ?_)
      have l6 := B6.2.1
      refine J_ldcS (i := 16) dL_acts_357 rfl rfl rfl ?_
      refine J_apS dL_acts_359 s_L_155 B6 sv_16 apt_c ⟨by show 0 < h6.length; omega, trivial, trivial, trivial, trivial, trivial, trivial⟩ ⟨by show b1 < h6.length; omega, by show 0 < h6.length; omega, trivial⟩ (fun G7 h7 v7 cap7 B7 m7 => ?_)
      have l7 := B7.2.1
      refine J_iload_n (by rfl) dL_acts_362 ?_
      refine J_apI dL_acts_363 s_L_159 B7 (by omega) ⟨by show 0 < h7.length; omega, trivial, trivial, trivial, trivial, trivial, trivial⟩ ⟨by show b1 < h7.length; omega, by show 0 < h7.length; omega, trivial⟩ (fun G8 h8 v8 cap8 B8 m8 => ?_)
      have l8 := B8.2.1
      refine J_ldcS (i := 17) dL_acts_366 rfl rfl rfl ?_
      refine J_apS dL_acts_368 s_L_155 B8 sv_17 apt_c ⟨by show 0 < h8.length; omega, trivial, trivial, trivial, trivial, trivial, trivial⟩ ⟨by show b1 < h8.length; omega, by show 0 < h8.length; omega, trivial⟩ (fun G9 h9 v9 cap9 B9 m9 => ?_)
      have l9 := B9.2.1
      refine J_iload (by rfl) dL_acts_371 ?_
      refine J_apI dL_acts_373 s_L_159 B9 (by omega) ⟨by show 0 < h9.length; omega, trivial, trivial, trivial, trivial, trivial, trivial⟩ ⟨by show b1 < h9.length; omega, by show 0 < h9.length; omega, trivial⟩ (fun G10 h10 v10 cap10 B10 m10 => ?_)
      have l10 := B10.2.1
      refine J_ldcS (i := 18) dL_acts_376 rfl rfl rfl ?_
      refine J_apS dL_acts_378 s_L_155 B10 sv_18 apt_c ⟨by show 0 < h10.length; omega, trivial, trivial, trivial, trivial, trivial, trivial⟩ ⟨by show b1 < h10.length; omega, by show 0 < h10.length; omega, trivial⟩ (fun G11 h11 v11 cap11 B11 m11 => ?_)
      have l11 := B11.2.1
      refine J_iload_n (by rfl) dL_acts_381 ?_
      refine J_apI dL_acts_382 s_L_159 B11 (by omega) ⟨by show 0 < h11.length; omega, trivial, trivial, trivial, trivial, trivial, trivial⟩ ⟨by show b1 < h11.length; omega, by show 0 < h11.length; omega, trivial⟩ (fun G12 h12 v12 cap12 B12 m12 => ?_)
      have l12 := B12.2.1
      refine J_ldcS (i := 17) dL_acts_385 rfl rfl rfl ?_
      refine J_apS dL_acts_387 s_L_155 B12 sv_17 apt_c ⟨by show 0 < h12.length; omega, trivial, trivial, trivial, trivial, trivial, trivial⟩ ⟨by show b1 < h12.length; omega, by show 0 < h12.length; omega, trivial⟩ (fun G13 h13 v13 cap13 B13 m13 => ?_)
      have l13 := B13.2.1
      refine J_iload (by rfl) dL_acts_390 ?_
      refine J_apI dL_acts_392 s_L_159 B13 (by omega) ⟨by show 0 < h13.length; omega, trivial, trivial, trivial, trivial, trivial, trivial⟩ ⟨by show b1 < h13.length; omega, by show 0 < h13.length; omega, trivial⟩ (fun G14 h14 v14 cap14 B14 m14 => ?_)
      have l14 := B14.2.1
      refine J_ldcS (i := 19) dL_acts_395 rfl rfl rfl ?_
      refine J_apS dL_acts_397 s_L_155 B14 sv_19 apt_c ⟨by show 0 < h14.length; omega, trivial, trivial, trivial, trivial, trivial, trivial⟩ ⟨by show b1 < h14.length; omega, by show 0 < h14.length; omega, trivial⟩ (fun G15 h15 v15 cap15 B15 m15 => ?_)
      have l15 := B15.2.1
      refine J_iload (by rfl) dL_acts_400 ?_
      refine J_apI dL_acts_402 s_L_159 B15 (by omega) ⟨by show 0 < h15.length; omega, trivial, trivial, trivial, trivial, trivial, trivial⟩ ⟨by show b1 < h15.length; omega, by show 0 < h15.length; omega, trivial⟩ (fun G16 h16 v16 cap16 B16 m16 => ?_)
      have l16 := B16.2.1
      have cc := B16.2.2.2.2.2.2.2
      refine J_toS dL_acts_405 s_L_168 B16 (by omega) ⟨by show 0 < h16.length; omega, trivial, trivial, trivial, trivial, trivial, trivial⟩ ⟨by show b1 < h16.length; omega, by show 0 < h16.length; omega, trivial⟩ (fun G9 h9 f9 e9 len9 ok9 k9 t9 u9 bf9 => ?_)
      have Bx := Bo.up (B16.1.trans e9 B16.2.1) (by omega) ok9 (fun j hj => (k9 j (by omega)).trans (B16.2.2.2.1 j hj))
      have w1 : b1 < h16.length := by omega
      have w2 : v5 < h16.length := by omega
      refine l_tail I R hK hch hl g o Bx hno hno2 (.inr ⟨h16.length, h16.length + 1, 0, 0, f9, rfl, t9, u9, bf9, by omega, by omega⟩) (fun c8 u8 hs hz e8 q8 => ?_) (.inr ⟨by omega, by omega⟩) (by decide) (by decide)
      obtain rfl : h16.length = c8 := by cases e8; rfl
      rw [t9] at q8
      cases q8
      exact ⟨Nat.ne_of_gt w1, Nat.ne_of_gt w2, Nat.ne_of_gt (Nat.lt_succ_of_lt w1), Nat.ne_of_gt (Nat.lt_succ_of_lt w2)⟩
    · skip
      refine J_mkB dL_acts_327 n_L_150 dL_acts_330 dL_acts_331 s_L_152 Bo.2.2.1 ⟨by show 0 < h5.length; omega, trivial, trivial, trivial, trivial, trivial, trivial⟩ ⟨by show b1 < h5.length; omega, by show 0 < h5.length; omega, trivial⟩ (fun G17 h17 b2 v17 B17 => ?_)
      have l17 := B17.2.1
      refine J_ldcS (i := 14) dL_acts_334 rfl rfl rfl ?_
      refine J_apS dL_acts_336 s_L_155 B17 sv_14 apt_c ⟨by show 0 < h17.length; omega, trivial, trivial, trivial, trivial, trivial, trivial⟩ ⟨by show b1 < h17.length; omega, by show 0 < h17.length; omega, trivial⟩ (fun G18 h18 v18 cap18 B18 m18 => ?_)
      have l18 := B18.2.1
      refine J_iload (by rfl) dL_acts_339 ?_
      refine J_apI dL_acts_341 s_L_159 B18 (by omega) ⟨by show 0 < h18.length; omega, trivial, trivial, trivial, trivial, trivial, trivial⟩ ⟨by show b1 < h18.length; omega, by show 0 < h18.length; omega, trivial⟩ (fun G19 h19 v19 cap19 B19 m19 => ?_)
      have l19 := B19.2.1
      have cc := B19.2.2.2.2.2.2.2
      refine J_toS dL_acts_344 s_L_168 B19 (by omega) ⟨by show 0 < h19.length; omega, trivial, trivial, trivial, trivial, trivial, trivial⟩ ⟨by show b1 < h19.length; omega, by show 0 < h19.length; omega, trivial⟩ (fun G9 h9 f9 e9 len9 ok9 k9 t9 u9 bf9 => ?_)
      refine J_goto 408 dL_acts_347 (by decide) ?_
      have Bx := Bo.up (B19.1.trans e9 B19.2.1) (by omega) ok9 (fun j hj => (k9 j (by omega)).trans (B19.2.2.2.1 j hj))
      have w1 : b1 < h19.length := by omega
      have w2 : v5 < h19.length := by omega
      refine l_tail I R hK hch hl g o Bx hno hno2 (.inr ⟨h19.length, h19.length + 1, 0, 0, f9, rfl, t9, u9, bf9, by omega, by omega⟩) (fun c8 u8 hs hz e8 q8 => ?_) (.inr ⟨by omega, by omega⟩) (by decide) (by decide)
      obtain rfl : h19.length = c8 := by cases e8; rfl
      rw [t9] at q8
      cases q8
      exact ⟨Nat.ne_of_gt w1, Nat.ne_of_gt w2, Nat.ne_of_gt (Nat.lt_succ_of_lt w1), Nat.ne_of_gt (Nat.lt_succ_of_lt w2)⟩
  · refine J_ldcS (i := 13) dL_acts_314 rfl rfl rfl ?_
    refine J_goto 408 dL_acts_316 (by decide) ?_
    exact l_tail I R hK hch hl g o Bo hno hno2 sv_13 apt_c (.inl rfl) (by decide) (by decide)
end ACTS
