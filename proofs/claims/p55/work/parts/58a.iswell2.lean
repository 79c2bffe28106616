/-! The law's isWell: what follows the pairs -/
theorem gcl {h h' : jH} (f : jFr gC h h') : jFr clC h h' := f.mono (fun j hj => by show j ≤ 115; have := hj.2; omega)
section WELL2
variable {G : jG} {X : Bool} {h : jH} {Q : jQ_} {K ch : Nat} {sv : Bool} {s sS P : Nat → Nat}
theorem ww_E (I : Inv K s) (hQ : ∀ h', jFr clC h h' → LC h' s sS P ch sv → Q (.inl (some (.int (jb true)))) h') {h1 : jH} {kc kn : Nat} {l4 l5 l6 l7 l8 l9 : Option Value} (f1 : jFr clC h h1) (g1 : LC h1 s sS P ch sv) (q1 : kc ≤ 16700) (q2 : kn ≤ 101000) :
    J G (jR 17 17000 102000) (jFin G Q false 17000 102000) M_L_isWell false kc kn 403 [some (.ref 0), some (.int (nI (mT (wS s)))), some (.int (nI (comps (wS s) (s 0)))), some (.int (nI (costN (s 7)))), l4, l5, l6, l7, l8, l9] [] h1 := by
  have hn := I.n12
  have hb := I.b
  have hm := I.mo
  have hc : 1 ≤ costN (s 7) ∧ costN (s 7) ≤ 4 := by unfold costN; repeat' split
                                                    all_goals omega
  obtain ⟨ea, fa, lf, ln, tx, cp⟩ := g1
  have c0 := cp.c0
  refine J_iload_n (by rfl) dL_isWell_403 ?_
  refine J_aload_n (by rfl) (by rfl) dL_isWell_404 ?_
  refine J_V0v (ci := 10) dL_isWell_405 s_L_187 m_X10_trails rfl (by repeat (first | assumption | exact jget_same2 (by (try simp only [List.length_set]); exact jlt (by assumption)) | refine jget_ne (by first | decide | assumption | omega) ?_)) rfl (c_X10_trails I cp (jKv_i ?_)) (hf := jfit_j (by rfl) (by rfl) (by omega) (by omega))
  refine J_icmp_ne 483 dL_isWell_408 (by decide) (fun c408 => ?_) (fun c408 => ?_)
  · exact absurd rfl c408
  · refine J_iload_n (by rfl) dL_isWell_411 ?_
    refine J_aload_n (by rfl) (by rfl) dL_isWell_412 ?_
    refine J_V0v (ci := 10) dL_isWell_413 s_L_250 m_X10_components rfl (by repeat (first | assumption | exact jget_same2 (by (try simp only [List.length_set]); exact jlt (by assumption)) | refine jget_ne (by first | decide | assumption | omega) ?_)) rfl (c_X10_components I cp (fun h2 f2 cp2 => (jKv_i ?_))) (hf := jfit_j (by rfl) (by rfl) (by omega) (by omega))
    have c02 := cp2.c0
    refine J_icmp_ne 483 dL_isWell_416 (by decide) (fun c416 => ?_) (fun c416 => ?_)
    · exact absurd rfl c416
    · refine J_iload_n (by rfl) dL_isWell_419 ?_
      refine J_aload_n (by rfl) (by rfl) dL_isWell_420 ?_
      refine J_V0v (ci := 10) dL_isWell_421 s_L_253 m_X10_componentsByMerging rfl (by repeat (first | assumption | exact jget_same2 (by (try simp only [List.length_set]); exact jlt (by assumption)) | refine jget_ne (by first | decide | assumption | omega) ?_)) rfl (c_X10_componentsByMerging I cp2 (fun h3 f3 cp3 => (jKv_i ?_))) (hf := jfit_j (by rfl) (by rfl) (by omega) (by omega))
      have c03 := cp3.c0
      refine J_icmp_ne 483 dL_isWell_424 (by decide) (fun c424 => ?_) (fun c424 => ?_)
      · exact absurd rfl c424
      · refine J_aload_n (by rfl) (by rfl) dL_isWell_427 ?_
        refine J_V0v (ci := 10) dL_isWell_428 s_L_190 m_X10_battery rfl (by repeat (first | assumption | exact jget_same2 (by (try simp only [List.length_set]); exact jlt (by assumption)) | refine jget_ne (by first | decide | assumption | omega) ?_)) rfl (c_X10_battery I cp3 (jKv_i ?_)) (hf := jfit_j (by rfl) (by rfl) (by omega) (by omega))
        refine J_if_lt_n 483 dL_isWell_431 (by decide) ?_
        refine J_aload_n (by rfl) (by rfl) dL_isWell_434 ?_
        refine J_V0v (ci := 10) dL_isWell_435 s_L_190 m_X10_battery rfl (by repeat (first | assumption | exact jget_same2 (by (try simp only [List.length_set]); exact jlt (by assumption)) | refine jget_ne (by first | decide | assumption | omega) ?_)) rfl (c_X10_battery I cp3 (jKv_i ?_)) (hf := jfit_j (by rfl) (by rfl) (by omega) (by omega))
        refine J_sipush (nI 1000) (by decide) dL_isWell_438 ?_
        refine J_icmp_gt_n 483 dL_isWell_441 (by decide) (fun c441 => ?_) (fun c441 => ?_)
        · omega
        · refine J_aload_n (by rfl) (by rfl) dL_isWell_444 ?_
          refine J_V0v (ci := 10) dL_isWell_445 s_L_256 m_X10_updatesLeft rfl (by repeat (first | assumption | exact jget_same2 (by (try simp only [List.length_set]); exact jlt (by assumption)) | refine jget_ne (by first | decide | assumption | omega) ?_)) rfl (c_X10_updatesLeft I cp3 (jKv_i ?_)) (hf := jfit_j (by rfl) (by rfl) (by omega) (by omega))
          refine J_aload_n (by rfl) (by rfl) dL_isWell_448 ?_
          refine J_V0v (ci := 10) dL_isWell_449 s_L_190 m_X10_battery rfl (by repeat (first | assumption | exact jget_same2 (by (try simp only [List.length_set]); exact jlt (by assumption)) | refine jget_ne (by first | decide | assumption | omega) ?_)) rfl (c_X10_battery I cp3 (jKv_i ?_)) (hf := jfit_j (by rfl) (by rfl) (by omega) (by omega))
          refine J_iload_n (by rfl) dL_isWell_452 ?_
          refine J_iadd dL_isWell_453 ?_
          try rw [nI_add]
          refine J_iconst (nI 1) (by decide) dL_isWell_454 ?_
          refine J_isub_n (by omega) dL_isWell_455 ?_
          refine J_iload_n (by rfl) dL_isWell_456 ?_
          refine J_idiv_n (by omega) (by omega) (by omega) dL_isWell_457 ?_
          refine J_icmp_ne 483 dL_isWell_458 (by decide) (fun c458 => ?_) (fun c458 => ?_)
          · exact absurd rfl c458
          · refine J_aload_n (by rfl) (by rfl) dL_isWell_461 ?_
            refine J_V0v (ci := 10) dL_isWell_462 s_L_259 m_X10_updatesLeftByCounting rfl (by repeat (first | assumption | exact jget_same2 (by (try simp only [List.length_set]); exact jlt (by assumption)) | refine jget_ne (by first | decide | assumption | omega) ?_)) rfl (c_X10_updatesLeftByCounting I cp3 (jKv_i ?_)) (hf := jfit_j (by rfl) (by rfl) (by omega) (by omega))
            refine J_aload_n (by rfl) (by rfl) dL_isWell_465 ?_
            refine J_V0v (ci := 10) dL_isWell_466 s_L_256 m_X10_updatesLeft rfl (by repeat (first | assumption | exact jget_same2 (by (try simp only [List.length_set]); exact jlt (by assumption)) | refine jget_ne (by first | decide | assumption | omega) ?_)) rfl (c_X10_updatesLeft I cp3 (jKv_i ?_)) (hf := jfit_j (by rfl) (by rfl) (by omega) (by omega))
            refine J_icmp_ne 483 dL_isWell_469 (by decide) (fun c469 => ?_) (fun c469 => ?_)
            · exact absurd rfl c469
            · refine J_aload_n (by rfl) (by rfl) dL_isWell_472 ?_
              refine J_V0v (ci := 10) dL_isWell_473 s_L_262 m_X10_isConsistent rfl (by repeat (first | assumption | exact jget_same2 (by (try simp only [List.length_set]); exact jlt (by assumption)) | refine jget_ne (by first | decide | assumption | omega) ?_)) rfl (c_X10_isConsistent I cp3 (fun h4 f4 cp4 => (jKv_i ?_))) (hf := jfit_j (by rfl) (by rfl) (by omega) (by omega))
              refine J_if_eq_b 483 dL_isWell_476 (by decide) (fun c476 => ?_) (fun c476 => ?_)
              · cases c476
              · refine J_iconst (nI 1) (by decide) dL_isWell_479 ?_
                refine J_goto 484 dL_isWell_480 (by decide) ?_
                refine J_topi (jb true) (by rfl) ?_
                exact J_zreturn dL_isWell_484 rfl (by first | rfl | exact jb_n _) (hQ h4 (((f1.trans (gcl f2)).trans (gcl f3)).trans (gcl f4)) ⟨_, _, _, _, _, cp4⟩) (by omega) (by omega) (fun q => by cases q)
theorem l_isWell (I : Inv K s) (R : Rt s) (g : LC h s sS P ch sv) (hQ : ∀ h', jFr clC h h' → LC h' s sS P ch sv → Q (.inl (some (.int (jb true)))) h') : jCT G M_L_isWell 17 17000 102000 false [.ref 0] h Q := by
  have hn := I.n12
  have hm := I.mo
  refine jCT_of [some (.ref 0), none, none, none, none, none, none, none, none, none] 9 rfl (by decide +kernel) rfl rfl ?_
  refine ww_A I g (fun h1 kc kn l3 l4 l5 l6 l7 l8 l9 f1 g1 q1 q2 => ?_)
  have g1' := g1
  obtain ⟨ea, fa, lf, ln, tx, cp⟩ := g1
  have c0 := cp.c0
  have m271 : J G (jR 17 17000 102000) (jFin G Q false 17000 102000) M_L_isWell false kc kn 271 [some (.ref 0), some (.int (nI (mT (wS s)))), some (.int (nI (comps (wS s) (s 0)))), some (.int l3), l4, l5, l6, l7, l8, l9] [.int (nI (costN (s 7)))] h1 := by
    refine J_istore_3 dL_isWell_271 ?_
    refine J_aload_n (by rfl) (by rfl) dL_isWell_272 ?_
    refine J_V0v (ci := 10) dL_isWell_273 s_L_123 m_X10_isTouring rfl (by repeat (first | assumption | exact jget_same2 (by (try simp only [List.length_set]); exact jlt (by assumption)) | refine jget_ne (by first | decide | assumption | omega) ?_)) rfl (c_X10_isTouring I cp (jKv_i ?_)) (hf := jfit_j (by rfl) (by rfl) (by omega) (by omega))
    refine J_if_eq_b 369 dL_isWell_276 (by decide) (fun c276 => ?_) (fun c276 => ?_)
    · have h0 : s 1 = 0 := by have := of_decide_eq_false c276; omega
      have h5 := I.a0 h0
      refine J_aload_n (by rfl) (by rfl) dL_isWell_369 ?_
      refine J_V0v (ci := 10) dL_isWell_370 s_L_208 m_X10_isAlarm rfl (by repeat (first | assumption | exact jget_same2 (by (try simp only [List.length_set]); exact jlt (by assumption)) | refine jget_ne (by first | decide | assumption | omega) ?_)) rfl (c_X10_isAlarm I cp (jKv_i ?_)) (hf := jfit_j (by rfl) (by rfl) (by omega) (by omega))
      refine J_if_ne_b 401 dL_isWell_373 (by decide) (fun c373 => ?_) (fun c373 => ?_)
      · exact absurd (of_decide_eq_true c373) (by omega)
      · refine J_aload_n (by rfl) (by rfl) dL_isWell_376 ?_
        refine J_SX1v dL_isWell_377 s_L_243 m_L_target rfl (l_target I g1' (fun q => absurd q (by omega)) (fun _ => (jKv_i ?_))) (hf := jfit_j (by rfl) (by rfl) (by omega) (by omega))
        refine J_ldcI dL_isWell_380 k_L_17 ?_
        refine J_icmp_ne 401 dL_isWell_382 (by decide) (fun c382 => ?_) (fun c382 => ?_)
        · exact absurd rfl c382
        · refine J_aload_n (by rfl) (by rfl) dL_isWell_385 ?_
          refine J_SX1v dL_isWell_386 s_L_245 m_L_drift rfl (l_drift I g1' (fun q => absurd q (by omega)) (fun _ => (jKv_i ?_))) (hf := jfit_j (by rfl) (by rfl) (by omega) (by omega))
          refine J_ldcI dL_isWell_389 k_L_17 ?_
          refine J_icmp_ne 401 dL_isWell_391 (by decide) (fun c391 => ?_) (fun c391 => ?_)
          · exact absurd rfl c391
          · refine J_aload_n (by rfl) (by rfl) dL_isWell_394 ?_
            refine J_V0v (ci := 10) dL_isWell_395 s_L_247 m_X10_writeRoute rfl (by repeat (first | assumption | exact jget_same2 (by (try simp only [List.length_set]); exact jlt (by assumption)) | refine jget_ne (by first | decide | assumption | omega) ?_)) rfl (c_X10_writeRoute I cp (fun h2 f2 cp2 => (jKv_i ?_))) (hf := jfit_j (by rfl) (by rfl) (by omega) (by omega))
            refine J_topi (nI 0) (by rw [h0]; rfl) ?_
            refine J_if_eq_n 403 dL_isWell_398 (by decide) (fun c398 => ?_) (fun c398 => ?_)
            · exact ww_E I hQ (f1.trans f2) ⟨_, _, _, _, _, cp2⟩ (by omega) (by omega)
            · omega
    · have h0 : 0 < s 1 := of_decide_eq_true c276
      obtain ⟨t1, t2, t3, t4, t5, t6, t7⟩ := I.t h0
      have ta := t7 (s 2) t4
      have tb := t7 (s 2 - 1) (by omega)
      have pa := I.p (aimS s) (by unfold aimS; omega)
      have pb := I.p (begS s) (by unfold begS; omega)
      refine J_aload_n (by rfl) (by rfl) dL_isWell_279 ?_
      refine J_V0v (ci := 10) dL_isWell_280 s_L_63 m_X10_drift rfl (by repeat (first | assumption | exact jget_same2 (by (try simp only [List.length_set]); exact jlt (by assumption)) | refine jget_ne (by first | decide | assumption | omega) ?_)) rfl (c_X10_drift I cp (fun _ h2 r f2 r1 r2 cp2 => (jKv_i ?_)) (fun q => absurd h0 q)) (hf := jfit_j (by rfl) (by rfl) (by omega) (by omega))
      have c02 := cp2.c0
      have hr : r ≤ 20000 := drift_r (by omega) (by omega) (by omega) (by omega) r1
      obtain ⟨z1, z2⟩ := drift_bey r1 r2
      have b1 := beyZ_b (a := (s 3 : Int) - pX s (begS s)) (b := (s 4 : Int) - pY s (begS s)) (c := (pX s (aimS s) : Int) - pX s (begS s)) (d := (pY s (aimS s) : Int) - pY s (begS s)) (m := r) (by omega) (by omega) (by omega) (by omega) (by omega)
      have b2 := beyZ_b (a := (s 3 : Int) - pX s (begS s)) (b := (s 4 : Int) - pY s (begS s)) (c := (pX s (aimS s) : Int) - pX s (begS s)) (d := (pY s (aimS s) : Int) - pY s (begS s)) (m := r + 1) (by omega) (by omega) (by omega) (by omega) (by omega)
      refine J_istore_4 dL_isWell_283 ?_
      refine J_aload_n (by rfl) (by rfl) dL_isWell_285 ?_
      refine J_S1v dL_isWell_286 s_L_236 m_L_aim rfl (l_aim h0 R I cp2 (jKv_i ?_)) (hf := jfit_j (by rfl) (by rfl) (by omega) (by omega))
      refine J_istore_5 dL_isWell_289 ?_
      refine J_iload (by rfl) dL_isWell_291 ?_
      refine J_aload_n (by rfl) (by rfl) dL_isWell_293 ?_
      refine J_V0v (ci := 10) dL_isWell_294 s_L_211 m_X10_routeLength rfl (by repeat (first | assumption | exact jget_same2 (by (try simp only [List.length_set]); exact jlt (by assumption)) | refine jget_ne (by first | decide | assumption | omega) ?_)) rfl (k_rlen h0 I cp2 (jKv_i ?_)) (hf := jfit_j (by rfl) (by rfl) (by omega) (by omega))
      refine J_icmp_ge_n 364 dL_isWell_297 (by decide) (fun c297 => ?_) (fun c297 => ?_)
      · omega
      · refine J_aload_n (by rfl) (by rfl) dL_isWell_300 ?_
        refine J_aload_n (by rfl) (by rfl) dL_isWell_301 ?_
        refine J_iload (by rfl) dL_isWell_302 ?_
        refine J_iconst (nI 1) (by decide) dL_isWell_304 ?_
        refine J_isub_n (by omega) dL_isWell_305 ?_
        refine J_V1v (ci := 10) dL_isWell_306 s_L_220 m_X10_routeWaypoint rfl (by repeat (first | assumption | exact jget_same2 (by (try simp only [List.length_set]); exact jlt (by assumption)) | refine jget_ne (by first | decide | assumption | omega) ?_)) rfl (k_route h0 (by omega) I cp2 (jKv_i ?_)) (hf := jfit_j (by rfl) (by rfl) (by omega) (by omega))
        refine J_aload_n (by rfl) (by rfl) dL_isWell_309 ?_
        refine J_V0v (ci := 10) dL_isWell_310 s_L_60 m_X10_target rfl (by repeat (first | assumption | exact jget_same2 (by (try simp only [List.length_set]); exact jlt (by assumption)) | refine jget_ne (by first | decide | assumption | omega) ?_)) rfl (k_target h0 I cp2 (jKv_i ?_)) (hf := jfit_j (by rfl) (by rfl) (by omega) (by omega))
        refine J_aload_n (by rfl) (by rfl) dL_isWell_313 ?_
        refine J_V0v (ci := 10) dL_isWell_314 s_L_214 m_X10_hikerX rfl (by repeat (first | assumption | exact jget_same2 (by (try simp only [List.length_set]); exact jlt (by assumption)) | refine jget_ne (by first | decide | assumption | omega) ?_)) rfl (k_hx h0 I cp2 (jKv_i ?_)) (hf := jfit_j (by rfl) (by rfl) (by omega) (by omega))
        refine J_aload_n (by rfl) (by rfl) dL_isWell_317 ?_
        refine J_V0v (ci := 10) dL_isWell_318 s_L_217 m_X10_hikerY rfl (by repeat (first | assumption | exact jget_same2 (by (try simp only [List.length_set]); exact jlt (by assumption)) | refine jget_ne (by first | decide | assumption | omega) ?_)) rfl (k_hy h0 I cp2 (jKv_i ?_)) (hf := jfit_j (by rfl) (by rfl) (by omega) (by omega))
        refine J_iload (by rfl) dL_isWell_321 ?_
        refine J_S6v dL_isWell_323 s_L_239 m_L_beyond rfl (l_beyond (i := begS s) (j := aimS s) (x := s 3) (y := s 4) (m := r) tb ta t5 t6 (by omega) I cp2 (jKv_i ?_)) (hf := jfit_j (by rfl) (by rfl) (by omega) (by omega))
        refine J_lconst (lN 0) (by decide) dL_isWell_326 ?_
        refine J_lcmp dL_isWell_327 ?_
        refine J_if_lt 364 dL_isWell_328 (by decide) (fun c328 => ?_) (fun c328 => ?_)
        · exact absurd ((cmp_lt b1 (b := 0) (by decide)).mp c328) z1
        · refine J_aload_n (by rfl) (by rfl) dL_isWell_331 ?_
          refine J_aload_n (by rfl) (by rfl) dL_isWell_332 ?_
          refine J_iload (by rfl) dL_isWell_333 ?_
          refine J_iconst (nI 1) (by decide) dL_isWell_335 ?_
          refine J_isub_n (by omega) dL_isWell_336 ?_
          refine J_V1v (ci := 10) dL_isWell_337 s_L_220 m_X10_routeWaypoint rfl (by repeat (first | assumption | exact jget_same2 (by (try simp only [List.length_set]); exact jlt (by assumption)) | refine jget_ne (by first | decide | assumption | omega) ?_)) rfl (k_route h0 (by omega) I cp2 (jKv_i ?_)) (hf := jfit_j (by rfl) (by rfl) (by omega) (by omega))
          refine J_aload_n (by rfl) (by rfl) dL_isWell_340 ?_
          refine J_V0v (ci := 10) dL_isWell_341 s_L_60 m_X10_target rfl (by repeat (first | assumption | exact jget_same2 (by (try simp only [List.length_set]); exact jlt (by assumption)) | refine jget_ne (by first | decide | assumption | omega) ?_)) rfl (k_target h0 I cp2 (jKv_i ?_)) (hf := jfit_j (by rfl) (by rfl) (by omega) (by omega))
          refine J_aload_n (by rfl) (by rfl) dL_isWell_344 ?_
          refine J_V0v (ci := 10) dL_isWell_345 s_L_214 m_X10_hikerX rfl (by repeat (first | assumption | exact jget_same2 (by (try simp only [List.length_set]); exact jlt (by assumption)) | refine jget_ne (by first | decide | assumption | omega) ?_)) rfl (k_hx h0 I cp2 (jKv_i ?_)) (hf := jfit_j (by rfl) (by rfl) (by omega) (by omega))
          refine J_aload_n (by rfl) (by rfl) dL_isWell_348 ?_
          refine J_V0v (ci := 10) dL_isWell_349 s_L_217 m_X10_hikerY rfl (by repeat (first | assumption | exact jget_same2 (by (try simp only [List.length_set]); exact jlt (by assumption)) | refine jget_ne (by first | decide | assumption | omega) ?_)) rfl (k_hy h0 I cp2 (jKv_i ?_)) (hf := jfit_j (by rfl) (by rfl) (by omega) (by omega))
          refine J_iload (by rfl) dL_isWell_352 ?_
          refine J_iconst (nI 1) (by decide) dL_isWell_354 ?_
          refine J_iadd dL_isWell_355 ?_
          try rw [nI_add]
          refine J_S6v dL_isWell_356 s_L_239 m_L_beyond rfl (l_beyond (i := begS s) (j := aimS s) (x := s 3) (y := s 4) (m := r + 1) tb ta t5 t6 (by omega) I cp2 (jKv_i ?_)) (hf := jfit_j (by rfl) (by rfl) (by omega) (by omega))
          refine J_lconst (lN 0) (by decide) dL_isWell_359 ?_
          refine J_lcmp dL_isWell_360 ?_
          refine J_if_lt 366 dL_isWell_361 (by decide) (fun c361 => ?_) (fun c361 => ?_)
          · refine J_goto 403 dL_isWell_366 (by decide) ?_
            exact ww_E I hQ (f1.trans (gcl f2)) ⟨_, _, _, _, _, cp2⟩ (by omega) (by omega)
          · exact absurd ((cmp_lt b2 (b := 0) (by decide)).mpr z2) c361
  refine J_aload_n (by rfl) (by rfl) dL_isWell_254 ?_
  refine J_V0v (ci := 10) dL_isWell_255 s_L_193 m_X10_mode rfl (by repeat (first | assumption | exact jget_same2 (by (try simp only [List.length_set]); exact jlt (by assumption)) | refine jget_ne (by first | decide | assumption | omega) ?_)) rfl (c_X10_mode I cp (jKv_i ?_)) (hf := jfit_j (by rfl) (by rfl) (by omega) (by omega))
  refine J_if_ne_n 265 dL_isWell_258 (by decide) (fun c258 => ?_) (fun c258 => ?_)
  · refine J_iconst (nI 2) (by decide) dL_isWell_265 ?_
    refine J_aload_n (by rfl) (by rfl) dL_isWell_266 ?_
    refine J_V0v (ci := 10) dL_isWell_267 s_L_193 m_X10_mode rfl (by repeat (first | assumption | exact jget_same2 (by (try simp only [List.length_set]); exact jlt (by assumption)) | refine jget_ne (by first | decide | assumption | omega) ?_)) rfl (c_X10_mode I cp (jKv_i ?_)) (hf := jfit_j (by rfl) (by rfl) (by omega) (by omega))
    refine J_imul dL_isWell_270 ?_
    try rw [pk_mul]
    refine J_topi (nI (costN (s 7))) (by rw [cost_f hm, if_neg (by omega)]) ?_
    exact m271
  · refine J_iconst (nI 1) (by decide) dL_isWell_261 ?_
    refine J_goto 271 dL_isWell_262 (by decide) ?_
    refine J_topi (nI (costN (s 7))) (by rw [cost_f hm, if_pos c258]) ?_
    exact m271
end WELL2
