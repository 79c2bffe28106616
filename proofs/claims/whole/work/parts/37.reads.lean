/-! The reference's parser: readers -/
section MR
variable {G : jG} {X : Bool} {h : jH} {Q : jQ_} {ch th ln tp he cm : Nat} {ea fa an : Int32} {sv : Bool} {tx C : Nat → Nat}
theorem c_X11_isPair {c at_ : Nat} (hat : at_ + 2 < 124) (hc : c < 65536) (hph : ¬ phd c) (hs : tp ≤ 60) (hp : he ≤ tp) (htx : ∀ k, k < tp → tx k < 65536) (hM : h[116]? = some (hMo ch th ea fa an sv ln tp he cm)) (hT : h[123]? = some (ia 60 tx)) (hC : h[124]? = some (ia 124 C))
    (hQ : ∀ ok q V C', its (sg tx tp) [78, c, 78] he [] = (ok, q, V) → q ≤ tp → (∀ k, k < at_ + 1 → C' k = C k) → (ok = true → V.length = 2 ∧ ∀ j, j < 2 → C' (at_ + 1 + j) = V.getD j 0) → Q (.inl (some (.int (jb ok)))) ((h.set 116 (hMo ch th ea fa an sv ln tp q cm)).set 124 (ia 124 C'))) : jCT G M_X11_isPair 3 0 0 X [.ref 116, .int (nI c), .int (nI at_)] h Q := by
  refine jCT_of [some (.ref 116), some (.int (nI c)), some (.int (nI at_))] 0 rfl (by decide +kernel) rfl rfl ?_
  have hn1 := nd_s (tx := tx) (tp := tp) 3 he hp
  have hN : itm (sg tx tp) he 78 = if nd (sg tx tp) 3 he = 0 then none else some (he + nd (sg tx tp) 3 he, [nv (sg tx tp) 3 he 0]) := itm_N
  refine J_aload_n (by rfl) (by rfl) dX11_isPair_0 ?_
  refine J_iconst (nI 3) (by decide) dX11_isPair_1 ?_
  refine J_iload_n (by rfl) dX11_isPair_2 ?_
  refine J_iconst (nI 1) (by decide) dX11_isPair_3 ?_
  refine J_iadd dX11_isPair_4 ?_
  try rw [nI_add]
  refine J_V2v (ci := 11) dX11_isPair_5 s_X11_213 m_X11_isNumber rfl (by repeat (first | assumption | exact jget_same2 (by (try simp only [List.length_set]); exact jlt (by assumption)) | refine jget_ne (by first | decide | assumption | omega) ?_)) rfl (c_X11_isNumber (C := C) (he := he) (m := 3) (at_ := at_ + 1) (by omega) (by omega) hs hp htx (by repeat (first | assumption | exact jget_same2 (by (try simp only [List.length_set]); exact jlt (by assumption)) | refine jget_ne (by first | decide | assumption | omega) ?_)) (by repeat (first | assumption | exact jget_same2 (by (try simp only [List.length_set]); exact jlt (by assumption)) | refine jget_ne (by first | decide | assumption | omega) ?_)) (by repeat (first | assumption | exact jget_same2 (by (try simp only [List.length_set]); exact jlt (by assumption)) | refine jget_ne (by first | decide | assumption | omega) ?_)) (jKv_i ?_))
  by_cases hn : nd (sg tx tp) 3 he = 0
  · rw [if_pos hn] at hN
    rw [show decide (nd (sg tx tp) 3 he ≠ 0) = false by simpa using hn, hn]
    refine J_if_eq_b 34 dX11_isPair_8 (by decide) (fun c8 => ?_) (fun c8 => ?_)
    · refine J_iconst (nI 0) (by decide) dX11_isPair_34 ?_
      exact J_zreturn dX11_isPair_35 rfl (by rfl) (hQ false he [] _ (its_none hN) hp (fun k hk => updN_n (by omega)) (fun z => absurd z (by decide))) (by decide) (by decide) (fun _ => rfl)
    · exact absurd c8 (by decide)
  · rw [if_neg hn] at hN
    rw [show decide (nd (sg tx tp) 3 he ≠ 0) = true by simpa using hn]
    have hi1 := its_some (r := [c, 78]) (vs := []) hN
    generalize he + nd (sg tx tp) 3 he = q1 at *
    generalize nv (sg tx tp) 3 he 0 = v1 at *
    refine J_if_eq_b 34 dX11_isPair_8 (by decide) (fun c8 => ?_) (fun c8 => ?_)
    · exact absurd c8 (by decide)
    · refine J_aload_n (by rfl) (by rfl) dX11_isPair_11 ?_
      refine J_iload_n (by rfl) dX11_isPair_12 ?_
      refine J_V1v (ci := 11) dX11_isPair_13 s_X11_208 m_X11_isSign rfl (by repeat (first | assumption | exact jget_same2 (by (try simp only [List.length_set]); exact jlt (by assumption)) | refine jget_ne (by first | decide | assumption | omega) ?_)) rfl (c_X11_isSign (he := q1) (c := c) hs hn1 hc htx (by repeat (first | assumption | exact jget_same2 (by (try simp only [List.length_set]); exact jlt (by assumption)) | refine jget_ne (by first | decide | assumption | omega) ?_)) (by repeat (first | assumption | exact jget_same2 (by (try simp only [List.length_set]); exact jlt (by assumption)) | refine jget_ne (by first | decide | assumption | omega) ?_)) (fun e => (jKv_i ?_)) (fun e => (jKv_i ?_)))
      · have hlt := ((sg_lt hc).mp e).1
        have hi2 := hi1.trans (its_some (r := [78]) (by rw [itm_sign hph, if_pos e]))
        have hn2 := nd_s (tx := tx) (tp := tp) 3 (q1 + 1) (by omega)
        have hN2 : itm (sg tx tp) (q1 + 1) 78 = if nd (sg tx tp) 3 (q1 + 1) = 0 then none else some (q1 + 1 + nd (sg tx tp) 3 (q1 + 1), [nv (sg tx tp) 3 (q1 + 1) 0]) := itm_N
        refine J_if_eq_b 34 dX11_isPair_16 (by decide) (fun c16 => ?_) (fun c16 => ?_)
        · exact absurd c16 (by decide)
        · refine J_aload_n (by rfl) (by rfl) dX11_isPair_19 ?_
          refine J_iconst (nI 3) (by decide) dX11_isPair_20 ?_
          refine J_iload_n (by rfl) dX11_isPair_21 ?_
          refine J_iconst (nI 2) (by decide) dX11_isPair_22 ?_
          refine J_iadd dX11_isPair_23 ?_
          try rw [nI_add]
          refine J_V2v (ci := 11) dX11_isPair_24 s_X11_213 m_X11_isNumber rfl (by repeat (first | assumption | exact jget_same2 (by (try simp only [List.length_set]); exact jlt (by assumption)) | refine jget_ne (by first | decide | assumption | omega) ?_)) rfl (c_X11_isNumber (C := updN C (at_ + 1) v1) (he := q1 + 1) (m := 3) (at_ := at_ + 2) (by omega) (by omega) hs (by omega) htx (by repeat (first | assumption | exact jget_same2 (by (try simp only [List.length_set]); exact jlt (by assumption)) | refine jget_ne (by first | decide | assumption | omega) ?_)) (by repeat (first | assumption | exact jget_same2 (by (try simp only [List.length_set]); exact jlt (by assumption)) | refine jget_ne (by first | decide | assumption | omega) ?_)) (by repeat (first | assumption | exact jget_same2 (by (try simp only [List.length_set]); exact jlt (by assumption)) | refine jget_ne (by first | decide | assumption | omega) ?_)) (jKv_i ?_))
          by_cases hn3 : nd (sg tx tp) 3 (q1 + 1) = 0
          · rw [if_pos hn3] at hN2
            rw [show decide (nd (sg tx tp) 3 (q1 + 1) ≠ 0) = false by simpa using hn3, hn3]
            refine J_if_eq_b 34 dX11_isPair_27 (by decide) (fun c27 => ?_) (fun c27 => ?_)
            · refine J_iconst (nI 0) (by decide) dX11_isPair_34 ?_
              exact J_zreturn dX11_isPair_35 rfl (by rfl) (by
                try simp only [List.set_set, jsw (i := 116) (j := 124) (by decide)]
                exact hQ false (q1 + 1) _ _ (hi2.trans (its_none hN2)) (by omega) (fun k hk => by rw [updN_n (by omega), updN_n (by omega)]) (fun z => absurd z (by decide))) (by decide) (by decide) (fun _ => rfl)
            · exact absurd c27 (by decide)
          · rw [if_neg hn3] at hN2
            rw [show decide (nd (sg tx tp) 3 (q1 + 1) ≠ 0) = true by simpa using hn3]
            refine J_if_eq_b 34 dX11_isPair_27 (by decide) (fun c27 => ?_) (fun c27 => ?_)
            · exact absurd c27 (by decide)
            · refine J_iconst (nI 1) (by decide) dX11_isPair_30 ?_
              refine J_goto 35 dX11_isPair_31 (by decide) ?_
              exact J_zreturn dX11_isPair_35 rfl (by rfl) (by
                try simp only [List.set_set, jsw (i := 116) (j := 124) (by decide)]
                exact hQ true _ [v1, nv (sg tx tp) 3 (q1 + 1) 0] _ (hi2.trans (its_some (r := []) hN2)) hn2 (fun k hk => by rw [updN_n (by omega), updN_n (by omega)]) (fun _ => ⟨rfl, fun j hj => by
                  rcases (show j = 0 ∨ j = 1 by omega) with rfl | rfl
                  · rw [updN_n (by omega)]; show updN _ _ _ (at_ + 1) = _; rw [updN_s]; rfl
                  · show updN _ _ _ (at_ + 2) = _; rw [updN_s]; rfl⟩)) (by decide) (by decide) (fun _ => rfl)
      · have hi2 := hi1.trans (its_none (r := [78]) (by rw [itm_sign hph, if_neg e]))
        refine J_if_eq_b 34 dX11_isPair_16 (by decide) (fun c16 => ?_) (fun c16 => ?_)
        · refine J_iconst (nI 0) (by decide) dX11_isPair_34 ?_
          exact J_zreturn dX11_isPair_35 rfl (by rfl) (by
            try simp only [List.set_set, jsw (i := 116) (j := 124) (by decide)]
            exact hQ false q1 _ _ hi2 hn1 (fun k hk => updN_n (by omega)) (fun z => absurd z (by decide))) (by decide) (by decide) (fun _ => rfl)
        · exact absurd c16 (by decide)
theorem c_X11_readsT {at_ : Nat} (hat : at_ + 3 < 124) (hs : tp ≤ 60) (hp : he ≤ tp) (htx : ∀ k, k < tp → tx k < 65536) (hM : h[116]? = some (hMo ch th ea fa an sv ln tp he cm)) (hT : h[123]? = some (ia 60 tx)) (hC : h[124]? = some (ia 124 C)) (h0 : C at_ = 116)
    (hQ : RQ Q h ch th ea fa an sv ln tp cm C at_ (if sg tx tp he = 114 then (its (sg tx tp) ([97, 105, 108, 32] ++ tal 1) (he + 1) [], 1) else (its (sg tx tp) ([111, 117, 114, 32] ++ tal 3) he [], 3))) : jCT G M_X11_readsT 6 0 0 X [.ref 116, .int (nI at_)] h Q := by
  refine jCT_of [some (.ref 116), some (.int (nI at_))] 0 rfl (by decide +kernel) rfl rfl ?_
  have hQ0 : ∀ q V K, (if sg tx tp he = 114 then (its (sg tx tp) ([97, 105, 108, 32] ++ tal 1) (he + 1) [], 1) else (its (sg tx tp) ([111, 117, 114, 32] ++ tal 3) he [], 3)) = ((false, q, V), K) → q ≤ tp → Q (.inl (some (.int (jb false)))) (h.set 116 (hMo ch th ea fa an sv ln tp q cm)) := fun q V K e hq => by
    have := hQ false q V K C e hq (fun _ _ => rfl) (fun z => absurd z (by decide))
    rwa [hset_id (by exact (by repeat (first | assumption | exact jget_same2 (by (try simp only [List.length_set]); exact jlt (by assumption)) | refine jget_ne (by first | decide | assumption | omega) ?_)))] at this
  have hsg9 := sg_lt (tx := tx) (tp := tp) (p := he) (c := 114) (by decide)
  refine J_aload_n (by rfl) (by rfl) dX11_readsT_0 ?_
  refine J_bipush (nI 114) (by decide) dX11_readsT_1 ?_
  refine J_V1v (ci := 11) dX11_readsT_3 s_X11_208 m_X11_isSign rfl (by repeat (first | assumption | exact jget_same2 (by (try simp only [List.length_set]); exact jlt (by assumption)) | refine jget_ne (by first | decide | assumption | omega) ?_)) rfl (c_X11_isSign (he := he) (c := 114) hs hp (by decide) htx (by repeat (first | assumption | exact jget_same2 (by (try simp only [List.length_set]); exact jlt (by assumption)) | refine jget_ne (by first | decide | assumption | omega) ?_)) (by repeat (first | assumption | exact jget_same2 (by (try simp only [List.length_set]); exact jlt (by assumption)) | refine jget_ne (by first | decide | assumption | omega) ?_)) (fun e0 => (jKv_i ?_)) (fun e0 => (jKv_i ?_)))
  · have hlt9 := (hsg9.mp e0).1
    refine J_if_eq_b 54 dX11_readsT_6 (by decide) (fun c6 => ?_) (fun c6 => ?_)
    · exact absurd c6 (by decide)
    · skip
      have hR : its (sg tx tp) ([97, 105, 108, 32] ++ tal 1) (he + 1) [] = its (sg tx tp) ([97, 105, 108, 32] ++ ([78, 45, 78] ++ ([61] ++ ([78] ++ ([]))))) (he + 1) [] := rfl
      have hlow0 : ∀ k, k < at_ → C k = C k := fun k hk => rfl
      have hatv0 : C at_ = lk 1 := h0
      refine J_aload_n (by rfl) (by rfl) dX11_readsT_9 ?_
      refine J_ldcS (i := 32) dX11_readsT_10 rfl rfl rfl ?_
      refine J_V1v (ci := 11) dX11_readsT_12 s_X11_218 m_X11_isWord rfl (by repeat (first | assumption | exact jget_same2 (by (try simp only [List.length_set]); exact jlt (by assumption)) | refine jget_ne (by first | decide | assumption | omega) ?_)) rfl (c_X11_isWord (i := 32) (he := (he + 1)) str_32 hs (by omega) htx (by repeat (first | assumption | exact jget_same2 (by (try simp only [List.length_set]); exact jlt (by assumption)) | refine jget_ne (by first | decide | assumption | omega) ?_)) (by repeat (first | assumption | exact jget_same2 (by (try simp only [List.length_set]); exact jlt (by assumption)) | refine jget_ne (by first | decide | assumption | omega) ?_)) (fun e => (jKv_i ?_)) (fun e => (jKv_i ?_)))
      · have hcl := cl_s (tx := tx) (tp := tp) [97, 105, 108, 32] ((he + 1)) (by omega) (by decide)
        rw [its_word _ [97, 105, 108, 32] ([78, 45, 78] ++ ([61] ++ ([78] ++ ([])))) _ _ (by unfold phd; decide), if_pos e] at hR
        have e : cl (sg tx tp) [97, 105, 108, 32] ((he + 1)) = 4 := e
        have hR : _ = its (sg tx tp) ([78, 45, 78] ++ ([61] ++ ([78] ++ ([])))) ((he + 1) + 4) [] := hR
        refine J_if_eq_b 52 dX11_readsT_15 (by decide) (fun c15 => ?_) (fun c15 => ?_)
        · exact absurd c15 (by decide)
        · skip
          refine J_aload_n (by rfl) (by rfl) dX11_readsT_18 ?_
          refine J_bipush (nI 45) (by decide) dX11_readsT_19 ?_
          refine J_iload_n (by rfl) dX11_readsT_21 ?_
          refine J_V2v (ci := 11) dX11_readsT_22 s_X11_222 m_X11_isPair rfl (by repeat (first | assumption | exact jget_same2 (by (try simp only [List.length_set]); exact jlt (by assumption)) | refine jget_ne (by first | decide | assumption | omega) ?_)) rfl (c_X11_isPair (C := C) (he := ((he + 1) + 4)) (at_ := at_) (c := 45) (by omega) (by decide) (by unfold phd; decide) hs (by omega) htx (by repeat (first | assumption | exact jget_same2 (by (try simp only [List.length_set]); exact jlt (by assumption)) | refine jget_ne (by first | decide | assumption | omega) ?_)) (by repeat (first | assumption | exact jget_same2 (by (try simp only [List.length_set]); exact jlt (by assumption)) | refine jget_ne (by first | decide | assumption | omega) ?_)) (by repeat (first | assumption | exact jget_same2 (by (try simp only [List.length_set]); exact jlt (by assumption)) | refine jget_ne (by first | decide | assumption | omega) ?_)) (fun ok q2 V2 C2 hi hq2 hlo hok => (jKv_i ?_)))
          have hlow1 : ∀ k, k < at_ → C2 k = C k := fun k hk => (hlo k (by omega)).trans (hlow0 k hk)
          have hatv1 : C2 at_ = lk 1 := (hlo at_ (by omega)).trans hatv0
          cases ok with
          | false =>
            rw [its_fail hi] at hR
            refine J_if_eq_b 52 dX11_readsT_25 (by decide) (fun c25 => ?_) (fun c25 => ?_)
            · refine J_iconst (nI 0) (by decide) dX11_readsT_52 ?_
              exact J_zreturn dX11_readsT_53 rfl (by rfl) (by
                try simp only [List.set_set, jsw (i := 116) (j := 124) (by decide)]
                exact hQ false q2 ([] ++ V2) 1 C2 (by rw [if_pos e0, hR]) hq2 (hlow1) (fun z => absurd z (by decide))) (by decide) (by decide) (fun _ => rfl)
            · exact absurd c25 (by decide)
          | true =>
            rw [its_then hi] at hR
            obtain ⟨hl2, hv2⟩ := hok rfl
            refine J_if_eq_b 52 dX11_readsT_25 (by decide) (fun c25 => ?_) (fun c25 => ?_)
            · exact absurd c25 (by decide)
            · skip
              have hsg9 := sg_lt (tx := tx) (tp := tp) (p := q2) (c := 61) (by decide)
              refine J_aload_n (by rfl) (by rfl) dX11_readsT_28 ?_
              refine J_bipush (nI 61) (by decide) dX11_readsT_29 ?_
              refine J_V1v (ci := 11) dX11_readsT_31 s_X11_208 m_X11_isSign rfl (by repeat (first | assumption | exact jget_same2 (by (try simp only [List.length_set]); exact jlt (by assumption)) | refine jget_ne (by first | decide | assumption | omega) ?_)) rfl (c_X11_isSign (he := q2) (c := 61) hs (by omega) (by decide) htx (by repeat (first | assumption | exact jget_same2 (by (try simp only [List.length_set]); exact jlt (by assumption)) | refine jget_ne (by first | decide | assumption | omega) ?_)) (by repeat (first | assumption | exact jget_same2 (by (try simp only [List.length_set]); exact jlt (by assumption)) | refine jget_ne (by first | decide | assumption | omega) ?_)) (fun e => (jKv_i ?_)) (fun e => (jKv_i ?_)))
              · have hlt9 := (hsg9.mp e).1
                rw [show [61] ++ ([78] ++ ([])) = 61 :: ([78] ++ ([])) from rfl, its_some (by rw [itm_sign (by unfold phd; decide), if_pos e])] at hR
                refine J_if_eq_b 52 dX11_readsT_34 (by decide) (fun c34 => ?_) (fun c34 => ?_)
                · exact absurd c34 (by decide)
                · skip
                  have hnd9 := nd_s (tx := tx) (tp := tp) 3 ((q2 + 1)) (by omega)
                  refine J_aload_n (by rfl) (by rfl) dX11_readsT_37 ?_
                  refine J_iconst (nI 3) (by decide) dX11_readsT_38 ?_
                  refine J_iload_n (by rfl) dX11_readsT_39 ?_
                  refine J_iconst (nI 3) (by decide) dX11_readsT_40 ?_
                  refine J_iadd dX11_readsT_41 ?_
                  try rw [nI_add]
                  refine J_V2v (ci := 11) dX11_readsT_42 s_X11_213 m_X11_isNumber rfl (by repeat (first | assumption | exact jget_same2 (by (try simp only [List.length_set]); exact jlt (by assumption)) | refine jget_ne (by first | decide | assumption | omega) ?_)) rfl (c_X11_isNumber (C := C2) (he := (q2 + 1)) (m := 3) (at_ := at_ + 3) (by omega) (by omega) hs (by omega) htx (by repeat (first | assumption | exact jget_same2 (by (try simp only [List.length_set]); exact jlt (by assumption)) | refine jget_ne (by first | decide | assumption | omega) ?_)) (by repeat (first | assumption | exact jget_same2 (by (try simp only [List.length_set]); exact jlt (by assumption)) | refine jget_ne (by first | decide | assumption | omega) ?_)) (by repeat (first | assumption | exact jget_same2 (by (try simp only [List.length_set]); exact jlt (by assumption)) | refine jget_ne (by first | decide | assumption | omega) ?_)) (jKv_i ?_))
                  have hlow2 : ∀ k, k < at_ → (updN C2 (at_ + 3) (nv (sg tx tp) 3 (q2 + 1) 0)) k = C k := fun k hk => (updN_n (by omega)).trans (hlow1 k hk)
                  have hatv2 : (updN C2 (at_ + 3) (nv (sg tx tp) 3 (q2 + 1) 0)) at_ = lk 1 := (updN_n (by omega)).trans hatv1
                  by_cases hn : nd (sg tx tp) 3 (q2 + 1) = 0
                  · rw [show [78] ++ [] = 78 :: [] from rfl, its_none (by rw [itm_N, if_pos hn])] at hR
                    rw [show decide (nd (sg tx tp) 3 (q2 + 1) ≠ 0) = false by simpa using hn, hn]
                    refine J_if_eq_b 52 dX11_readsT_45 (by decide) (fun c45 => ?_) (fun c45 => ?_)
                    · refine J_iconst (nI 0) (by decide) dX11_readsT_52 ?_
                      exact J_zreturn dX11_readsT_53 rfl (by rfl) (by
                        try simp only [List.set_set, jsw (i := 116) (j := 124) (by decide)]
                        exact hQ false (q2 + 1) (([] ++ V2) ++ []) 1 (updN C2 (at_ + 3) (nv (sg tx tp) 3 (q2 + 1) 0)) (by rw [if_pos e0, hR]) (by omega) (hlow2) (fun z => absurd z (by decide))) (by decide) (by decide) (fun _ => rfl)
                    · exact absurd c45 (by decide)
                  · rw [show [78] ++ [] = 78 :: [] from rfl, its_some (by rw [itm_N, if_neg hn])] at hR
                    rw [show decide (nd (sg tx tp) 3 (q2 + 1) ≠ 0) = true by simpa using hn]
                    refine J_if_eq_b 52 dX11_readsT_45 (by decide) (fun c45 => ?_) (fun c45 => ?_)
                    · exact absurd c45 (by decide)
                    · skip
                      have hvals : ∀ j, j < (([] ++ V2 ++ [] : List Nat) ++ [nv (sg tx tp) 3 (q2 + 1) 0]).length → updN C2 (at_ + 3) (nv (sg tx tp) 3 (q2 + 1) 0) (at_ + 1 + j) = (([] ++ V2 ++ [] : List Nat) ++ [nv (sg tx tp) 3 (q2 + 1) 0]).getD j 0 := by
                        intro j hj
                        rw [getD_app]
                        simp only [List.nil_append, List.append_nil, List.length_append, hl2, List.length_cons, List.length_nil] at hj ⊢
                        by_cases e9 : j = 2
                        · rw [if_pos e9, e9, show at_ + 1 + 2 = at_ + 3 from rfl, updN_s]
                        · rw [if_neg e9, updN_n (by omega)]
                          exact hv2 j (by omega)
                      refine J_iconst (nI 1) (by decide) dX11_readsT_48 ?_
                      refine J_goto 53 dX11_readsT_49 (by decide) ?_
                      exact J_zreturn dX11_readsT_53 rfl (by rfl) (by
                        try simp only [List.set_set, jsw (i := 116) (j := 124) (by decide)]
                        exact hQ true ((q2 + 1) + nd (sg tx tp) 3 (q2 + 1)) ((([] ++ V2) ++ []) ++ [nv (sg tx tp) 3 (q2 + 1) 0]) 1 (updN C2 (at_ + 3) (nv (sg tx tp) 3 (q2 + 1) 0)) (by rw [if_pos e0, hR]; rfl) (by omega) (hlow2) (fun _ => ⟨hatv2, hvals⟩)) (by decide) (by decide) (fun _ => rfl)
              · rw [show [61] ++ ([78] ++ ([])) = 61 :: ([78] ++ ([])) from rfl, its_none (by rw [itm_sign (by unfold phd; decide), if_neg e])] at hR
                refine J_if_eq_b 52 dX11_readsT_34 (by decide) (fun c34 => ?_) (fun c34 => ?_)
                · refine J_iconst (nI 0) (by decide) dX11_readsT_52 ?_
                  exact J_zreturn dX11_readsT_53 rfl (by rfl) (by
                    try simp only [List.set_set, jsw (i := 116) (j := 124) (by decide)]
                    exact hQ false q2 ([] ++ V2) 1 C2 (by rw [if_pos e0, hR]) (by omega) (hlow1) (fun z => absurd z (by decide))) (by decide) (by decide) (fun _ => rfl)
                · exact absurd c34 (by decide)
      · have hcl := cl_s (tx := tx) (tp := tp) [97, 105, 108, 32] ((he + 1)) (by omega) (by decide)
        rw [its_word _ [97, 105, 108, 32] ([78, 45, 78] ++ ([61] ++ ([78] ++ ([])))) _ _ (by unfold phd; decide), if_neg e] at hR
        refine J_if_eq_b 52 dX11_readsT_15 (by decide) (fun c15 => ?_) (fun c15 => ?_)
        · refine J_iconst (nI 0) (by decide) dX11_readsT_52 ?_
          exact J_zreturn dX11_readsT_53 rfl (by rfl) (by
            try simp only [List.set_set, jsw (i := 116) (j := 124) (by decide)]
            exact hQ0 ((he + 1) + cl (sg tx tp) [97, 105, 108, 32] ((he + 1))) [] 1 (by rw [if_pos e0, hR]) (by omega)) (by decide) (by decide) (fun _ => rfl)
        · exact absurd c15 (by decide)
  · refine J_if_eq_b 54 dX11_readsT_6 (by decide) (fun c6 => ?_) (fun c6 => ?_)
    · skip
      have hR : its (sg tx tp) ([111, 117, 114, 32] ++ tal 3) he [] = its (sg tx tp) ([111, 117, 114, 32] ++ ([78, 62, 78] ++ ([]))) he [] := rfl
      refine J_aload_n (by rfl) (by rfl) dX11_readsT_54 ?_
      refine J_get dX11_readsT_55 f_X11_38 (by repeat (first | assumption | exact jget_same2 (by (try simp only [List.length_set]); exact jlt (by assumption)) | refine jget_ne (by first | decide | assumption | omega) ?_)) (by rfl) ?_
      refine J_iload_n (by rfl) dX11_readsT_58 ?_
      refine J_bipush (nI 111) (by decide) dX11_readsT_59 ?_
      refine J_iast_n (at_) dX11_readsT_61 (by repeat (first | assumption | exact jget_same2 (by (try simp only [List.length_set]); exact jlt (by assumption)) | refine jget_ne (by first | decide | assumption | omega) ?_)) (by first | rfl | (simp only [pk_mul, nI_add]; done) | (simp only [pk_mul, nI_add]; congr 1; omega) | (congr 1; omega)) (by omega) ?_
      have hlow0 : ∀ k, k < at_ → (updN C at_ 111) k = C k := fun k hk => updN_n (by omega)
      have hatv0 : (updN C at_ 111) at_ = lk 3 := updN_s
      refine J_aload_n (by rfl) (by rfl) dX11_readsT_62 ?_
      refine J_ldcS (i := 33) dX11_readsT_63 rfl rfl rfl ?_
      refine J_V1v (ci := 11) dX11_readsT_65 s_X11_218 m_X11_isWord rfl (by repeat (first | assumption | exact jget_same2 (by (try simp only [List.length_set]); exact jlt (by assumption)) | refine jget_ne (by first | decide | assumption | omega) ?_)) rfl (c_X11_isWord (i := 33) (he := he) str_33 hs (by omega) htx (by repeat (first | assumption | exact jget_same2 (by (try simp only [List.length_set]); exact jlt (by assumption)) | refine jget_ne (by first | decide | assumption | omega) ?_)) (by repeat (first | assumption | exact jget_same2 (by (try simp only [List.length_set]); exact jlt (by assumption)) | refine jget_ne (by first | decide | assumption | omega) ?_)) (fun e => (jKv_i ?_)) (fun e => (jKv_i ?_)))
      · have hcl := cl_s (tx := tx) (tp := tp) [111, 117, 114, 32] (he) (by omega) (by decide)
        rw [its_word _ [111, 117, 114, 32] ([78, 62, 78] ++ ([])) _ _ (by unfold phd; decide), if_pos e] at hR
        have e : cl (sg tx tp) [111, 117, 114, 32] (he) = 4 := e
        have hR : _ = its (sg tx tp) ([78, 62, 78] ++ ([])) (he + 4) [] := hR
        refine J_if_eq_b 85 dX11_readsT_68 (by decide) (fun c68 => ?_) (fun c68 => ?_)
        · exact absurd c68 (by decide)
        · skip
          refine J_aload_n (by rfl) (by rfl) dX11_readsT_71 ?_
          refine J_bipush (nI 62) (by decide) dX11_readsT_72 ?_
          refine J_iload_n (by rfl) dX11_readsT_74 ?_
          refine J_V2v (ci := 11) dX11_readsT_75 s_X11_222 m_X11_isPair rfl (by repeat (first | assumption | exact jget_same2 (by (try simp only [List.length_set]); exact jlt (by assumption)) | refine jget_ne (by first | decide | assumption | omega) ?_)) rfl (c_X11_isPair (C := (updN C at_ 111)) (he := (he + 4)) (at_ := at_) (c := 62) (by omega) (by decide) (by unfold phd; decide) hs (by omega) htx (by repeat (first | assumption | exact jget_same2 (by (try simp only [List.length_set]); exact jlt (by assumption)) | refine jget_ne (by first | decide | assumption | omega) ?_)) (by repeat (first | assumption | exact jget_same2 (by (try simp only [List.length_set]); exact jlt (by assumption)) | refine jget_ne (by first | decide | assumption | omega) ?_)) (by repeat (first | assumption | exact jget_same2 (by (try simp only [List.length_set]); exact jlt (by assumption)) | refine jget_ne (by first | decide | assumption | omega) ?_)) (fun ok q2 V2 C2 hi hq2 hlo hok => (jKv_i ?_)))
          have hlow3 : ∀ k, k < at_ → C2 k = C k := fun k hk => (hlo k (by omega)).trans (hlow0 k hk)
          have hatv3 : C2 at_ = lk 3 := (hlo at_ (by omega)).trans hatv0
          cases ok with
          | false =>
            rw [its_fail hi] at hR
            refine J_if_eq_b 85 dX11_readsT_78 (by decide) (fun c78 => ?_) (fun c78 => ?_)
            · refine J_iconst (nI 0) (by decide) dX11_readsT_85 ?_
              exact J_zreturn dX11_readsT_86 rfl (by rfl) (by
                try simp only [List.set_set, jsw (i := 116) (j := 124) (by decide)]
                exact hQ false q2 ([] ++ V2) 3 C2 (by rw [if_neg e0, hR]) hq2 (hlow3) (fun z => absurd z (by decide))) (by decide) (by decide) (fun _ => rfl)
            · exact absurd c78 (by decide)
          | true =>
            rw [its_then hi] at hR
            obtain ⟨hl2, hv2⟩ := hok rfl
            refine J_if_eq_b 85 dX11_readsT_78 (by decide) (fun c78 => ?_) (fun c78 => ?_)
            · exact absurd c78 (by decide)
            · skip
              refine J_iconst (nI 1) (by decide) dX11_readsT_81 ?_
              refine J_goto 86 dX11_readsT_82 (by decide) ?_
              exact J_zreturn dX11_readsT_86 rfl (by rfl) (by
                try simp only [List.set_set, jsw (i := 116) (j := 124) (by decide)]
                exact hQ true q2 ([] ++ V2) 3 C2 (by rw [if_neg e0, hR]; rfl) (by omega) (hlow3) (fun _ => ⟨hatv3, fun j hj => hv2 j (by rw [List.nil_append, hl2] at hj; exact hj)⟩)) (by decide) (by decide) (fun _ => rfl)
      · have hcl := cl_s (tx := tx) (tp := tp) [111, 117, 114, 32] (he) (by omega) (by decide)
        rw [its_word _ [111, 117, 114, 32] ([78, 62, 78] ++ ([])) _ _ (by unfold phd; decide), if_neg e] at hR
        refine J_if_eq_b 85 dX11_readsT_68 (by decide) (fun c68 => ?_) (fun c68 => ?_)
        · refine J_iconst (nI 0) (by decide) dX11_readsT_85 ?_
          exact J_zreturn dX11_readsT_86 rfl (by rfl) (by
            try simp only [List.set_set, jsw (i := 116) (j := 124) (by decide)]
            exact hQ false (he + cl (sg tx tp) [111, 117, 114, 32] (he)) [] 3 (updN C at_ 111) (by rw [if_neg e0, hR]) (by omega) (hlow0) (fun z => absurd z (by decide))) (by decide) (by decide) (fun _ => rfl)
        · exact absurd c68 (by decide)
    · exact absurd c6 (by decide)
theorem c_X11_readsC {at_ : Nat} (hat : at_ + 3 < 124) (hs : tp ≤ 60) (hp : he ≤ tp) (htx : ∀ k, k < tp → tx k < 65536) (hM : h[116]? = some (hMo ch th ea fa an sv ln tp he cm)) (hT : h[123]? = some (ia 60 tx)) (hC : h[124]? = some (ia 124 C)) (h0 : C at_ = 99)
    (hQ : RQ Q h ch th ea fa an sv ln tp cm C at_ (if sg tx tp he = 117 then (its (sg tx tp) ([116, 32] ++ tal 2) (he + 1) [], 2) else (its (sg tx tp) ([104, 97, 114, 103, 101, 32] ++ tal 6) he [], 6))) : jCT G M_X11_readsC 6 0 0 X [.ref 116, .int (nI at_)] h Q := by
  refine jCT_of [some (.ref 116), some (.int (nI at_))] 0 rfl (by decide +kernel) rfl rfl ?_
  have hQ0 : ∀ q V K, (if sg tx tp he = 117 then (its (sg tx tp) ([116, 32] ++ tal 2) (he + 1) [], 2) else (its (sg tx tp) ([104, 97, 114, 103, 101, 32] ++ tal 6) he [], 6)) = ((false, q, V), K) → q ≤ tp → Q (.inl (some (.int (jb false)))) (h.set 116 (hMo ch th ea fa an sv ln tp q cm)) := fun q V K e hq => by
    have := hQ false q V K C e hq (fun _ _ => rfl) (fun z => absurd z (by decide))
    rwa [hset_id (by exact (by repeat (first | assumption | exact jget_same2 (by (try simp only [List.length_set]); exact jlt (by assumption)) | refine jget_ne (by first | decide | assumption | omega) ?_)))] at this
  have hsg9 := sg_lt (tx := tx) (tp := tp) (p := he) (c := 117) (by decide)
  refine J_aload_n (by rfl) (by rfl) dX11_readsC_0 ?_
  refine J_bipush (nI 117) (by decide) dX11_readsC_1 ?_
  refine J_V1v (ci := 11) dX11_readsC_3 s_X11_208 m_X11_isSign rfl (by repeat (first | assumption | exact jget_same2 (by (try simp only [List.length_set]); exact jlt (by assumption)) | refine jget_ne (by first | decide | assumption | omega) ?_)) rfl (c_X11_isSign (he := he) (c := 117) hs hp (by decide) htx (by repeat (first | assumption | exact jget_same2 (by (try simp only [List.length_set]); exact jlt (by assumption)) | refine jget_ne (by first | decide | assumption | omega) ?_)) (by repeat (first | assumption | exact jget_same2 (by (try simp only [List.length_set]); exact jlt (by assumption)) | refine jget_ne (by first | decide | assumption | omega) ?_)) (fun e0 => (jKv_i ?_)) (fun e0 => (jKv_i ?_)))
  · have hlt9 := (hsg9.mp e0).1
    refine J_if_eq_b 34 dX11_readsC_6 (by decide) (fun c6 => ?_) (fun c6 => ?_)
    · exact absurd c6 (by decide)
    · skip
      have hR : its (sg tx tp) ([116, 32] ++ tal 2) (he + 1) [] = its (sg tx tp) ([116, 32] ++ ([78, 45, 78] ++ ([]))) (he + 1) [] := rfl
      have hlow0 : ∀ k, k < at_ → C k = C k := fun k hk => rfl
      have hatv0 : C at_ = lk 2 := h0
      refine J_aload_n (by rfl) (by rfl) dX11_readsC_9 ?_
      refine J_ldcS (i := 34) dX11_readsC_10 rfl rfl rfl ?_
      refine J_V1v (ci := 11) dX11_readsC_12 s_X11_218 m_X11_isWord rfl (by repeat (first | assumption | exact jget_same2 (by (try simp only [List.length_set]); exact jlt (by assumption)) | refine jget_ne (by first | decide | assumption | omega) ?_)) rfl (c_X11_isWord (i := 34) (he := (he + 1)) str_34 hs (by omega) htx (by repeat (first | assumption | exact jget_same2 (by (try simp only [List.length_set]); exact jlt (by assumption)) | refine jget_ne (by first | decide | assumption | omega) ?_)) (by repeat (first | assumption | exact jget_same2 (by (try simp only [List.length_set]); exact jlt (by assumption)) | refine jget_ne (by first | decide | assumption | omega) ?_)) (fun e => (jKv_i ?_)) (fun e => (jKv_i ?_)))
      · have hcl := cl_s (tx := tx) (tp := tp) [116, 32] ((he + 1)) (by omega) (by decide)
        rw [its_word _ [116, 32] ([78, 45, 78] ++ ([])) _ _ (by unfold phd; decide), if_pos e] at hR
        have e : cl (sg tx tp) [116, 32] ((he + 1)) = 2 := e
        have hR : _ = its (sg tx tp) ([78, 45, 78] ++ ([])) ((he + 1) + 2) [] := hR
        refine J_if_eq_b 32 dX11_readsC_15 (by decide) (fun c15 => ?_) (fun c15 => ?_)
        · exact absurd c15 (by decide)
        · skip
          refine J_aload_n (by rfl) (by rfl) dX11_readsC_18 ?_
          refine J_bipush (nI 45) (by decide) dX11_readsC_19 ?_
          refine J_iload_n (by rfl) dX11_readsC_21 ?_
          refine J_V2v (ci := 11) dX11_readsC_22 s_X11_222 m_X11_isPair rfl (by repeat (first | assumption | exact jget_same2 (by (try simp only [List.length_set]); exact jlt (by assumption)) | refine jget_ne (by first | decide | assumption | omega) ?_)) rfl (c_X11_isPair (C := C) (he := ((he + 1) + 2)) (at_ := at_) (c := 45) (by omega) (by decide) (by unfold phd; decide) hs (by omega) htx (by repeat (first | assumption | exact jget_same2 (by (try simp only [List.length_set]); exact jlt (by assumption)) | refine jget_ne (by first | decide | assumption | omega) ?_)) (by repeat (first | assumption | exact jget_same2 (by (try simp only [List.length_set]); exact jlt (by assumption)) | refine jget_ne (by first | decide | assumption | omega) ?_)) (by repeat (first | assumption | exact jget_same2 (by (try simp only [List.length_set]); exact jlt (by assumption)) | refine jget_ne (by first | decide | assumption | omega) ?_)) (fun ok q2 V2 C2 hi hq2 hlo hok => (jKv_i ?_)))
          have hlow4 : ∀ k, k < at_ → C2 k = C k := fun k hk => (hlo k (by omega)).trans (hlow0 k hk)
          have hatv4 : C2 at_ = lk 2 := (hlo at_ (by omega)).trans hatv0
          cases ok with
          | false =>
            rw [its_fail hi] at hR
            refine J_if_eq_b 32 dX11_readsC_25 (by decide) (fun c25 => ?_) (fun c25 => ?_)
            · refine J_iconst (nI 0) (by decide) dX11_readsC_32 ?_
              exact J_zreturn dX11_readsC_33 rfl (by rfl) (by
                try simp only [List.set_set, jsw (i := 116) (j := 124) (by decide)]
                exact hQ false q2 ([] ++ V2) 2 C2 (by rw [if_pos e0, hR]) hq2 (hlow4) (fun z => absurd z (by decide))) (by decide) (by decide) (fun _ => rfl)
            · exact absurd c25 (by decide)
          | true =>
            rw [its_then hi] at hR
            obtain ⟨hl2, hv2⟩ := hok rfl
            refine J_if_eq_b 32 dX11_readsC_25 (by decide) (fun c25 => ?_) (fun c25 => ?_)
            · exact absurd c25 (by decide)
            · skip
              refine J_iconst (nI 1) (by decide) dX11_readsC_28 ?_
              refine J_goto 33 dX11_readsC_29 (by decide) ?_
              exact J_zreturn dX11_readsC_33 rfl (by rfl) (by
                try simp only [List.set_set, jsw (i := 116) (j := 124) (by decide)]
                exact hQ true q2 ([] ++ V2) 2 C2 (by rw [if_pos e0, hR]; rfl) (by omega) (hlow4) (fun _ => ⟨hatv4, fun j hj => hv2 j (by rw [List.nil_append, hl2] at hj; exact hj)⟩)) (by decide) (by decide) (fun _ => rfl)
      · have hcl := cl_s (tx := tx) (tp := tp) [116, 32] ((he + 1)) (by omega) (by decide)
        rw [its_word _ [116, 32] ([78, 45, 78] ++ ([])) _ _ (by unfold phd; decide), if_neg e] at hR
        refine J_if_eq_b 32 dX11_readsC_15 (by decide) (fun c15 => ?_) (fun c15 => ?_)
        · refine J_iconst (nI 0) (by decide) dX11_readsC_32 ?_
          exact J_zreturn dX11_readsC_33 rfl (by rfl) (by
            try simp only [List.set_set, jsw (i := 116) (j := 124) (by decide)]
            exact hQ0 ((he + 1) + cl (sg tx tp) [116, 32] ((he + 1))) [] 2 (by rw [if_pos e0, hR]) (by omega)) (by decide) (by decide) (fun _ => rfl)
        · exact absurd c15 (by decide)
  · refine J_if_eq_b 34 dX11_readsC_6 (by decide) (fun c6 => ?_) (fun c6 => ?_)
    · skip
      have hR : its (sg tx tp) ([104, 97, 114, 103, 101, 32] ++ tal 6) he [] = its (sg tx tp) ([104, 97, 114, 103, 101, 32] ++ ([78] ++ ([]))) he [] := rfl
      refine J_aload_n (by rfl) (by rfl) dX11_readsC_34 ?_
      refine J_get dX11_readsC_35 f_X11_38 (by repeat (first | assumption | exact jget_same2 (by (try simp only [List.length_set]); exact jlt (by assumption)) | refine jget_ne (by first | decide | assumption | omega) ?_)) (by rfl) ?_
      refine J_iload_n (by rfl) dX11_readsC_38 ?_
      refine J_bipush (nI 104) (by decide) dX11_readsC_39 ?_
      refine J_iast_n (at_) dX11_readsC_41 (by repeat (first | assumption | exact jget_same2 (by (try simp only [List.length_set]); exact jlt (by assumption)) | refine jget_ne (by first | decide | assumption | omega) ?_)) (by first | rfl | (simp only [pk_mul, nI_add]; done) | (simp only [pk_mul, nI_add]; congr 1; omega) | (congr 1; omega)) (by omega) ?_
      have hlow0 : ∀ k, k < at_ → (updN C at_ 104) k = C k := fun k hk => updN_n (by omega)
      have hatv0 : (updN C at_ 104) at_ = lk 6 := updN_s
      refine J_aload_n (by rfl) (by rfl) dX11_readsC_42 ?_
      refine J_ldcS (i := 35) dX11_readsC_43 rfl rfl rfl ?_
      refine J_V1v (ci := 11) dX11_readsC_45 s_X11_218 m_X11_isWord rfl (by repeat (first | assumption | exact jget_same2 (by (try simp only [List.length_set]); exact jlt (by assumption)) | refine jget_ne (by first | decide | assumption | omega) ?_)) rfl (c_X11_isWord (i := 35) (he := he) str_35 hs (by omega) htx (by repeat (first | assumption | exact jget_same2 (by (try simp only [List.length_set]); exact jlt (by assumption)) | refine jget_ne (by first | decide | assumption | omega) ?_)) (by repeat (first | assumption | exact jget_same2 (by (try simp only [List.length_set]); exact jlt (by assumption)) | refine jget_ne (by first | decide | assumption | omega) ?_)) (fun e => (jKv_i ?_)) (fun e => (jKv_i ?_)))
      · have hcl := cl_s (tx := tx) (tp := tp) [104, 97, 114, 103, 101, 32] (he) (by omega) (by decide)
        rw [its_word _ [104, 97, 114, 103, 101, 32] ([78] ++ ([])) _ _ (by unfold phd; decide), if_pos e] at hR
        have e : cl (sg tx tp) [104, 97, 114, 103, 101, 32] (he) = 6 := e
        have hR : _ = its (sg tx tp) ([78] ++ ([])) (he + 6) [] := hR
        refine J_if_eq_b 66 dX11_readsC_48 (by decide) (fun c48 => ?_) (fun c48 => ?_)
        · exact absurd c48 (by decide)
        · skip
          have hnd9 := nd_s (tx := tx) (tp := tp) 3 ((he + 6)) (by omega)
          refine J_aload_n (by rfl) (by rfl) dX11_readsC_51 ?_
          refine J_iconst (nI 3) (by decide) dX11_readsC_52 ?_
          refine J_iload_n (by rfl) dX11_readsC_53 ?_
          refine J_iconst (nI 1) (by decide) dX11_readsC_54 ?_
          refine J_iadd dX11_readsC_55 ?_
          try rw [nI_add]
          refine J_V2v (ci := 11) dX11_readsC_56 s_X11_213 m_X11_isNumber rfl (by repeat (first | assumption | exact jget_same2 (by (try simp only [List.length_set]); exact jlt (by assumption)) | refine jget_ne (by first | decide | assumption | omega) ?_)) rfl (c_X11_isNumber (C := (updN C at_ 104)) (he := (he + 6)) (m := 3) (at_ := at_ + 1) (by omega) (by omega) hs (by omega) htx (by repeat (first | assumption | exact jget_same2 (by (try simp only [List.length_set]); exact jlt (by assumption)) | refine jget_ne (by first | decide | assumption | omega) ?_)) (by repeat (first | assumption | exact jget_same2 (by (try simp only [List.length_set]); exact jlt (by assumption)) | refine jget_ne (by first | decide | assumption | omega) ?_)) (by repeat (first | assumption | exact jget_same2 (by (try simp only [List.length_set]); exact jlt (by assumption)) | refine jget_ne (by first | decide | assumption | omega) ?_)) (jKv_i ?_))
          have hlow5 : ∀ k, k < at_ → (updN (updN C at_ 104) (at_ + 1) (nv (sg tx tp) 3 (he + 6) 0)) k = C k := fun k hk => (updN_n (by omega)).trans (hlow0 k hk)
          have hatv5 : (updN (updN C at_ 104) (at_ + 1) (nv (sg tx tp) 3 (he + 6) 0)) at_ = lk 6 := (updN_n (by omega)).trans hatv0
          by_cases hn : nd (sg tx tp) 3 (he + 6) = 0
          · rw [show [78] ++ [] = 78 :: [] from rfl, its_none (by rw [itm_N, if_pos hn])] at hR
            rw [show decide (nd (sg tx tp) 3 (he + 6) ≠ 0) = false by simpa using hn, hn]
            refine J_if_eq_b 66 dX11_readsC_59 (by decide) (fun c59 => ?_) (fun c59 => ?_)
            · refine J_iconst (nI 0) (by decide) dX11_readsC_66 ?_
              exact J_zreturn dX11_readsC_67 rfl (by rfl) (by
                try simp only [List.set_set, jsw (i := 116) (j := 124) (by decide)]
                exact hQ false (he + 6) [] 6 (updN (updN C at_ 104) (at_ + 1) (nv (sg tx tp) 3 (he + 6) 0)) (by rw [if_neg e0, hR]) (by omega) (hlow5) (fun z => absurd z (by decide))) (by decide) (by decide) (fun _ => rfl)
            · exact absurd c59 (by decide)
          · rw [show [78] ++ [] = 78 :: [] from rfl, its_some (by rw [itm_N, if_neg hn])] at hR
            rw [show decide (nd (sg tx tp) 3 (he + 6) ≠ 0) = true by simpa using hn]
            refine J_if_eq_b 66 dX11_readsC_59 (by decide) (fun c59 => ?_) (fun c59 => ?_)
            · exact absurd c59 (by decide)
            · skip
              refine J_iconst (nI 1) (by decide) dX11_readsC_62 ?_
              refine J_goto 67 dX11_readsC_63 (by decide) ?_
              exact J_zreturn dX11_readsC_67 rfl (by rfl) (by
                try simp only [List.set_set, jsw (i := 116) (j := 124) (by decide)]
                exact hQ true ((he + 6) + nd (sg tx tp) 3 (he + 6)) ([] ++ [nv (sg tx tp) 3 (he + 6) 0]) 6 (updN (updN C at_ 104) (at_ + 1) (nv (sg tx tp) 3 (he + 6) 0)) (by rw [if_neg e0, hR]; rfl) (by omega) (hlow5) (fun _ => ⟨hatv5, fun j hj => by have hj : j < 1 := hj; have hj0 : j = 0 := (by omega); subst hj0; show updN _ _ _ _ = _; rw [updN_s]; try rfl⟩)) (by decide) (by decide) (fun _ => rfl)
      · have hcl := cl_s (tx := tx) (tp := tp) [104, 97, 114, 103, 101, 32] (he) (by omega) (by decide)
        rw [its_word _ [104, 97, 114, 103, 101, 32] ([78] ++ ([])) _ _ (by unfold phd; decide), if_neg e] at hR
        refine J_if_eq_b 66 dX11_readsC_48 (by decide) (fun c48 => ?_) (fun c48 => ?_)
        · refine J_iconst (nI 0) (by decide) dX11_readsC_66 ?_
          exact J_zreturn dX11_readsC_67 rfl (by rfl) (by
            try simp only [List.set_set, jsw (i := 116) (j := 124) (by decide)]
            exact hQ false (he + cl (sg tx tp) [104, 97, 114, 103, 101, 32] (he)) [] 6 (updN C at_ 104) (by rw [if_neg e0, hR]) (by omega) (hlow0) (fun z => absurd z (by decide))) (by decide) (by decide) (fun _ => rfl)
        · exact absurd c48 (by decide)
    · exact absurd c6 (by decide)
theorem c_X11_readsM {at_ : Nat} (hat : at_ + 3 < 124) (hs : tp ≤ 60) (hp : he ≤ tp) (htx : ∀ k, k < tp → tx k < 65536) (hM : h[116]? = some (hMo ch th ea fa an sv ln tp he cm)) (hT : h[123]? = some (ia 60 tx)) (hC : h[124]? = some (ia 124 C)) (h0 : C at_ = 109)
    (hQ : RQ Q h ch th ea fa an sv ln tp cm C at_ (if sg tx tp he = 111 then (if sg tx tp (he + 1) = 100 then (its (sg tx tp) ([101, 32] ++ tal 4) (he + 2) [], 4) else (its (sg tx tp) ([118, 101, 32] ++ tal 7) (he + 1) [], 7)) else ((false, he, []), 9))) : jCT G M_X11_readsM 6 0 0 X [.ref 116, .int (nI at_)] h Q := by
  refine jCT_of [some (.ref 116), some (.int (nI at_))] 0 rfl (by decide +kernel) rfl rfl ?_
  have hQ0 : ∀ q V K, (if sg tx tp he = 111 then (if sg tx tp (he + 1) = 100 then (its (sg tx tp) ([101, 32] ++ tal 4) (he + 2) [], 4) else (its (sg tx tp) ([118, 101, 32] ++ tal 7) (he + 1) [], 7)) else ((false, he, []), 9)) = ((false, q, V), K) → q ≤ tp → Q (.inl (some (.int (jb false)))) (h.set 116 (hMo ch th ea fa an sv ln tp q cm)) := fun q V K e hq => by
    have := hQ false q V K C e hq (fun _ _ => rfl) (fun z => absurd z (by decide))
    rwa [hset_id (by exact (by repeat (first | assumption | exact jget_same2 (by (try simp only [List.length_set]); exact jlt (by assumption)) | refine jget_ne (by first | decide | assumption | omega) ?_)))] at this
  have hsg8 := sg_lt (tx := tx) (tp := tp) (p := he) (c := 111) (by decide)
  have hsg9 := sg_lt (tx := tx) (tp := tp) (p := he + 1) (c := 100) (by decide)
  refine J_aload_n (by rfl) (by rfl) dX11_readsM_0 ?_
  refine J_bipush (nI 111) (by decide) dX11_readsM_1 ?_
  refine J_V1v (ci := 11) dX11_readsM_3 s_X11_208 m_X11_isSign rfl (by repeat (first | assumption | exact jget_same2 (by (try simp only [List.length_set]); exact jlt (by assumption)) | refine jget_ne (by first | decide | assumption | omega) ?_)) rfl (c_X11_isSign (he := he) (c := 111) hs hp (by decide) htx (by repeat (first | assumption | exact jget_same2 (by (try simp only [List.length_set]); exact jlt (by assumption)) | refine jget_ne (by first | decide | assumption | omega) ?_)) (by repeat (first | assumption | exact jget_same2 (by (try simp only [List.length_set]); exact jlt (by assumption)) | refine jget_ne (by first | decide | assumption | omega) ?_)) (fun e0 => (jKv_i ?_)) (fun e0 => (jKv_i ?_)))
  · have hlt8 := (hsg8.mp e0).1
    refine J_if_ne_b 11 dX11_readsM_6 (by decide) (fun c6 => ?_) (fun c6 => ?_)
    · refine J_aload_n (by rfl) (by rfl) dX11_readsM_11 ?_
      refine J_bipush (nI 100) (by decide) dX11_readsM_12 ?_
      refine J_V1v (ci := 11) dX11_readsM_14 s_X11_208 m_X11_isSign rfl (by repeat (first | assumption | exact jget_same2 (by (try simp only [List.length_set]); exact jlt (by assumption)) | refine jget_ne (by first | decide | assumption | omega) ?_)) rfl (c_X11_isSign (he := he + 1) (c := 100) hs (by omega) (by decide) htx (by repeat (first | assumption | exact jget_same2 (by (try simp only [List.length_set]); exact jlt (by assumption)) | refine jget_ne (by first | decide | assumption | omega) ?_)) (by repeat (first | assumption | exact jget_same2 (by (try simp only [List.length_set]); exact jlt (by assumption)) | refine jget_ne (by first | decide | assumption | omega) ?_)) (fun e1 => (jKv_i ?_)) (fun e1 => (jKv_i ?_)))
      · have hlt9 := (hsg9.mp e1).1
        refine J_if_eq_b 45 dX11_readsM_17 (by decide) (fun c17 => ?_) (fun c17 => ?_)
        · exact absurd c17 (by decide)
        · skip
          have hR : its (sg tx tp) ([101, 32] ++ tal 4) (he + 2) [] = its (sg tx tp) ([101, 32] ++ ([77] ++ ([]))) (he + 1 + 1) [] := rfl
          have hlow0 : ∀ k, k < at_ → C k = C k := fun k hk => rfl
          have hatv0 : C at_ = lk 4 := h0
          refine J_aload_n (by rfl) (by rfl) dX11_readsM_20 ?_
          refine J_ldcS (i := 36) dX11_readsM_21 rfl rfl rfl ?_
          refine J_V1v (ci := 11) dX11_readsM_23 s_X11_218 m_X11_isWord rfl (by repeat (first | assumption | exact jget_same2 (by (try simp only [List.length_set]); exact jlt (by assumption)) | refine jget_ne (by first | decide | assumption | omega) ?_)) rfl (c_X11_isWord (i := 36) (he := (he + 1 + 1)) str_36 hs (by omega) htx (by repeat (first | assumption | exact jget_same2 (by (try simp only [List.length_set]); exact jlt (by assumption)) | refine jget_ne (by first | decide | assumption | omega) ?_)) (by repeat (first | assumption | exact jget_same2 (by (try simp only [List.length_set]); exact jlt (by assumption)) | refine jget_ne (by first | decide | assumption | omega) ?_)) (fun e => (jKv_i ?_)) (fun e => (jKv_i ?_)))
          · have hcl := cl_s (tx := tx) (tp := tp) [101, 32] ((he + 1 + 1)) (by omega) (by decide)
            rw [its_word _ [101, 32] ([77] ++ ([])) _ _ (by unfold phd; decide), if_pos e] at hR
            have e : cl (sg tx tp) [101, 32] ((he + 1 + 1)) = 2 := e
            have hR : _ = its (sg tx tp) ([77] ++ ([])) ((he + 1 + 1) + 2) [] := hR
            refine J_if_eq_b 43 dX11_readsM_26 (by decide) (fun c26 => ?_) (fun c26 => ?_)
            · exact absurd c26 (by decide)
            · skip
              refine J_aload_n (by rfl) (by rfl) dX11_readsM_29 ?_
              refine J_iload_n (by rfl) dX11_readsM_30 ?_
              refine J_iconst (nI 1) (by decide) dX11_readsM_31 ?_
              refine J_iadd dX11_readsM_32 ?_
              try rw [nI_add]
              refine J_V1v (ci := 11) dX11_readsM_33 s_X11_233 m_X11_isMode rfl (by repeat (first | assumption | exact jget_same2 (by (try simp only [List.length_set]); exact jlt (by assumption)) | refine jget_ne (by first | decide | assumption | omega) ?_)) rfl (c_X11_isMode (C := C) (he := ((he + 1 + 1) + 2)) (at_ := at_ + 1) (by omega) hs (by omega) htx (by repeat (first | assumption | exact jget_same2 (by (try simp only [List.length_set]); exact jlt (by assumption)) | refine jget_ne (by first | decide | assumption | omega) ?_)) (by repeat (first | assumption | exact jget_same2 (by (try simp only [List.length_set]); exact jlt (by assumption)) | refine jget_ne (by first | decide | assumption | omega) ?_)) (by repeat (first | assumption | exact jget_same2 (by (try simp only [List.length_set]); exact jlt (by assumption)) | refine jget_ne (by first | decide | assumption | omega) ?_)) (fun v hi hlt9 => (jKv_i ?_)) (fun hi => (jKv_i ?_)))
              · have hlowM : ∀ k, k < at_ → (updN C (at_ + 1) v) k = C k := fun k hk => updN_n (by omega)
                have hatvM : (updN C (at_ + 1) v) at_ = lk 4 := (updN_n (by omega)).trans hatv0
                rw [show [77] ++ [] = 77 :: [] from rfl, its_some hi] at hR
                refine J_if_eq_b 43 dX11_readsM_36 (by decide) (fun c36 => ?_) (fun c36 => ?_)
                · exact absurd c36 (by decide)
                · skip
                  refine J_iconst (nI 1) (by decide) dX11_readsM_39 ?_
                  refine J_goto 44 dX11_readsM_40 (by decide) ?_
                  exact J_zreturn dX11_readsM_44 rfl (by rfl) (by
                    try simp only [List.set_set, jsw (i := 116) (j := 124) (by decide)]
                    exact hQ true (((he + 1 + 1) + 2) + 1) ([] ++ [v]) 4 (updN C (at_ + 1) v) (by rw [if_pos e0, if_pos e1, hR]; rfl) (by omega) (hlowM) (fun _ => ⟨hatvM, fun j hj => by have hj : j < 1 := hj; have hj0 : j = 0 := (by omega); subst hj0; show updN _ _ _ _ = _; rw [updN_s]; try rfl⟩)) (by decide) (by decide) (fun _ => rfl)
              · rw [show [77] ++ [] = 77 :: [] from rfl, its_none hi] at hR
                refine J_if_eq_b 43 dX11_readsM_36 (by decide) (fun c36 => ?_) (fun c36 => ?_)
                · refine J_iconst (nI 0) (by decide) dX11_readsM_43 ?_
                  exact J_zreturn dX11_readsM_44 rfl (by rfl) (by
                    try simp only [List.set_set, jsw (i := 116) (j := 124) (by decide)]
                    exact hQ0 ((he + 1 + 1) + 2) [] 4 (by rw [if_pos e0, if_pos e1, hR]) (by omega)) (by decide) (by decide) (fun _ => rfl)
                · exact absurd c36 (by decide)
          · have hcl := cl_s (tx := tx) (tp := tp) [101, 32] ((he + 1 + 1)) (by omega) (by decide)
            rw [its_word _ [101, 32] ([77] ++ ([])) _ _ (by unfold phd; decide), if_neg e] at hR
            refine J_if_eq_b 43 dX11_readsM_26 (by decide) (fun c26 => ?_) (fun c26 => ?_)
            · refine J_iconst (nI 0) (by decide) dX11_readsM_43 ?_
              exact J_zreturn dX11_readsM_44 rfl (by rfl) (by
                try simp only [List.set_set, jsw (i := 116) (j := 124) (by decide)]
                exact hQ0 ((he + 1 + 1) + cl (sg tx tp) [101, 32] ((he + 1 + 1))) [] 4 (by rw [if_pos e0, if_pos e1, hR]) (by omega)) (by decide) (by decide) (fun _ => rfl)
            · exact absurd c26 (by decide)
      · refine J_if_eq_b 45 dX11_readsM_17 (by decide) (fun c17 => ?_) (fun c17 => ?_)
        · skip
          have hR : its (sg tx tp) ([118, 101, 32] ++ tal 7) (he + 1) [] = its (sg tx tp) ([118, 101, 32] ++ ([78, 44, 78] ++ ([]))) (he + 1) [] := rfl
          refine J_aload_n (by rfl) (by rfl) dX11_readsM_45 ?_
          refine J_get dX11_readsM_46 f_X11_38 (by repeat (first | assumption | exact jget_same2 (by (try simp only [List.length_set]); exact jlt (by assumption)) | refine jget_ne (by first | decide | assumption | omega) ?_)) (by rfl) ?_
          refine J_iload_n (by rfl) dX11_readsM_49 ?_
          refine J_bipush (nI 118) (by decide) dX11_readsM_50 ?_
          refine J_iast_n (at_) dX11_readsM_52 (by repeat (first | assumption | exact jget_same2 (by (try simp only [List.length_set]); exact jlt (by assumption)) | refine jget_ne (by first | decide | assumption | omega) ?_)) (by first | rfl | (simp only [pk_mul, nI_add]; done) | (simp only [pk_mul, nI_add]; congr 1; omega) | (congr 1; omega)) (by omega) ?_
          have hlow0 : ∀ k, k < at_ → (updN C at_ 118) k = C k := fun k hk => updN_n (by omega)
          have hatv0 : (updN C at_ 118) at_ = lk 7 := updN_s
          refine J_aload_n (by rfl) (by rfl) dX11_readsM_53 ?_
          refine J_ldcS (i := 38) dX11_readsM_54 rfl rfl rfl ?_
          refine J_V1v (ci := 11) dX11_readsM_56 s_X11_218 m_X11_isWord rfl (by repeat (first | assumption | exact jget_same2 (by (try simp only [List.length_set]); exact jlt (by assumption)) | refine jget_ne (by first | decide | assumption | omega) ?_)) rfl (c_X11_isWord (i := 38) (he := (he + 1)) str_38 hs (by omega) htx (by repeat (first | assumption | exact jget_same2 (by (try simp only [List.length_set]); exact jlt (by assumption)) | refine jget_ne (by first | decide | assumption | omega) ?_)) (by repeat (first | assumption | exact jget_same2 (by (try simp only [List.length_set]); exact jlt (by assumption)) | refine jget_ne (by first | decide | assumption | omega) ?_)) (fun e => (jKv_i ?_)) (fun e => (jKv_i ?_)))
          · have hcl := cl_s (tx := tx) (tp := tp) [118, 101, 32] ((he + 1)) (by omega) (by decide)
            rw [its_word _ [118, 101, 32] ([78, 44, 78] ++ ([])) _ _ (by unfold phd; decide), if_pos e] at hR
            have e : cl (sg tx tp) [118, 101, 32] ((he + 1)) = 3 := e
            have hR : _ = its (sg tx tp) ([78, 44, 78] ++ ([])) ((he + 1) + 3) [] := hR
            refine J_if_eq_b 76 dX11_readsM_59 (by decide) (fun c59 => ?_) (fun c59 => ?_)
            · exact absurd c59 (by decide)
            · skip
              refine J_aload_n (by rfl) (by rfl) dX11_readsM_62 ?_
              refine J_bipush (nI 44) (by decide) dX11_readsM_63 ?_
              refine J_iload_n (by rfl) dX11_readsM_65 ?_
              refine J_V2v (ci := 11) dX11_readsM_66 s_X11_222 m_X11_isPair rfl (by repeat (first | assumption | exact jget_same2 (by (try simp only [List.length_set]); exact jlt (by assumption)) | refine jget_ne (by first | decide | assumption | omega) ?_)) rfl (c_X11_isPair (C := (updN C at_ 118)) (he := ((he + 1) + 3)) (at_ := at_) (c := 44) (by omega) (by decide) (by unfold phd; decide) hs (by omega) htx (by repeat (first | assumption | exact jget_same2 (by (try simp only [List.length_set]); exact jlt (by assumption)) | refine jget_ne (by first | decide | assumption | omega) ?_)) (by repeat (first | assumption | exact jget_same2 (by (try simp only [List.length_set]); exact jlt (by assumption)) | refine jget_ne (by first | decide | assumption | omega) ?_)) (by repeat (first | assumption | exact jget_same2 (by (try simp only [List.length_set]); exact jlt (by assumption)) | refine jget_ne (by first | decide | assumption | omega) ?_)) (fun ok q2 V2 C2 hi hq2 hlo hok => (jKv_i ?_)))
              have hlow6 : ∀ k, k < at_ → C2 k = C k := fun k hk => (hlo k (by omega)).trans (hlow0 k hk)
              have hatv6 : C2 at_ = lk 7 := (hlo at_ (by omega)).trans hatv0
              cases ok with
              | false =>
                rw [its_fail hi] at hR
                refine J_if_eq_b 76 dX11_readsM_69 (by decide) (fun c69 => ?_) (fun c69 => ?_)
                · refine J_iconst (nI 0) (by decide) dX11_readsM_76 ?_
                  exact J_zreturn dX11_readsM_77 rfl (by rfl) (by
                    try simp only [List.set_set, jsw (i := 116) (j := 124) (by decide)]
                    exact hQ false q2 ([] ++ V2) 7 C2 (by rw [if_pos e0, if_neg e1, hR]) hq2 (hlow6) (fun z => absurd z (by decide))) (by decide) (by decide) (fun _ => rfl)
                · exact absurd c69 (by decide)
              | true =>
                rw [its_then hi] at hR
                obtain ⟨hl2, hv2⟩ := hok rfl
                refine J_if_eq_b 76 dX11_readsM_69 (by decide) (fun c69 => ?_) (fun c69 => ?_)
                · exact absurd c69 (by decide)
                · skip
                  refine J_iconst (nI 1) (by decide) dX11_readsM_72 ?_
                  refine J_goto 77 dX11_readsM_73 (by decide) ?_
                  exact J_zreturn dX11_readsM_77 rfl (by rfl) (by
                    try simp only [List.set_set, jsw (i := 116) (j := 124) (by decide)]
                    exact hQ true q2 ([] ++ V2) 7 C2 (by rw [if_pos e0, if_neg e1, hR]; rfl) (by omega) (hlow6) (fun _ => ⟨hatv6, fun j hj => hv2 j (by rw [List.nil_append, hl2] at hj; exact hj)⟩)) (by decide) (by decide) (fun _ => rfl)
          · have hcl := cl_s (tx := tx) (tp := tp) [118, 101, 32] ((he + 1)) (by omega) (by decide)
            rw [its_word _ [118, 101, 32] ([78, 44, 78] ++ ([])) _ _ (by unfold phd; decide), if_neg e] at hR
            refine J_if_eq_b 76 dX11_readsM_59 (by decide) (fun c59 => ?_) (fun c59 => ?_)
            · refine J_iconst (nI 0) (by decide) dX11_readsM_76 ?_
              exact J_zreturn dX11_readsM_77 rfl (by rfl) (by
                try simp only [List.set_set, jsw (i := 116) (j := 124) (by decide)]
                exact hQ false ((he + 1) + cl (sg tx tp) [118, 101, 32] ((he + 1))) [] 7 (updN C at_ 118) (by rw [if_pos e0, if_neg e1, hR]) (by omega) (hlow0) (fun z => absurd z (by decide))) (by decide) (by decide) (fun _ => rfl)
            · exact absurd c59 (by decide)
        · exact absurd c17 (by decide)
    · exact absurd c6 (by decide)
  · refine J_if_ne_b 11 dX11_readsM_6 (by decide) (fun c6 => ?_) (fun c6 => ?_)
    · exact absurd c6 (by decide)
    · refine J_iconst (nI 0) (by decide) dX11_readsM_9 ?_
      exact J_zreturn dX11_readsM_10 rfl (by rfl) (by
        have := hQ0 he [] 9 (by rw [if_neg e0]) hp
        rw [hset_id hM] at this
        exact this) (by decide) (by decide) (fun _ => rfl)
end MR
