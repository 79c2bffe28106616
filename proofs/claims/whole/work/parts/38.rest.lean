/-! The reference's parser: a command, a program -/
theorem its_len (g : Nat → Nat) : ∀ (r : List Nat) (p : Nat) (vs : List Nat), (its g r p vs).1 = true → (its g r p vs).2.2.length = vs.length + arp r
  | [], p, vs, _ => rfl
  | c :: r, p, vs, h => by
    rw [its_cons] at h ⊢
    have ha : arp (c :: r) = (if c = 78 ∨ c = 68 ∨ c = 77 then 1 else 0) + arp r := rfl
    cases hi : itm g p c with
    | none =>
      rw [hi] at h
      have h : false = true := h
      exact absurd h (by decide)
    | some q =>
      rw [hi] at h
      have ih := its_len g r q.1 (vs ++ q.2) h
      have hl : q.2.length = if c = 78 ∨ c = 68 ∨ c = 77 then 1 else 0 := by
        by_cases z : phd c
        · rw [if_pos (show c = 78 ∨ c = 68 ∨ c = 77 from z)]
          unfold itm at hi
          rcases z with rfl | rfl | rfl
          · rw [if_pos rfl] at hi
            split at hi
            · cases hi
            · cases hi; rfl
          · rw [if_neg (by decide), if_pos rfl] at hi
            split at hi
            · cases hi
            · cases hi; rfl
          · rw [if_neg (by decide), if_neg (by decide), if_pos rfl] at hi
            repeat' (split at hi)
            all_goals (first | (cases hi; rfl) | cases hi)
        · rw [if_neg (show ¬ (c = 78 ∨ c = 68 ∨ c = 77) from z)]
          rw [itm_sign z] at hi
          split at hi
          · cases hi; rfl
          · cases hi
      show (its g r q.1 (vs ++ q.2)).2.2.length = _
      rw [ih, List.length_append, hl, ha, Nat.add_assoc]
theorem cmdS_ok {g : Nat → Nat} {p q K : Nat} {V : List Nat} (h : cmdS g p = ((true, q, V), K)) : K ≤ 8 ∧ V.length = arp (tal K) ∧ p + 4 ≤ q := by
  by_cases hx : ∃ k, k < 9 ∧ cl g (opn k) p = (opn k).length
  · obtain ⟨k, hk, hf⟩ := hx
    have hc := cmd_full (by omega) hf
    rw [hc] at h
    have hK : k = K := congrArg Prod.snd h
    subst hK
    have h1 : its g (tal k) (p + (opn k).length) [] = (true, q, V) := congrArg Prod.fst h
    have h2 := its_len g (tal k) (p + (opn k).length) [] (by rw [h1])
    have h3 := its_le g (tal k) (p + (opn k).length) []
    have h4 := opn_len (k := k) (by omega)
    rw [h1] at h2 h3
    have h2 : V.length = ([] : List Nat).length + arp (tal k) := h2
    have h3 : p + (opn k).length ≤ q := h3
    exact ⟨by omega, by rw [h2]; show 0 + _ = _; omega, by omega⟩
  · obtain ⟨K2, hc⟩ := cmd_none (g := g) (p := p) (fun k hk e => hx ⟨k, hk, e⟩)
    rw [hc] at h
    have : (false, p + mx g p 9, ([] : List Nat)) = (true, q, V) := congrArg Prod.fst h
    cases this
section MR2
variable {G : jG} {X : Bool} {h : jH} {Q : jQ_} {ch th ln tp he cm : Nat} {ea fa an : Int32} {sv : Bool} {tx C : Nat → Nat}
theorem c_X11_readsRest {c at_ : Nat} (hc : c = 112 ∨ c = 116 ∨ c = 99 ∨ c = 109 ∨ c = 108 ∨ c = 115) (hg : sg tx tp he = c) (hat : at_ + 3 < 124) (hs : tp ≤ 60) (hp : he + 1 ≤ tp) (htx : ∀ k, k < tp → tx k < 65536) (hM : h[116]? = some (hMo ch th ea fa an sv ln tp (he + 1) cm)) (hT : h[123]? = some (ia 60 tx)) (hC : h[124]? = some (ia 124 C)) (h0 : C at_ = c)
    (hQ : RQ Q h ch th ea fa an sv ln tp cm C at_ (cmdS (sg tx tp) he)) : jCT G M_X11_readsRest 7 0 0 X [.ref 116, .int (nI c), .int (nI at_)] h Q := by
  refine jCT_of [some (.ref 116), some (.int (nI c)), some (.int (nI at_))] 0 rfl (by decide +kernel) rfl rfl ?_
  have hQ0 : ∀ q V K, cmdS (sg tx tp) he = ((false, q, V), K) → q ≤ tp → Q (.inl (some (.int (jb false)))) (h.set 116 (hMo ch th ea fa an sv ln tp q cm)) := fun q V K e hq => by
    have := hQ false q V K C e hq (fun _ _ => rfl) (fun z => absurd z (by decide))
    rwa [hset_id (by exact (by repeat (first | assumption | exact jget_same2 (by (try simp only [List.length_set]); exact jlt (by assumption)) | refine jget_ne (by first | decide | assumption | omega) ?_)))] at this
  refine J_iload_n (by rfl) dX11_readsRest_0 ?_
  rcases hc with rfl | rfl | rfl | rfl | rfl | rfl
  · refine J_lookup (off := 51) 52 dX11_readsRest_1 (by decide) (by decide) (by decide) ?_
    have hcm : cmdS (sg tx tp) he = (its (sg tx tp) ([111, 105, 110, 116, 32] ++ tal 0) (he + 1) [], 0) := by unfold cmdS; rw [if_pos hg]
    have hR : its (sg tx tp) ([111, 105, 110, 116, 32] ++ tal 0) (he + 1) [] = its (sg tx tp) ([111, 105, 110, 116, 32] ++ ([78, 44, 78] ++ ([44] ++ ([68] ++ ([]))))) (he + 1) [] := rfl
    have hlow0 : ∀ k, k < at_ → C k = C k := fun k hk => rfl
    have hatv0 : C at_ = lk 0 := h0
    refine J_aload_n (by rfl) (by rfl) dX11_readsRest_52 ?_
    refine J_ldcS (i := 31) dX11_readsRest_53 rfl rfl rfl ?_
    refine J_V1v (ci := 11) dX11_readsRest_55 s_X11_218 m_X11_isWord rfl (by repeat (first | assumption | exact jget_same2 (by (try simp only [List.length_set]); exact jlt (by assumption)) | refine jget_ne (by first | decide | assumption | omega) ?_)) rfl (c_X11_isWord (i := 31) (he := (he + 1)) str_31 hs (by omega) htx (by repeat (first | assumption | exact jget_same2 (by (try simp only [List.length_set]); exact jlt (by assumption)) | refine jget_ne (by first | decide | assumption | omega) ?_)) (by repeat (first | assumption | exact jget_same2 (by (try simp only [List.length_set]); exact jlt (by assumption)) | refine jget_ne (by first | decide | assumption | omega) ?_)) (fun e => (jKv_i ?_)) (fun e => (jKv_i ?_)))
    · have hcl := cl_s (tx := tx) (tp := tp) [111, 105, 110, 116, 32] ((he + 1)) (by omega) (by decide)
      rw [its_word _ [111, 105, 110, 116, 32] ([78, 44, 78] ++ ([44] ++ ([68] ++ ([])))) _ _ (by unfold phd; decide), if_pos e] at hR
      have e : cl (sg tx tp) [111, 105, 110, 116, 32] ((he + 1)) = 5 := e
      have hR : _ = its (sg tx tp) ([78, 44, 78] ++ ([44] ++ ([68] ++ ([])))) ((he + 1) + 5) [] := hR
      refine J_if_eq_b 95 dX11_readsRest_58 (by decide) (fun c58 => ?_) (fun c58 => ?_)
      · exact absurd c58 (by decide)
      · skip
        refine J_aload_n (by rfl) (by rfl) dX11_readsRest_61 ?_
        refine J_bipush (nI 44) (by decide) dX11_readsRest_62 ?_
        refine J_iload_n (by rfl) dX11_readsRest_64 ?_
        refine J_V2v (ci := 11) dX11_readsRest_65 s_X11_222 m_X11_isPair rfl (by repeat (first | assumption | exact jget_same2 (by (try simp only [List.length_set]); exact jlt (by assumption)) | refine jget_ne (by first | decide | assumption | omega) ?_)) rfl (c_X11_isPair (C := C) (he := ((he + 1) + 5)) (at_ := at_) (c := 44) (by omega) (by decide) (by unfold phd; decide) hs (by omega) htx (by repeat (first | assumption | exact jget_same2 (by (try simp only [List.length_set]); exact jlt (by assumption)) | refine jget_ne (by first | decide | assumption | omega) ?_)) (by repeat (first | assumption | exact jget_same2 (by (try simp only [List.length_set]); exact jlt (by assumption)) | refine jget_ne (by first | decide | assumption | omega) ?_)) (by repeat (first | assumption | exact jget_same2 (by (try simp only [List.length_set]); exact jlt (by assumption)) | refine jget_ne (by first | decide | assumption | omega) ?_)) (fun ok q2 V2 C2 hi hq2 hlo hok => (jKv_i ?_)))
        have hlow7 : ∀ k, k < at_ → C2 k = C k := fun k hk => (hlo k (by omega)).trans (hlow0 k hk)
        have hatv7 : C2 at_ = lk 0 := (hlo at_ (by omega)).trans hatv0
        cases ok with
        | false =>
          rw [its_fail hi] at hR
          refine J_if_eq_b 95 dX11_readsRest_68 (by decide) (fun c68 => ?_) (fun c68 => ?_)
          · refine J_iconst (nI 0) (by decide) dX11_readsRest_95 ?_
            exact J_zreturn dX11_readsRest_96 rfl (by first | rfl | exact jb_n _) (by
              try simp only [List.set_set, jsw (i := 116) (j := 124) (by decide)]
              exact hQ false q2 ([] ++ V2) 0 C2 (by rw [hcm, hR]) hq2 (hlow7) (fun z => absurd z (by decide))) (by decide) (by decide) (fun _ => rfl)
          · exact absurd c68 (by decide)
        | true =>
          rw [its_then hi] at hR
          obtain ⟨hl2, hv2⟩ := hok rfl
          refine J_if_eq_b 95 dX11_readsRest_68 (by decide) (fun c68 => ?_) (fun c68 => ?_)
          · exact absurd c68 (by decide)
          · skip
            have hsg9 := sg_lt (tx := tx) (tp := tp) (p := q2) (c := 44) (by decide)
            refine J_aload_n (by rfl) (by rfl) dX11_readsRest_71 ?_
            refine J_bipush (nI 44) (by decide) dX11_readsRest_72 ?_
            refine J_V1v (ci := 11) dX11_readsRest_74 s_X11_208 m_X11_isSign rfl (by repeat (first | assumption | exact jget_same2 (by (try simp only [List.length_set]); exact jlt (by assumption)) | refine jget_ne (by first | decide | assumption | omega) ?_)) rfl (c_X11_isSign (he := q2) (c := 44) hs (by omega) (by decide) htx (by repeat (first | assumption | exact jget_same2 (by (try simp only [List.length_set]); exact jlt (by assumption)) | refine jget_ne (by first | decide | assumption | omega) ?_)) (by repeat (first | assumption | exact jget_same2 (by (try simp only [List.length_set]); exact jlt (by assumption)) | refine jget_ne (by first | decide | assumption | omega) ?_)) (fun e => (jKv_i ?_)) (fun e => (jKv_i ?_)))
            · have hlt9 := (hsg9.mp e).1
              rw [show [44] ++ ([68] ++ ([])) = 44 :: ([68] ++ ([])) from rfl, its_some (by rw [itm_sign (by unfold phd; decide), if_pos e])] at hR
              refine J_if_eq_b 95 dX11_readsRest_77 (by decide) (fun c77 => ?_) (fun c77 => ?_)
              · exact absurd c77 (by decide)
              · skip
                have hnd9 := nd_s (tx := tx) (tp := tp) 1 ((q2 + 1)) (by omega)
                refine J_aload_n (by rfl) (by rfl) dX11_readsRest_80 ?_
                refine J_iconst (nI 1) (by decide) dX11_readsRest_81 ?_
                refine J_iload_n (by rfl) dX11_readsRest_82 ?_
                refine J_iconst (nI 3) (by decide) dX11_readsRest_83 ?_
                refine J_iadd dX11_readsRest_84 ?_
                try rw [nI_add]
                refine J_V2v (ci := 11) dX11_readsRest_85 s_X11_213 m_X11_isNumber rfl (by repeat (first | assumption | exact jget_same2 (by (try simp only [List.length_set]); exact jlt (by assumption)) | refine jget_ne (by first | decide | assumption | omega) ?_)) rfl (c_X11_isNumber (C := C2) (he := (q2 + 1)) (m := 1) (at_ := at_ + 3) (by omega) (by omega) hs (by omega) htx (by repeat (first | assumption | exact jget_same2 (by (try simp only [List.length_set]); exact jlt (by assumption)) | refine jget_ne (by first | decide | assumption | omega) ?_)) (by repeat (first | assumption | exact jget_same2 (by (try simp only [List.length_set]); exact jlt (by assumption)) | refine jget_ne (by first | decide | assumption | omega) ?_)) (by repeat (first | assumption | exact jget_same2 (by (try simp only [List.length_set]); exact jlt (by assumption)) | refine jget_ne (by first | decide | assumption | omega) ?_)) (jKv_i ?_))
                have hlow8 : ∀ k, k < at_ → (updN C2 (at_ + 3) (nv (sg tx tp) 1 (q2 + 1) 0)) k = C k := fun k hk => (updN_n (by omega)).trans (hlow7 k hk)
                have hatv8 : (updN C2 (at_ + 3) (nv (sg tx tp) 1 (q2 + 1) 0)) at_ = lk 0 := (updN_n (by omega)).trans hatv7
                by_cases hn : nd (sg tx tp) 1 (q2 + 1) = 0
                · rw [show [68] ++ [] = 68 :: [] from rfl, its_none (by rw [itm_D, if_pos hn])] at hR
                  rw [show decide (nd (sg tx tp) 1 (q2 + 1) ≠ 0) = false by simpa using hn, hn]
                  refine J_if_eq_b 95 dX11_readsRest_88 (by decide) (fun c88 => ?_) (fun c88 => ?_)
                  · refine J_iconst (nI 0) (by decide) dX11_readsRest_95 ?_
                    exact J_zreturn dX11_readsRest_96 rfl (by first | rfl | exact jb_n _) (by
                      try simp only [List.set_set, jsw (i := 116) (j := 124) (by decide)]
                      exact hQ false (q2 + 1) (([] ++ V2) ++ []) 0 (updN C2 (at_ + 3) (nv (sg tx tp) 1 (q2 + 1) 0)) (by rw [hcm, hR]) (by omega) (hlow8) (fun z => absurd z (by decide))) (by decide) (by decide) (fun _ => rfl)
                  · exact absurd c88 (by decide)
                · rw [show [68] ++ [] = 68 :: [] from rfl, its_some (by rw [itm_D, if_neg hn])] at hR
                  rw [show decide (nd (sg tx tp) 1 (q2 + 1) ≠ 0) = true by simpa using hn]
                  refine J_if_eq_b 95 dX11_readsRest_88 (by decide) (fun c88 => ?_) (fun c88 => ?_)
                  · exact absurd c88 (by decide)
                  · skip
                    have hvals : ∀ j, j < (([] ++ V2 ++ [] : List Nat) ++ [nv (sg tx tp) 1 (q2 + 1) 0]).length → updN C2 (at_ + 3) (nv (sg tx tp) 1 (q2 + 1) 0) (at_ + 1 + j) = (([] ++ V2 ++ [] : List Nat) ++ [nv (sg tx tp) 1 (q2 + 1) 0]).getD j 0 := by
                      intro j hj
                      rw [getD_app]
                      simp only [List.nil_append, List.append_nil, List.length_append, hl2, List.length_cons, List.length_nil] at hj ⊢
                      by_cases e9 : j = 2
                      · rw [if_pos e9, e9, show at_ + 1 + 2 = at_ + 3 from rfl, updN_s]
                      · rw [if_neg e9, updN_n (by omega)]
                        exact hv2 j (by omega)
                    refine J_iconst (nI 1) (by decide) dX11_readsRest_91 ?_
                    refine J_goto 96 dX11_readsRest_92 (by decide) ?_
                    exact J_zreturn dX11_readsRest_96 rfl (by first | rfl | exact jb_n _) (by
                      try simp only [List.set_set, jsw (i := 116) (j := 124) (by decide)]
                      exact hQ true ((q2 + 1) + nd (sg tx tp) 1 (q2 + 1)) ((([] ++ V2) ++ []) ++ [nv (sg tx tp) 1 (q2 + 1) 0]) 0 (updN C2 (at_ + 3) (nv (sg tx tp) 1 (q2 + 1) 0)) (by rw [hcm, hR]; rfl) (by omega) (hlow8) (fun _ => ⟨hatv8, hvals⟩)) (by decide) (by decide) (fun _ => rfl)
            · rw [show [44] ++ ([68] ++ ([])) = 44 :: ([68] ++ ([])) from rfl, its_none (by rw [itm_sign (by unfold phd; decide), if_neg e])] at hR
              refine J_if_eq_b 95 dX11_readsRest_77 (by decide) (fun c77 => ?_) (fun c77 => ?_)
              · refine J_iconst (nI 0) (by decide) dX11_readsRest_95 ?_
                exact J_zreturn dX11_readsRest_96 rfl (by first | rfl | exact jb_n _) (by
                  try simp only [List.set_set, jsw (i := 116) (j := 124) (by decide)]
                  exact hQ false q2 ([] ++ V2) 0 C2 (by rw [hcm, hR]) (by omega) (hlow7) (fun z => absurd z (by decide))) (by decide) (by decide) (fun _ => rfl)
              · exact absurd c77 (by decide)
    · have hcl := cl_s (tx := tx) (tp := tp) [111, 105, 110, 116, 32] ((he + 1)) (by omega) (by decide)
      rw [its_word _ [111, 105, 110, 116, 32] ([78, 44, 78] ++ ([44] ++ ([68] ++ ([])))) _ _ (by unfold phd; decide), if_neg e] at hR
      refine J_if_eq_b 95 dX11_readsRest_58 (by decide) (fun c58 => ?_) (fun c58 => ?_)
      · refine J_iconst (nI 0) (by decide) dX11_readsRest_95 ?_
        exact J_zreturn dX11_readsRest_96 rfl (by first | rfl | exact jb_n _) (by
          try simp only [List.set_set, jsw (i := 116) (j := 124) (by decide)]
          exact hQ0 ((he + 1) + cl (sg tx tp) [111, 105, 110, 116, 32] ((he + 1))) [] 0 (by rw [hcm, hR]) (by omega)) (by decide) (by decide) (fun _ => rfl)
      · exact absurd c58 (by decide)
  · refine J_lookup (off := 96) 97 dX11_readsRest_1 (by decide) (by decide) (by decide) ?_
    have hcm : cmdS (sg tx tp) he = (if sg tx tp (he + 1) = 114 then (its (sg tx tp) ([97, 105, 108, 32] ++ tal 1) (he + 1 + 1) [], 1) else (its (sg tx tp) ([111, 117, 114, 32] ++ tal 3) (he + 1) [], 3)) := by unfold cmdS; rw [if_neg (by omega), if_pos hg]
    rw [hcm] at hQ
    refine J_aload_n (by rfl) (by rfl) dX11_readsRest_97 ?_
    refine J_iload_n (by rfl) dX11_readsRest_98 ?_
    refine J_V1v (ci := 11) dX11_readsRest_99 s_X11_240 m_X11_readsT rfl (by repeat (first | assumption | exact jget_same2 (by (try simp only [List.length_set]); exact jlt (by assumption)) | refine jget_ne (by first | decide | assumption | omega) ?_)) rfl (c_X11_readsT (he := he + 1) (C := C) hat hs hp htx (by repeat (first | assumption | exact jget_same2 (by (try simp only [List.length_set]); exact jlt (by assumption)) | refine jget_ne (by first | decide | assumption | omega) ?_)) (by repeat (first | assumption | exact jget_same2 (by (try simp only [List.length_set]); exact jlt (by assumption)) | refine jget_ne (by first | decide | assumption | omega) ?_)) (by repeat (first | assumption | exact jget_same2 (by (try simp only [List.length_set]); exact jlt (by assumption)) | refine jget_ne (by first | decide | assumption | omega) ?_)) h0 (fun ok q V K C' e1 e2 e3 e4 => (jKv_i ?_)))
    exact J_zreturn dX11_readsRest_102 rfl (jb_n _) (hQ ok q V K C' e1 e2 e3 e4) (by decide) (by decide) (fun _ => rfl)
  · refine J_lookup (off := 102) 103 dX11_readsRest_1 (by decide) (by decide) (by decide) ?_
    have hcm : cmdS (sg tx tp) he = (if sg tx tp (he + 1) = 117 then (its (sg tx tp) ([116, 32] ++ tal 2) (he + 1 + 1) [], 2) else (its (sg tx tp) ([104, 97, 114, 103, 101, 32] ++ tal 6) (he + 1) [], 6)) := by unfold cmdS; rw [if_neg (by omega), if_neg (by omega), if_pos hg]
    rw [hcm] at hQ
    refine J_aload_n (by rfl) (by rfl) dX11_readsRest_103 ?_
    refine J_iload_n (by rfl) dX11_readsRest_104 ?_
    refine J_V1v (ci := 11) dX11_readsRest_105 s_X11_243 m_X11_readsC rfl (by repeat (first | assumption | exact jget_same2 (by (try simp only [List.length_set]); exact jlt (by assumption)) | refine jget_ne (by first | decide | assumption | omega) ?_)) rfl (c_X11_readsC (he := he + 1) (C := C) hat hs hp htx (by repeat (first | assumption | exact jget_same2 (by (try simp only [List.length_set]); exact jlt (by assumption)) | refine jget_ne (by first | decide | assumption | omega) ?_)) (by repeat (first | assumption | exact jget_same2 (by (try simp only [List.length_set]); exact jlt (by assumption)) | refine jget_ne (by first | decide | assumption | omega) ?_)) (by repeat (first | assumption | exact jget_same2 (by (try simp only [List.length_set]); exact jlt (by assumption)) | refine jget_ne (by first | decide | assumption | omega) ?_)) h0 (fun ok q V K C' e1 e2 e3 e4 => (jKv_i ?_)))
    exact J_zreturn dX11_readsRest_108 rfl (jb_n _) (hQ ok q V K C' e1 e2 e3 e4) (by decide) (by decide) (fun _ => rfl)
  · refine J_lookup (off := 108) 109 dX11_readsRest_1 (by decide) (by decide) (by decide) ?_
    have hcm : cmdS (sg tx tp) he = (if sg tx tp (he + 1) = 111 then (if sg tx tp (he + 1 + 1) = 100 then (its (sg tx tp) ([101, 32] ++ tal 4) (he + 1 + 2) [], 4) else (its (sg tx tp) ([118, 101, 32] ++ tal 7) (he + 1 + 1) [], 7)) else ((false, he + 1, []), 9)) := by unfold cmdS; rw [if_neg (by omega), if_neg (by omega), if_neg (by omega), if_pos hg]
    rw [hcm] at hQ
    refine J_aload_n (by rfl) (by rfl) dX11_readsRest_109 ?_
    refine J_iload_n (by rfl) dX11_readsRest_110 ?_
    refine J_V1v (ci := 11) dX11_readsRest_111 s_X11_246 m_X11_readsM rfl (by repeat (first | assumption | exact jget_same2 (by (try simp only [List.length_set]); exact jlt (by assumption)) | refine jget_ne (by first | decide | assumption | omega) ?_)) rfl (c_X11_readsM (he := he + 1) (C := C) hat hs hp htx (by repeat (first | assumption | exact jget_same2 (by (try simp only [List.length_set]); exact jlt (by assumption)) | refine jget_ne (by first | decide | assumption | omega) ?_)) (by repeat (first | assumption | exact jget_same2 (by (try simp only [List.length_set]); exact jlt (by assumption)) | refine jget_ne (by first | decide | assumption | omega) ?_)) (by repeat (first | assumption | exact jget_same2 (by (try simp only [List.length_set]); exact jlt (by assumption)) | refine jget_ne (by first | decide | assumption | omega) ?_)) h0 (fun ok q V K C' e1 e2 e3 e4 => (jKv_i ?_)))
    exact J_zreturn dX11_readsRest_114 rfl (jb_n _) (hQ ok q V K C' e1 e2 e3 e4) (by decide) (by decide) (fun _ => rfl)
  · refine J_lookup (off := 114) 115 dX11_readsRest_1 (by decide) (by decide) (by decide) ?_
    have hcm : cmdS (sg tx tp) he = (its (sg tx tp) ([105, 109, 105, 116, 32] ++ tal 5) (he + 1) [], 5) := by unfold cmdS; rw [if_neg (by omega), if_neg (by omega), if_neg (by omega), if_neg (by omega), if_pos hg]
    have hR : its (sg tx tp) ([105, 109, 105, 116, 32] ++ tal 5) (he + 1) [] = its (sg tx tp) ([105, 109, 105, 116, 32] ++ ([78] ++ ([]))) (he + 1) [] := rfl
    have hlow0 : ∀ k, k < at_ → C k = C k := fun k hk => rfl
    have hatv0 : C at_ = lk 5 := h0
    refine J_aload_n (by rfl) (by rfl) dX11_readsRest_115 ?_
    refine J_ldcS (i := 39) dX11_readsRest_116 rfl rfl rfl ?_
    refine J_V1v (ci := 11) dX11_readsRest_118 s_X11_218 m_X11_isWord rfl (by repeat (first | assumption | exact jget_same2 (by (try simp only [List.length_set]); exact jlt (by assumption)) | refine jget_ne (by first | decide | assumption | omega) ?_)) rfl (c_X11_isWord (i := 39) (he := (he + 1)) str_39 hs (by omega) htx (by repeat (first | assumption | exact jget_same2 (by (try simp only [List.length_set]); exact jlt (by assumption)) | refine jget_ne (by first | decide | assumption | omega) ?_)) (by repeat (first | assumption | exact jget_same2 (by (try simp only [List.length_set]); exact jlt (by assumption)) | refine jget_ne (by first | decide | assumption | omega) ?_)) (fun e => (jKv_i ?_)) (fun e => (jKv_i ?_)))
    · have hcl := cl_s (tx := tx) (tp := tp) [105, 109, 105, 116, 32] ((he + 1)) (by omega) (by decide)
      rw [its_word _ [105, 109, 105, 116, 32] ([78] ++ ([])) _ _ (by unfold phd; decide), if_pos e] at hR
      have e : cl (sg tx tp) [105, 109, 105, 116, 32] ((he + 1)) = 5 := e
      have hR : _ = its (sg tx tp) ([78] ++ ([])) ((he + 1) + 5) [] := hR
      refine J_if_eq_b 139 dX11_readsRest_121 (by decide) (fun c121 => ?_) (fun c121 => ?_)
      · exact absurd c121 (by decide)
      · skip
        have hnd9 := nd_s (tx := tx) (tp := tp) 3 (((he + 1) + 5)) (by omega)
        refine J_aload_n (by rfl) (by rfl) dX11_readsRest_124 ?_
        refine J_iconst (nI 3) (by decide) dX11_readsRest_125 ?_
        refine J_iload_n (by rfl) dX11_readsRest_126 ?_
        refine J_iconst (nI 1) (by decide) dX11_readsRest_127 ?_
        refine J_iadd dX11_readsRest_128 ?_
        try rw [nI_add]
        refine J_V2v (ci := 11) dX11_readsRest_129 s_X11_213 m_X11_isNumber rfl (by repeat (first | assumption | exact jget_same2 (by (try simp only [List.length_set]); exact jlt (by assumption)) | refine jget_ne (by first | decide | assumption | omega) ?_)) rfl (c_X11_isNumber (C := C) (he := ((he + 1) + 5)) (m := 3) (at_ := at_ + 1) (by omega) (by omega) hs (by omega) htx (by repeat (first | assumption | exact jget_same2 (by (try simp only [List.length_set]); exact jlt (by assumption)) | refine jget_ne (by first | decide | assumption | omega) ?_)) (by repeat (first | assumption | exact jget_same2 (by (try simp only [List.length_set]); exact jlt (by assumption)) | refine jget_ne (by first | decide | assumption | omega) ?_)) (by repeat (first | assumption | exact jget_same2 (by (try simp only [List.length_set]); exact jlt (by assumption)) | refine jget_ne (by first | decide | assumption | omega) ?_)) (jKv_i ?_))
        have hlow9 : ∀ k, k < at_ → (updN C (at_ + 1) (nv (sg tx tp) 3 ((he + 1) + 5) 0)) k = C k := fun k hk => (updN_n (by omega)).trans (hlow0 k hk)
        have hatv9 : (updN C (at_ + 1) (nv (sg tx tp) 3 ((he + 1) + 5) 0)) at_ = lk 5 := (updN_n (by omega)).trans hatv0
        by_cases hn : nd (sg tx tp) 3 ((he + 1) + 5) = 0
        · rw [show [78] ++ [] = 78 :: [] from rfl, its_none (by rw [itm_N, if_pos hn])] at hR
          rw [show decide (nd (sg tx tp) 3 ((he + 1) + 5) ≠ 0) = false by simpa using hn, hn]
          refine J_if_eq_b 139 dX11_readsRest_132 (by decide) (fun c132 => ?_) (fun c132 => ?_)
          · refine J_iconst (nI 0) (by decide) dX11_readsRest_139 ?_
            exact J_zreturn dX11_readsRest_140 rfl (by first | rfl | exact jb_n _) (by
              try simp only [List.set_set, jsw (i := 116) (j := 124) (by decide)]
              exact hQ false ((he + 1) + 5) [] 5 (updN C (at_ + 1) (nv (sg tx tp) 3 ((he + 1) + 5) 0)) (by rw [hcm, hR]) (by omega) (hlow9) (fun z => absurd z (by decide))) (by decide) (by decide) (fun _ => rfl)
          · exact absurd c132 (by decide)
        · rw [show [78] ++ [] = 78 :: [] from rfl, its_some (by rw [itm_N, if_neg hn])] at hR
          rw [show decide (nd (sg tx tp) 3 ((he + 1) + 5) ≠ 0) = true by simpa using hn]
          refine J_if_eq_b 139 dX11_readsRest_132 (by decide) (fun c132 => ?_) (fun c132 => ?_)
          · exact absurd c132 (by decide)
          · skip
            refine J_iconst (nI 1) (by decide) dX11_readsRest_135 ?_
            refine J_goto 140 dX11_readsRest_136 (by decide) ?_
            exact J_zreturn dX11_readsRest_140 rfl (by first | rfl | exact jb_n _) (by
              try simp only [List.set_set, jsw (i := 116) (j := 124) (by decide)]
              exact hQ true (((he + 1) + 5) + nd (sg tx tp) 3 ((he + 1) + 5)) ([] ++ [nv (sg tx tp) 3 ((he + 1) + 5) 0]) 5 (updN C (at_ + 1) (nv (sg tx tp) 3 ((he + 1) + 5) 0)) (by rw [hcm, hR]; rfl) (by omega) (hlow9) (fun _ => ⟨hatv9, fun j hj => by have hj : j < 1 := hj; have hj0 : j = 0 := (by omega); subst hj0; show updN _ _ _ _ = _; rw [updN_s]; try rfl⟩)) (by decide) (by decide) (fun _ => rfl)
    · have hcl := cl_s (tx := tx) (tp := tp) [105, 109, 105, 116, 32] ((he + 1)) (by omega) (by decide)
      rw [its_word _ [105, 109, 105, 116, 32] ([78] ++ ([])) _ _ (by unfold phd; decide), if_neg e] at hR
      refine J_if_eq_b 139 dX11_readsRest_121 (by decide) (fun c121 => ?_) (fun c121 => ?_)
      · refine J_iconst (nI 0) (by decide) dX11_readsRest_139 ?_
        exact J_zreturn dX11_readsRest_140 rfl (by first | rfl | exact jb_n _) (by
          try simp only [List.set_set, jsw (i := 116) (j := 124) (by decide)]
          exact hQ0 ((he + 1) + cl (sg tx tp) [105, 109, 105, 116, 32] ((he + 1))) [] 5 (by rw [hcm, hR]) (by omega)) (by decide) (by decide) (fun _ => rfl)
      · exact absurd c121 (by decide)
  · refine J_lookup (off := 140) 141 dX11_readsRest_1 (by decide) (by decide) (by decide) ?_
    have hcm : cmdS (sg tx tp) he = (its (sg tx tp) ([116, 111, 112] ++ tal 8) (he + 1) [], 8) := by unfold cmdS; rw [if_neg (by omega), if_neg (by omega), if_neg (by omega), if_neg (by omega), if_neg (by omega), if_pos hg]
    have hR : its (sg tx tp) ([116, 111, 112] ++ tal 8) (he + 1) [] = its (sg tx tp) ([116, 111, 112] ++ ([])) (he + 1) [] := rfl
    have hlow0 : ∀ k, k < at_ → C k = C k := fun k hk => rfl
    have hatv0 : C at_ = lk 8 := h0
    refine J_aload_n (by rfl) (by rfl) dX11_readsRest_141 ?_
    refine J_ldcS (i := 40) dX11_readsRest_142 rfl rfl rfl ?_
    refine J_V1v (ci := 11) dX11_readsRest_144 s_X11_218 m_X11_isWord rfl (by repeat (first | assumption | exact jget_same2 (by (try simp only [List.length_set]); exact jlt (by assumption)) | refine jget_ne (by first | decide | assumption | omega) ?_)) rfl (c_X11_isWord (i := 40) (he := (he + 1)) str_40 hs (by omega) htx (by repeat (first | assumption | exact jget_same2 (by (try simp only [List.length_set]); exact jlt (by assumption)) | refine jget_ne (by first | decide | assumption | omega) ?_)) (by repeat (first | assumption | exact jget_same2 (by (try simp only [List.length_set]); exact jlt (by assumption)) | refine jget_ne (by first | decide | assumption | omega) ?_)) (fun e => (jKv_i ?_)) (fun e => (jKv_i ?_)))
    · have hcl := cl_s (tx := tx) (tp := tp) [116, 111, 112] ((he + 1)) (by omega) (by decide)
      rw [its_word _ [116, 111, 112] ([]) _ _ (by unfold phd; decide), if_pos e] at hR
      have e : cl (sg tx tp) [116, 111, 112] ((he + 1)) = 3 := e
      have hR : _ = its (sg tx tp) ([]) ((he + 1) + 3) [] := hR
      exact J_zreturn dX11_readsRest_147 rfl (by first | rfl | exact jb_n _) (by
        have := hQ true ((he + 1) + 3) [] 8 C (by rw [hcm, hR]; rfl) (by omega) (hlow0) (fun _ => ⟨hatv0, fun j hj => absurd hj (Nat.not_lt_zero _)⟩)
        rw [hset_id (by exact (by repeat (first | assumption | exact jget_same2 (by (try simp only [List.length_set]); exact jlt (by assumption)) | refine jget_ne (by first | decide | assumption | omega) ?_)))] at this
        exact this) (by decide) (by decide) (fun _ => rfl)
    · have hcl := cl_s (tx := tx) (tp := tp) [116, 111, 112] ((he + 1)) (by omega) (by decide)
      rw [its_word _ [116, 111, 112] ([]) _ _ (by unfold phd; decide), if_neg e] at hR
      exact J_zreturn dX11_readsRest_147 rfl (by first | rfl | exact jb_n _) (hQ0 ((he + 1) + cl (sg tx tp) [116, 111, 112] ((he + 1))) [] 8 (by rw [hcm, hR]) (by omega)) (by decide) (by decide) (fun _ => rfl)
def isFst (v : Int32) : Bool := decide (v = nI 112 ∨ v = nI 116 ∨ v = nI 99 ∨ v = nI 109 ∨ v = nI 108 ∨ v = nI 115)
theorem c_X11_isFirst (v : Int32) (hQ : Q (.inl (some (.int (jb (isFst v))))) h) : jCT G M_X11_isFirst 1 0 0 X [.int v] h Q := by
  refine jCT_of [some (.int v)] 0 rfl (by decide +kernel) rfl rfl ?_
  refine J_iload_n (by rfl) dX11_isFirst_0 ?_
  refine J_bipush (nI 112) (by decide) dX11_isFirst_1 ?_
  refine J_icmp_eq 36 dX11_isFirst_3 (by decide) (fun c3 => ?_) (fun c3 => ?_)
  · refine J_iconst (nI 1) (by decide) dX11_isFirst_36 ?_
    refine J_goto 41 dX11_isFirst_37 (by decide) ?_
    exact J_zreturn dX11_isFirst_41 rfl (by first | rfl | exact jb_n _) (by rw [show isFst v = true by simp [isFst, c3]] at hQ; exact hQ) (by decide) (by decide) (fun _ => rfl)
  · refine J_iload_n (by rfl) dX11_isFirst_6 ?_
    refine J_bipush (nI 116) (by decide) dX11_isFirst_7 ?_
    refine J_icmp_eq 36 dX11_isFirst_9 (by decide) (fun c9 => ?_) (fun c9 => ?_)
    · refine J_iconst (nI 1) (by decide) dX11_isFirst_36 ?_
      refine J_goto 41 dX11_isFirst_37 (by decide) ?_
      exact J_zreturn dX11_isFirst_41 rfl (by first | rfl | exact jb_n _) (by rw [show isFst v = true by simp [isFst, c9]] at hQ; exact hQ) (by decide) (by decide) (fun _ => rfl)
    · refine J_iload_n (by rfl) dX11_isFirst_12 ?_
      refine J_bipush (nI 99) (by decide) dX11_isFirst_13 ?_
      refine J_icmp_eq 36 dX11_isFirst_15 (by decide) (fun c15 => ?_) (fun c15 => ?_)
      · refine J_iconst (nI 1) (by decide) dX11_isFirst_36 ?_
        refine J_goto 41 dX11_isFirst_37 (by decide) ?_
        exact J_zreturn dX11_isFirst_41 rfl (by first | rfl | exact jb_n _) (by rw [show isFst v = true by simp [isFst, c15]] at hQ; exact hQ) (by decide) (by decide) (fun _ => rfl)
      · refine J_iload_n (by rfl) dX11_isFirst_18 ?_
        refine J_bipush (nI 109) (by decide) dX11_isFirst_19 ?_
        refine J_icmp_eq 36 dX11_isFirst_21 (by decide) (fun c21 => ?_) (fun c21 => ?_)
        · refine J_iconst (nI 1) (by decide) dX11_isFirst_36 ?_
          refine J_goto 41 dX11_isFirst_37 (by decide) ?_
          exact J_zreturn dX11_isFirst_41 rfl (by first | rfl | exact jb_n _) (by rw [show isFst v = true by simp [isFst, c21]] at hQ; exact hQ) (by decide) (by decide) (fun _ => rfl)
        · refine J_iload_n (by rfl) dX11_isFirst_24 ?_
          refine J_bipush (nI 108) (by decide) dX11_isFirst_25 ?_
          refine J_icmp_eq 36 dX11_isFirst_27 (by decide) (fun c27 => ?_) (fun c27 => ?_)
          · refine J_iconst (nI 1) (by decide) dX11_isFirst_36 ?_
            refine J_goto 41 dX11_isFirst_37 (by decide) ?_
            exact J_zreturn dX11_isFirst_41 rfl (by first | rfl | exact jb_n _) (by rw [show isFst v = true by simp [isFst, c27]] at hQ; exact hQ) (by decide) (by decide) (fun _ => rfl)
          · refine J_iload_n (by rfl) dX11_isFirst_30 ?_
            refine J_bipush (nI 115) (by decide) dX11_isFirst_31 ?_
            refine J_icmp_ne 40 dX11_isFirst_33 (by decide) (fun c33 => ?_) (fun c33 => ?_)
            · have hf : isFst v = false := by
                simp only [isFst, decide_eq_false_iff_not]
                intro z
                rcases z with z | z | z | z | z | z
                · exact c3 z
                · exact c9 z
                · exact c15 z
                · exact c21 z
                · exact c27 z
                · exact c33 z
              rw [hf] at hQ
              refine J_iconst (nI 0) (by decide) dX11_isFirst_40 ?_
              exact J_zreturn dX11_isFirst_41 rfl (by first | rfl | exact jb_n _) (hQ) (by decide) (by decide) (fun _ => rfl)
            · refine J_iconst (nI 1) (by decide) dX11_isFirst_36 ?_
              refine J_goto 41 dX11_isFirst_37 (by decide) ?_
              exact J_zreturn dX11_isFirst_41 rfl (by first | rfl | exact jb_n _) (by rw [show isFst v = true by simp [isFst, c33]] at hQ; exact hQ) (by decide) (by decide) (fun _ => rfl)
theorem isFst_n {x : Nat} (hx : x < 65536) : isFst (nI x) = true ↔ (x = 112 ∨ x = 116 ∨ x = 99 ∨ x = 109 ∨ x = 108 ∨ x = 115) := by
  unfold isFst
  rw [decide_eq_true_eq, nI_eq (by omega) (by decide), nI_eq (by omega) (by decide), nI_eq (by omega) (by decide), nI_eq (by omega) (by decide), nI_eq (by omega) (by decide), nI_eq (by omega) (by decide)]
theorem cmdS_nf {g : Nat → Nat} {p : Nat} (h : ¬ (g p = 112 ∨ g p = 116 ∨ g p = 99 ∨ g p = 109 ∨ g p = 108 ∨ g p = 115)) : cmdS g p = ((false, p, []), 9) := by
  unfold cmdS
  rw [if_neg (by omega), if_neg (by omega), if_neg (by omega), if_neg (by omega), if_neg (by omega), if_neg (by omega)]
theorem c_X11_readsCommand (hcm : cm ≤ 12) (hs : tp ≤ 60) (hp : he ≤ tp) (htx : ∀ k, k < tp → tx k < 65536) (hM : h[116]? = some (hMo ch th ea fa an sv ln tp he cm)) (hT : h[123]? = some (ia 60 tx)) (hC : h[124]? = some (ia 124 C))
    (hQ : ∀ ok q V K C' cm', cmdS (sg tx tp) he = ((ok, q, V), K) → q ≤ tp → (∀ k, k < 4 * cm → C' k = C k) → (ok = true → cm' = cm + 1 ∧ C' (4 * cm) = lk K ∧ ∀ j, j < V.length → C' (4 * cm + 1 + j) = V.getD j 0) → Q (.inl (some (.int (jb ok)))) ((h.set 116 (hMo ch th ea fa an sv ln tp q cm')).set 124 (ia 124 C'))) : jCT G M_X11_readsCommand 8 0 0 X [.ref 116] h Q := by
  refine jCT_of [some (.ref 116), none, none] 2 rfl (by decide +kernel) rfl rfl ?_
  refine J_iconst (nI 4) (by decide) dX11_readsCommand_0 ?_
  refine J_aload_n (by rfl) (by rfl) dX11_readsCommand_1 ?_
  refine J_get dX11_readsCommand_2 f_X11_253 (by repeat (first | assumption | exact jget_same2 (by (try simp only [List.length_set]); exact jlt (by assumption)) | refine jget_ne (by first | decide | assumption | omega) ?_)) (by rfl) ?_
  refine J_imul dX11_readsCommand_5 ?_
  try rw [pk_mul]
  refine J_istore_1 dX11_readsCommand_6 ?_
  refine J_aload_n (by rfl) (by rfl) dX11_readsCommand_7 ?_
  refine J_V0v (ci := 11) dX11_readsCommand_8 s_X11_196 m_X11_sign rfl (by repeat (first | assumption | exact jget_same2 (by (try simp only [List.length_set]); exact jlt (by assumption)) | refine jget_ne (by first | decide | assumption | omega) ?_)) rfl (c_X11_sign (he := he) hs hM hT (by omega) (jKv_i ?_))
  by_cases hlt : he < tp
  · have hx := htx he hlt
    have he1 : sg tx tp he = tx he := by unfold sg; rw [if_pos hlt]
    rw [if_pos hlt]
    refine J_istore_2 dX11_readsCommand_11 ?_
    refine J_iload_n (by rfl) dX11_readsCommand_12 ?_
    refine J_S1v dX11_readsCommand_13 s_X11_256 m_X11_isFirst rfl (c_X11_isFirst (nI (tx he)) (jKv_i ?_))
    by_cases hf : isFst (nI (tx he)) = true
    · have hf2 := (isFst_n hx).mp hf
      rw [hf]
      refine J_if_ne_b 21 dX11_readsCommand_16 (by decide) (fun c16 => ?_) (fun c16 => ?_)
      · refine J_aload_n (by rfl) (by rfl) dX11_readsCommand_21 ?_
        refine J_get dX11_readsCommand_22 f_X11_38 (by repeat (first | assumption | exact jget_same2 (by (try simp only [List.length_set]); exact jlt (by assumption)) | refine jget_ne (by first | decide | assumption | omega) ?_)) (by rfl) ?_
        refine J_iload_n (by rfl) dX11_readsCommand_25 ?_
        refine J_iload_n (by rfl) dX11_readsCommand_26 ?_
        refine J_iast_n (4 * cm) dX11_readsCommand_27 (by repeat (first | assumption | exact jget_same2 (by (try simp only [List.length_set]); exact jlt (by assumption)) | refine jget_ne (by first | decide | assumption | omega) ?_)) (by first | rfl | (simp only [pk_mul, nI_add]; done) | (simp only [pk_mul, nI_add]; congr 1; omega) | (congr 1; omega)) (by omega) ?_
        refine J_aload_n (by rfl) (by rfl) dX11_readsCommand_28 ?_
        refine J_dup (by rfl) dX11_readsCommand_29 ?_
        refine J_get dX11_readsCommand_30 f_X11_193 (by repeat (first | assumption | exact jget_same2 (by (try simp only [List.length_set]); exact jlt (by assumption)) | refine jget_ne (by first | decide | assumption | omega) ?_)) (by rfl) ?_
        refine J_iconst (nI 1) (by decide) dX11_readsCommand_33 ?_
        refine J_iadd dX11_readsCommand_34 ?_
        try rw [nI_add]
        refine J_put_16 dX11_readsCommand_35 p_X11_193 (by repeat (first | assumption | exact jget_same2 (by (try simp only [List.length_set]); exact jlt (by assumption)) | refine jget_ne (by first | decide | assumption | omega) ?_)) ?_
        refine J_aload_n (by rfl) (by rfl) dX11_readsCommand_38 ?_
        refine J_dup (by rfl) dX11_readsCommand_39 ?_
        refine J_get dX11_readsCommand_40 f_X11_253 (by repeat (first | assumption | exact jget_same2 (by (try simp only [List.length_set]); exact jlt (by assumption)) | refine jget_ne (by first | decide | assumption | omega) ?_)) (by rfl) ?_
        refine J_iconst (nI 1) (by decide) dX11_readsCommand_43 ?_
        refine J_iadd dX11_readsCommand_44 ?_
        try rw [nI_add]
        refine J_put_17 dX11_readsCommand_45 p_X11_253 (by repeat (first | assumption | exact jget_same2 (by (try simp only [List.length_set]); exact jlt (by assumption)) | refine jget_ne (by first | decide | assumption | omega) ?_)) ?_
        refine J_aload_n (by rfl) (by rfl) dX11_readsCommand_48 ?_
        refine J_iload_n (by rfl) dX11_readsCommand_49 ?_
        refine J_iload_n (by rfl) dX11_readsCommand_50 ?_
        refine J_V2v (ci := 11) dX11_readsCommand_51 s_X11_259 m_X11_readsRest rfl (by repeat (first | assumption | exact jget_same2 (by (try simp only [List.length_set]); exact jlt (by assumption)) | refine jget_ne (by first | decide | assumption | omega) ?_)) rfl (c_X11_readsRest (c := tx he) (he := he) (at_ := 4 * cm) (C := updN C (4 * cm) (tx he)) hf2 he1 (by omega) hs (by omega) htx (by repeat (first | assumption | exact jget_same2 (by (try simp only [List.length_set]); exact jlt (by assumption)) | refine jget_ne (by first | decide | assumption | omega) ?_)) (by repeat (first | assumption | exact jget_same2 (by (try simp only [List.length_set]); exact jlt (by assumption)) | refine jget_ne (by first | decide | assumption | omega) ?_)) (by repeat (first | assumption | exact jget_same2 (by (try simp only [List.length_set]); exact jlt (by assumption)) | refine jget_ne (by first | decide | assumption | omega) ?_)) updN_s (fun ok q V K C' e1 e2 e3 e4 => (jKv_i ?_)))
        exact J_zreturn dX11_readsCommand_54 rfl (by first | rfl | exact jb_n _) (by
          simp only [List.set_set, jsw (i := 116) (j := 124) (by decide)]
          exact hQ ok q V K C' (cm + 1) e1 e2 (fun k hk => (e3 k hk).trans (updN_n (by omega))) (fun z => ⟨rfl, e4 z⟩)) (by decide) (by decide) (fun _ => rfl)
      · exact absurd c16 (by decide)
    · have hf2 : ¬ (sg tx tp he = 112 ∨ sg tx tp he = 116 ∨ sg tx tp he = 99 ∨ sg tx tp he = 109 ∨ sg tx tp he = 108 ∨ sg tx tp he = 115) := by rw [he1]; exact fun z => hf ((isFst_n hx).mpr z)
      have hQ := hQ false he [] 9 C cm (cmdS_nf hf2) hp (fun _ _ => rfl) (fun z => absurd z (by decide))
      rw [hset_id hM, hset_id hC] at hQ
      rw [show isFst (nI (tx he)) = false by simpa using hf]
      refine J_if_ne_b 21 dX11_readsCommand_16 (by decide) (fun c16 => ?_) (fun c16 => ?_)
      · exact absurd c16 (by decide)
      · refine J_iconst (nI 0) (by decide) dX11_readsCommand_19 ?_
        exact J_zreturn dX11_readsCommand_20 rfl (by first | rfl | exact jb_n _) (hQ) (by decide) (by decide) (fun _ => rfl)
  · have he1 : sg tx tp he = 70000 := by unfold sg; rw [if_neg hlt]
    have hQ := hQ false he [] 9 C cm (cmdS_nf (by rw [he1]; decide)) hp (fun _ _ => rfl) (fun z => absurd z (by decide))
    rw [hset_id hM, hset_id hC] at hQ
    rw [if_neg hlt]
    refine J_istore_2 dX11_readsCommand_11 ?_
    refine J_iload_n (by rfl) dX11_readsCommand_12 ?_
    refine J_S1v dX11_readsCommand_13 s_X11_256 m_X11_isFirst rfl (c_X11_isFirst (-1) (jKv_i ?_))
    rw [show isFst (-1) = false by decide]
    refine J_if_ne_b 21 dX11_readsCommand_16 (by decide) (fun c16 => ?_) (fun c16 => ?_)
    · exact absurd c16 (by decide)
    · refine J_iconst (nI 0) (by decide) dX11_readsCommand_19 ?_
      exact J_zreturn dX11_readsCommand_20 rfl (by first | rfl | exact jb_n _) (hQ) (by decide) (by decide) (fun _ => rfl)
/-- the commands stand in the reference's row -/
def modAre (n : Nat) (C : Nat → Nat) (L : List (Nat × List Nat)) : Prop := L.length = n ∧ ∀ i, i < n → ∃ K V, L[i]? = some (K, V) ∧ K ≤ 8 ∧ V.length = arp (tal K) ∧ C (4 * i) = lk K ∧ ∀ j, j < V.length → C (4 * i + 1 + j) = V.getD j 0
theorem arp_3 {K : Nat} (hK : K ≤ 8) : arp (tal K) ≤ 3 := tal_ar hK
theorem modAre.push {n K : Nat} {C C' : Nat → Nat} {L : List (Nat × List Nat)} {V : List Nat} (h : modAre n C L) (hK : K ≤ 8) (hV : V.length = arp (tal K)) (h1 : C' (4 * n) = lk K) (h2 : ∀ j, j < V.length → C' (4 * n + 1 + j) = V.getD j 0) (h3 : ∀ k, k < 4 * n → C' k = C k) : modAre (n + 1) C' (L ++ [(K, V)]) := by
  refine ⟨by rw [List.length_append, h.1]; rfl, fun i hi => ?_⟩
  by_cases e : i = n
  · subst e
    refine ⟨K, V, ?_, hK, hV, h1, h2⟩
    rw [List.getElem?_append_right (by rw [h.1]; exact Nat.le_refl _), h.1, Nat.sub_self]; rfl
  · obtain ⟨K2, V2, a, b, b2, c, d⟩ := h.2 i (by omega)
    have := arp_3 b
    refine ⟨K2, V2, ?_, b, b2, by rw [h3 _ (by omega)]; exact c, fun j hj => by rw [h3 _ (by omega)]; exact d j hj⟩
    rw [List.getElem?_append_left (by rw [h.1]; omega)]; exact a
theorem c_X11_isProgram (hs : tp ≤ 60) (htx : ∀ k, k < tp → tx k < 65536) (hM : h[116]? = some (hMo ch th ea fa an sv ln tp he cm)) (hT : h[123]? = some (ia 60 tx)) (hC : h[124]? = some (ia 124 C))
    (hQ : ∀ ok q L n C', prgS (sg tx tp) tp 13 0 [] = (ok, q, L) → q ≤ tp → (ok = true → modAre n C' L ∧ n ≤ 12) → Q (.inl (some (.int (jb ok)))) ((h.set 116 (hMo ch th ea fa an sv ln tp q n)).set 124 (ia 124 C'))) : jCT G M_X11_isProgram 9 0 0 X [.ref 116] h Q := by
  refine jCT_of [some (.ref 116), none] 1 rfl (by decide +kernel) rfl rfl ?_
  have hg59 : ∀ p, sg tx tp p = 59 → p < tp := fun p e => ((sg_lt (by decide)).mp e).1
  have bad : ∀ q L n C', prgS (sg tx tp) tp 13 0 [] = (false, q, L) → q ≤ tp → J G (jR 9 0 0) (jFin G Q X 0 0) M_X11_isProgram X 0 0 15 [some (.ref 116), some (.int (jb false))] [] ((h.set 116 (hMo ch th ea fa an sv ln tp q n)).set 124 (ia 124 C')) := by
    intro q L n C' hr hq
    refine J_iload_n (by rfl) dX11_isProgram_15 ?_
    refine J_if_eq_b 36 dX11_isProgram_16 (by decide) (fun c16 => ?_) (fun c16 => ?_)
    · refine J_iload_n (by rfl) dX11_isProgram_36 ?_
      refine J_if_eq_b 55 dX11_isProgram_37 (by decide) (fun c37 => ?_) (fun c37 => ?_)
      · refine J_iconst (nI 0) (by decide) dX11_isProgram_55 ?_
        exact J_zreturn dX11_isProgram_56 rfl (by first | rfl | exact jb_n _) (hQ false q L n C' hr hq (fun z => absurd z (by decide))) (by decide) (by decide) (fun _ => rfl)
      · exact absurd c37 (by decide)
    · exact absurd c16 (by decide)
  refine J_aload_n (by rfl) (by rfl) dX11_isProgram_0 ?_
  refine J_iconst (nI 0) (by decide) dX11_isProgram_1 ?_
  refine J_put_16 dX11_isProgram_2 p_X11_193 (by repeat (first | assumption | exact jget_same2 (by (try simp only [List.length_set]); exact jlt (by assumption)) | refine jget_ne (by first | decide | assumption | omega) ?_)) ?_
  refine J_aload_n (by rfl) (by rfl) dX11_isProgram_5 ?_
  refine J_iconst (nI 0) (by decide) dX11_isProgram_6 ?_
  refine J_put_17 dX11_isProgram_7 p_X11_253 (by repeat (first | assumption | exact jget_same2 (by (try simp only [List.length_set]); exact jlt (by assumption)) | refine jget_ne (by first | decide | assumption | omega) ?_)) ?_
  refine J_aload_n (by rfl) (by rfl) dX11_isProgram_10 ?_
  rw [List.set_set]
  suffices loop : ∀ k N p acc C1, 12 - N ≤ k → 1 ≤ N → N ≤ 12 → p ≤ tp → 5 * N ≤ p + 1 → modAre N C1 acc → (prgS (sg tx tp) tp 13 0 [] = if sg tx tp p = 59 then prgS (sg tx tp) tp (13 - N) (p + 1) acc else (decide (p = tp), p, acc)) → J G (jR 9 0 0) (jFin G Q X 0 0) M_X11_isProgram X 0 0 15 [some (.ref 116), some (.int (jb true))] [] ((h.set 116 (hMo ch th ea fa an sv ln tp p N)).set 124 (ia 124 C1)) by
    refine J_V0v (ci := 11) dX11_isProgram_11 s_X11_262 m_X11_readsCommand rfl (by repeat (first | assumption | exact jget_same2 (by (try simp only [List.length_set]); exact jlt (by assumption)) | refine jget_ne (by first | decide | assumption | omega) ?_)) rfl (c_X11_readsCommand (he := 0) (cm := 0) (C := C) (by omega) hs (by omega) htx (by repeat (first | assumption | exact jget_same2 (by (try simp only [List.length_set]); exact jlt (by assumption)) | refine jget_ne (by first | decide | assumption | omega) ?_)) (by repeat (first | assumption | exact jget_same2 (by (try simp only [List.length_set]); exact jlt (by assumption)) | refine jget_ne (by first | decide | assumption | omega) ?_)) (by repeat (first | assumption | exact jget_same2 (by (try simp only [List.length_set]); exact jlt (by assumption)) | refine jget_ne (by first | decide | assumption | omega) ?_)) (fun ok q V K C' cm' hc hq h1 h2 => (jKv_i ?_)))
    cases ok with
    | true =>
      obtain ⟨rfl, h3, h4⟩ := h2 rfl
      obtain ⟨o1, o2, o3⟩ := cmdS_ok hc
      refine J_istore_1 dX11_isProgram_14 ?_
      simp only [List.set_set, jsw (i := 116) (j := 124) (by decide)]
      exact loop 12 1 q [(K, V)] C' (by omega) (by omega) (by omega) hq (by omega) (modAre.push (L := []) (n := 0) ⟨rfl, fun i hi => by omega⟩ o1 o2 h3 h4 h1) (prg_t hc)
    | false =>
      refine J_istore_1 dX11_isProgram_14 ?_
      simp only [List.set_set, jsw (i := 116) (j := 124) (by decide)]
      exact bad q [] cm' C' (prg_f hc) hq
  intro k
  induction k with
  | zero =>
    intro N p acc C1 hk hN1 hN hp h5 hA hres
    have hN12 : N = 12 := by omega
    subst hN12
    refine J_iload_n (by rfl) dX11_isProgram_15 ?_
    refine J_if_eq_b 36 dX11_isProgram_16 (by decide) (fun c16 => ?_) (fun c16 => ?_)
    · exact absurd c16 (by decide)
    · refine J_aload_n (by rfl) (by rfl) dX11_isProgram_19 ?_
      refine J_bipush (nI 59) (by decide) dX11_isProgram_20 ?_
      refine J_V1v (ci := 11) dX11_isProgram_22 s_X11_208 m_X11_isSign rfl (by repeat (first | assumption | exact jget_same2 (by (try simp only [List.length_set]); exact jlt (by assumption)) | refine jget_ne (by first | decide | assumption | omega) ?_)) rfl (c_X11_isSign (he := p) (c := 59) hs hp (by decide) htx (by repeat (first | assumption | exact jget_same2 (by (try simp only [List.length_set]); exact jlt (by assumption)) | refine jget_ne (by first | decide | assumption | omega) ?_)) (by repeat (first | assumption | exact jget_same2 (by (try simp only [List.length_set]); exact jlt (by assumption)) | refine jget_ne (by first | decide | assumption | omega) ?_)) (fun e => (jKv_i ?_)) (fun e => (jKv_i ?_)))
      · have hlt9 := hg59 p e
        rw [if_pos e] at hres
        refine J_if_eq_b 36 dX11_isProgram_25 (by decide) (fun c25 => ?_) (fun c25 => ?_)
        · exact absurd c25 (by decide)
        · refine J_aload_n (by rfl) (by rfl) dX11_isProgram_28 ?_
          refine J_V0v (ci := 11) dX11_isProgram_29 s_X11_262 m_X11_readsCommand rfl (by repeat (first | assumption | exact jget_same2 (by (try simp only [List.length_set]); exact jlt (by assumption)) | refine jget_ne (by first | decide | assumption | omega) ?_)) rfl (c_X11_readsCommand (he := p + 1) (cm := 12) (C := C1) (by omega) hs (by omega) htx (by repeat (first | assumption | exact jget_same2 (by (try simp only [List.length_set]); exact jlt (by assumption)) | refine jget_ne (by first | decide | assumption | omega) ?_)) (by repeat (first | assumption | exact jget_same2 (by (try simp only [List.length_set]); exact jlt (by assumption)) | refine jget_ne (by first | decide | assumption | omega) ?_)) (by repeat (first | assumption | exact jget_same2 (by (try simp only [List.length_set]); exact jlt (by assumption)) | refine jget_ne (by first | decide | assumption | omega) ?_)) (fun ok q V K C' cm' hc hq h1 h2 => (jKv_i ?_)))
          cases ok with
          | true =>
            obtain ⟨o1, o2, o3⟩ := cmdS_ok hc
            exfalso; omega
          | false =>
            refine J_istore_1 dX11_isProgram_32 ?_
            refine J_goto 15 dX11_isProgram_33 (by decide) ?_
            simp only [List.set_set, jsw (i := 116) (j := 124) (by decide)]
            exact bad q acc cm' C' (hres.trans (prg_f hc)) hq
      · rw [if_neg e] at hres
        refine J_if_eq_b 36 dX11_isProgram_25 (by decide) (fun c25 => ?_) (fun c25 => ?_)
        · refine J_iload_n (by rfl) dX11_isProgram_36 ?_
          refine J_if_eq_b 55 dX11_isProgram_37 (by decide) (fun c37 => ?_) (fun c37 => ?_)
          · exact absurd c37 (by decide)
          · refine J_aload_n (by rfl) (by rfl) dX11_isProgram_40 ?_
            refine J_get dX11_isProgram_41 f_X11_193 (by repeat (first | assumption | exact jget_same2 (by (try simp only [List.length_set]); exact jlt (by assumption)) | refine jget_ne (by first | decide | assumption | omega) ?_)) (by rfl) ?_
            refine J_aload_n (by rfl) (by rfl) dX11_isProgram_44 ?_
            refine J_get dX11_isProgram_45 f_X11_190 (by repeat (first | assumption | exact jget_same2 (by (try simp only [List.length_set]); exact jlt (by assumption)) | refine jget_ne (by first | decide | assumption | omega) ?_)) (by rfl) ?_
            refine J_icmp_ne_n 55 dX11_isProgram_48 (by decide) (fun c48 => ?_) (fun c48 => ?_)
            · rw [show decide (p = tp) = false by simpa using c48] at hres
              refine J_iconst (nI 0) (by decide) dX11_isProgram_55 ?_
              exact J_zreturn dX11_isProgram_56 rfl (by first | rfl | exact jb_n _) (hQ false p acc 12 C1 hres hp (fun z => absurd z (by decide))) (by decide) (by decide) (fun _ => rfl)
            · rw [show decide (p = tp) = true by simpa using c48] at hres
              refine J_iconst (nI 1) (by decide) dX11_isProgram_51 ?_
              refine J_goto 56 dX11_isProgram_52 (by decide) ?_
              exact J_zreturn dX11_isProgram_56 rfl (by first | rfl | exact jb_n _) (hQ true p acc 12 C1 hres hp (fun _ => ⟨hA, by omega⟩)) (by decide) (by decide) (fun _ => rfl)
        · exact absurd c25 (by decide)
  | succ k ih =>
    intro N p acc C1 hk hN1 hN hp h5 hA hres
    refine J_iload_n (by rfl) dX11_isProgram_15 ?_
    refine J_if_eq_b 36 dX11_isProgram_16 (by decide) (fun c16 => ?_) (fun c16 => ?_)
    · exact absurd c16 (by decide)
    · refine J_aload_n (by rfl) (by rfl) dX11_isProgram_19 ?_
      refine J_bipush (nI 59) (by decide) dX11_isProgram_20 ?_
      refine J_V1v (ci := 11) dX11_isProgram_22 s_X11_208 m_X11_isSign rfl (by repeat (first | assumption | exact jget_same2 (by (try simp only [List.length_set]); exact jlt (by assumption)) | refine jget_ne (by first | decide | assumption | omega) ?_)) rfl (c_X11_isSign (he := p) (c := 59) hs hp (by decide) htx (by repeat (first | assumption | exact jget_same2 (by (try simp only [List.length_set]); exact jlt (by assumption)) | refine jget_ne (by first | decide | assumption | omega) ?_)) (by repeat (first | assumption | exact jget_same2 (by (try simp only [List.length_set]); exact jlt (by assumption)) | refine jget_ne (by first | decide | assumption | omega) ?_)) (fun e => (jKv_i ?_)) (fun e => (jKv_i ?_)))
      · have hlt9 := hg59 p e
        rw [if_pos e] at hres
        refine J_if_eq_b 36 dX11_isProgram_25 (by decide) (fun c25 => ?_) (fun c25 => ?_)
        · exact absurd c25 (by decide)
        · refine J_aload_n (by rfl) (by rfl) dX11_isProgram_28 ?_
          refine J_V0v (ci := 11) dX11_isProgram_29 s_X11_262 m_X11_readsCommand rfl (by repeat (first | assumption | exact jget_same2 (by (try simp only [List.length_set]); exact jlt (by assumption)) | refine jget_ne (by first | decide | assumption | omega) ?_)) rfl (c_X11_readsCommand (he := p + 1) (cm := N) (C := C1) hN hs (by omega) htx (by repeat (first | assumption | exact jget_same2 (by (try simp only [List.length_set]); exact jlt (by assumption)) | refine jget_ne (by first | decide | assumption | omega) ?_)) (by repeat (first | assumption | exact jget_same2 (by (try simp only [List.length_set]); exact jlt (by assumption)) | refine jget_ne (by first | decide | assumption | omega) ?_)) (by repeat (first | assumption | exact jget_same2 (by (try simp only [List.length_set]); exact jlt (by assumption)) | refine jget_ne (by first | decide | assumption | omega) ?_)) (fun ok q V K C' cm' hc hq h1 h2 => (jKv_i ?_)))
          cases ok with
          | true =>
            obtain ⟨rfl, h3, h4⟩ := h2 rfl
            obtain ⟨o1, o2, o3⟩ := cmdS_ok hc
            refine J_istore_1 dX11_isProgram_32 ?_
            refine J_goto 15 dX11_isProgram_33 (by decide) ?_
            simp only [List.set_set, jsw (i := 116) (j := 124) (by decide)]
            refine ih (N + 1) q (acc ++ [(K, V)]) C' (by omega) (by omega) (by omega) hq (by omega) (hA.push o1 o2 h3 h4 h1) ?_
            rw [hres, show 13 - N = (13 - (N + 1)) + 1 by omega, prg_t hc]
          | false =>
            rw [show 13 - N = (13 - (N + 1)) + 1 by omega, prg_f hc] at hres
            refine J_istore_1 dX11_isProgram_32 ?_
            refine J_goto 15 dX11_isProgram_33 (by decide) ?_
            simp only [List.set_set, jsw (i := 116) (j := 124) (by decide)]
            exact bad q acc cm' C' hres hq
      · rw [if_neg e] at hres
        refine J_if_eq_b 36 dX11_isProgram_25 (by decide) (fun c25 => ?_) (fun c25 => ?_)
        · refine J_iload_n (by rfl) dX11_isProgram_36 ?_
          refine J_if_eq_b 55 dX11_isProgram_37 (by decide) (fun c37 => ?_) (fun c37 => ?_)
          · exact absurd c37 (by decide)
          · refine J_aload_n (by rfl) (by rfl) dX11_isProgram_40 ?_
            refine J_get dX11_isProgram_41 f_X11_193 (by repeat (first | assumption | exact jget_same2 (by (try simp only [List.length_set]); exact jlt (by assumption)) | refine jget_ne (by first | decide | assumption | omega) ?_)) (by rfl) ?_
            refine J_aload_n (by rfl) (by rfl) dX11_isProgram_44 ?_
            refine J_get dX11_isProgram_45 f_X11_190 (by repeat (first | assumption | exact jget_same2 (by (try simp only [List.length_set]); exact jlt (by assumption)) | refine jget_ne (by first | decide | assumption | omega) ?_)) (by rfl) ?_
            refine J_icmp_ne_n 55 dX11_isProgram_48 (by decide) (fun c48 => ?_) (fun c48 => ?_)
            · rw [show decide (p = tp) = false by simpa using c48] at hres
              refine J_iconst (nI 0) (by decide) dX11_isProgram_55 ?_
              exact J_zreturn dX11_isProgram_56 rfl (by first | rfl | exact jb_n _) (hQ false p acc N C1 hres hp (fun z => absurd z (by decide))) (by decide) (by decide) (fun _ => rfl)
            · rw [show decide (p = tp) = true by simpa using c48] at hres
              refine J_iconst (nI 1) (by decide) dX11_isProgram_51 ?_
              refine J_goto 56 dX11_isProgram_52 (by decide) ?_
              exact J_zreturn dX11_isProgram_56 rfl (by first | rfl | exact jb_n _) (hQ true p acc N C1 hres hp (fun _ => ⟨hA, hN⟩)) (by decide) (by decide) (fun _ => rfl)
        · exact absurd c25 (by decide)
end MR2
