/-! The reference: the commands -/
theorem isP_t {x y : Int32} (h : isP x y = true) : ∃ a b : Nat, x = nI a ∧ y = nI b ∧ a ≤ 99 ∧ b ≤ 99 ∧ nP x = a ∧ nP y = b := by
  simp only [isP, Bool.and_eq_true] at h
  obtain ⟨a, e1, _, h1, e2⟩ := inB_t h.1 (by decide) (by decide)
  obtain ⟨b, e3, _, h2, e4⟩ := inB_t h.2 (by decide) (by decide)
  exact ⟨a, b, e1, e3, h1, h2, e2, e4⟩
theorem both_t {s : Nat → Nat} {x y : Int32} (hn : s 0 ≤ 12) (h1 : isIx x (s 0) = true) (h2 : isIx y (s 0) = true) : ∃ i j : Nat, x = nI i ∧ y = nI j ∧ i < s 0 ∧ j < s 0 ∧ nP x = i ∧ nP y = j := by
  obtain ⟨i, e1, h3, e2⟩ := isIx_k h1 (by omega)
  obtain ⟨j, e3, h4, e4⟩ := isIx_k h2 (by omega)
  exact ⟨i, j, e1, e3, h3, h4, e2, e4⟩
theorem legOk_of {K : Nat} {s : Nat → Nat} (I : Inv K s) (h : 0 < s 1) : legOk s := by
  obtain ⟨h1, h2, h3, h4, h5, h6, h7⟩ := I.t h
  have h8 := I.n12
  have h9 := h7 (s 2) h4
  have h10 := h7 (s 2 - 1) (by omega)
  exact ⟨h3, by omega, by unfold aimS; omega, by unfold begS; omega, I.p⟩
theorem moveA_e {s : Nat → Nat} {a b k : Nat} (h3 : k ≠ 3) (h4 : k ≠ 4) (h6 : k ≠ 6) (h9 : k ≠ 9) : moveA s a b k = s k := by
  unfold moveA drainS; rw [updN_n h6, updN_n h9, updN_n h4, updN_n h3]
theorem moveA_leg {s : Nat → Nat} {a b : Nat} (h : legOk s) : legOk (moveA s a b) := by
  obtain ⟨h1, h2, h3, h4, h5⟩ := h
  have e2 : moveA s a b 2 = s 2 := moveA_e (by decide) (by decide) (by decide) (by decide)
  unfold aimS at h3; unfold begS at h4
  refine ⟨by omega, by omega, ?_, ?_, fun i hi => ?_⟩
  · unfold aimS; rw [e2, moveA_e (by omega) (by omega) (by omega) (by omega)]; exact h3
  · unfold begS; rw [e2, moveA_e (by omega) (by omega) (by omega) (by omega)]; exact h4
  · have := h5 i hi
    unfold pX pY pR at this ⊢
    rw [moveA_e (by omega) (by omega) (by omega) (by omega), moveA_e (by omega) (by omega) (by omega) (by omega), moveA_e (by omega) (by omega) (by omega) (by omega)]
    exact this
theorem moveB_e {s : Nat → Nat} {k : Nat} (h2 : k ≠ 2) (h6 : k ≠ 6) (h11 : k ≠ 11) : moveB s k = s k := by
  unfold moveB drainS; rw [updN_n h2, updN_n h6, updN_n h11]
theorem moveB_leg {s : Nat → Nat} (h : legOk s) (h1 : s 2 + 1 < 12) (h2 : s (192 + (s 2 + 1)) < 12) : legOk (moveB s) := by
  obtain ⟨h1, h2, h3, h4, h5⟩ := h
  have e2 : moveB s 2 = s 2 + 1 := updN_s
  refine ⟨by omega, by omega, ?_, ?_, fun i hi => ?_⟩
  · unfold aimS; rw [e2, moveB_e (by omega) (by omega) (by omega)]; assumption
  · unfold begS; rw [e2, moveB_e (by omega) (by omega) (by omega)]; exact h3
  · have := h5 i hi
    unfold pX pY pR at this ⊢
    rw [moveB_e (by omega) (by omega) (by omega), moveB_e (by omega) (by omega) (by omega), moveB_e (by omega) (by omega) (by omega)]
    exact this
section MODEL4
variable {G : jG} {X : Bool} {h : jH} {Q : jQ_} {ch th ln tp he cm n K : Nat} {ea fa an : Int32} {sv : Bool} {s w F D : Nat → Nat}
theorem c_X11_points (x y z : Int32) (hn : s 0 ≤ 12) (hM : h[116]? = some (hMo ch th ea fa an sv ln tp he cm)) (hS : h[117]? = some (ia 204 s))
    (hQ : Q (.inl (some (.int (nI (if T0 s x y z = 0 then s 0 else 0))))) ((h.set 116 (hMo ch (T0 s x y z) ea fa an sv ln tp he cm)).set 117 (ia 204 (if T0 s x y z = 0 then N0 s x y z else s)))) : jCT G M_X11_points 3 0 0 X [.ref 116, .int x, .int y, .int z] h Q := by
  refine jCT_of [some (.ref 116), some (.int x), some (.int y), some (.int z), none] 1 rfl (by decide +kernel) rfl rfl ?_
  refine J_aload_n (by rfl) (by rfl) dX11_points_0 ?_
  refine J_iload_n (by rfl) dX11_points_1 ?_
  refine J_iload_n (by rfl) dX11_points_2 ?_
  refine J_S2v dX11_points_3 s_X11_59 m_X11_isPlace rfl (c_X11_isPlace x y (jKv_i ?_))
  refine J_if_eq_b 19 dX11_points_6 (by decide) (fun c6 => ?_) (fun c6 => ?_)
  · rw [show T0 s x y z = 1 by simp [T0, c6], if_neg (by decide), if_neg (by decide), hS_id hS] at hQ
    refine J_iconst (nI 1) (by decide) dX11_points_19 ?_
    refine J_goto 24 dX11_points_20 (by decide) ?_
    refine J_iconst (nI 1) (by decide) dX11_points_24 ?_
    refine J_V2v (ci := 11) dX11_points_25 s_X11_63 m_X11_isThrown rfl (by repeat (first | assumption | exact jget_same2 (by (try simp only [List.length_set]); exact jlt (by assumption)) | refine jget_ne (by first | decide | assumption | omega) ?_)) rfl (c_X11_isThrown true hM (jKv_i ?_))
    refine J_if_ne_b 55 dX11_points_28 (by decide) (fun c28 => ?_) (fun c28 => ?_)
    · refine J_iconst (nI 0) (by decide) dX11_points_55 ?_
      exact J_ireturn dX11_points_56 rfl (hQ) (by decide) (by decide) (fun _ => rfl)
    · exact absurd c28 (by decide)
  · refine J_iload_n (by rfl) dX11_points_9 ?_
    refine J_iconst (nI 1) (by decide) dX11_points_10 ?_
    refine J_bipush (nI 9) (by decide) dX11_points_11 ?_
    refine J_S3v dX11_points_13 s_X11_51 m_X11_isIn rfl (c_X11_isIn z (jKv_i ?_))
    refine J_if_ne_b 23 dX11_points_16 (by decide) (fun c16 => ?_) (fun c16 => ?_)
    · refine J_iconst (nI 0) (by decide) dX11_points_23 ?_
      refine J_iconst (nI 1) (by decide) dX11_points_24 ?_
      refine J_V2v (ci := 11) dX11_points_25 s_X11_63 m_X11_isThrown rfl (by repeat (first | assumption | exact jget_same2 (by (try simp only [List.length_set]); exact jlt (by assumption)) | refine jget_ne (by first | decide | assumption | omega) ?_)) rfl (c_X11_isThrown false hM (jKv_i ?_))
      refine J_if_ne_b 55 dX11_points_28 (by decide) (fun c28 => ?_) (fun c28 => ?_)
      · exact absurd c28 (by decide)
      · refine J_aload_n (by rfl) (by rfl) dX11_points_31 ?_
        refine J_aload_n (by rfl) (by rfl) dX11_points_32 ?_
        refine J_get dX11_points_33 f_X11_9 (by repeat (first | assumption | exact jget_same2 (by (try simp only [List.length_set]); exact jlt (by assumption)) | refine jget_ne (by first | decide | assumption | omega) ?_)) (by rfl) ?_
        refine J_iconst (nI 0) (by decide) dX11_points_36 ?_
        refine J_iald_n (0) dX11_points_37 (by repeat (first | assumption | exact jget_same2 (by (try simp only [List.length_set]); exact jlt (by assumption)) | refine jget_ne (by first | decide | assumption | omega) ?_)) (by first | rfl | (simp only [pk_mul, nI_add]; done) | (simp only [pk_mul, nI_add]; congr 1; omega) | (congr 1; omega)) (by omega) ?_
        refine J_bipush (nI 12) (by decide) dX11_points_38 ?_
        refine J_icmp_ne_n 47 dX11_points_40 (by decide) (fun c40 => ?_) (fun c40 => ?_)
        · have hT : T0 s x y z = 0 := by simp only [T0, c6, c16, Bool.and_self, if_true]; rw [if_neg c40]
          rw [hT, if_pos rfl, if_pos rfl] at hQ
          unfold N0 at hQ
          obtain ⟨a, b, rfl, rfl, ha, hb, e1, e2⟩ := isP_t c6
          obtain ⟨c, rfl, _, hc, e3⟩ := inB_t c16 (by decide) (by decide)
          rw [e1, e2, e3] at hQ
          refine J_iconst (nI 0) (by decide) dX11_points_47 ?_
          refine J_iconst (nI 2) (by decide) dX11_points_48 ?_
          refine J_V2v (ci := 11) dX11_points_49 s_X11_63 m_X11_isThrown rfl (by repeat (first | assumption | exact jget_same2 (by (try simp only [List.length_set]); exact jlt (by assumption)) | refine jget_ne (by first | decide | assumption | omega) ?_)) rfl (c_X11_isThrown false (by repeat (first | assumption | exact jget_same2 (by (try simp only [List.length_set]); exact jlt (by assumption)) | refine jget_ne (by first | decide | assumption | omega) ?_)) (jKv_i ?_))
          refine J_if_eq_b 57 dX11_points_52 (by decide) (fun c52 => ?_) (fun c52 => ?_)
          · refine J_bipush (nI 12) (by decide) dX11_points_57 ?_
            refine J_iconst (nI 3) (by decide) dX11_points_59 ?_
            refine J_aload_n (by rfl) (by rfl) dX11_points_60 ?_
            refine J_get dX11_points_61 f_X11_9 (by repeat (first | assumption | exact jget_same2 (by (try simp only [List.length_set]); exact jlt (by assumption)) | refine jget_ne (by first | decide | assumption | omega) ?_)) (by rfl) ?_
            refine J_iconst (nI 0) (by decide) dX11_points_64 ?_
            refine J_iald_n (0) dX11_points_65 (by repeat (first | assumption | exact jget_same2 (by (try simp only [List.length_set]); exact jlt (by assumption)) | refine jget_ne (by first | decide | assumption | omega) ?_)) (by first | rfl | (simp only [pk_mul, nI_add]; done) | (simp only [pk_mul, nI_add]; congr 1; omega) | (congr 1; omega)) (by omega) ?_
            refine J_imul dX11_points_66 ?_
            try rw [pk_mul]
            refine J_iadd dX11_points_67 ?_
            try rw [nI_add]
            refine J_istore_4 dX11_points_68 ?_
            refine J_aload_n (by rfl) (by rfl) dX11_points_70 ?_
            refine J_get dX11_points_71 f_X11_9 (by repeat (first | assumption | exact jget_same2 (by (try simp only [List.length_set]); exact jlt (by assumption)) | refine jget_ne (by first | decide | assumption | omega) ?_)) (by rfl) ?_
            refine J_iload (by rfl) dX11_points_74 ?_
            refine J_iconst (nI 0) (by decide) dX11_points_76 ?_
            refine J_iadd dX11_points_77 ?_
            try rw [nI_add]
            refine J_iload_n (by rfl) dX11_points_78 ?_
            refine J_iast_n (12 + 3 * s 0) dX11_points_79 (by repeat (first | assumption | exact jget_same2 (by (try simp only [List.length_set]); exact jlt (by assumption)) | refine jget_ne (by first | decide | assumption | omega) ?_)) (by first | rfl | (simp only [pk_mul, nI_add]; done) | (simp only [pk_mul, nI_add]; congr 1; omega) | (congr 1; omega)) (by omega) ?_
            refine J_aload_n (by rfl) (by rfl) dX11_points_80 ?_
            refine J_get dX11_points_81 f_X11_9 (by repeat (first | assumption | exact jget_same2 (by (try simp only [List.length_set]); exact jlt (by assumption)) | refine jget_ne (by first | decide | assumption | omega) ?_)) (by rfl) ?_
            refine J_iload (by rfl) dX11_points_84 ?_
            refine J_iconst (nI 1) (by decide) dX11_points_86 ?_
            refine J_iadd dX11_points_87 ?_
            try rw [nI_add]
            refine J_iload_n (by rfl) dX11_points_88 ?_
            refine J_iast_n (12 + 3 * s 0 + 1) dX11_points_89 (by repeat (first | assumption | exact jget_same2 (by (try simp only [List.length_set]); exact jlt (by assumption)) | refine jget_ne (by first | decide | assumption | omega) ?_)) (by first | rfl | (simp only [pk_mul, nI_add]; done) | (simp only [pk_mul, nI_add]; congr 1; omega) | (congr 1; omega)) (by omega) ?_
            refine J_aload_n (by rfl) (by rfl) dX11_points_90 ?_
            refine J_get dX11_points_91 f_X11_9 (by repeat (first | assumption | exact jget_same2 (by (try simp only [List.length_set]); exact jlt (by assumption)) | refine jget_ne (by first | decide | assumption | omega) ?_)) (by rfl) ?_
            refine J_iload (by rfl) dX11_points_94 ?_
            refine J_iconst (nI 2) (by decide) dX11_points_96 ?_
            refine J_iadd dX11_points_97 ?_
            try rw [nI_add]
            refine J_iload_n (by rfl) dX11_points_98 ?_
            refine J_iast_n (12 + 3 * s 0 + 2) dX11_points_99 (by repeat (first | assumption | exact jget_same2 (by (try simp only [List.length_set]); exact jlt (by assumption)) | refine jget_ne (by first | decide | assumption | omega) ?_)) (by first | rfl | (simp only [pk_mul, nI_add]; done) | (simp only [pk_mul, nI_add]; congr 1; omega) | (congr 1; omega)) (by omega) ?_
            refine J_aload_n (by rfl) (by rfl) dX11_points_100 ?_
            refine J_get dX11_points_101 f_X11_9 (by repeat (first | assumption | exact jget_same2 (by (try simp only [List.length_set]); exact jlt (by assumption)) | refine jget_ne (by first | decide | assumption | omega) ?_)) (by rfl) ?_
            refine J_iconst (nI 0) (by decide) dX11_points_104 ?_
            refine J_dup2 (by rfl) (by rfl) dX11_points_105 ?_
            refine J_iald_n (0) dX11_points_106 (by repeat (first | assumption | exact jget_same2 (by (try simp only [List.length_set]); exact jlt (by assumption)) | refine jget_ne (by first | decide | assumption | omega) ?_)) (by first | rfl | (simp only [pk_mul, nI_add]; done) | (simp only [pk_mul, nI_add]; congr 1; omega) | (congr 1; omega)) (by omega) ?_
            refine J_topi (nI (s 0)) (by rw [updN_n (by omega), updN_n (by omega), updN_n (by omega)]) ?_
            refine J_iconst (nI 1) (by decide) dX11_points_107 ?_
            refine J_iadd dX11_points_108 ?_
            try rw [nI_add]
            refine J_iast_n (0) dX11_points_109 (by repeat (first | assumption | exact jget_same2 (by (try simp only [List.length_set]); exact jlt (by assumption)) | refine jget_ne (by first | decide | assumption | omega) ?_)) (by first | rfl | (simp only [pk_mul, nI_add]; done) | (simp only [pk_mul, nI_add]; congr 1; omega) | (congr 1; omega)) (by omega) ?_
            refine J_aload_n (by rfl) (by rfl) dX11_points_110 ?_
            refine J_get dX11_points_111 f_X11_9 (by repeat (first | assumption | exact jget_same2 (by (try simp only [List.length_set]); exact jlt (by assumption)) | refine jget_ne (by first | decide | assumption | omega) ?_)) (by rfl) ?_
            refine J_iconst (nI 0) (by decide) dX11_points_114 ?_
            refine J_iald_n (0) dX11_points_115 (by repeat (first | assumption | exact jget_same2 (by (try simp only [List.length_set]); exact jlt (by assumption)) | refine jget_ne (by first | decide | assumption | omega) ?_)) (by first | rfl | (simp only [pk_mul, nI_add]; done) | (simp only [pk_mul, nI_add]; congr 1; omega) | (congr 1; omega)) (by omega) ?_
            refine J_topi (nI (s 0 + 1)) (by rw [updN_s]) ?_
            refine J_iconst (nI 1) (by decide) dX11_points_116 ?_
            refine J_isub_n (by omega) dX11_points_117 ?_
            exact J_ireturn dX11_points_118 rfl (by simp only [List.set_set, jsw (i := 116) (j := 117) (by decide), jsw (i := 116) (j := 118) (by decide), jsw (i := 116) (j := 120) (by decide), jsw (i := 116) (j := 121) (by decide), jsw (i := 117) (j := 118) (by decide), jsw (i := 117) (j := 120) (by decide), jsw (i := 117) (j := 121) (by decide), jsw (i := 118) (j := 120) (by decide), jsw (i := 118) (j := 121) (by decide), jsw (i := 120) (j := 121) (by decide)]; exact hQ) (by decide) (by decide) (fun _ => rfl)
          · exact absurd c52 (by decide)
        · have hT : T0 s x y z = 2 := by simp only [T0, c6, c16, Bool.and_self, if_true]; rw [if_pos c40]
          rw [hT, if_neg (by decide), if_neg (by decide), hS_id hS] at hQ
          refine J_iconst (nI 1) (by decide) dX11_points_43 ?_
          refine J_goto 48 dX11_points_44 (by decide) ?_
          refine J_iconst (nI 2) (by decide) dX11_points_48 ?_
          refine J_V2v (ci := 11) dX11_points_49 s_X11_63 m_X11_isThrown rfl (by repeat (first | assumption | exact jget_same2 (by (try simp only [List.length_set]); exact jlt (by assumption)) | refine jget_ne (by first | decide | assumption | omega) ?_)) rfl (c_X11_isThrown true (by repeat (first | assumption | exact jget_same2 (by (try simp only [List.length_set]); exact jlt (by assumption)) | refine jget_ne (by first | decide | assumption | omega) ?_)) (jKv_i ?_))
          refine J_if_eq_b 57 dX11_points_52 (by decide) (fun c52 => ?_) (fun c52 => ?_)
          · exact absurd c52 (by decide)
          · refine J_iconst (nI 0) (by decide) dX11_points_55 ?_
            exact J_ireturn dX11_points_56 rfl (by simp only [List.set_set, jsw (i := 116) (j := 117) (by decide), jsw (i := 116) (j := 118) (by decide), jsw (i := 116) (j := 120) (by decide), jsw (i := 116) (j := 121) (by decide), jsw (i := 117) (j := 118) (by decide), jsw (i := 117) (j := 120) (by decide), jsw (i := 117) (j := 121) (by decide), jsw (i := 118) (j := 120) (by decide), jsw (i := 118) (j := 121) (by decide), jsw (i := 120) (j := 121) (by decide)]; exact hQ) (by decide) (by decide) (fun _ => rfl)
    · rw [show T0 s x y z = 1 by simp [T0, c16], if_neg (by decide), if_neg (by decide), hS_id hS] at hQ
      refine J_iconst (nI 1) (by decide) dX11_points_19 ?_
      refine J_goto 24 dX11_points_20 (by decide) ?_
      refine J_iconst (nI 1) (by decide) dX11_points_24 ?_
      refine J_V2v (ci := 11) dX11_points_25 s_X11_63 m_X11_isThrown rfl (by repeat (first | assumption | exact jget_same2 (by (try simp only [List.length_set]); exact jlt (by assumption)) | refine jget_ne (by first | decide | assumption | omega) ?_)) rfl (c_X11_isThrown true hM (jKv_i ?_))
      refine J_if_ne_b 55 dX11_points_28 (by decide) (fun c28 => ?_) (fun c28 => ?_)
      · refine J_iconst (nI 0) (by decide) dX11_points_55 ?_
        exact J_ireturn dX11_points_56 rfl (hQ) (by decide) (by decide) (fun _ => rfl)
      · exact absurd c28 (by decide)
theorem c_X11_joins (x y z : Int32) (hI : Inv K s) (hM : h[116]? = some (hMo ch th ea fa an sv ln tp he cm)) (hS : h[117]? = some (ia 204 s))
    (hQ : Q (.inl (some (.int (nI (if T1 s x y z = 0 then mT (wS (N1 s x y z)) else 0))))) ((h.set 116 (hMo ch (T1 s x y z) ea fa an sv ln tp he cm)).set 117 (ia 204 (if T1 s x y z = 0 then N1 s x y z else s)))) : jCT G M_X11_joins 3 0 0 X [.ref 116, .int x, .int y, .int z] h Q := by
  refine jCT_of [some (.ref 116), some (.int x), some (.int y), some (.int z)] 0 rfl (by decide +kernel) rfl rfl ?_
  have hn := hI.n12
  refine J_aload_n (by rfl) (by rfl) dX11_joins_0 ?_
  refine J_aload_n (by rfl) (by rfl) dX11_joins_1 ?_
  refine J_iload_n (by rfl) dX11_joins_2 ?_
  refine J_V1v (ci := 11) dX11_joins_3 s_X11_78 m_X11_isPoint rfl (by repeat (first | assumption | exact jget_same2 (by (try simp only [List.length_set]); exact jlt (by assumption)) | refine jget_ne (by first | decide | assumption | omega) ?_)) rfl (c_X11_isPoint x hn hM hS (jKv_i ?_))
  refine J_if_eq_b 17 dX11_joins_6 (by decide) (fun c6 => ?_) (fun c6 => ?_)
  · rw [show T1 s x y z = 1 by simp [T1, both, c6], if_neg (by decide), if_neg (by decide), hS_id hS] at hQ
    refine J_iconst (nI 1) (by decide) dX11_joins_17 ?_
    refine J_goto 22 dX11_joins_18 (by decide) ?_
    refine J_iconst (nI 1) (by decide) dX11_joins_22 ?_
    refine J_V2v (ci := 11) dX11_joins_23 s_X11_63 m_X11_isThrown rfl (by repeat (first | assumption | exact jget_same2 (by (try simp only [List.length_set]); exact jlt (by assumption)) | refine jget_ne (by first | decide | assumption | omega) ?_)) rfl (c_X11_isThrown true hM (jKv_i ?_))
    refine J_if_ne_b 79 dX11_joins_26 (by decide) (fun c26 => ?_) (fun c26 => ?_)
    · refine J_iconst (nI 0) (by decide) dX11_joins_79 ?_
      exact J_ireturn dX11_joins_80 rfl (hQ) (by decide) (by decide) (fun _ => rfl)
    · exact absurd c26 (by decide)
  · refine J_aload_n (by rfl) (by rfl) dX11_joins_9 ?_
    refine J_iload_n (by rfl) dX11_joins_10 ?_
    refine J_V1v (ci := 11) dX11_joins_11 s_X11_78 m_X11_isPoint rfl (by repeat (first | assumption | exact jget_same2 (by (try simp only [List.length_set]); exact jlt (by assumption)) | refine jget_ne (by first | decide | assumption | omega) ?_)) rfl (c_X11_isPoint y hn hM hS (jKv_i ?_))
    refine J_if_ne_b 21 dX11_joins_14 (by decide) (fun c14 => ?_) (fun c14 => ?_)
    · obtain ⟨i, j, rfl, rfl, hi, hj, e1, e2⟩ := both_t hn c6 c14
      refine J_iconst (nI 0) (by decide) dX11_joins_21 ?_
      refine J_iconst (nI 1) (by decide) dX11_joins_22 ?_
      refine J_V2v (ci := 11) dX11_joins_23 s_X11_63 m_X11_isThrown rfl (by repeat (first | assumption | exact jget_same2 (by (try simp only [List.length_set]); exact jlt (by assumption)) | refine jget_ne (by first | decide | assumption | omega) ?_)) rfl (c_X11_isThrown false hM (jKv_i ?_))
      refine J_if_ne_b 79 dX11_joins_26 (by decide) (fun c26 => ?_) (fun c26 => ?_)
      · exact absurd c26 (by decide)
      · refine J_aload_n (by rfl) (by rfl) dX11_joins_29 ?_
        refine J_iload_n (by rfl) dX11_joins_30 ?_
        refine J_iload_n (by rfl) dX11_joins_31 ?_
        refine J_icmp_eq_n 45 dX11_joins_32 (by decide) (fun c32 => ?_) (fun c32 => ?_)
        · have hT : T1 s (nI i) (nI j) z = 2 := by simp only [T1, both, c6, c14, Bool.and_self, if_true]; rw [if_pos (.inl (by rw [c32]))]
          rw [hT, if_neg (by decide), if_neg (by decide), hS_id hS] at hQ
          refine J_iconst (nI 1) (by decide) dX11_joins_45 ?_
          refine J_goto 50 dX11_joins_46 (by decide) ?_
          refine J_iconst (nI 2) (by decide) dX11_joins_50 ?_
          refine J_V2v (ci := 11) dX11_joins_51 s_X11_63 m_X11_isThrown rfl (by repeat (first | assumption | exact jget_same2 (by (try simp only [List.length_set]); exact jlt (by assumption)) | refine jget_ne (by first | decide | assumption | omega) ?_)) rfl (c_X11_isThrown true (by repeat (first | assumption | exact jget_same2 (by (try simp only [List.length_set]); exact jlt (by assumption)) | refine jget_ne (by first | decide | assumption | omega) ?_)) (jKv_i ?_))
          refine J_if_ne_b 79 dX11_joins_54 (by decide) (fun c54 => ?_) (fun c54 => ?_)
          · refine J_iconst (nI 0) (by decide) dX11_joins_79 ?_
            exact J_ireturn dX11_joins_80 rfl (by simp only [List.set_set, jsw (i := 116) (j := 117) (by decide), jsw (i := 116) (j := 118) (by decide), jsw (i := 116) (j := 120) (by decide), jsw (i := 116) (j := 121) (by decide), jsw (i := 117) (j := 118) (by decide), jsw (i := 117) (j := 120) (by decide), jsw (i := 117) (j := 121) (by decide), jsw (i := 118) (j := 120) (by decide), jsw (i := 118) (j := 121) (by decide), jsw (i := 120) (j := 121) (by decide)]; exact hQ) (by decide) (by decide) (fun _ => rfl)
          · exact absurd c54 (by decide)
        · have hne : ¬ nI i = nI j := fun q => c32 ((nI_eq (by omega) (by omega)).mp q)
          refine J_iload_n (by rfl) dX11_joins_35 ?_
          refine J_iconst (nI 1) (by decide) dX11_joins_36 ?_
          refine J_bipush (nI 99) (by decide) dX11_joins_37 ?_
          refine J_S3v dX11_joins_39 s_X11_51 m_X11_isIn rfl (c_X11_isIn z (jKv_i ?_))
          refine J_if_ne_b 49 dX11_joins_42 (by decide) (fun c42 => ?_) (fun c42 => ?_)
          · refine J_iconst (nI 0) (by decide) dX11_joins_49 ?_
            refine J_iconst (nI 2) (by decide) dX11_joins_50 ?_
            refine J_V2v (ci := 11) dX11_joins_51 s_X11_63 m_X11_isThrown rfl (by repeat (first | assumption | exact jget_same2 (by (try simp only [List.length_set]); exact jlt (by assumption)) | refine jget_ne (by first | decide | assumption | omega) ?_)) rfl (c_X11_isThrown false (by repeat (first | assumption | exact jget_same2 (by (try simp only [List.length_set]); exact jlt (by assumption)) | refine jget_ne (by first | decide | assumption | omega) ?_)) (jKv_i ?_))
            refine J_if_ne_b 79 dX11_joins_54 (by decide) (fun c54 => ?_) (fun c54 => ?_)
            · exact absurd c54 (by decide)
            · have hl := hI.lt (i * 12 + j) (by omega)
              refine J_aload_n (by rfl) (by rfl) dX11_joins_57 ?_
              refine J_aload_n (by rfl) (by rfl) dX11_joins_58 ?_
              refine J_iload_n (by rfl) dX11_joins_59 ?_
              refine J_iload_n (by rfl) dX11_joins_60 ?_
              refine J_V2v (ci := 11) dX11_joins_61 s_X11_55 m_X11_trail rfl (by repeat (first | assumption | exact jget_same2 (by (try simp only [List.length_set]); exact jlt (by assumption)) | refine jget_ne (by first | decide | assumption | omega) ?_)) rfl (c_X11_trail (w := wS s) (i := i) (j := j) (by omega) (by omega) (fun _ _ => rfl) (by repeat (first | assumption | exact jget_same2 (by (try simp only [List.length_set]); exact jlt (by assumption)) | refine jget_ne (by first | decide | assumption | omega) ?_)) (by repeat (first | assumption | exact jget_same2 (by (try simp only [List.length_set]); exact jlt (by assumption)) | refine jget_ne (by first | decide | assumption | omega) ?_)) (jKv_i ?_))
              refine J_if_le_n 71 dX11_joins_64 (by decide) (fun c64 => ?_) (fun c64 => ?_)
              · have hT : T1 s (nI i) (nI j) z = 0 := by simp only [T1, both, c6, c14, Bool.and_self, if_true, e1, e2]; rw [if_neg (by rw [c42]; simp [hne]), if_neg (by omega)]
                rw [hT, if_pos rfl, if_pos rfl] at hQ
                unfold N1 at hQ
                obtain ⟨c, rfl, _, hc, e3⟩ := inB_t c42 (by decide) (by decide)
                rw [e1, e2, e3] at hQ
                have hlt : ∀ k, k < 144 → wS (setT s i j c) k < 2 ^ 31 := fun k hk => by
                  have := hI.lt k hk
                  unfold wS setT updN at *
                  repeat' split
                  all_goals omega
                refine J_iconst (nI 0) (by decide) dX11_joins_71 ?_
                refine J_iconst (nI 3) (by decide) dX11_joins_72 ?_
                refine J_V2v (ci := 11) dX11_joins_73 s_X11_63 m_X11_isThrown rfl (by repeat (first | assumption | exact jget_same2 (by (try simp only [List.length_set]); exact jlt (by assumption)) | refine jget_ne (by first | decide | assumption | omega) ?_)) rfl (c_X11_isThrown false (by repeat (first | assumption | exact jget_same2 (by (try simp only [List.length_set]); exact jlt (by assumption)) | refine jget_ne (by first | decide | assumption | omega) ?_)) (jKv_i ?_))
                refine J_if_eq_b 81 dX11_joins_76 (by decide) (fun c76 => ?_) (fun c76 => ?_)
                · refine J_aload_n (by rfl) (by rfl) dX11_joins_81 ?_
                  refine J_iload_n (by rfl) dX11_joins_82 ?_
                  refine J_iload_n (by rfl) dX11_joins_83 ?_
                  refine J_iload_n (by rfl) dX11_joins_84 ?_
                  refine J_V30 (ci := 11) dX11_joins_85 s_X11_82 m_X11_setsTrail rfl (by repeat (first | assumption | exact jget_same2 (by (try simp only [List.length_set]); exact jlt (by assumption)) | refine jget_ne (by first | decide | assumption | omega) ?_)) rfl (c_X11_setsTrail (i := i) (j := j) (by omega) (by omega) (by repeat (first | assumption | exact jget_same2 (by (try simp only [List.length_set]); exact jlt (by assumption)) | refine jget_ne (by first | decide | assumption | omega) ?_)) (by repeat (first | assumption | exact jget_same2 (by (try simp only [List.length_set]); exact jlt (by assumption)) | refine jget_ne (by first | decide | assumption | omega) ?_)) (jK0_i ?_))
                  refine J_aload_n (by rfl) (by rfl) dX11_joins_88 ?_
                  refine J_V0v (ci := 11) dX11_joins_89 s_X11_86 m_X11_manyTrails rfl (by repeat (first | assumption | exact jget_same2 (by (try simp only [List.length_set]); exact jlt (by assumption)) | refine jget_ne (by first | decide | assumption | omega) ?_)) rfl (c_X11_manyTrails (w := wS (setT s i j c)) hlt (fun _ _ => rfl) (by repeat (first | assumption | exact jget_same2 (by (try simp only [List.length_set]); exact jlt (by assumption)) | refine jget_ne (by first | decide | assumption | omega) ?_)) (by repeat (first | assumption | exact jget_same2 (by (try simp only [List.length_set]); exact jlt (by assumption)) | refine jget_ne (by first | decide | assumption | omega) ?_)) (jKv_i ?_))
                  exact J_ireturn dX11_joins_92 rfl (by simp only [List.set_set, jsw (i := 116) (j := 117) (by decide), jsw (i := 116) (j := 118) (by decide), jsw (i := 116) (j := 120) (by decide), jsw (i := 116) (j := 121) (by decide), jsw (i := 117) (j := 118) (by decide), jsw (i := 117) (j := 120) (by decide), jsw (i := 117) (j := 121) (by decide), jsw (i := 118) (j := 120) (by decide), jsw (i := 118) (j := 121) (by decide), jsw (i := 120) (j := 121) (by decide)]; exact hQ) (by decide) (by decide) (fun _ => rfl)
                · exact absurd c76 (by decide)
              · have hT : T1 s (nI i) (nI j) z = 3 := by simp only [T1, both, c6, c14, Bool.and_self, if_true, e1, e2]; rw [if_neg (by rw [c42]; simp [hne]), if_pos c64]
                rw [hT, if_neg (by decide), if_neg (by decide), hS_id hS] at hQ
                refine J_iconst (nI 1) (by decide) dX11_joins_67 ?_
                refine J_goto 72 dX11_joins_68 (by decide) ?_
                refine J_iconst (nI 3) (by decide) dX11_joins_72 ?_
                refine J_V2v (ci := 11) dX11_joins_73 s_X11_63 m_X11_isThrown rfl (by repeat (first | assumption | exact jget_same2 (by (try simp only [List.length_set]); exact jlt (by assumption)) | refine jget_ne (by first | decide | assumption | omega) ?_)) rfl (c_X11_isThrown true (by repeat (first | assumption | exact jget_same2 (by (try simp only [List.length_set]); exact jlt (by assumption)) | refine jget_ne (by first | decide | assumption | omega) ?_)) (jKv_i ?_))
                refine J_if_eq_b 81 dX11_joins_76 (by decide) (fun c76 => ?_) (fun c76 => ?_)
                · exact absurd c76 (by decide)
                · refine J_iconst (nI 0) (by decide) dX11_joins_79 ?_
                  exact J_ireturn dX11_joins_80 rfl (by simp only [List.set_set, jsw (i := 116) (j := 117) (by decide), jsw (i := 116) (j := 118) (by decide), jsw (i := 116) (j := 120) (by decide), jsw (i := 116) (j := 121) (by decide), jsw (i := 117) (j := 118) (by decide), jsw (i := 117) (j := 120) (by decide), jsw (i := 117) (j := 121) (by decide), jsw (i := 118) (j := 120) (by decide), jsw (i := 118) (j := 121) (by decide), jsw (i := 120) (j := 121) (by decide)]; exact hQ) (by decide) (by decide) (fun _ => rfl)
          · have hT : T1 s (nI i) (nI j) z = 2 := by simp only [T1, both, c6, c14, Bool.and_self, if_true]; rw [if_pos (.inr c42)]
            rw [hT, if_neg (by decide), if_neg (by decide), hS_id hS] at hQ
            refine J_iconst (nI 1) (by decide) dX11_joins_45 ?_
            refine J_goto 50 dX11_joins_46 (by decide) ?_
            refine J_iconst (nI 2) (by decide) dX11_joins_50 ?_
            refine J_V2v (ci := 11) dX11_joins_51 s_X11_63 m_X11_isThrown rfl (by repeat (first | assumption | exact jget_same2 (by (try simp only [List.length_set]); exact jlt (by assumption)) | refine jget_ne (by first | decide | assumption | omega) ?_)) rfl (c_X11_isThrown true (by repeat (first | assumption | exact jget_same2 (by (try simp only [List.length_set]); exact jlt (by assumption)) | refine jget_ne (by first | decide | assumption | omega) ?_)) (jKv_i ?_))
            refine J_if_ne_b 79 dX11_joins_54 (by decide) (fun c54 => ?_) (fun c54 => ?_)
            · refine J_iconst (nI 0) (by decide) dX11_joins_79 ?_
              exact J_ireturn dX11_joins_80 rfl (by simp only [List.set_set, jsw (i := 116) (j := 117) (by decide), jsw (i := 116) (j := 118) (by decide), jsw (i := 116) (j := 120) (by decide), jsw (i := 116) (j := 121) (by decide), jsw (i := 117) (j := 118) (by decide), jsw (i := 117) (j := 120) (by decide), jsw (i := 117) (j := 121) (by decide), jsw (i := 118) (j := 120) (by decide), jsw (i := 118) (j := 121) (by decide), jsw (i := 120) (j := 121) (by decide)]; exact hQ) (by decide) (by decide) (fun _ => rfl)
            · exact absurd c54 (by decide)
    · rw [show T1 s x y z = 1 by simp [T1, both, c14], if_neg (by decide), if_neg (by decide), hS_id hS] at hQ
      refine J_iconst (nI 1) (by decide) dX11_joins_17 ?_
      refine J_goto 22 dX11_joins_18 (by decide) ?_
      refine J_iconst (nI 1) (by decide) dX11_joins_22 ?_
      refine J_V2v (ci := 11) dX11_joins_23 s_X11_63 m_X11_isThrown rfl (by repeat (first | assumption | exact jget_same2 (by (try simp only [List.length_set]); exact jlt (by assumption)) | refine jget_ne (by first | decide | assumption | omega) ?_)) rfl (c_X11_isThrown true hM (jKv_i ?_))
      refine J_if_ne_b 79 dX11_joins_26 (by decide) (fun c26 => ?_) (fun c26 => ?_)
      · refine J_iconst (nI 0) (by decide) dX11_joins_79 ?_
        exact J_ireturn dX11_joins_80 rfl (hQ) (by decide) (by decide) (fun _ => rfl)
      · exact absurd c26 (by decide)
theorem c_X11_cuts (x y : Int32) (hI : Inv K s) (hM : h[116]? = some (hMo ch th ea fa an sv ln tp he cm)) (hS : h[117]? = some (ia 204 s))
    (hQ : Q (.inl (some (.int (nI (if T2 s x y = 0 then wS s (nP x * 12 + nP y) else 0))))) ((h.set 116 (hMo ch (T2 s x y) ea fa an sv ln tp he cm)).set 117 (ia 204 (if T2 s x y = 0 then N2 s x y else s)))) : jCT G M_X11_cuts 3 0 0 X [.ref 116, .int x, .int y] h Q := by
  refine jCT_of [some (.ref 116), some (.int x), some (.int y), none] 1 rfl (by decide +kernel) rfl rfl ?_
  have hn := hI.n12
  refine J_aload_n (by rfl) (by rfl) dX11_cuts_0 ?_
  refine J_aload_n (by rfl) (by rfl) dX11_cuts_1 ?_
  refine J_iload_n (by rfl) dX11_cuts_2 ?_
  refine J_V1v (ci := 11) dX11_cuts_3 s_X11_78 m_X11_isPoint rfl (by repeat (first | assumption | exact jget_same2 (by (try simp only [List.length_set]); exact jlt (by assumption)) | refine jget_ne (by first | decide | assumption | omega) ?_)) rfl (c_X11_isPoint x hn hM hS (jKv_i ?_))
  refine J_if_eq_b 17 dX11_cuts_6 (by decide) (fun c6 => ?_) (fun c6 => ?_)
  · rw [show T2 s x y = 1 by simp [T2, both, c6], if_neg (by decide), if_neg (by decide), hS_id hS] at hQ
    refine J_iconst (nI 1) (by decide) dX11_cuts_17 ?_
    refine J_goto 22 dX11_cuts_18 (by decide) ?_
    refine J_iconst (nI 1) (by decide) dX11_cuts_22 ?_
    refine J_V2v (ci := 11) dX11_cuts_23 s_X11_63 m_X11_isThrown rfl (by repeat (first | assumption | exact jget_same2 (by (try simp only [List.length_set]); exact jlt (by assumption)) | refine jget_ne (by first | decide | assumption | omega) ?_)) rfl (c_X11_isThrown true hM (jKv_i ?_))
    refine J_if_ne_b 51 dX11_cuts_26 (by decide) (fun c26 => ?_) (fun c26 => ?_)
    · refine J_iconst (nI 0) (by decide) dX11_cuts_51 ?_
      exact J_ireturn dX11_cuts_52 rfl (hQ) (by decide) (by decide) (fun _ => rfl)
    · exact absurd c26 (by decide)
  · refine J_aload_n (by rfl) (by rfl) dX11_cuts_9 ?_
    refine J_iload_n (by rfl) dX11_cuts_10 ?_
    refine J_V1v (ci := 11) dX11_cuts_11 s_X11_78 m_X11_isPoint rfl (by repeat (first | assumption | exact jget_same2 (by (try simp only [List.length_set]); exact jlt (by assumption)) | refine jget_ne (by first | decide | assumption | omega) ?_)) rfl (c_X11_isPoint y hn hM hS (jKv_i ?_))
    refine J_if_ne_b 21 dX11_cuts_14 (by decide) (fun c14 => ?_) (fun c14 => ?_)
    · obtain ⟨i, j, rfl, rfl, hi, hj, e1, e2⟩ := both_t hn c6 c14
      refine J_iconst (nI 0) (by decide) dX11_cuts_21 ?_
      refine J_iconst (nI 1) (by decide) dX11_cuts_22 ?_
      refine J_V2v (ci := 11) dX11_cuts_23 s_X11_63 m_X11_isThrown rfl (by repeat (first | assumption | exact jget_same2 (by (try simp only [List.length_set]); exact jlt (by assumption)) | refine jget_ne (by first | decide | assumption | omega) ?_)) rfl (c_X11_isThrown false hM (jKv_i ?_))
      refine J_if_ne_b 51 dX11_cuts_26 (by decide) (fun c26 => ?_) (fun c26 => ?_)
      · exact absurd c26 (by decide)
      · have hl := hI.lt (i * 12 + j) (by omega)
        refine J_aload_n (by rfl) (by rfl) dX11_cuts_29 ?_
        refine J_aload_n (by rfl) (by rfl) dX11_cuts_30 ?_
        refine J_iload_n (by rfl) dX11_cuts_31 ?_
        refine J_iload_n (by rfl) dX11_cuts_32 ?_
        refine J_V2v (ci := 11) dX11_cuts_33 s_X11_55 m_X11_trail rfl (by repeat (first | assumption | exact jget_same2 (by (try simp only [List.length_set]); exact jlt (by assumption)) | refine jget_ne (by first | decide | assumption | omega) ?_)) rfl (c_X11_trail (w := wS s) (i := i) (j := j) (by omega) (by omega) (fun _ _ => rfl) (by repeat (first | assumption | exact jget_same2 (by (try simp only [List.length_set]); exact jlt (by assumption)) | refine jget_ne (by first | decide | assumption | omega) ?_)) (by repeat (first | assumption | exact jget_same2 (by (try simp only [List.length_set]); exact jlt (by assumption)) | refine jget_ne (by first | decide | assumption | omega) ?_)) (jKv_i ?_))
        refine J_if_ne_n 43 dX11_cuts_36 (by decide) (fun c36 => ?_) (fun c36 => ?_)
        · have hT : T2 s (nI i) (nI j) = 0 := by simp only [T2, both, c6, c14, Bool.and_self, if_true, e1, e2]; rw [if_neg (by omega)]
          rw [hT, if_pos rfl, if_pos rfl] at hQ
          unfold N2 at hQ
          rw [e1, e2] at hQ
          refine J_iconst (nI 0) (by decide) dX11_cuts_43 ?_
          refine J_iconst (nI 2) (by decide) dX11_cuts_44 ?_
          refine J_V2v (ci := 11) dX11_cuts_45 s_X11_63 m_X11_isThrown rfl (by repeat (first | assumption | exact jget_same2 (by (try simp only [List.length_set]); exact jlt (by assumption)) | refine jget_ne (by first | decide | assumption | omega) ?_)) rfl (c_X11_isThrown false (by repeat (first | assumption | exact jget_same2 (by (try simp only [List.length_set]); exact jlt (by assumption)) | refine jget_ne (by first | decide | assumption | omega) ?_)) (jKv_i ?_))
          refine J_if_eq_b 53 dX11_cuts_48 (by decide) (fun c48 => ?_) (fun c48 => ?_)
          · refine J_aload_n (by rfl) (by rfl) dX11_cuts_53 ?_
            refine J_iload_n (by rfl) dX11_cuts_54 ?_
            refine J_iload_n (by rfl) dX11_cuts_55 ?_
            refine J_V2v (ci := 11) dX11_cuts_56 s_X11_55 m_X11_trail rfl (by repeat (first | assumption | exact jget_same2 (by (try simp only [List.length_set]); exact jlt (by assumption)) | refine jget_ne (by first | decide | assumption | omega) ?_)) rfl (c_X11_trail (w := wS s) (i := i) (j := j) (by omega) (by omega) (fun _ _ => rfl) (by repeat (first | assumption | exact jget_same2 (by (try simp only [List.length_set]); exact jlt (by assumption)) | refine jget_ne (by first | decide | assumption | omega) ?_)) (by repeat (first | assumption | exact jget_same2 (by (try simp only [List.length_set]); exact jlt (by assumption)) | refine jget_ne (by first | decide | assumption | omega) ?_)) (jKv_i ?_))
            refine J_istore_3 dX11_cuts_59 ?_
            refine J_aload_n (by rfl) (by rfl) dX11_cuts_60 ?_
            refine J_iload_n (by rfl) dX11_cuts_61 ?_
            refine J_iload_n (by rfl) dX11_cuts_62 ?_
            refine J_iconst (nI 0) (by decide) dX11_cuts_63 ?_
            refine J_V30 (ci := 11) dX11_cuts_64 s_X11_82 m_X11_setsTrail rfl (by repeat (first | assumption | exact jget_same2 (by (try simp only [List.length_set]); exact jlt (by assumption)) | refine jget_ne (by first | decide | assumption | omega) ?_)) rfl (c_X11_setsTrail (i := i) (j := j) (v := 0) (by omega) (by omega) (by repeat (first | assumption | exact jget_same2 (by (try simp only [List.length_set]); exact jlt (by assumption)) | refine jget_ne (by first | decide | assumption | omega) ?_)) (by repeat (first | assumption | exact jget_same2 (by (try simp only [List.length_set]); exact jlt (by assumption)) | refine jget_ne (by first | decide | assumption | omega) ?_)) (jK0_i ?_))
            refine J_iload_n (by rfl) dX11_cuts_67 ?_
            exact J_ireturn dX11_cuts_68 rfl (by simp only [List.set_set, jsw (i := 116) (j := 117) (by decide), jsw (i := 116) (j := 118) (by decide), jsw (i := 116) (j := 120) (by decide), jsw (i := 116) (j := 121) (by decide), jsw (i := 117) (j := 118) (by decide), jsw (i := 117) (j := 120) (by decide), jsw (i := 117) (j := 121) (by decide), jsw (i := 118) (j := 120) (by decide), jsw (i := 118) (j := 121) (by decide), jsw (i := 120) (j := 121) (by decide)]; exact hQ) (by decide) (by decide) (fun _ => rfl)
          · exact absurd c48 (by decide)
        · have hT : T2 s (nI i) (nI j) = 2 := by simp only [T2, both, c6, c14, Bool.and_self, if_true, e1, e2]; rw [if_pos c36]
          rw [hT, if_neg (by decide), if_neg (by decide), hS_id hS] at hQ
          refine J_iconst (nI 1) (by decide) dX11_cuts_39 ?_
          refine J_goto 44 dX11_cuts_40 (by decide) ?_
          refine J_iconst (nI 2) (by decide) dX11_cuts_44 ?_
          refine J_V2v (ci := 11) dX11_cuts_45 s_X11_63 m_X11_isThrown rfl (by repeat (first | assumption | exact jget_same2 (by (try simp only [List.length_set]); exact jlt (by assumption)) | refine jget_ne (by first | decide | assumption | omega) ?_)) rfl (c_X11_isThrown true (by repeat (first | assumption | exact jget_same2 (by (try simp only [List.length_set]); exact jlt (by assumption)) | refine jget_ne (by first | decide | assumption | omega) ?_)) (jKv_i ?_))
          refine J_if_eq_b 53 dX11_cuts_48 (by decide) (fun c48 => ?_) (fun c48 => ?_)
          · exact absurd c48 (by decide)
          · refine J_iconst (nI 0) (by decide) dX11_cuts_51 ?_
            exact J_ireturn dX11_cuts_52 rfl (by simp only [List.set_set, jsw (i := 116) (j := 117) (by decide), jsw (i := 116) (j := 118) (by decide), jsw (i := 116) (j := 120) (by decide), jsw (i := 116) (j := 121) (by decide), jsw (i := 117) (j := 118) (by decide), jsw (i := 117) (j := 120) (by decide), jsw (i := 117) (j := 121) (by decide), jsw (i := 118) (j := 120) (by decide), jsw (i := 118) (j := 121) (by decide), jsw (i := 120) (j := 121) (by decide)]; exact hQ) (by decide) (by decide) (fun _ => rfl)
    · rw [show T2 s x y = 1 by simp [T2, both, c14], if_neg (by decide), if_neg (by decide), hS_id hS] at hQ
      refine J_iconst (nI 1) (by decide) dX11_cuts_17 ?_
      refine J_goto 22 dX11_cuts_18 (by decide) ?_
      refine J_iconst (nI 1) (by decide) dX11_cuts_22 ?_
      refine J_V2v (ci := 11) dX11_cuts_23 s_X11_63 m_X11_isThrown rfl (by repeat (first | assumption | exact jget_same2 (by (try simp only [List.length_set]); exact jlt (by assumption)) | refine jget_ne (by first | decide | assumption | omega) ?_)) rfl (c_X11_isThrown true hM (jKv_i ?_))
      refine J_if_ne_b 51 dX11_cuts_26 (by decide) (fun c26 => ?_) (fun c26 => ?_)
      · refine J_iconst (nI 0) (by decide) dX11_cuts_51 ?_
        exact J_ireturn dX11_cuts_52 rfl (hQ) (by decide) (by decide) (fun _ => rfl)
      · exact absurd c26 (by decide)
theorem c_X11_tells (x : Int32) {k a b : Nat} (hk : k < 204) (ha : a < 2 ^ 31) (hb : b < 2 ^ 31) (hM : h[116]? = some (hMo ch th ea fa an sv ln tp he cm)) (hS : h[117]? = some (ia 204 s))
    (hQ : Q (.inl (some (.int (nI (if (if inB x a b = true then 0 else 1) = 0 then s k else 0))))) ((h.set 116 (hMo ch (if inB x a b = true then 0 else 1) ea fa an sv ln tp he cm)).set 117 (ia 204 (if (if inB x a b = true then 0 else 1) = 0 then updN s k (nP x) else s)))) : jCT G M_X11_tells 2 0 0 X [.ref 116, .int (nI k), .int x, .int (nI a), .int (nI b)] h Q := by
  refine jCT_of [some (.ref 116), some (.int (nI k)), some (.int x), some (.int (nI a)), some (.int (nI b)), none] 1 rfl (by decide +kernel) rfl rfl ?_
  refine J_aload_n (by rfl) (by rfl) dX11_tells_0 ?_
  refine J_iload_n (by rfl) dX11_tells_1 ?_
  refine J_iload_n (by rfl) dX11_tells_2 ?_
  refine J_iload (by rfl) dX11_tells_3 ?_
  refine J_S3v dX11_tells_5 s_X11_51 m_X11_isIn rfl (c_X11_isIn x (jKv_i ?_))
  refine J_if_ne_b 15 dX11_tells_8 (by decide) (fun c8 => ?_) (fun c8 => ?_)
  · rw [if_pos c8, if_pos rfl, if_pos rfl] at hQ
    obtain ⟨c, rfl, _, hc, e3⟩ := inB_t c8 ha hb
    rw [e3] at hQ
    refine J_iconst (nI 0) (by decide) dX11_tells_15 ?_
    refine J_iconst (nI 1) (by decide) dX11_tells_16 ?_
    refine J_V2v (ci := 11) dX11_tells_17 s_X11_63 m_X11_isThrown rfl (by repeat (first | assumption | exact jget_same2 (by (try simp only [List.length_set]); exact jlt (by assumption)) | refine jget_ne (by first | decide | assumption | omega) ?_)) rfl (c_X11_isThrown false hM (jKv_i ?_))
    refine J_if_eq_b 25 dX11_tells_20 (by decide) (fun c20 => ?_) (fun c20 => ?_)
    · refine J_aload_n (by rfl) (by rfl) dX11_tells_25 ?_
      refine J_get dX11_tells_26 f_X11_9 (by repeat (first | assumption | exact jget_same2 (by (try simp only [List.length_set]); exact jlt (by assumption)) | refine jget_ne (by first | decide | assumption | omega) ?_)) (by rfl) ?_
      refine J_iload_n (by rfl) dX11_tells_29 ?_
      refine J_iald_n (k) dX11_tells_30 (by repeat (first | assumption | exact jget_same2 (by (try simp only [List.length_set]); exact jlt (by assumption)) | refine jget_ne (by first | decide | assumption | omega) ?_)) (by first | rfl | (simp only [pk_mul, nI_add]; done) | (simp only [pk_mul, nI_add]; congr 1; omega) | (congr 1; omega)) (by omega) ?_
      refine J_istore_5 dX11_tells_31 ?_
      refine J_aload_n (by rfl) (by rfl) dX11_tells_33 ?_
      refine J_get dX11_tells_34 f_X11_9 (by repeat (first | assumption | exact jget_same2 (by (try simp only [List.length_set]); exact jlt (by assumption)) | refine jget_ne (by first | decide | assumption | omega) ?_)) (by rfl) ?_
      refine J_iload_n (by rfl) dX11_tells_37 ?_
      refine J_iload_n (by rfl) dX11_tells_38 ?_
      refine J_iast_n (k) dX11_tells_39 (by repeat (first | assumption | exact jget_same2 (by (try simp only [List.length_set]); exact jlt (by assumption)) | refine jget_ne (by first | decide | assumption | omega) ?_)) (by first | rfl | (simp only [pk_mul, nI_add]; done) | (simp only [pk_mul, nI_add]; congr 1; omega) | (congr 1; omega)) (by omega) ?_
      refine J_iload (by rfl) dX11_tells_40 ?_
      exact J_ireturn dX11_tells_42 rfl (hQ) (by decide) (by decide) (fun _ => rfl)
    · exact absurd c20 (by decide)
  · have c8' : ¬ inB x a b = true := by rw [c8]; decide
    rw [if_neg c8', if_neg (by decide), if_neg (by decide), hS_id hS] at hQ
    refine J_iconst (nI 1) (by decide) dX11_tells_11 ?_
    refine J_goto 16 dX11_tells_12 (by decide) ?_
    refine J_iconst (nI 1) (by decide) dX11_tells_16 ?_
    refine J_V2v (ci := 11) dX11_tells_17 s_X11_63 m_X11_isThrown rfl (by repeat (first | assumption | exact jget_same2 (by (try simp only [List.length_set]); exact jlt (by assumption)) | refine jget_ne (by first | decide | assumption | omega) ?_)) rfl (c_X11_isThrown true hM (jKv_i ?_))
    refine J_if_eq_b 25 dX11_tells_20 (by decide) (fun c20 => ?_) (fun c20 => ?_)
    · exact absurd c20 (by decide)
    · refine J_iconst (nI 0) (by decide) dX11_tells_23 ?_
      exact J_ireturn dX11_tells_24 rfl (hQ) (by decide) (by decide) (fun _ => rfl)
theorem c_X11_charges (x : Int32) (hI : Inv K s) (hM : h[116]? = some (hMo ch th ea fa an sv ln tp he cm)) (hS : h[117]? = some (ia 204 s))
    (hQ : Q (.inl (some (.int (nI (if T6 x = 0 then min (s 6 + nP x) 1000 else 0))))) ((h.set 116 (hMo ch (T6 x) ea fa an sv ln tp he cm)).set 117 (ia 204 (if T6 x = 0 then N6 s x else s)))) : jCT G M_X11_charges 2 0 0 X [.ref 116, .int x] h Q := by
  refine jCT_of [some (.ref 116), some (.int x)] 0 rfl (by decide +kernel) rfl rfl ?_
  have hb := hI.b
  unfold T6 at hQ
  refine J_aload_n (by rfl) (by rfl) dX11_charges_0 ?_
  refine J_iload_n (by rfl) dX11_charges_1 ?_
  refine J_iconst (nI 1) (by decide) dX11_charges_2 ?_
  refine J_sipush (nI 999) (by decide) dX11_charges_3 ?_
  refine J_S3v dX11_charges_6 s_X11_51 m_X11_isIn rfl (c_X11_isIn x (jKv_i ?_))
  refine J_if_ne_b 16 dX11_charges_9 (by decide) (fun c9 => ?_) (fun c9 => ?_)
  · rw [if_pos c9, if_pos rfl, if_pos rfl] at hQ
    obtain ⟨c, rfl, _, hc, e3⟩ := inB_t c9 (by decide) (by decide)
    unfold N6 at hQ
    rw [e3] at hQ
    refine J_iconst (nI 0) (by decide) dX11_charges_16 ?_
    refine J_iconst (nI 1) (by decide) dX11_charges_17 ?_
    refine J_V2v (ci := 11) dX11_charges_18 s_X11_63 m_X11_isThrown rfl (by repeat (first | assumption | exact jget_same2 (by (try simp only [List.length_set]); exact jlt (by assumption)) | refine jget_ne (by first | decide | assumption | omega) ?_)) rfl (c_X11_isThrown false hM (jKv_i ?_))
    refine J_if_eq_b 26 dX11_charges_21 (by decide) (fun c21 => ?_) (fun c21 => ?_)
    · refine J_aload_n (by rfl) (by rfl) dX11_charges_26 ?_
      refine J_get dX11_charges_27 f_X11_9 (by repeat (first | assumption | exact jget_same2 (by (try simp only [List.length_set]); exact jlt (by assumption)) | refine jget_ne (by first | decide | assumption | omega) ?_)) (by rfl) ?_
      refine J_bipush (nI 6) (by decide) dX11_charges_30 ?_
      refine J_aload_n (by rfl) (by rfl) dX11_charges_32 ?_
      refine J_get dX11_charges_33 f_X11_9 (by repeat (first | assumption | exact jget_same2 (by (try simp only [List.length_set]); exact jlt (by assumption)) | refine jget_ne (by first | decide | assumption | omega) ?_)) (by rfl) ?_
      refine J_bipush (nI 6) (by decide) dX11_charges_36 ?_
      refine J_iald_n (6) dX11_charges_38 (by repeat (first | assumption | exact jget_same2 (by (try simp only [List.length_set]); exact jlt (by assumption)) | refine jget_ne (by first | decide | assumption | omega) ?_)) (by first | rfl | (simp only [pk_mul, nI_add]; done) | (simp only [pk_mul, nI_add]; congr 1; omega) | (congr 1; omega)) (by omega) ?_
      refine J_iload_n (by rfl) dX11_charges_39 ?_
      refine J_iadd dX11_charges_40 ?_
      try rw [nI_add]
      refine J_sipush (nI 1000) (by decide) dX11_charges_41 ?_
      refine J_icmp_le_n 53 dX11_charges_44 (by decide) (fun c44 => ?_) (fun c44 => ?_)
      · rw [show min (s 6 + c) 1000 = s 6 + c by omega] at hQ
        refine J_aload_n (by rfl) (by rfl) dX11_charges_53 ?_
        refine J_get dX11_charges_54 f_X11_9 (by repeat (first | assumption | exact jget_same2 (by (try simp only [List.length_set]); exact jlt (by assumption)) | refine jget_ne (by first | decide | assumption | omega) ?_)) (by rfl) ?_
        refine J_bipush (nI 6) (by decide) dX11_charges_57 ?_
        refine J_iald_n (6) dX11_charges_59 (by repeat (first | assumption | exact jget_same2 (by (try simp only [List.length_set]); exact jlt (by assumption)) | refine jget_ne (by first | decide | assumption | omega) ?_)) (by first | rfl | (simp only [pk_mul, nI_add]; done) | (simp only [pk_mul, nI_add]; congr 1; omega) | (congr 1; omega)) (by omega) ?_
        refine J_iload_n (by rfl) dX11_charges_60 ?_
        refine J_iadd dX11_charges_61 ?_
        try rw [nI_add]
        refine J_iast_n (6) dX11_charges_62 (by repeat (first | assumption | exact jget_same2 (by (try simp only [List.length_set]); exact jlt (by assumption)) | refine jget_ne (by first | decide | assumption | omega) ?_)) (by first | rfl | (simp only [pk_mul, nI_add]; done) | (simp only [pk_mul, nI_add]; congr 1; omega) | (congr 1; omega)) (by omega) ?_
        refine J_aload_n (by rfl) (by rfl) dX11_charges_63 ?_
        refine J_get dX11_charges_64 f_X11_9 (by repeat (first | assumption | exact jget_same2 (by (try simp only [List.length_set]); exact jlt (by assumption)) | refine jget_ne (by first | decide | assumption | omega) ?_)) (by rfl) ?_
        refine J_bipush (nI 6) (by decide) dX11_charges_67 ?_
        refine J_iald_n (6) dX11_charges_69 (by repeat (first | assumption | exact jget_same2 (by (try simp only [List.length_set]); exact jlt (by assumption)) | refine jget_ne (by first | decide | assumption | omega) ?_)) (by first | rfl | (simp only [pk_mul, nI_add]; done) | (simp only [pk_mul, nI_add]; congr 1; omega) | (congr 1; omega)) (by omega) ?_
        refine J_topi (nI (s 6 + c)) (by rw [updN_s]) ?_
        exact J_ireturn dX11_charges_70 rfl (hQ) (by decide) (by decide) (fun _ => rfl)
      · rw [show min (s 6 + c) 1000 = 1000 by omega] at hQ
        refine J_sipush (nI 1000) (by decide) dX11_charges_47 ?_
        refine J_goto 62 dX11_charges_50 (by decide) ?_
        refine J_iast_n (6) dX11_charges_62 (by repeat (first | assumption | exact jget_same2 (by (try simp only [List.length_set]); exact jlt (by assumption)) | refine jget_ne (by first | decide | assumption | omega) ?_)) (by first | rfl | (simp only [pk_mul, nI_add]; done) | (simp only [pk_mul, nI_add]; congr 1; omega) | (congr 1; omega)) (by omega) ?_
        refine J_aload_n (by rfl) (by rfl) dX11_charges_63 ?_
        refine J_get dX11_charges_64 f_X11_9 (by repeat (first | assumption | exact jget_same2 (by (try simp only [List.length_set]); exact jlt (by assumption)) | refine jget_ne (by first | decide | assumption | omega) ?_)) (by rfl) ?_
        refine J_bipush (nI 6) (by decide) dX11_charges_67 ?_
        refine J_iald_n (6) dX11_charges_69 (by repeat (first | assumption | exact jget_same2 (by (try simp only [List.length_set]); exact jlt (by assumption)) | refine jget_ne (by first | decide | assumption | omega) ?_)) (by first | rfl | (simp only [pk_mul, nI_add]; done) | (simp only [pk_mul, nI_add]; congr 1; omega) | (congr 1; omega)) (by omega) ?_
        refine J_topi (nI 1000) (by rw [updN_s]) ?_
        exact J_ireturn dX11_charges_70 rfl (hQ) (by decide) (by decide) (fun _ => rfl)
    · exact absurd c21 (by decide)
  · have c9' : ¬ inB x 1 999 = true := by rw [c9]; decide
    rw [if_neg c9', if_neg (by decide), if_neg (by decide), hS_id hS] at hQ
    refine J_iconst (nI 1) (by decide) dX11_charges_12 ?_
    refine J_goto 17 dX11_charges_13 (by decide) ?_
    refine J_iconst (nI 1) (by decide) dX11_charges_17 ?_
    refine J_V2v (ci := 11) dX11_charges_18 s_X11_63 m_X11_isThrown rfl (by repeat (first | assumption | exact jget_same2 (by (try simp only [List.length_set]); exact jlt (by assumption)) | refine jget_ne (by first | decide | assumption | omega) ?_)) rfl (c_X11_isThrown true hM (jKv_i ?_))
    refine J_if_eq_b 26 dX11_charges_21 (by decide) (fun c21 => ?_) (fun c21 => ?_)
    · exact absurd c21 (by decide)
    · refine J_iconst (nI 0) (by decide) dX11_charges_24 ?_
      exact J_ireturn dX11_charges_25 rfl (hQ) (by decide) (by decide) (fun _ => rfl)
theorem c_X11_stops (hI : Inv K s) (hM : h[116]? = some (hMo ch th ea fa an sv ln tp he cm)) (hS : h[117]? = some (ia 204 s))
    (hQ : Q (.inl (some (.int (nI (if T8 s = 0 then s 1 - s 2 else 0))))) ((h.set 116 (hMo ch (T8 s) ea fa an sv ln tp he cm)).set 117 (ia 204 (if T8 s = 0 then overS s else s)))) : jCT G M_X11_stops 2 0 0 X [.ref 116] h Q := by
  refine jCT_of [some (.ref 116), none] 1 rfl (by decide +kernel) rfl rfl ?_
  have h1 := hI.s1
  unfold T8 at hQ
  refine J_aload_n (by rfl) (by rfl) dX11_stops_0 ?_
  refine J_aload_n (by rfl) (by rfl) dX11_stops_1 ?_
  refine J_V0v (ci := 11) dX11_stops_2 s_X11_97 m_X11_isOnTour rfl (by repeat (first | assumption | exact jget_same2 (by (try simp only [List.length_set]); exact jlt (by assumption)) | refine jget_ne (by first | decide | assumption | omega) ?_)) rfl (c_X11_isOnTour h1 hM hS (jKv_i ?_))
  refine J_if_ne_b 12 dX11_stops_5 (by decide) (fun c5 => ?_) (fun c5 => ?_)
  · have c5 : 0 < s 1 := by simpa using c5
    have h2 := (hI.t c5).2.2.2.1
    rw [if_pos c5, if_pos rfl, if_pos rfl] at hQ
    refine J_iconst (nI 0) (by decide) dX11_stops_12 ?_
    refine J_iconst (nI 1) (by decide) dX11_stops_13 ?_
    refine J_V2v (ci := 11) dX11_stops_14 s_X11_63 m_X11_isThrown rfl (by repeat (first | assumption | exact jget_same2 (by (try simp only [List.length_set]); exact jlt (by assumption)) | refine jget_ne (by first | decide | assumption | omega) ?_)) rfl (c_X11_isThrown false hM (jKv_i ?_))
    refine J_if_eq_b 22 dX11_stops_17 (by decide) (fun c17 => ?_) (fun c17 => ?_)
    · refine J_aload_n (by rfl) (by rfl) dX11_stops_22 ?_
      refine J_get dX11_stops_23 f_X11_9 (by repeat (first | assumption | exact jget_same2 (by (try simp only [List.length_set]); exact jlt (by assumption)) | refine jget_ne (by first | decide | assumption | omega) ?_)) (by rfl) ?_
      refine J_iconst (nI 1) (by decide) dX11_stops_26 ?_
      refine J_iald_n (1) dX11_stops_27 (by repeat (first | assumption | exact jget_same2 (by (try simp only [List.length_set]); exact jlt (by assumption)) | refine jget_ne (by first | decide | assumption | omega) ?_)) (by first | rfl | (simp only [pk_mul, nI_add]; done) | (simp only [pk_mul, nI_add]; congr 1; omega) | (congr 1; omega)) (by omega) ?_
      refine J_aload_n (by rfl) (by rfl) dX11_stops_28 ?_
      refine J_get dX11_stops_29 f_X11_9 (by repeat (first | assumption | exact jget_same2 (by (try simp only [List.length_set]); exact jlt (by assumption)) | refine jget_ne (by first | decide | assumption | omega) ?_)) (by rfl) ?_
      refine J_iconst (nI 2) (by decide) dX11_stops_32 ?_
      refine J_iald_n (2) dX11_stops_33 (by repeat (first | assumption | exact jget_same2 (by (try simp only [List.length_set]); exact jlt (by assumption)) | refine jget_ne (by first | decide | assumption | omega) ?_)) (by first | rfl | (simp only [pk_mul, nI_add]; done) | (simp only [pk_mul, nI_add]; congr 1; omega) | (congr 1; omega)) (by omega) ?_
      refine J_isub_n (by omega) dX11_stops_34 ?_
      refine J_istore_1 dX11_stops_35 ?_
      refine J_aload_n (by rfl) (by rfl) dX11_stops_36 ?_
      refine J_V00 (ci := 11) dX11_stops_37 s_X11_114 m_X11_over rfl (by repeat (first | assumption | exact jget_same2 (by (try simp only [List.length_set]); exact jlt (by assumption)) | refine jget_ne (by first | decide | assumption | omega) ?_)) rfl (c_X11_over (by repeat (first | assumption | exact jget_same2 (by (try simp only [List.length_set]); exact jlt (by assumption)) | refine jget_ne (by first | decide | assumption | omega) ?_)) (by repeat (first | assumption | exact jget_same2 (by (try simp only [List.length_set]); exact jlt (by assumption)) | refine jget_ne (by first | decide | assumption | omega) ?_)) (jK0_i ?_))
      refine J_iload_n (by rfl) dX11_stops_40 ?_
      exact J_ireturn dX11_stops_41 rfl (hQ) (by decide) (by decide) (fun _ => rfl)
    · exact absurd c17 (by decide)
  · have c5 : ¬ 0 < s 1 := by simpa using c5
    rw [if_neg c5, if_neg (by decide), if_neg (by decide), hS_id hS] at hQ
    refine J_iconst (nI 1) (by decide) dX11_stops_8 ?_
    refine J_goto 13 dX11_stops_9 (by decide) ?_
    refine J_iconst (nI 1) (by decide) dX11_stops_13 ?_
    refine J_V2v (ci := 11) dX11_stops_14 s_X11_63 m_X11_isThrown rfl (by repeat (first | assumption | exact jget_same2 (by (try simp only [List.length_set]); exact jlt (by assumption)) | refine jget_ne (by first | decide | assumption | omega) ?_)) rfl (c_X11_isThrown true hM (jKv_i ?_))
    refine J_if_eq_b 22 dX11_stops_17 (by decide) (fun c17 => ?_) (fun c17 => ?_)
    · exact absurd c17 (by decide)
    · refine J_iconst (nI 0) (by decide) dX11_stops_20 ?_
      exact J_ireturn dX11_stops_21 rfl (hQ) (by decide) (by decide) (fun _ => rfl)
theorem c_X11_updated (x y : Int32) (hI : Inv K s) (hK : K < 2 ^ 30) (hM : h[116]? = some (hMo ch th ea fa an sv ln tp he cm)) (hS : h[117]? = some (ia 204 s))
    (hQ : Q (.inl (some (.int (nI (if T7 s x y = 0 then A7 s x y else 0))))) ((h.set 116 (hMo ch (T7 s x y) ea fa an sv ln tp he cm)).set 117 (ia 204 (if T7 s x y = 0 then N7 s x y else s)))) : jCT G M_X11_updated 5 0 0 X [.ref 116, .int x, .int y] h Q := by
  refine jCT_of [some (.ref 116), some (.int x), some (.int y), none] 1 rfl (by decide +kernel) rfl rfl ?_
  have h1 := hI.s1
  have hb := hI.b
  have hco := costN_pos (s 7)
  refine J_aload_n (by rfl) (by rfl) dX11_updated_0 ?_
  refine J_iload_n (by rfl) dX11_updated_1 ?_
  refine J_iload_n (by rfl) dX11_updated_2 ?_
  refine J_S2v dX11_updated_3 s_X11_59 m_X11_isPlace rfl (c_X11_isPlace x y (jKv_i ?_))
  refine J_if_ne_b 13 dX11_updated_6 (by decide) (fun c6 => ?_) (fun c6 => ?_)
  · refine J_iconst (nI 0) (by decide) dX11_updated_13 ?_
    refine J_iconst (nI 1) (by decide) dX11_updated_14 ?_
    refine J_V2v (ci := 11) dX11_updated_15 s_X11_63 m_X11_isThrown rfl (by repeat (first | assumption | exact jget_same2 (by (try simp only [List.length_set]); exact jlt (by assumption)) | refine jget_ne (by first | decide | assumption | omega) ?_)) rfl (c_X11_isThrown false hM (jKv_i ?_))
    refine J_if_ne_b 64 dX11_updated_18 (by decide) (fun c18 => ?_) (fun c18 => ?_)
    · exact absurd c18 (by decide)
    · refine J_aload_n (by rfl) (by rfl) dX11_updated_21 ?_
      refine J_aload_n (by rfl) (by rfl) dX11_updated_22 ?_
      refine J_V0v (ci := 11) dX11_updated_23 s_X11_97 m_X11_isOnTour rfl (by repeat (first | assumption | exact jget_same2 (by (try simp only [List.length_set]); exact jlt (by assumption)) | refine jget_ne (by first | decide | assumption | omega) ?_)) rfl (c_X11_isOnTour h1 (by repeat (first | assumption | exact jget_same2 (by (try simp only [List.length_set]); exact jlt (by assumption)) | refine jget_ne (by first | decide | assumption | omega) ?_)) (by repeat (first | assumption | exact jget_same2 (by (try simp only [List.length_set]); exact jlt (by assumption)) | refine jget_ne (by first | decide | assumption | omega) ?_)) (jKv_i ?_))
      refine J_if_ne_b 33 dX11_updated_26 (by decide) (fun c26 => ?_) (fun c26 => ?_)
      · have c26 : 0 < s 1 := by simpa using c26
        refine J_iconst (nI 0) (by decide) dX11_updated_33 ?_
        refine J_iconst (nI 2) (by decide) dX11_updated_34 ?_
        refine J_V2v (ci := 11) dX11_updated_35 s_X11_63 m_X11_isThrown rfl (by repeat (first | assumption | exact jget_same2 (by (try simp only [List.length_set]); exact jlt (by assumption)) | refine jget_ne (by first | decide | assumption | omega) ?_)) rfl (c_X11_isThrown false (by repeat (first | assumption | exact jget_same2 (by (try simp only [List.length_set]); exact jlt (by assumption)) | refine jget_ne (by first | decide | assumption | omega) ?_)) (jKv_i ?_))
        refine J_if_ne_b 64 dX11_updated_38 (by decide) (fun c38 => ?_) (fun c38 => ?_)
        · exact absurd c38 (by decide)
        · refine J_aload_n (by rfl) (by rfl) dX11_updated_41 ?_
          refine J_aload_n (by rfl) (by rfl) dX11_updated_42 ?_
          refine J_get dX11_updated_43 f_X11_9 (by repeat (first | assumption | exact jget_same2 (by (try simp only [List.length_set]); exact jlt (by assumption)) | refine jget_ne (by first | decide | assumption | omega) ?_)) (by rfl) ?_
          refine J_bipush (nI 6) (by decide) dX11_updated_46 ?_
          refine J_iald_n (6) dX11_updated_48 (by repeat (first | assumption | exact jget_same2 (by (try simp only [List.length_set]); exact jlt (by assumption)) | refine jget_ne (by first | decide | assumption | omega) ?_)) (by first | rfl | (simp only [pk_mul, nI_add]; done) | (simp only [pk_mul, nI_add]; congr 1; omega) | (congr 1; omega)) (by omega) ?_
          refine J_if_ne_n 56 dX11_updated_49 (by decide) (fun c49 => ?_) (fun c49 => ?_)
          · rw [show T7 s x y = 0 by simp only [T7, c6, if_true]; rw [if_pos c26, if_neg (by omega)], if_pos rfl, if_pos rfl] at hQ
            obtain ⟨a, b, rfl, rfl, ha, hb2, e1, e2⟩ := isP_t c6
            unfold N7 A7 at hQ
            rw [e1, e2] at hQ
            obtain ⟨t1, t2, t3, t4, t5, t6, t7⟩ := hI.t c26
            have hLg := moveA_leg (a := a) (b := b) (legOk_of hI c26)
            have m1 : moveA s a b 1 = s 1 := moveA_e (by decide) (by decide) (by decide) (by decide)
            have m2 : moveA s a b 2 = s 2 := moveA_e (by decide) (by decide) (by decide) (by decide)
            have m3 : moveA s a b 3 = a := by unfold moveA drainS; rw [updN_n (by decide), updN_n (by decide), updN_n (by decide), updN_s]
            have m4 : moveA s a b 4 = b := by unfold moveA drainS; rw [updN_n (by decide), updN_n (by decide), updN_s]
            have m5 : moveA s a b 5 = s 5 := moveA_e (by decide) (by decide) (by decide) (by decide)
            have m8 : moveA s a b 8 = s 8 := moveA_e (by decide) (by decide) (by decide) (by decide)
            have m6 : moveA s a b 6 ≤ 1000 := by unfold moveA drainS; rw [updN_s, updN_n (by decide), updN_n (by decide), updN_n (by decide)]; omega
            have m11 : moveA s a b 11 = s 11 := moveA_e (by decide) (by decide) (by decide) (by decide)
            have q5 := hI.a1
            have q8 := hI.tl.2
            refine J_iconst (nI 0) (by decide) dX11_updated_56 ?_
            refine J_iconst (nI 3) (by decide) dX11_updated_57 ?_
            refine J_V2v (ci := 11) dX11_updated_58 s_X11_63 m_X11_isThrown rfl (by repeat (first | assumption | exact jget_same2 (by (try simp only [List.length_set]); exact jlt (by assumption)) | refine jget_ne (by first | decide | assumption | omega) ?_)) rfl (c_X11_isThrown false (by repeat (first | assumption | exact jget_same2 (by (try simp only [List.length_set]); exact jlt (by assumption)) | refine jget_ne (by first | decide | assumption | omega) ?_)) (jKv_i ?_))
            refine J_if_eq_b 66 dX11_updated_61 (by decide) (fun c61 => ?_) (fun c61 => ?_)
            · refine J_aload_n (by rfl) (by rfl) dX11_updated_66 ?_
              refine J_get dX11_updated_67 f_X11_9 (by repeat (first | assumption | exact jget_same2 (by (try simp only [List.length_set]); exact jlt (by assumption)) | refine jget_ne (by first | decide | assumption | omega) ?_)) (by rfl) ?_
              refine J_iconst (nI 3) (by decide) dX11_updated_70 ?_
              refine J_iload_n (by rfl) dX11_updated_71 ?_
              refine J_iast_n (3) dX11_updated_72 (by repeat (first | assumption | exact jget_same2 (by (try simp only [List.length_set]); exact jlt (by assumption)) | refine jget_ne (by first | decide | assumption | omega) ?_)) (by first | rfl | (simp only [pk_mul, nI_add]; done) | (simp only [pk_mul, nI_add]; congr 1; omega) | (congr 1; omega)) (by omega) ?_
              refine J_aload_n (by rfl) (by rfl) dX11_updated_73 ?_
              refine J_get dX11_updated_74 f_X11_9 (by repeat (first | assumption | exact jget_same2 (by (try simp only [List.length_set]); exact jlt (by assumption)) | refine jget_ne (by first | decide | assumption | omega) ?_)) (by rfl) ?_
              refine J_iconst (nI 4) (by decide) dX11_updated_77 ?_
              refine J_iload_n (by rfl) dX11_updated_78 ?_
              refine J_iast_n (4) dX11_updated_79 (by repeat (first | assumption | exact jget_same2 (by (try simp only [List.length_set]); exact jlt (by assumption)) | refine jget_ne (by first | decide | assumption | omega) ?_)) (by first | rfl | (simp only [pk_mul, nI_add]; done) | (simp only [pk_mul, nI_add]; congr 1; omega) | (congr 1; omega)) (by omega) ?_
              refine J_aload_n (by rfl) (by rfl) dX11_updated_80 ?_
              refine J_get dX11_updated_81 f_X11_9 (by repeat (first | assumption | exact jget_same2 (by (try simp only [List.length_set]); exact jlt (by assumption)) | refine jget_ne (by first | decide | assumption | omega) ?_)) (by rfl) ?_
              refine J_bipush (nI 9) (by decide) dX11_updated_84 ?_
              refine J_dup2 (by rfl) (by rfl) dX11_updated_86 ?_
              refine J_iald_n (9) dX11_updated_87 (by repeat (first | assumption | exact jget_same2 (by (try simp only [List.length_set]); exact jlt (by assumption)) | refine jget_ne (by first | decide | assumption | omega) ?_)) (by first | rfl | (simp only [pk_mul, nI_add]; done) | (simp only [pk_mul, nI_add]; congr 1; omega) | (congr 1; omega)) (by omega) ?_
              refine J_topi (nI (s 9)) (by rw [updN_n (by decide), updN_n (by decide)]) ?_
              refine J_iconst (nI 1) (by decide) dX11_updated_88 ?_
              refine J_iadd dX11_updated_89 ?_
              try rw [nI_add]
              refine J_iast_n (9) dX11_updated_90 (by repeat (first | assumption | exact jget_same2 (by (try simp only [List.length_set]); exact jlt (by assumption)) | refine jget_ne (by first | decide | assumption | omega) ?_)) (by first | rfl | (simp only [pk_mul, nI_add]; done) | (simp only [pk_mul, nI_add]; congr 1; omega) | (congr 1; omega)) (by omega) ?_
              refine J_aload_n (by rfl) (by rfl) dX11_updated_91 ?_
              refine J_aload_n (by rfl) (by rfl) dX11_updated_92 ?_
              refine J_get dX11_updated_93 f_X11_9 (by repeat (first | assumption | exact jget_same2 (by (try simp only [List.length_set]); exact jlt (by assumption)) | refine jget_ne (by first | decide | assumption | omega) ?_)) (by rfl) ?_
              refine J_bipush (nI 7) (by decide) dX11_updated_96 ?_
              refine J_iald_n (7) dX11_updated_98 (by repeat (first | assumption | exact jget_same2 (by (try simp only [List.length_set]); exact jlt (by assumption)) | refine jget_ne (by first | decide | assumption | omega) ?_)) (by first | rfl | (simp only [pk_mul, nI_add]; done) | (simp only [pk_mul, nI_add]; congr 1; omega) | (congr 1; omega)) (by omega) ?_
              refine J_topi (nI (s 7)) (by rw [updN_n (by decide), updN_n (by decide), updN_n (by decide)]) ?_
              refine J_S1v dX11_updated_99 s_X11_135 m_X11_costOf rfl (c_X11_costOf hI.mo (jKv_i ?_))
              refine J_V10 (ci := 11) dX11_updated_102 s_X11_132 m_X11_drains rfl (by repeat (first | assumption | exact jget_same2 (by (try simp only [List.length_set]); exact jlt (by assumption)) | refine jget_ne (by first | decide | assumption | omega) ?_)) rfl (c_X11_drains (s := updN (updN (updN s 3 a) 4 b) 9 (s 9 + 1)) (by rw [updN_n (by decide), updN_n (by decide), updN_n (by decide)]; exact hb) (by omega) (by repeat (first | assumption | exact jget_same2 (by (try simp only [List.length_set]); exact jlt (by assumption)) | refine jget_ne (by first | decide | assumption | omega) ?_)) (by repeat (first | assumption | exact jget_same2 (by (try simp only [List.length_set]); exact jlt (by assumption)) | refine jget_ne (by first | decide | assumption | omega) ?_)) (jK0_i ?_))
              simp only [List.set_set, jsw (i := 116) (j := 117) (by decide), jsw (i := 116) (j := 118) (by decide), jsw (i := 116) (j := 120) (by decide), jsw (i := 116) (j := 121) (by decide), jsw (i := 117) (j := 118) (by decide), jsw (i := 117) (j := 120) (by decide), jsw (i := 117) (j := 121) (by decide), jsw (i := 118) (j := 120) (by decide), jsw (i := 118) (j := 121) (by decide), jsw (i := 120) (j := 121) (by decide)]
              have hmA : drainS (updN (updN (updN s 3 a) 4 b) 9 (s 9 + 1)) (costN (s 7)) = moveA s a b := rfl
              rw [hmA]
              refine J_aload_n (by rfl) (by rfl) dX11_updated_105 ?_
              refine J_iload_n (by rfl) dX11_updated_106 ?_
              refine J_iload_n (by rfl) dX11_updated_107 ?_
              refine J_V2v (ci := 11) dX11_updated_108 s_X11_138 m_X11_reaches rfl (by repeat (first | assumption | exact jget_same2 (by (try simp only [List.length_set]); exact jlt (by assumption)) | refine jget_ne (by first | decide | assumption | omega) ?_)) rfl (c_X11_reaches hLg.2.1 hLg.2.2.1 hLg.2.2.2.2 ha hb2 (by repeat (first | assumption | exact jget_same2 (by (try simp only [List.length_set]); exact jlt (by assumption)) | refine jget_ne (by first | decide | assumption | omega) ?_)) (by repeat (first | assumption | exact jget_same2 (by (try simp only [List.length_set]); exact jlt (by assumption)) | refine jget_ne (by first | decide | assumption | omega) ?_)) (jKv_i ?_))
              refine J_istore_3 dX11_updated_111 ?_
              refine J_iload_n (by rfl) dX11_updated_112 ?_
              refine J_if_eq_b 142 dX11_updated_113 (by decide) (fun c113 => ?_) (fun c113 => ?_)
              · rw [if_neg (by rw [c113]; decide), if_neg (by rw [c113]; decide)] at hQ
                unfold moveC at hQ
                rw [if_neg (by omega)] at hQ
                refine J_aload_n (by rfl) (by rfl) dX11_updated_142 ?_
                refine J_get dX11_updated_143 f_X11_9 (by repeat (first | assumption | exact jget_same2 (by (try simp only [List.length_set]); exact jlt (by assumption)) | refine jget_ne (by first | decide | assumption | omega) ?_)) (by rfl) ?_
                refine J_iconst (nI 2) (by decide) dX11_updated_146 ?_
                refine J_iald_n (2) dX11_updated_147 (by repeat (first | assumption | exact jget_same2 (by (try simp only [List.length_set]); exact jlt (by assumption)) | refine jget_ne (by first | decide | assumption | omega) ?_)) (by first | rfl | (simp only [pk_mul, nI_add]; done) | (simp only [pk_mul, nI_add]; congr 1; omega) | (congr 1; omega)) (by omega) ?_
                refine J_aload_n (by rfl) (by rfl) dX11_updated_148 ?_
                refine J_get dX11_updated_149 f_X11_9 (by repeat (first | assumption | exact jget_same2 (by (try simp only [List.length_set]); exact jlt (by assumption)) | refine jget_ne (by first | decide | assumption | omega) ?_)) (by rfl) ?_
                refine J_iconst (nI 1) (by decide) dX11_updated_152 ?_
                refine J_iald_n (1) dX11_updated_153 (by repeat (first | assumption | exact jget_same2 (by (try simp only [List.length_set]); exact jlt (by assumption)) | refine jget_ne (by first | decide | assumption | omega) ?_)) (by first | rfl | (simp only [pk_mul, nI_add]; done) | (simp only [pk_mul, nI_add]; congr 1; omega) | (congr 1; omega)) (by omega) ?_
                refine J_icmp_ne_n 164 dX11_updated_154 (by decide) (fun c154 => ?_) (fun c154 => ?_)
                · refine J_aload_n (by rfl) (by rfl) dX11_updated_164 ?_
                  refine J_V00 (ci := 11) dX11_updated_165 s_X11_141 m_X11_watches rfl (by repeat (first | assumption | exact jget_same2 (by (try simp only [List.length_set]); exact jlt (by assumption)) | refine jget_ne (by first | decide | assumption | omega) ?_)) rfl (c_X11_watches hLg (by omega) (by omega) (by omega) (by omega) m6 (by repeat (first | assumption | exact jget_same2 (by (try simp only [List.length_set]); exact jlt (by assumption)) | refine jget_ne (by first | decide | assumption | omega) ?_)) (by repeat (first | assumption | exact jget_same2 (by (try simp only [List.length_set]); exact jlt (by assumption)) | refine jget_ne (by first | decide | assumption | omega) ?_)) (jK0_i ?_))
                  refine J_iload_n (by rfl) dX11_updated_168 ?_
                  refine J_if_eq_b 176 dX11_updated_169 (by decide) (fun c169 => ?_) (fun c169 => ?_)
                  · refine J_iconst (nI 0) (by decide) dX11_updated_176 ?_
                    exact J_ireturn dX11_updated_177 rfl (by simp only [List.set_set, jsw (i := 116) (j := 117) (by decide), jsw (i := 116) (j := 118) (by decide), jsw (i := 116) (j := 120) (by decide), jsw (i := 116) (j := 121) (by decide), jsw (i := 117) (j := 118) (by decide), jsw (i := 117) (j := 120) (by decide), jsw (i := 117) (j := 121) (by decide), jsw (i := 118) (j := 120) (by decide), jsw (i := 118) (j := 121) (by decide), jsw (i := 120) (j := 121) (by decide)]; exact hQ) (by decide) (by decide) (fun _ => rfl)
                  · exact absurd (c113.symm.trans c169) (by decide)
                · exact absurd c154 (by omega)
              · rw [if_pos c113, if_pos c113] at hQ
                have hmv : moveB (moveA s a b) = updN (drainS (updN (moveA s a b) 11 (moveA s a b 11 + 1)) 3) 2 (moveA s a b 2 + 1) := rfl
                have n1 : moveB (moveA s a b) 1 = s 1 := by rw [moveB_e (by decide) (by decide) (by decide), m1]
                have n2 : moveB (moveA s a b) 2 = s 2 + 1 := by rw [hmv, updN_s, m2]
                have n3 : moveB (moveA s a b) 3 = a := by rw [moveB_e (by decide) (by decide) (by decide), m3]
                have n4 : moveB (moveA s a b) 4 = b := by rw [moveB_e (by decide) (by decide) (by decide), m4]
                have n5 : moveB (moveA s a b) 5 = s 5 := by rw [moveB_e (by decide) (by decide) (by decide), m5]
                have n8 : moveB (moveA s a b) 8 = s 8 := by rw [moveB_e (by decide) (by decide) (by decide), m8]
                have n6 : moveB (moveA s a b) 6 ≤ 1000 := by rw [hmv, updN_n (by decide)]; unfold drainS; rw [updN_s, updN_n (by decide)]; omega
                unfold moveC at hQ
                refine J_aload_n (by rfl) (by rfl) dX11_updated_116 ?_
                refine J_get dX11_updated_117 f_X11_9 (by repeat (first | assumption | exact jget_same2 (by (try simp only [List.length_set]); exact jlt (by assumption)) | refine jget_ne (by first | decide | assumption | omega) ?_)) (by rfl) ?_
                refine J_bipush (nI 11) (by decide) dX11_updated_120 ?_
                refine J_dup2 (by rfl) (by rfl) dX11_updated_122 ?_
                refine J_iald_n (11) dX11_updated_123 (by repeat (first | assumption | exact jget_same2 (by (try simp only [List.length_set]); exact jlt (by assumption)) | refine jget_ne (by first | decide | assumption | omega) ?_)) (by first | rfl | (simp only [pk_mul, nI_add]; done) | (simp only [pk_mul, nI_add]; congr 1; omega) | (congr 1; omega)) (by omega) ?_
                refine J_iconst (nI 1) (by decide) dX11_updated_124 ?_
                refine J_iadd dX11_updated_125 ?_
                try rw [nI_add]
                refine J_iast_n (11) dX11_updated_126 (by repeat (first | assumption | exact jget_same2 (by (try simp only [List.length_set]); exact jlt (by assumption)) | refine jget_ne (by first | decide | assumption | omega) ?_)) (by first | rfl | (simp only [pk_mul, nI_add]; done) | (simp only [pk_mul, nI_add]; congr 1; omega) | (congr 1; omega)) (by omega) ?_
                refine J_aload_n (by rfl) (by rfl) dX11_updated_127 ?_
                refine J_iconst (nI 3) (by decide) dX11_updated_128 ?_
                refine J_V10 (ci := 11) dX11_updated_129 s_X11_132 m_X11_drains rfl (by repeat (first | assumption | exact jget_same2 (by (try simp only [List.length_set]); exact jlt (by assumption)) | refine jget_ne (by first | decide | assumption | omega) ?_)) rfl (c_X11_drains (s := updN (moveA s a b) 11 (moveA s a b 11 + 1)) (v := 3) (by rw [updN_n (by decide)]; exact m6) (by omega) (by repeat (first | assumption | exact jget_same2 (by (try simp only [List.length_set]); exact jlt (by assumption)) | refine jget_ne (by first | decide | assumption | omega) ?_)) (by repeat (first | assumption | exact jget_same2 (by (try simp only [List.length_set]); exact jlt (by assumption)) | refine jget_ne (by first | decide | assumption | omega) ?_)) (jK0_i ?_))
                refine J_aload_n (by rfl) (by rfl) dX11_updated_132 ?_
                refine J_get dX11_updated_133 f_X11_9 (by repeat (first | assumption | exact jget_same2 (by (try simp only [List.length_set]); exact jlt (by assumption)) | refine jget_ne (by first | decide | assumption | omega) ?_)) (by rfl) ?_
                refine J_iconst (nI 2) (by decide) dX11_updated_136 ?_
                refine J_dup2 (by rfl) (by rfl) dX11_updated_137 ?_
                refine J_iald_n (2) dX11_updated_138 (by repeat (first | assumption | exact jget_same2 (by (try simp only [List.length_set]); exact jlt (by assumption)) | refine jget_ne (by first | decide | assumption | omega) ?_)) (by first | rfl | (simp only [pk_mul, nI_add]; done) | (simp only [pk_mul, nI_add]; congr 1; omega) | (congr 1; omega)) (by omega) ?_
                refine J_topi (nI (moveA s a b 2)) (by unfold drainS; rw [updN_n (by decide), updN_n (by decide)]) ?_
                refine J_iconst (nI 1) (by decide) dX11_updated_139 ?_
                refine J_iadd dX11_updated_140 ?_
                try rw [nI_add]
                refine J_iast_n (2) dX11_updated_141 (by repeat (first | assumption | exact jget_same2 (by (try simp only [List.length_set]); exact jlt (by assumption)) | refine jget_ne (by first | decide | assumption | omega) ?_)) (by first | rfl | (simp only [pk_mul, nI_add]; done) | (simp only [pk_mul, nI_add]; congr 1; omega) | (congr 1; omega)) (by omega) ?_
                simp only [List.set_set, jsw (i := 116) (j := 117) (by decide), jsw (i := 116) (j := 118) (by decide), jsw (i := 116) (j := 120) (by decide), jsw (i := 116) (j := 121) (by decide), jsw (i := 117) (j := 118) (by decide), jsw (i := 117) (j := 120) (by decide), jsw (i := 117) (j := 121) (by decide), jsw (i := 118) (j := 120) (by decide), jsw (i := 118) (j := 121) (by decide), jsw (i := 120) (j := 121) (by decide)]
                rw [← hmv]
                refine J_aload_n (by rfl) (by rfl) dX11_updated_142 ?_
                refine J_get dX11_updated_143 f_X11_9 (by repeat (first | assumption | exact jget_same2 (by (try simp only [List.length_set]); exact jlt (by assumption)) | refine jget_ne (by first | decide | assumption | omega) ?_)) (by rfl) ?_
                refine J_iconst (nI 2) (by decide) dX11_updated_146 ?_
                refine J_iald_n (2) dX11_updated_147 (by repeat (first | assumption | exact jget_same2 (by (try simp only [List.length_set]); exact jlt (by assumption)) | refine jget_ne (by first | decide | assumption | omega) ?_)) (by first | rfl | (simp only [pk_mul, nI_add]; done) | (simp only [pk_mul, nI_add]; congr 1; omega) | (congr 1; omega)) (by omega) ?_
                refine J_aload_n (by rfl) (by rfl) dX11_updated_148 ?_
                refine J_get dX11_updated_149 f_X11_9 (by repeat (first | assumption | exact jget_same2 (by (try simp only [List.length_set]); exact jlt (by assumption)) | refine jget_ne (by first | decide | assumption | omega) ?_)) (by rfl) ?_
                refine J_iconst (nI 1) (by decide) dX11_updated_152 ?_
                refine J_iald_n (1) dX11_updated_153 (by repeat (first | assumption | exact jget_same2 (by (try simp only [List.length_set]); exact jlt (by assumption)) | refine jget_ne (by first | decide | assumption | omega) ?_)) (by first | rfl | (simp only [pk_mul, nI_add]; done) | (simp only [pk_mul, nI_add]; congr 1; omega) | (congr 1; omega)) (by omega) ?_
                refine J_icmp_ne_n 164 dX11_updated_154 (by decide) (fun c154 => ?_) (fun c154 => ?_)
                · rw [if_neg (by omega)] at hQ
                  have hLg2 := moveB_leg hLg (by omega) (by
                    rw [m2, moveA_e (by omega) (by omega) (by omega) (by omega)]
                    have := t7 (s 2 + 1) (by omega)
                    have := hI.n12
                    omega)
                  refine J_aload_n (by rfl) (by rfl) dX11_updated_164 ?_
                  refine J_V00 (ci := 11) dX11_updated_165 s_X11_141 m_X11_watches rfl (by repeat (first | assumption | exact jget_same2 (by (try simp only [List.length_set]); exact jlt (by assumption)) | refine jget_ne (by first | decide | assumption | omega) ?_)) rfl (c_X11_watches hLg2 (by omega) (by omega) (by omega) (by omega) n6 (by repeat (first | assumption | exact jget_same2 (by (try simp only [List.length_set]); exact jlt (by assumption)) | refine jget_ne (by first | decide | assumption | omega) ?_)) (by repeat (first | assumption | exact jget_same2 (by (try simp only [List.length_set]); exact jlt (by assumption)) | refine jget_ne (by first | decide | assumption | omega) ?_)) (jK0_i ?_))
                  refine J_iload_n (by rfl) dX11_updated_168 ?_
                  refine J_if_eq_b 176 dX11_updated_169 (by decide) (fun c169 => ?_) (fun c169 => ?_)
                  · exact absurd (c113.symm.trans c169) (by decide)
                  · refine J_iconst (nI 1) (by decide) dX11_updated_172 ?_
                    refine J_goto 177 dX11_updated_173 (by decide) ?_
                    exact J_ireturn dX11_updated_177 rfl (by simp only [List.set_set, jsw (i := 116) (j := 117) (by decide), jsw (i := 116) (j := 118) (by decide), jsw (i := 116) (j := 120) (by decide), jsw (i := 116) (j := 121) (by decide), jsw (i := 117) (j := 118) (by decide), jsw (i := 117) (j := 120) (by decide), jsw (i := 117) (j := 121) (by decide), jsw (i := 118) (j := 120) (by decide), jsw (i := 118) (j := 121) (by decide), jsw (i := 120) (j := 121) (by decide)]; exact hQ) (by decide) (by decide) (fun _ => rfl)
                · rw [if_pos (by omega)] at hQ
                  refine J_aload_n (by rfl) (by rfl) dX11_updated_157 ?_
                  refine J_V00 (ci := 11) dX11_updated_158 s_X11_114 m_X11_over rfl (by repeat (first | assumption | exact jget_same2 (by (try simp only [List.length_set]); exact jlt (by assumption)) | refine jget_ne (by first | decide | assumption | omega) ?_)) rfl (c_X11_over (by repeat (first | assumption | exact jget_same2 (by (try simp only [List.length_set]); exact jlt (by assumption)) | refine jget_ne (by first | decide | assumption | omega) ?_)) (by repeat (first | assumption | exact jget_same2 (by (try simp only [List.length_set]); exact jlt (by assumption)) | refine jget_ne (by first | decide | assumption | omega) ?_)) (jK0_i ?_))
                  refine J_goto 168 dX11_updated_161 (by decide) ?_
                  refine J_iload_n (by rfl) dX11_updated_168 ?_
                  refine J_if_eq_b 176 dX11_updated_169 (by decide) (fun c169 => ?_) (fun c169 => ?_)
                  · exact absurd (c113.symm.trans c169) (by decide)
                  · refine J_iconst (nI 1) (by decide) dX11_updated_172 ?_
                    refine J_goto 177 dX11_updated_173 (by decide) ?_
                    exact J_ireturn dX11_updated_177 rfl (by simp only [List.set_set, jsw (i := 116) (j := 117) (by decide), jsw (i := 116) (j := 118) (by decide), jsw (i := 116) (j := 120) (by decide), jsw (i := 116) (j := 121) (by decide), jsw (i := 117) (j := 118) (by decide), jsw (i := 117) (j := 120) (by decide), jsw (i := 117) (j := 121) (by decide), jsw (i := 118) (j := 120) (by decide), jsw (i := 118) (j := 121) (by decide), jsw (i := 120) (j := 121) (by decide)]; exact hQ) (by decide) (by decide) (fun _ => rfl)
            · exact absurd c61 (by decide)
          · rw [show T7 s x y = 3 by simp only [T7, c6, if_true]; rw [if_pos c26, if_pos c49], if_neg (by decide), if_neg (by decide), hS_id hS] at hQ
            refine J_iconst (nI 1) (by decide) dX11_updated_52 ?_
            refine J_goto 57 dX11_updated_53 (by decide) ?_
            refine J_iconst (nI 3) (by decide) dX11_updated_57 ?_
            refine J_V2v (ci := 11) dX11_updated_58 s_X11_63 m_X11_isThrown rfl (by repeat (first | assumption | exact jget_same2 (by (try simp only [List.length_set]); exact jlt (by assumption)) | refine jget_ne (by first | decide | assumption | omega) ?_)) rfl (c_X11_isThrown true (by repeat (first | assumption | exact jget_same2 (by (try simp only [List.length_set]); exact jlt (by assumption)) | refine jget_ne (by first | decide | assumption | omega) ?_)) (jKv_i ?_))
            refine J_if_eq_b 66 dX11_updated_61 (by decide) (fun c61 => ?_) (fun c61 => ?_)
            · exact absurd c61 (by decide)
            · refine J_iconst (nI 0) (by decide) dX11_updated_64 ?_
              exact J_ireturn dX11_updated_65 rfl (by simp only [List.set_set, jsw (i := 116) (j := 117) (by decide), jsw (i := 116) (j := 118) (by decide), jsw (i := 116) (j := 120) (by decide), jsw (i := 116) (j := 121) (by decide), jsw (i := 117) (j := 118) (by decide), jsw (i := 117) (j := 120) (by decide), jsw (i := 117) (j := 121) (by decide), jsw (i := 118) (j := 120) (by decide), jsw (i := 118) (j := 121) (by decide), jsw (i := 120) (j := 121) (by decide)]; exact hQ) (by decide) (by decide) (fun _ => rfl)
      · have c26 : ¬ 0 < s 1 := by simpa using c26
        rw [show T7 s x y = 2 by simp only [T7, c6, if_true]; rw [if_neg c26], if_neg (by decide), if_neg (by decide), hS_id hS] at hQ
        refine J_iconst (nI 1) (by decide) dX11_updated_29 ?_
        refine J_goto 34 dX11_updated_30 (by decide) ?_
        refine J_iconst (nI 2) (by decide) dX11_updated_34 ?_
        refine J_V2v (ci := 11) dX11_updated_35 s_X11_63 m_X11_isThrown rfl (by repeat (first | assumption | exact jget_same2 (by (try simp only [List.length_set]); exact jlt (by assumption)) | refine jget_ne (by first | decide | assumption | omega) ?_)) rfl (c_X11_isThrown true (by repeat (first | assumption | exact jget_same2 (by (try simp only [List.length_set]); exact jlt (by assumption)) | refine jget_ne (by first | decide | assumption | omega) ?_)) (jKv_i ?_))
        refine J_if_ne_b 64 dX11_updated_38 (by decide) (fun c38 => ?_) (fun c38 => ?_)
        · refine J_iconst (nI 0) (by decide) dX11_updated_64 ?_
          exact J_ireturn dX11_updated_65 rfl (by simp only [List.set_set, jsw (i := 116) (j := 117) (by decide), jsw (i := 116) (j := 118) (by decide), jsw (i := 116) (j := 120) (by decide), jsw (i := 116) (j := 121) (by decide), jsw (i := 117) (j := 118) (by decide), jsw (i := 117) (j := 120) (by decide), jsw (i := 117) (j := 121) (by decide), jsw (i := 118) (j := 120) (by decide), jsw (i := 118) (j := 121) (by decide), jsw (i := 120) (j := 121) (by decide)]; exact hQ) (by decide) (by decide) (fun _ => rfl)
        · exact absurd c38 (by decide)
  · rw [show T7 s x y = 1 by simp [T7, c6], if_neg (by decide), if_neg (by decide), hS_id hS] at hQ
    refine J_iconst (nI 1) (by decide) dX11_updated_9 ?_
    refine J_goto 14 dX11_updated_10 (by decide) ?_
    refine J_iconst (nI 1) (by decide) dX11_updated_14 ?_
    refine J_V2v (ci := 11) dX11_updated_15 s_X11_63 m_X11_isThrown rfl (by repeat (first | assumption | exact jget_same2 (by (try simp only [List.length_set]); exact jlt (by assumption)) | refine jget_ne (by first | decide | assumption | omega) ?_)) rfl (c_X11_isThrown true hM (jKv_i ?_))
    refine J_if_ne_b 64 dX11_updated_18 (by decide) (fun c18 => ?_) (fun c18 => ?_)
    · refine J_iconst (nI 0) (by decide) dX11_updated_64 ?_
      exact J_ireturn dX11_updated_65 rfl (hQ) (by decide) (by decide) (fun _ => rfl)
    · exact absurd c18 (by decide)
end MODEL4
