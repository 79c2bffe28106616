/-! The reference: components, the nearest, the drift, the forecast, undo and snapshots, marks -/
theorem comps_s {w : Nat → Nat} {p : Nat} : comps w (p + 1) = comps w p + (if lowest w p = true then 1 else 0) := rfl
theorem drift_uniq {num den r q : Nat} (h1 : r * r * den ≤ num) (h2 : num < (r + 1) * (r + 1) * den) (h3 : q * q * den ≤ num) (h4 : num < (q + 1) * (q + 1) * den) : r = q := by
  rcases Nat.lt_trichotomy r q with h | h | h
  · have : (r + 1) * (r + 1) * den ≤ q * q * den := Nat.mul_le_mul_right _ (Nat.mul_le_mul h h)
    omega
  · exact h
  · have : (q + 1) * (q + 1) * den ≤ r * r * den := Nat.mul_le_mul_right _ (Nat.mul_le_mul h h)
    omega
theorem sqI (a : Int) : ((a.natAbs * a.natAbs : Nat) : Int) = a * a := Int.natAbs_mul_self
theorem sq_99 {a : Int} (h : -99 ≤ a ∧ a ≤ 99) : a.natAbs * a.natAbs ≤ 9801 := Nat.mul_le_mul (show a.natAbs ≤ 99 by omega) (show a.natAbs ≤ 99 by omega)
theorem dNum_le {a b c d : Int} (ha : -99 ≤ a ∧ a ≤ 99) (hb : -99 ≤ b ∧ b ≤ 99) (h1 : -99 ≤ a - c ∧ a - c ≤ 99) (h2 : -99 ≤ b - d ∧ b - d ≤ 99) : dNum a b c d ≤ 19602 * dDen a b c d := by
  have s1 := sq_99 ha
  have s2 := sq_99 hb
  have s3 := sq_99 h1
  have s4 := sq_99 h2
  unfold dNum dDen
  split
  · omega
  · split
    · omega
    · have e1 : (((dCross a b c d).natAbs * (dCross a b c d).natAbs : Nat) : Int) + dAlong a b c d * dAlong a b c d = (((a.natAbs * a.natAbs + b.natAbs * b.natAbs) * (dWhole c d).natAbs : Nat) : Int) := by
        rw [sqI, Int.natCast_mul, Int.natCast_add, sqI, sqI, Int.natAbs_of_nonneg (dWhole_0 c d)]
        unfold dCross dAlong dWhole
        grind
      have e2 : (0 : Int) ≤ dAlong a b c d * dAlong a b c d := by rw [← sqI]; omega
      have e3 : (a.natAbs * a.natAbs + b.natAbs * b.natAbs) * (dWhole c d).natAbs ≤ 19602 * (dWhole c d).natAbs := Nat.mul_le_mul_right _ (by omega)
      omega
theorem num_le {K : Nat} {s : Nat → Nat} (I : Inv K s) (h0 : 0 < s 1) : numS s (s 3) (s 4) ≤ 19602 * denS s (s 3) (s 4) := by
  obtain ⟨l1, l2, l3, l4, l5⟩ := legOk_of I h0
  have ha := l5 _ l3
  have hb := l5 _ l4
  obtain ⟨t1, t2, t3, t4, t5, t6, t7⟩ := I.t h0
  exact dNum_le (by omega) (by omega) (by omega) (by omega)
section MQ3
variable {G : jG} {X : Bool} {h : jH} {Q : jQ_} {ch th ln tp he cm K : Nat} {ea fa an : Int32} {sv : Bool} {s sS P lf tx : Nat → Nat}
theorem c_X11_components (hI : Inv K s) (hm : MPc h s sS P ch th ea fa sv lf ln tx tp) (hQ : ∀ h', jFr mC h h' → MPc h' s sS P ch 0 ea fa sv lf ln tx tp → Q (.inl (some (.int (nI (comps (wS s) (s 0)))))) h') : jCT G M_X11_components 3 0 0 X [.ref 116] h Q := by
  refine jCT_of [some (.ref 116), none, none, none, none] 4 rfl (by decide +kernel) rfl rfl ?_
  obtain ⟨an, he, cm, W, F, C, h1, h2, h3, h4, h5, h6, h7, h8, h9⟩ := hm
  have hn := hI.n12
  refine J_aload_n (by rfl) (by rfl) dX11_components_0 ?_
  refine J_iconst (nI 0) (by decide) dX11_components_1 ?_
  refine J_put_6 dX11_components_2 p_X11_41 (by repeat (first | assumption | exact jget_same2 (by (try simp only [List.length_set]); exact jlt (by assumption)) | refine jget_ne (by first | decide | assumption | omega) ?_)) ?_
  refine J_iconst (nI 0) (by decide) dX11_components_5 ?_
  refine J_istore_1 dX11_components_6 ?_
  refine J_iconst (nI 0) (by decide) dX11_components_7 ?_
  refine J_istore_2 dX11_components_8 ?_
  suffices loop : ∀ p, p ≤ s 0 → ∀ F l3 l4, J G (jR 3 0 0) (jFin G Q X 0 0) M_X11_components X 0 0 9 [some (.ref 116), some (.int (nI (comps (wS s) p))), some (.int (nI p)), l3, l4] [] ((h.set 116 (hMo ch 0 ea fa an sv ln tp he cm)).set 121 (ia 12 F)) by
    have := loop 0 (by omega) F none none
    rw [hset_id (by exact (by repeat (first | assumption | exact jget_same2 (by (try simp only [List.length_set]); exact jlt (by assumption)) | refine jget_ne (by first | decide | assumption | omega) ?_)))] at this
    exact this
  refine up_ind (s 0) (fun p hp ih F l3 l4 => ?_)
  refine J_iload_n (by rfl) dX11_components_9 ?_
  refine J_aload_n (by rfl) (by rfl) dX11_components_10 ?_
  refine J_get dX11_components_11 f_X11_9 (by repeat (first | assumption | exact jget_same2 (by (try simp only [List.length_set]); exact jlt (by assumption)) | refine jget_ne (by first | decide | assumption | omega) ?_)) (by rfl) ?_
  refine J_iconst (nI 0) (by decide) dX11_components_14 ?_
  refine J_iald_n (0) dX11_components_15 (by repeat (first | assumption | exact jget_same2 (by (try simp only [List.length_set]); exact jlt (by assumption)) | refine jget_ne (by first | decide | assumption | omega) ?_)) (by first | rfl | (simp only [pk_mul, nI_add]; done) | (simp only [pk_mul, nI_add]; congr 1; omega) | (congr 1; omega)) (by omega) ?_
  refine J_icmp_ge_n 79 dX11_components_16 (by decide) (fun c16 => ?_) (fun c16 => ?_)
  · have he9 : p = s 0 := by omega
    subst he9
    refine J_iload_n (by rfl) dX11_components_79 ?_
    exact J_ireturn dX11_components_80 rfl (hQ _ ((jFr.refl.set 116 _ (by decide)).set 121 _ (by decide)) ⟨an, he, cm, W, F, C, (by repeat (first | assumption | exact jget_same2 (by (try simp only [List.length_set]); exact jlt (by assumption)) | refine jget_ne (by first | decide | assumption | omega) ?_)), (by repeat (first | assumption | exact jget_same2 (by (try simp only [List.length_set]); exact jlt (by assumption)) | refine jget_ne (by first | decide | assumption | omega) ?_)), (by repeat (first | assumption | exact jget_same2 (by (try simp only [List.length_set]); exact jlt (by assumption)) | refine jget_ne (by first | decide | assumption | omega) ?_)), (by repeat (first | assumption | exact jget_same2 (by (try simp only [List.length_set]); exact jlt (by assumption)) | refine jget_ne (by first | decide | assumption | omega) ?_)), (by repeat (first | assumption | exact jget_same2 (by (try simp only [List.length_set]); exact jlt (by assumption)) | refine jget_ne (by first | decide | assumption | omega) ?_)), (by repeat (first | assumption | exact jget_same2 (by (try simp only [List.length_set]); exact jlt (by assumption)) | refine jget_ne (by first | decide | assumption | omega) ?_)), (by repeat (first | assumption | exact jget_same2 (by (try simp only [List.length_set]); exact jlt (by assumption)) | refine jget_ne (by first | decide | assumption | omega) ?_)), (by repeat (first | assumption | exact jget_same2 (by (try simp only [List.length_set]); exact jlt (by assumption)) | refine jget_ne (by first | decide | assumption | omega) ?_)), (by repeat (first | assumption | exact jget_same2 (by (try simp only [List.length_set]); exact jlt (by assumption)) | refine jget_ne (by first | decide | assumption | omega) ?_))⟩) (by decide) (by decide) (fun _ => rfl)
  · refine J_aload_n (by rfl) (by rfl) dX11_components_19 ?_
    refine J_iload_n (by rfl) dX11_components_20 ?_
    refine J_V10 (ci := 11) dX11_components_21 s_X11_101 m_X11_finds rfl (by repeat (first | assumption | exact jget_same2 (by (try simp only [List.length_set]); exact jlt (by assumption)) | refine jget_ne (by first | decide | assumption | omega) ?_)) rfl (c_X11_finds (a := p) (w := wS s) (F := F) hI.g (fun _ _ => rfl) (by omega) (by repeat (first | assumption | exact jget_same2 (by (try simp only [List.length_set]); exact jlt (by assumption)) | refine jget_ne (by first | decide | assumption | omega) ?_)) (by repeat (first | assumption | exact jget_same2 (by (try simp only [List.length_set]); exact jlt (by assumption)) | refine jget_ne (by first | decide | assumption | omega) ?_)) (by repeat (first | assumption | exact jget_same2 (by (try simp only [List.length_set]); exact jlt (by assumption)) | refine jget_ne (by first | decide | assumption | omega) ?_)) (fun D hD => (jK0_i ?_)))
    refine J_iconst (nI 1) (by decide) dX11_components_24 ?_
    rw [List.set_set]
    refine J_topi (jb true) rfl ?_
    refine J_istore_3 dX11_components_25 ?_
    refine J_iconst (nI 0) (by decide) dX11_components_26 ?_
    refine J_istore_4 dX11_components_27 ?_
    suffices inner : ∀ q, q ≤ p → ∀ b : Bool, (b = true ↔ ∀ o, o < q → ¬ dst (wS s) p o < 99999) → J G (jR 3 0 0) (jFin G Q X 0 0) M_X11_components X 0 0 29 [some (.ref 116), some (.int (nI (comps (wS s) p))), some (.int (nI p)), some (.int (jb b)), some (.int (nI q))] [] ((h.set 116 (hMo ch 0 ea fa an sv ln tp he cm)).set 121 (ia 12 D)) by
      exact inner 0 (by omega) true ⟨fun _ o ho => by omega, fun _ => rfl⟩
    refine up_ind p (fun q hq ih2 b hb => ?_)
    refine J_iload (by rfl) dX11_components_29 ?_
    refine J_iload_n (by rfl) dX11_components_31 ?_
    refine J_icmp_ge_n 61 dX11_components_32 (by decide) (fun c32 => ?_) (fun c32 => ?_)
    · have hqp : q = p := by omega
      subst hqp
      have hlow : lowest (wS s) q = b := by
        cases hl : lowest (wS s) q with
        | true => exact (hb.mpr (lowest_iff.mp hl)).symm
        | false =>
          cases b with
          | false => rfl
          | true =>
            have := lowest_iff.mpr (hb.mp rfl)
            rw [hl] at this
            exact absurd this (by decide)
      have hih := ih (by omega) D (some (.int (jb b))) (some (.int (nI q)))
      rw [comps_s, hlow] at hih
      refine J_iload_n (by rfl) dX11_components_61 ?_
      refine J_iload_n (by rfl) dX11_components_62 ?_
      refine J_if_eq_b 70 dX11_components_63 (by decide) (fun c63 => ?_) (fun c63 => ?_)
      · subst c63
        refine J_iconst (nI 0) (by decide) dX11_components_70 ?_
        refine J_iadd dX11_components_71 ?_
        try rw [nI_add]
        refine J_istore_1 dX11_components_72 ?_
        refine J_iinc_2 (nI 1) dX11_components_73 (by decide) ?_
        try rw [nI_add]
        refine J_goto 9 dX11_components_76 (by decide) ?_
        exact hih
      · subst c63
        refine J_iconst (nI 1) (by decide) dX11_components_66 ?_
        refine J_goto 71 dX11_components_67 (by decide) ?_
        refine J_iadd dX11_components_71 ?_
        try rw [nI_add]
        refine J_istore_1 dX11_components_72 ?_
        refine J_iinc_2 (nI 1) dX11_components_73 (by decide) ?_
        try rw [nI_add]
        refine J_goto 9 dX11_components_76 (by decide) ?_
        exact hih
    · have hDq := hD.dst hI.g (v := q) (by omega)
      have hDm := hD.m q (by omega)
      refine J_iload_n (by rfl) dX11_components_35 ?_
      refine J_aload_n (by rfl) (by rfl) dX11_components_36 ?_
      refine J_get dX11_components_37 f_X11_22 (by repeat (first | assumption | exact jget_same2 (by (try simp only [List.length_set]); exact jlt (by assumption)) | refine jget_ne (by first | decide | assumption | omega) ?_)) (by rfl) ?_
      refine J_iload (by rfl) dX11_components_40 ?_
      refine J_iald_n (q) dX11_components_42 (by repeat (first | assumption | exact jget_same2 (by (try simp only [List.length_set]); exact jlt (by assumption)) | refine jget_ne (by first | decide | assumption | omega) ?_)) (by first | rfl | (simp only [pk_mul, nI_add]; done) | (simp only [pk_mul, nI_add]; congr 1; omega) | (congr 1; omega)) (by omega) ?_
      refine J_ldcI dX11_components_43 k_X11_96 ?_
      refine J_topi (nI 99999) (by rfl) ?_
      refine J_icmp_lt_n 52 dX11_components_45 (by decide) (fun c45 => ?_) (fun c45 => ?_)
      · have hnew : (b && false) = true ↔ ∀ o, o < q + 1 → ¬ dst (wS s) p o < 99999 := by
          rw [Bool.and_false]
          constructor
          · intro z; exact absurd z (by decide)
          · intro z; exact absurd (z q (by omega)) (by omega)
        refine J_iconst (nI 0) (by decide) dX11_components_52 ?_
        refine J_iand dX11_components_53 ?_
        refine J_topi (jb (b && false)) (by cases b <;> rfl) ?_
        refine J_istore_3 dX11_components_54 ?_
        refine J_iinc_4 (nI 1) dX11_components_55 (by decide) ?_
        try rw [nI_add]
        refine J_goto 29 dX11_components_58 (by decide) ?_
        exact ih2 (by omega) _ hnew
      · have hnew : (b && true) = true ↔ ∀ o, o < q + 1 → ¬ dst (wS s) p o < 99999 := by
          rw [Bool.and_true, hb]
          constructor
          · intro z o ho
            by_cases e : o = q
            · subst e; omega
            · exact z o (by omega)
          · intro z o ho; exact z o (by omega)
        refine J_iconst (nI 1) (by decide) dX11_components_48 ?_
        refine J_goto 53 dX11_components_49 (by decide) ?_
        refine J_iand dX11_components_53 ?_
        refine J_topi (jb (b && true)) (by cases b <;> rfl) ?_
        refine J_istore_3 dX11_components_54 ?_
        refine J_iinc_4 (nI 1) dX11_components_55 (by decide) ?_
        try rw [nI_add]
        refine J_goto 29 dX11_components_58 (by decide) ?_
        exact ih2 (by omega) _ hnew
theorem c_X11_componentsByMerging (hI : Inv K s) (hm : MPc h s sS P ch th ea fa sv lf ln tx tp) (hQ : ∀ h', jFr mC h h' → MPc h' s sS P ch 0 ea fa sv lf ln tx tp → Q (.inl (some (.int (nI (comps (wS s) (s 0)))))) h') : jCT G M_X11_componentsByMerging 4 0 0 X [.ref 116] h Q := by
  refine jCT_of [some (.ref 116)] 0 rfl (by decide +kernel) rfl rfl ?_
  obtain ⟨an, he, cm, W, F, C, h1, h2, h3, h4, h5, h6, h7, h8, h9⟩ := hm
  refine J_aload_n (by rfl) (by rfl) dX11_componentsByMerging_0 ?_
  refine J_V0v (ci := 11) dX11_componentsByMerging_1 s_X11_160 m_X11_components rfl (by repeat (first | assumption | exact jget_same2 (by (try simp only [List.length_set]); exact jlt (by assumption)) | refine jget_ne (by first | decide | assumption | omega) ?_)) rfl (c_X11_components hI ⟨an, he, cm, W, F, C, h1, h2, h3, h4, h5, h6, h7, h8, h9⟩ (fun h' hf hm => (jKv_i ?_)))
  exact J_ireturn dX11_componentsByMerging_4 rfl (hQ h' hf hm) (by decide) (by decide) (fun _ => rfl)
theorem c_X11_errorPosition (hm : MPc h s sS P ch th ea fa sv lf ln tx tp) (hQ : ∀ h', jFr mC h h' → MPc h' s sS P ch (if ea < 0 then 1 else 0) ea fa sv lf ln tx tp → Q (.inl (some (.int (if ea < 0 then nI 0 else ea)))) h') : jCT G M_X11_errorPosition 2 0 0 X [.ref 116] h Q := by
  refine jCT_of [some (.ref 116)] 0 rfl (by decide +kernel) rfl rfl ?_
  obtain ⟨an, he, cm, W, F, C, h1, h2, h3, h4, h5, h6, h7, h8, h9⟩ := hm
  have hQ := hQ (h.set 116 (hMo ch (if ea < 0 then 1 else 0) ea fa an sv ln tp he cm)) (jFr.refl.set 116 _ (by decide)) ⟨an, he, cm, W, F, C, (by repeat (first | assumption | exact jget_same2 (by (try simp only [List.length_set]); exact jlt (by assumption)) | refine jget_ne (by first | decide | assumption | omega) ?_)), (by repeat (first | assumption | exact jget_same2 (by (try simp only [List.length_set]); exact jlt (by assumption)) | refine jget_ne (by first | decide | assumption | omega) ?_)), (by repeat (first | assumption | exact jget_same2 (by (try simp only [List.length_set]); exact jlt (by assumption)) | refine jget_ne (by first | decide | assumption | omega) ?_)), (by repeat (first | assumption | exact jget_same2 (by (try simp only [List.length_set]); exact jlt (by assumption)) | refine jget_ne (by first | decide | assumption | omega) ?_)), (by repeat (first | assumption | exact jget_same2 (by (try simp only [List.length_set]); exact jlt (by assumption)) | refine jget_ne (by first | decide | assumption | omega) ?_)), (by repeat (first | assumption | exact jget_same2 (by (try simp only [List.length_set]); exact jlt (by assumption)) | refine jget_ne (by first | decide | assumption | omega) ?_)), (by repeat (first | assumption | exact jget_same2 (by (try simp only [List.length_set]); exact jlt (by assumption)) | refine jget_ne (by first | decide | assumption | omega) ?_)), (by repeat (first | assumption | exact jget_same2 (by (try simp only [List.length_set]); exact jlt (by assumption)) | refine jget_ne (by first | decide | assumption | omega) ?_)), (by repeat (first | assumption | exact jget_same2 (by (try simp only [List.length_set]); exact jlt (by assumption)) | refine jget_ne (by first | decide | assumption | omega) ?_))⟩
  refine J_aload_n (by rfl) (by rfl) dX11_errorPosition_0 ?_
  refine J_aload_n (by rfl) (by rfl) dX11_errorPosition_1 ?_
  refine J_get dX11_errorPosition_2 f_X11_25 (by repeat (first | assumption | exact jget_same2 (by (try simp only [List.length_set]); exact jlt (by assumption)) | refine jget_ne (by first | decide | assumption | omega) ?_)) (by rfl) ?_
  refine J_if_ge 12 dX11_errorPosition_5 (by decide) (fun c5 => ?_) (fun c5 => ?_)
  · have c5 : ¬ ea < 0 := Int32.not_lt.mpr c5
    rw [if_neg c5, if_neg c5] at hQ
    refine J_iconst (nI 0) (by decide) dX11_errorPosition_12 ?_
    refine J_iconst (nI 1) (by decide) dX11_errorPosition_13 ?_
    refine J_V2v (ci := 11) dX11_errorPosition_14 s_X11_63 m_X11_isThrown rfl (by repeat (first | assumption | exact jget_same2 (by (try simp only [List.length_set]); exact jlt (by assumption)) | refine jget_ne (by first | decide | assumption | omega) ?_)) rfl (c_X11_isThrown false (by repeat (first | assumption | exact jget_same2 (by (try simp only [List.length_set]); exact jlt (by assumption)) | refine jget_ne (by first | decide | assumption | omega) ?_)) (jKv_i ?_))
    refine J_if_eq_b 24 dX11_errorPosition_17 (by decide) (fun c17 => ?_) (fun c17 => ?_)
    · refine J_aload_n (by rfl) (by rfl) dX11_errorPosition_24 ?_
      refine J_get dX11_errorPosition_25 f_X11_25 (by repeat (first | assumption | exact jget_same2 (by (try simp only [List.length_set]); exact jlt (by assumption)) | refine jget_ne (by first | decide | assumption | omega) ?_)) (by rfl) ?_
      exact J_ireturn dX11_errorPosition_28 rfl (hQ) (by decide) (by decide) (fun _ => rfl)
    · exact absurd c17 (by decide)
  · have c5 : ea < 0 := Int32.not_le.mp c5
    rw [if_pos c5, if_pos c5] at hQ
    refine J_iconst (nI 1) (by decide) dX11_errorPosition_8 ?_
    refine J_goto 13 dX11_errorPosition_9 (by decide) ?_
    refine J_iconst (nI 1) (by decide) dX11_errorPosition_13 ?_
    refine J_V2v (ci := 11) dX11_errorPosition_14 s_X11_63 m_X11_isThrown rfl (by repeat (first | assumption | exact jget_same2 (by (try simp only [List.length_set]); exact jlt (by assumption)) | refine jget_ne (by first | decide | assumption | omega) ?_)) rfl (c_X11_isThrown true (by repeat (first | assumption | exact jget_same2 (by (try simp only [List.length_set]); exact jlt (by assumption)) | refine jget_ne (by first | decide | assumption | omega) ?_)) (jKv_i ?_))
    refine J_if_eq_b 24 dX11_errorPosition_17 (by decide) (fun c17 => ?_) (fun c17 => ?_)
    · exact absurd c17 (by decide)
    · refine J_iconst (nI 0) (by decide) dX11_errorPosition_20 ?_
      refine J_goto 28 dX11_errorPosition_21 (by decide) ?_
      exact J_ireturn dX11_errorPosition_28 rfl (hQ) (by decide) (by decide) (fun _ => rfl)
theorem c_X11_failedCommand (hm : MPc h s sS P ch th ea fa sv lf ln tx tp) (hQ : ∀ h', jFr mC h h' → MPc h' s sS P ch (if fa < 0 then 1 else 0) ea fa sv lf ln tx tp → Q (.inl (some (.int (if fa < 0 then nI 0 else fa)))) h') : jCT G M_X11_failedCommand 2 0 0 X [.ref 116] h Q := by
  refine jCT_of [some (.ref 116)] 0 rfl (by decide +kernel) rfl rfl ?_
  obtain ⟨an, he, cm, W, F, C, h1, h2, h3, h4, h5, h6, h7, h8, h9⟩ := hm
  have hQ := hQ (h.set 116 (hMo ch (if fa < 0 then 1 else 0) ea fa an sv ln tp he cm)) (jFr.refl.set 116 _ (by decide)) ⟨an, he, cm, W, F, C, (by repeat (first | assumption | exact jget_same2 (by (try simp only [List.length_set]); exact jlt (by assumption)) | refine jget_ne (by first | decide | assumption | omega) ?_)), (by repeat (first | assumption | exact jget_same2 (by (try simp only [List.length_set]); exact jlt (by assumption)) | refine jget_ne (by first | decide | assumption | omega) ?_)), (by repeat (first | assumption | exact jget_same2 (by (try simp only [List.length_set]); exact jlt (by assumption)) | refine jget_ne (by first | decide | assumption | omega) ?_)), (by repeat (first | assumption | exact jget_same2 (by (try simp only [List.length_set]); exact jlt (by assumption)) | refine jget_ne (by first | decide | assumption | omega) ?_)), (by repeat (first | assumption | exact jget_same2 (by (try simp only [List.length_set]); exact jlt (by assumption)) | refine jget_ne (by first | decide | assumption | omega) ?_)), (by repeat (first | assumption | exact jget_same2 (by (try simp only [List.length_set]); exact jlt (by assumption)) | refine jget_ne (by first | decide | assumption | omega) ?_)), (by repeat (first | assumption | exact jget_same2 (by (try simp only [List.length_set]); exact jlt (by assumption)) | refine jget_ne (by first | decide | assumption | omega) ?_)), (by repeat (first | assumption | exact jget_same2 (by (try simp only [List.length_set]); exact jlt (by assumption)) | refine jget_ne (by first | decide | assumption | omega) ?_)), (by repeat (first | assumption | exact jget_same2 (by (try simp only [List.length_set]); exact jlt (by assumption)) | refine jget_ne (by first | decide | assumption | omega) ?_))⟩
  refine J_aload_n (by rfl) (by rfl) dX11_failedCommand_0 ?_
  refine J_aload_n (by rfl) (by rfl) dX11_failedCommand_1 ?_
  refine J_get dX11_failedCommand_2 f_X11_29 (by repeat (first | assumption | exact jget_same2 (by (try simp only [List.length_set]); exact jlt (by assumption)) | refine jget_ne (by first | decide | assumption | omega) ?_)) (by rfl) ?_
  refine J_if_ge 12 dX11_failedCommand_5 (by decide) (fun c5 => ?_) (fun c5 => ?_)
  · have c5 : ¬ fa < 0 := Int32.not_lt.mpr c5
    rw [if_neg c5, if_neg c5] at hQ
    refine J_iconst (nI 0) (by decide) dX11_failedCommand_12 ?_
    refine J_iconst (nI 1) (by decide) dX11_failedCommand_13 ?_
    refine J_V2v (ci := 11) dX11_failedCommand_14 s_X11_63 m_X11_isThrown rfl (by repeat (first | assumption | exact jget_same2 (by (try simp only [List.length_set]); exact jlt (by assumption)) | refine jget_ne (by first | decide | assumption | omega) ?_)) rfl (c_X11_isThrown false (by repeat (first | assumption | exact jget_same2 (by (try simp only [List.length_set]); exact jlt (by assumption)) | refine jget_ne (by first | decide | assumption | omega) ?_)) (jKv_i ?_))
    refine J_if_eq_b 24 dX11_failedCommand_17 (by decide) (fun c17 => ?_) (fun c17 => ?_)
    · refine J_aload_n (by rfl) (by rfl) dX11_failedCommand_24 ?_
      refine J_get dX11_failedCommand_25 f_X11_29 (by repeat (first | assumption | exact jget_same2 (by (try simp only [List.length_set]); exact jlt (by assumption)) | refine jget_ne (by first | decide | assumption | omega) ?_)) (by rfl) ?_
      exact J_ireturn dX11_failedCommand_28 rfl (hQ) (by decide) (by decide) (fun _ => rfl)
    · exact absurd c17 (by decide)
  · have c5 : fa < 0 := Int32.not_le.mp c5
    rw [if_pos c5, if_pos c5] at hQ
    refine J_iconst (nI 1) (by decide) dX11_failedCommand_8 ?_
    refine J_goto 13 dX11_failedCommand_9 (by decide) ?_
    refine J_iconst (nI 1) (by decide) dX11_failedCommand_13 ?_
    refine J_V2v (ci := 11) dX11_failedCommand_14 s_X11_63 m_X11_isThrown rfl (by repeat (first | assumption | exact jget_same2 (by (try simp only [List.length_set]); exact jlt (by assumption)) | refine jget_ne (by first | decide | assumption | omega) ?_)) rfl (c_X11_isThrown true (by repeat (first | assumption | exact jget_same2 (by (try simp only [List.length_set]); exact jlt (by assumption)) | refine jget_ne (by first | decide | assumption | omega) ?_)) (jKv_i ?_))
    refine J_if_eq_b 24 dX11_failedCommand_17 (by decide) (fun c17 => ?_) (fun c17 => ?_)
    · exact absurd c17 (by decide)
    · refine J_iconst (nI 0) (by decide) dX11_failedCommand_20 ?_
      refine J_goto 28 dX11_failedCommand_21 (by decide) ?_
      exact J_ireturn dX11_failedCommand_28 rfl (hQ) (by decide) (by decide) (fun _ => rfl)
theorem c_X11_save (hm : MPc h s sS P ch th ea fa sv lf ln tx tp) (hQ : ∀ h' sS', jFr mC h h' → (∀ k, k < 204 → sS' k = s k) → MPc h' s sS' P ch 0 ea fa true lf ln tx tp → Q (.inl (some (.int (nI (s 0))))) h') : jCT G M_X11_save 2 0 0 X [.ref 116] h Q := by
  refine jCT_of [some (.ref 116)] 0 rfl (by decide +kernel) rfl rfl ?_
  obtain ⟨an, he, cm, W, F, C, h1, h2, h3, h4, h5, h6, h7, h8, h9⟩ := hm
  refine J_aload_n (by rfl) (by rfl) dX11_save_0 ?_
  refine J_iconst (nI 0) (by decide) dX11_save_1 ?_
  refine J_put_6 dX11_save_2 p_X11_41 (by repeat (first | assumption | exact jget_same2 (by (try simp only [List.length_set]); exact jlt (by assumption)) | refine jget_ne (by first | decide | assumption | omega) ?_)) ?_
  refine J_aload_n (by rfl) (by rfl) dX11_save_5 ?_
  refine J_get dX11_save_6 f_X11_9 (by repeat (first | assumption | exact jget_same2 (by (try simp only [List.length_set]); exact jlt (by assumption)) | refine jget_ne (by first | decide | assumption | omega) ?_)) (by rfl) ?_
  refine J_iconst (nI 0) (by decide) dX11_save_9 ?_
  refine J_aload_n (by rfl) (by rfl) dX11_save_10 ?_
  refine J_get dX11_save_11 f_X11_16 (by repeat (first | assumption | exact jget_same2 (by (try simp only [List.length_set]); exact jlt (by assumption)) | refine jget_ne (by first | decide | assumption | omega) ?_)) (by rfl) ?_
  refine J_iconst (nI 0) (by decide) dX11_save_14 ?_
  refine J_S40 dX11_save_15 s_X11_44 m_X11_copies rfl (c_X11_copies (n0 := 204) (n1 := 204) (f := s) (k0 := sS) (p := 0) (q := 0) (by decide) (by omega) (by omega) (by omega) (by omega) (by repeat (first | assumption | exact jget_same2 (by (try simp only [List.length_set]); exact jlt (by assumption)) | refine jget_ne (by first | decide | assumption | omega) ?_)) (by repeat (first | assumption | exact jget_same2 (by (try simp only [List.length_set]); exact jlt (by assumption)) | refine jget_ne (by first | decide | assumption | omega) ?_)) (jK0_i ?_))
  refine J_aload_n (by rfl) (by rfl) dX11_save_18 ?_
  refine J_iconst (nI 1) (by decide) dX11_save_19 ?_
  refine J_topi (jb true) rfl ?_
  refine J_put_10 dX11_save_20 p_X11_274 (by repeat (first | assumption | exact jget_same2 (by (try simp only [List.length_set]); exact jlt (by assumption)) | refine jget_ne (by first | decide | assumption | omega) ?_)) ?_ (jb_n true) (jb_f true)
  refine J_aload_n (by rfl) (by rfl) dX11_save_23 ?_
  refine J_get dX11_save_24 f_X11_9 (by repeat (first | assumption | exact jget_same2 (by (try simp only [List.length_set]); exact jlt (by assumption)) | refine jget_ne (by first | decide | assumption | omega) ?_)) (by rfl) ?_
  refine J_iconst (nI 0) (by decide) dX11_save_27 ?_
  refine J_iald_n (0) dX11_save_28 (by repeat (first | assumption | exact jget_same2 (by (try simp only [List.length_set]); exact jlt (by assumption)) | refine jget_ne (by first | decide | assumption | omega) ?_)) (by first | rfl | (simp only [pk_mul, nI_add]; done) | (simp only [pk_mul, nI_add]; congr 1; omega) | (congr 1; omega)) (by omega) ?_
  exact J_ireturn dX11_save_29 rfl (by
    simp only [List.set_set, jsw (i := 116) (j := 119) (by decide)]
    exact hQ _ _ ((jFr.refl.set 116 _ (by decide)).set 119 _ (by decide)) (fun k hk => cpN_W hk) ⟨an, he, cm, W, F, C, (by repeat (first | assumption | exact jget_same2 (by (try simp only [List.length_set]); exact jlt (by assumption)) | refine jget_ne (by first | decide | assumption | omega) ?_)), (by repeat (first | assumption | exact jget_same2 (by (try simp only [List.length_set]); exact jlt (by assumption)) | refine jget_ne (by first | decide | assumption | omega) ?_)), (by repeat (first | assumption | exact jget_same2 (by (try simp only [List.length_set]); exact jlt (by assumption)) | refine jget_ne (by first | decide | assumption | omega) ?_)), (by repeat (first | assumption | exact jget_same2 (by (try simp only [List.length_set]); exact jlt (by assumption)) | refine jget_ne (by first | decide | assumption | omega) ?_)), (by repeat (first | assumption | exact jget_same2 (by (try simp only [List.length_set]); exact jlt (by assumption)) | refine jget_ne (by first | decide | assumption | omega) ?_)), (by repeat (first | assumption | exact jget_same2 (by (try simp only [List.length_set]); exact jlt (by assumption)) | refine jget_ne (by first | decide | assumption | omega) ?_)), (by repeat (first | assumption | exact jget_same2 (by (try simp only [List.length_set]); exact jlt (by assumption)) | refine jget_ne (by first | decide | assumption | omega) ?_)), (by repeat (first | assumption | exact jget_same2 (by (try simp only [List.length_set]); exact jlt (by assumption)) | refine jget_ne (by first | decide | assumption | omega) ?_)), (by repeat (first | assumption | exact jget_same2 (by (try simp only [List.length_set]); exact jlt (by assumption)) | refine jget_ne (by first | decide | assumption | omega) ?_))⟩) (by decide) (by decide) (fun _ => rfl)
theorem c_X11_restore (hm : MPc h s sS P ch th ea fa sv lf ln tx tp) (hQ1 : sv = false → ∀ h', jFr mC h h' → MPc h' s sS P ch 1 ea fa sv lf ln tx tp → Q (.inl (some (.int (nI 0)))) h') (hQ2 : sv = true → ∀ h' s', jFr mC h h' → (∀ k, k < 204 → s' k = sS k) → MPc h' s' sS P 0 0 ea fa sv lf ln tx tp → Q (.inl (some (.int (nI (s' 0))))) h') : jCT G M_X11_restore 2 0 0 X [.ref 116] h Q := by
  refine jCT_of [some (.ref 116)] 0 rfl (by decide +kernel) rfl rfl ?_
  obtain ⟨an, he, cm, W, F, C, h1, h2, h3, h4, h5, h6, h7, h8, h9⟩ := hm
  refine J_aload_n (by rfl) (by rfl) dX11_restore_0 ?_
  refine J_aload_n (by rfl) (by rfl) dX11_restore_1 ?_
  refine J_get dX11_restore_2 f_X11_274 (by repeat (first | assumption | exact jget_same2 (by (try simp only [List.length_set]); exact jlt (by assumption)) | refine jget_ne (by first | decide | assumption | omega) ?_)) (by rfl) ?_
  refine J_if_ne_b 12 dX11_restore_5 (by decide) (fun c5 => ?_) (fun c5 => ?_)
  · refine J_iconst (nI 0) (by decide) dX11_restore_12 ?_
    refine J_iconst (nI 1) (by decide) dX11_restore_13 ?_
    refine J_V2v (ci := 11) dX11_restore_14 s_X11_63 m_X11_isThrown rfl (by repeat (first | assumption | exact jget_same2 (by (try simp only [List.length_set]); exact jlt (by assumption)) | refine jget_ne (by first | decide | assumption | omega) ?_)) rfl (c_X11_isThrown false (by repeat (first | assumption | exact jget_same2 (by (try simp only [List.length_set]); exact jlt (by assumption)) | refine jget_ne (by first | decide | assumption | omega) ?_)) (jKv_i ?_))
    refine J_if_eq_b 22 dX11_restore_17 (by decide) (fun c17 => ?_) (fun c17 => ?_)
    · refine J_aload_n (by rfl) (by rfl) dX11_restore_22 ?_
      refine J_get dX11_restore_23 f_X11_16 (by repeat (first | assumption | exact jget_same2 (by (try simp only [List.length_set]); exact jlt (by assumption)) | refine jget_ne (by first | decide | assumption | omega) ?_)) (by rfl) ?_
      refine J_iconst (nI 0) (by decide) dX11_restore_26 ?_
      refine J_aload_n (by rfl) (by rfl) dX11_restore_27 ?_
      refine J_get dX11_restore_28 f_X11_9 (by repeat (first | assumption | exact jget_same2 (by (try simp only [List.length_set]); exact jlt (by assumption)) | refine jget_ne (by first | decide | assumption | omega) ?_)) (by rfl) ?_
      refine J_iconst (nI 0) (by decide) dX11_restore_31 ?_
      refine J_S40 dX11_restore_32 s_X11_44 m_X11_copies rfl (c_X11_copies (n0 := 204) (n1 := 204) (f := sS) (k0 := s) (p := 0) (q := 0) (by decide) (by omega) (by omega) (by omega) (by omega) (by repeat (first | assumption | exact jget_same2 (by (try simp only [List.length_set]); exact jlt (by assumption)) | refine jget_ne (by first | decide | assumption | omega) ?_)) (by repeat (first | assumption | exact jget_same2 (by (try simp only [List.length_set]); exact jlt (by assumption)) | refine jget_ne (by first | decide | assumption | omega) ?_)) (jK0_i ?_))
      refine J_aload_n (by rfl) (by rfl) dX11_restore_35 ?_
      refine J_iconst (nI 0) (by decide) dX11_restore_36 ?_
      refine J_put_5 dX11_restore_37 p_X11_48 (by repeat (first | assumption | exact jget_same2 (by (try simp only [List.length_set]); exact jlt (by assumption)) | refine jget_ne (by first | decide | assumption | omega) ?_)) ?_
      refine J_aload_n (by rfl) (by rfl) dX11_restore_40 ?_
      refine J_get dX11_restore_41 f_X11_9 (by repeat (first | assumption | exact jget_same2 (by (try simp only [List.length_set]); exact jlt (by assumption)) | refine jget_ne (by first | decide | assumption | omega) ?_)) (by rfl) ?_
      refine J_iconst (nI 0) (by decide) dX11_restore_44 ?_
      refine J_iald_n (0) dX11_restore_45 (by repeat (first | assumption | exact jget_same2 (by (try simp only [List.length_set]); exact jlt (by assumption)) | refine jget_ne (by first | decide | assumption | omega) ?_)) (by first | rfl | (simp only [pk_mul, nI_add]; done) | (simp only [pk_mul, nI_add]; congr 1; omega) | (congr 1; omega)) (by omega) ?_
      exact J_ireturn dX11_restore_46 rfl (by
        simp only [List.set_set, jsw (i := 116) (j := 117) (by decide)]
        exact hQ2 c5 _ _ ((jFr.refl.set 116 _ (by decide)).set 117 _ (by decide)) (fun k hk => cpN_W hk) ⟨an, he, cm, W, F, C, (by repeat (first | assumption | exact jget_same2 (by (try simp only [List.length_set]); exact jlt (by assumption)) | refine jget_ne (by first | decide | assumption | omega) ?_)), (by repeat (first | assumption | exact jget_same2 (by (try simp only [List.length_set]); exact jlt (by assumption)) | refine jget_ne (by first | decide | assumption | omega) ?_)), (by repeat (first | assumption | exact jget_same2 (by (try simp only [List.length_set]); exact jlt (by assumption)) | refine jget_ne (by first | decide | assumption | omega) ?_)), (by repeat (first | assumption | exact jget_same2 (by (try simp only [List.length_set]); exact jlt (by assumption)) | refine jget_ne (by first | decide | assumption | omega) ?_)), (by repeat (first | assumption | exact jget_same2 (by (try simp only [List.length_set]); exact jlt (by assumption)) | refine jget_ne (by first | decide | assumption | omega) ?_)), (by repeat (first | assumption | exact jget_same2 (by (try simp only [List.length_set]); exact jlt (by assumption)) | refine jget_ne (by first | decide | assumption | omega) ?_)), (by repeat (first | assumption | exact jget_same2 (by (try simp only [List.length_set]); exact jlt (by assumption)) | refine jget_ne (by first | decide | assumption | omega) ?_)), (by repeat (first | assumption | exact jget_same2 (by (try simp only [List.length_set]); exact jlt (by assumption)) | refine jget_ne (by first | decide | assumption | omega) ?_)), (by repeat (first | assumption | exact jget_same2 (by (try simp only [List.length_set]); exact jlt (by assumption)) | refine jget_ne (by first | decide | assumption | omega) ?_))⟩) (by decide) (by decide) (fun _ => rfl)
    · exact absurd c17 (by decide)
  · refine J_iconst (nI 1) (by decide) dX11_restore_8 ?_
    refine J_goto 13 dX11_restore_9 (by decide) ?_
    refine J_iconst (nI 1) (by decide) dX11_restore_13 ?_
    refine J_V2v (ci := 11) dX11_restore_14 s_X11_63 m_X11_isThrown rfl (by repeat (first | assumption | exact jget_same2 (by (try simp only [List.length_set]); exact jlt (by assumption)) | refine jget_ne (by first | decide | assumption | omega) ?_)) rfl (c_X11_isThrown true (by repeat (first | assumption | exact jget_same2 (by (try simp only [List.length_set]); exact jlt (by assumption)) | refine jget_ne (by first | decide | assumption | omega) ?_)) (jKv_i ?_))
    refine J_if_eq_b 22 dX11_restore_17 (by decide) (fun c17 => ?_) (fun c17 => ?_)
    · exact absurd c17 (by decide)
    · refine J_iconst (nI 0) (by decide) dX11_restore_20 ?_
      exact J_ireturn dX11_restore_21 rfl (hQ1 c5 _ (jFr.refl.set 116 _ (by decide)) ⟨an, he, cm, W, F, C, (by repeat (first | assumption | exact jget_same2 (by (try simp only [List.length_set]); exact jlt (by assumption)) | refine jget_ne (by first | decide | assumption | omega) ?_)), (by repeat (first | assumption | exact jget_same2 (by (try simp only [List.length_set]); exact jlt (by assumption)) | refine jget_ne (by first | decide | assumption | omega) ?_)), (by repeat (first | assumption | exact jget_same2 (by (try simp only [List.length_set]); exact jlt (by assumption)) | refine jget_ne (by first | decide | assumption | omega) ?_)), (by repeat (first | assumption | exact jget_same2 (by (try simp only [List.length_set]); exact jlt (by assumption)) | refine jget_ne (by first | decide | assumption | omega) ?_)), (by repeat (first | assumption | exact jget_same2 (by (try simp only [List.length_set]); exact jlt (by assumption)) | refine jget_ne (by first | decide | assumption | omega) ?_)), (by repeat (first | assumption | exact jget_same2 (by (try simp only [List.length_set]); exact jlt (by assumption)) | refine jget_ne (by first | decide | assumption | omega) ?_)), (by repeat (first | assumption | exact jget_same2 (by (try simp only [List.length_set]); exact jlt (by assumption)) | refine jget_ne (by first | decide | assumption | omega) ?_)), (by repeat (first | assumption | exact jget_same2 (by (try simp only [List.length_set]); exact jlt (by assumption)) | refine jget_ne (by first | decide | assumption | omega) ?_)), (by repeat (first | assumption | exact jget_same2 (by (try simp only [List.length_set]); exact jlt (by assumption)) | refine jget_ne (by first | decide | assumption | omega) ?_))⟩) (by decide) (by decide) (fun _ => rfl)
theorem c_X11_undo (hch : ch ≤ 8) (hm : MPc h s sS P ch th ea fa sv lf ln tx tp) (hQ1 : ch = 0 → ∀ h', jFr mC h h' → MPc h' s sS P ch 1 ea fa sv lf ln tx tp → Q (.inl (some (.int (nI 0)))) h') (hQ2 : 0 < ch → ∀ h' s', jFr mC h h' → (∀ k, k < 204 → s' k = P (204 * (ch - 1) + k)) → MPc h' s' sS P (ch - 1) 0 ea fa sv lf ln tx tp → Q (.inl (some (.int (nI (ch - 1))))) h') : jCT G M_X11_undo 2 0 0 X [.ref 116] h Q := by
  refine jCT_of [some (.ref 116)] 0 rfl (by decide +kernel) rfl rfl ?_
  obtain ⟨an, he, cm, W, F, C, h1, h2, h3, h4, h5, h6, h7, h8, h9⟩ := hm
  refine J_aload_n (by rfl) (by rfl) dX11_undo_0 ?_
  refine J_aload_n (by rfl) (by rfl) dX11_undo_1 ?_
  refine J_get dX11_undo_2 f_X11_48 (by repeat (first | assumption | exact jget_same2 (by (try simp only [List.length_set]); exact jlt (by assumption)) | refine jget_ne (by first | decide | assumption | omega) ?_)) (by rfl) ?_
  refine J_if_ne_n 12 dX11_undo_5 (by decide) (fun c5 => ?_) (fun c5 => ?_)
  · refine J_iconst (nI 0) (by decide) dX11_undo_12 ?_
    refine J_iconst (nI 1) (by decide) dX11_undo_13 ?_
    refine J_V2v (ci := 11) dX11_undo_14 s_X11_63 m_X11_isThrown rfl (by repeat (first | assumption | exact jget_same2 (by (try simp only [List.length_set]); exact jlt (by assumption)) | refine jget_ne (by first | decide | assumption | omega) ?_)) rfl (c_X11_isThrown false (by repeat (first | assumption | exact jget_same2 (by (try simp only [List.length_set]); exact jlt (by assumption)) | refine jget_ne (by first | decide | assumption | omega) ?_)) (jKv_i ?_))
    refine J_if_eq_b 22 dX11_undo_17 (by decide) (fun c17 => ?_) (fun c17 => ?_)
    · refine J_aload_n (by rfl) (by rfl) dX11_undo_22 ?_
      refine J_dup (by rfl) dX11_undo_23 ?_
      refine J_get dX11_undo_24 f_X11_48 (by repeat (first | assumption | exact jget_same2 (by (try simp only [List.length_set]); exact jlt (by assumption)) | refine jget_ne (by first | decide | assumption | omega) ?_)) (by rfl) ?_
      refine J_iconst (nI 1) (by decide) dX11_undo_27 ?_
      refine J_isub_n (by omega) dX11_undo_28 ?_
      refine J_put_5 dX11_undo_29 p_X11_48 (by repeat (first | assumption | exact jget_same2 (by (try simp only [List.length_set]); exact jlt (by assumption)) | refine jget_ne (by first | decide | assumption | omega) ?_)) ?_
      refine J_aload_n (by rfl) (by rfl) dX11_undo_32 ?_
      refine J_get dX11_undo_33 f_X11_19 (by repeat (first | assumption | exact jget_same2 (by (try simp only [List.length_set]); exact jlt (by assumption)) | refine jget_ne (by first | decide | assumption | omega) ?_)) (by rfl) ?_
      refine J_sipush (nI 204) (by decide) dX11_undo_36 ?_
      refine J_aload_n (by rfl) (by rfl) dX11_undo_39 ?_
      refine J_get dX11_undo_40 f_X11_48 (by repeat (first | assumption | exact jget_same2 (by (try simp only [List.length_set]); exact jlt (by assumption)) | refine jget_ne (by first | decide | assumption | omega) ?_)) (by rfl) ?_
      refine J_imul dX11_undo_43 ?_
      try rw [pk_mul]
      refine J_aload_n (by rfl) (by rfl) dX11_undo_44 ?_
      refine J_get dX11_undo_45 f_X11_9 (by repeat (first | assumption | exact jget_same2 (by (try simp only [List.length_set]); exact jlt (by assumption)) | refine jget_ne (by first | decide | assumption | omega) ?_)) (by rfl) ?_
      refine J_iconst (nI 0) (by decide) dX11_undo_48 ?_
      refine J_S40 dX11_undo_49 s_X11_44 m_X11_copies rfl (c_X11_copies (n0 := 1632) (n1 := 204) (f := P) (k0 := s) (p := 204 * (ch - 1)) (q := 0) (by decide) (by omega) (by omega) (by omega) (by omega) (by repeat (first | assumption | exact jget_same2 (by (try simp only [List.length_set]); exact jlt (by assumption)) | refine jget_ne (by first | decide | assumption | omega) ?_)) (by repeat (first | assumption | exact jget_same2 (by (try simp only [List.length_set]); exact jlt (by assumption)) | refine jget_ne (by first | decide | assumption | omega) ?_)) (jK0_i ?_))
      refine J_aload_n (by rfl) (by rfl) dX11_undo_52 ?_
      refine J_get dX11_undo_53 f_X11_48 (by repeat (first | assumption | exact jget_same2 (by (try simp only [List.length_set]); exact jlt (by assumption)) | refine jget_ne (by first | decide | assumption | omega) ?_)) (by rfl) ?_
      exact J_ireturn dX11_undo_56 rfl (by
        simp only [List.set_set, jsw (i := 116) (j := 117) (by decide)]
        refine hQ2 (by omega) _ _ ((jFr.refl.set 116 _ (by decide)).set 117 _ (by decide)) (fun k hk => ?_) ⟨an, he, cm, W, F, C, (by repeat (first | assumption | exact jget_same2 (by (try simp only [List.length_set]); exact jlt (by assumption)) | refine jget_ne (by first | decide | assumption | omega) ?_)), (by repeat (first | assumption | exact jget_same2 (by (try simp only [List.length_set]); exact jlt (by assumption)) | refine jget_ne (by first | decide | assumption | omega) ?_)), (by repeat (first | assumption | exact jget_same2 (by (try simp only [List.length_set]); exact jlt (by assumption)) | refine jget_ne (by first | decide | assumption | omega) ?_)), (by repeat (first | assumption | exact jget_same2 (by (try simp only [List.length_set]); exact jlt (by assumption)) | refine jget_ne (by first | decide | assumption | omega) ?_)), (by repeat (first | assumption | exact jget_same2 (by (try simp only [List.length_set]); exact jlt (by assumption)) | refine jget_ne (by first | decide | assumption | omega) ?_)), (by repeat (first | assumption | exact jget_same2 (by (try simp only [List.length_set]); exact jlt (by assumption)) | refine jget_ne (by first | decide | assumption | omega) ?_)), (by repeat (first | assumption | exact jget_same2 (by (try simp only [List.length_set]); exact jlt (by assumption)) | refine jget_ne (by first | decide | assumption | omega) ?_)), (by repeat (first | assumption | exact jget_same2 (by (try simp only [List.length_set]); exact jlt (by assumption)) | refine jget_ne (by first | decide | assumption | omega) ?_)), (by repeat (first | assumption | exact jget_same2 (by (try simp only [List.length_set]); exact jlt (by assumption)) | refine jget_ne (by first | decide | assumption | omega) ?_))⟩
        have := cpN_in (g := s) (q := 0) (f := P) (p := 204 * (ch - 1)) hk
        rwa [Nat.zero_add] at this) (by decide) (by decide) (fun _ => rfl)
    · exact absurd c17 (by decide)
  · refine J_iconst (nI 1) (by decide) dX11_undo_8 ?_
    refine J_goto 13 dX11_undo_9 (by decide) ?_
    refine J_iconst (nI 1) (by decide) dX11_undo_13 ?_
    refine J_V2v (ci := 11) dX11_undo_14 s_X11_63 m_X11_isThrown rfl (by repeat (first | assumption | exact jget_same2 (by (try simp only [List.length_set]); exact jlt (by assumption)) | refine jget_ne (by first | decide | assumption | omega) ?_)) rfl (c_X11_isThrown true (by repeat (first | assumption | exact jget_same2 (by (try simp only [List.length_set]); exact jlt (by assumption)) | refine jget_ne (by first | decide | assumption | omega) ?_)) (jKv_i ?_))
    refine J_if_eq_b 22 dX11_undo_17 (by decide) (fun c17 => ?_) (fun c17 => ?_)
    · exact absurd c17 (by decide)
    · refine J_iconst (nI 0) (by decide) dX11_undo_20 ?_
      exact J_ireturn dX11_undo_21 rfl (by
        simp only [List.set_set]
        exact hQ1 c5 _ (jFr.refl.set 116 _ (by decide)) ⟨an, he, cm, W, F, C, (by repeat (first | assumption | exact jget_same2 (by (try simp only [List.length_set]); exact jlt (by assumption)) | refine jget_ne (by first | decide | assumption | omega) ?_)), (by repeat (first | assumption | exact jget_same2 (by (try simp only [List.length_set]); exact jlt (by assumption)) | refine jget_ne (by first | decide | assumption | omega) ?_)), (by repeat (first | assumption | exact jget_same2 (by (try simp only [List.length_set]); exact jlt (by assumption)) | refine jget_ne (by first | decide | assumption | omega) ?_)), (by repeat (first | assumption | exact jget_same2 (by (try simp only [List.length_set]); exact jlt (by assumption)) | refine jget_ne (by first | decide | assumption | omega) ?_)), (by repeat (first | assumption | exact jget_same2 (by (try simp only [List.length_set]); exact jlt (by assumption)) | refine jget_ne (by first | decide | assumption | omega) ?_)), (by repeat (first | assumption | exact jget_same2 (by (try simp only [List.length_set]); exact jlt (by assumption)) | refine jget_ne (by first | decide | assumption | omega) ?_)), (by repeat (first | assumption | exact jget_same2 (by (try simp only [List.length_set]); exact jlt (by assumption)) | refine jget_ne (by first | decide | assumption | omega) ?_)), (by repeat (first | assumption | exact jget_same2 (by (try simp only [List.length_set]); exact jlt (by assumption)) | refine jget_ne (by first | decide | assumption | omega) ?_)), (by repeat (first | assumption | exact jget_same2 (by (try simp only [List.length_set]); exact jlt (by assumption)) | refine jget_ne (by first | decide | assumption | omega) ?_))⟩) (by decide) (by decide) (fun _ => rfl)
theorem c_X11_away {i x y : Nat} (hi : i < 12) (hM : h[116]? = some (hMo ch th ea fa an sv ln tp he cm)) (hS : h[117]? = some (ia 204 s)) (hQ : Q (.inl (some (.int (nI (sqd (pX s) (pY s) x y i))))) h) : jCT G M_X11_away 2 0 0 X [.ref 116, .int (nI i), .int (nI x), .int (nI y)] h Q := by
  refine jCT_of [some (.ref 116), some (.int (nI i)), some (.int (nI x)), some (.int (nI y))] 0 rfl (by decide +kernel) rfl rfl ?_
  refine J_iload_n (by rfl) dX11_away_0 ?_
  refine J_aload_n (by rfl) (by rfl) dX11_away_1 ?_
  refine J_iload_n (by rfl) dX11_away_2 ?_
  refine J_iconst (nI 0) (by decide) dX11_away_3 ?_
  refine J_V2v (ci := 11) dX11_away_4 s_X11_108 m_X11_of rfl (by repeat (first | assumption | exact jget_same2 (by (try simp only [List.length_set]); exact jlt (by assumption)) | refine jget_ne (by first | decide | assumption | omega) ?_)) rfl (c_X11_of (s := s) (by omega) hM hS (jKv_i ?_))
  refine J_topi (nI (pX s i)) rfl ?_
  refine J_isub dX11_away_7 ?_
  refine J_topi (iI ((x : Int) - pX s i)) (nI_sub _ _) ?_
  refine J_iload_n (by rfl) dX11_away_8 ?_
  refine J_aload_n (by rfl) (by rfl) dX11_away_9 ?_
  refine J_iload_n (by rfl) dX11_away_10 ?_
  refine J_iconst (nI 1) (by decide) dX11_away_11 ?_
  refine J_V2v (ci := 11) dX11_away_12 s_X11_108 m_X11_of rfl (by repeat (first | assumption | exact jget_same2 (by (try simp only [List.length_set]); exact jlt (by assumption)) | refine jget_ne (by first | decide | assumption | omega) ?_)) rfl (c_X11_of (s := s) (by omega) hM hS (jKv_i ?_))
  refine J_topi (nI (pY s i)) rfl ?_
  refine J_isub dX11_away_15 ?_
  refine J_topi (iI ((y : Int) - pY s i)) (nI_sub _ _) ?_
  refine J_S2v dX11_away_16 s_X11_123 m_X11_square rfl (c_X11_square _ _ (jKv_i ?_))
  exact J_ireturn dX11_away_19 rfl (hQ) (by decide) (by decide) (fun _ => rfl)
theorem c_X11_nearest (x y : Int32) (hI : Inv K s) (hm : MPc h s sS P ch th ea fa sv lf ln tx tp) (hQ : ∀ h', jFr mC h h' → MPc h' s sS P ch (Tn s x y) ea fa sv lf ln tx tp → Q (.inl (some (.int (nI (if Tn s x y = 0 then amin (sqd (pX s) (pY s) (nP x) (nP y)) (s 0 - 1) else 0))))) h') : jCT G M_X11_nearest 3 0 0 X [.ref 116, .int x, .int y] h Q := by
  refine jCT_of [some (.ref 116), some (.int x), some (.int y), none, none] 2 rfl (by decide +kernel) rfl rfl ?_
  obtain ⟨an, he, cm, W, F, C, h1, h2, h3, h4, h5, h6, h7, h8, h9⟩ := hm
  have hn := hI.n12
  refine J_aload_n (by rfl) (by rfl) dX11_nearest_0 ?_
  refine J_iload_n (by rfl) dX11_nearest_1 ?_
  refine J_iload_n (by rfl) dX11_nearest_2 ?_
  refine J_S2v dX11_nearest_3 s_X11_59 m_X11_isPlace rfl (c_X11_isPlace x y (jKv_i ?_))
  refine J_if_ne_b 13 dX11_nearest_6 (by decide) (fun c6 => ?_) (fun c6 => ?_)
  · refine J_iconst (nI 0) (by decide) dX11_nearest_13 ?_
    refine J_iconst (nI 1) (by decide) dX11_nearest_14 ?_
    refine J_V2v (ci := 11) dX11_nearest_15 s_X11_63 m_X11_isThrown rfl (by repeat (first | assumption | exact jget_same2 (by (try simp only [List.length_set]); exact jlt (by assumption)) | refine jget_ne (by first | decide | assumption | omega) ?_)) rfl (c_X11_isThrown false (by repeat (first | assumption | exact jget_same2 (by (try simp only [List.length_set]); exact jlt (by assumption)) | refine jget_ne (by first | decide | assumption | omega) ?_)) (jKv_i ?_))
    refine J_if_ne_b 43 dX11_nearest_18 (by decide) (fun c18 => ?_) (fun c18 => ?_)
    · exact absurd c18 (by decide)
    · refine J_aload_n (by rfl) (by rfl) dX11_nearest_21 ?_
      refine J_aload_n (by rfl) (by rfl) dX11_nearest_22 ?_
      refine J_get dX11_nearest_23 f_X11_9 (by repeat (first | assumption | exact jget_same2 (by (try simp only [List.length_set]); exact jlt (by assumption)) | refine jget_ne (by first | decide | assumption | omega) ?_)) (by rfl) ?_
      refine J_iconst (nI 0) (by decide) dX11_nearest_26 ?_
      refine J_iald_n (0) dX11_nearest_27 (by repeat (first | assumption | exact jget_same2 (by (try simp only [List.length_set]); exact jlt (by assumption)) | refine jget_ne (by first | decide | assumption | omega) ?_)) (by first | rfl | (simp only [pk_mul, nI_add]; done) | (simp only [pk_mul, nI_add]; congr 1; omega) | (congr 1; omega)) (by omega) ?_
      refine J_if_ne_n 35 dX11_nearest_28 (by decide) (fun c28 => ?_) (fun c28 => ?_)
      · have hT : Tn s x y = 0 := by unfold Tn; rw [if_pos c6, if_neg (by omega)]
        obtain ⟨a, b, rfl, rfl, ha, hb, e1, e2⟩ := isP_t c6
        have hQ := hQ (h.set 116 (hMo ch (Tn s (nI a) (nI b)) ea fa an sv ln tp he cm)) (jFr.refl.set 116 _ (by decide)) ⟨an, he, cm, W, F, C, (by repeat (first | assumption | exact jget_same2 (by (try simp only [List.length_set]); exact jlt (by assumption)) | refine jget_ne (by first | decide | assumption | omega) ?_)), (by repeat (first | assumption | exact jget_same2 (by (try simp only [List.length_set]); exact jlt (by assumption)) | refine jget_ne (by first | decide | assumption | omega) ?_)), (by repeat (first | assumption | exact jget_same2 (by (try simp only [List.length_set]); exact jlt (by assumption)) | refine jget_ne (by first | decide | assumption | omega) ?_)), (by repeat (first | assumption | exact jget_same2 (by (try simp only [List.length_set]); exact jlt (by assumption)) | refine jget_ne (by first | decide | assumption | omega) ?_)), (by repeat (first | assumption | exact jget_same2 (by (try simp only [List.length_set]); exact jlt (by assumption)) | refine jget_ne (by first | decide | assumption | omega) ?_)), (by repeat (first | assumption | exact jget_same2 (by (try simp only [List.length_set]); exact jlt (by assumption)) | refine jget_ne (by first | decide | assumption | omega) ?_)), (by repeat (first | assumption | exact jget_same2 (by (try simp only [List.length_set]); exact jlt (by assumption)) | refine jget_ne (by first | decide | assumption | omega) ?_)), (by repeat (first | assumption | exact jget_same2 (by (try simp only [List.length_set]); exact jlt (by assumption)) | refine jget_ne (by first | decide | assumption | omega) ?_)), (by repeat (first | assumption | exact jget_same2 (by (try simp only [List.length_set]); exact jlt (by assumption)) | refine jget_ne (by first | decide | assumption | omega) ?_))⟩
        rw [hT, if_pos rfl, e1, e2] at hQ
        have hsq : ∀ i, i < 12 → sqd (pX s) (pY s) a b i < 2 ^ 31 := fun i hi => by
          have h1 := sq2_le ha (hI.p i hi).1
          have h2 := sq2_le hb (hI.p i hi).2.1
          show sq2 a (pX s i) + sq2 b (pY s i) < _
          omega
        refine J_iconst (nI 0) (by decide) dX11_nearest_35 ?_
        refine J_iconst (nI 2) (by decide) dX11_nearest_36 ?_
        refine J_V2v (ci := 11) dX11_nearest_37 s_X11_63 m_X11_isThrown rfl (by repeat (first | assumption | exact jget_same2 (by (try simp only [List.length_set]); exact jlt (by assumption)) | refine jget_ne (by first | decide | assumption | omega) ?_)) rfl (c_X11_isThrown false (by repeat (first | assumption | exact jget_same2 (by (try simp only [List.length_set]); exact jlt (by assumption)) | refine jget_ne (by first | decide | assumption | omega) ?_)) (jKv_i ?_))
        refine J_if_eq_b 45 dX11_nearest_40 (by decide) (fun c40 => ?_) (fun c40 => ?_)
        · refine J_iconst (nI 0) (by decide) dX11_nearest_45 ?_
          refine J_istore_3 dX11_nearest_46 ?_
          refine J_iconst (nI 1) (by decide) dX11_nearest_47 ?_
          refine J_istore_4 dX11_nearest_48 ?_
          (try simp only [List.set_set])
          suffices loop : ∀ k, k ≤ s 0 → 1 ≤ k → J G (jR 3 0 0) (jFin G Q X 0 0) M_X11_nearest X 0 0 50 [some (.ref 116), some (.int (nI a)), some (.int (nI b)), some (.int (nI (amin (sqd (pX s) (pY s) a b) (k - 1)))), some (.int (nI k))] [] (h.set 116 (hMo ch 0 ea fa an sv ln tp he cm)) by
            exact loop 1 (by omega) (by omega)
          refine up_ind (s 0) (fun k hk ih hk1 => ?_)
          have hal := amin_le (sqd (pX s) (pY s) a b) (k - 1)
          refine J_iload (by rfl) dX11_nearest_50 ?_
          refine J_aload_n (by rfl) (by rfl) dX11_nearest_52 ?_
          refine J_get dX11_nearest_53 f_X11_9 (by repeat (first | assumption | exact jget_same2 (by (try simp only [List.length_set]); exact jlt (by assumption)) | refine jget_ne (by first | decide | assumption | omega) ?_)) (by rfl) ?_
          refine J_iconst (nI 0) (by decide) dX11_nearest_56 ?_
          refine J_iald_n (0) dX11_nearest_57 (by repeat (first | assumption | exact jget_same2 (by (try simp only [List.length_set]); exact jlt (by assumption)) | refine jget_ne (by first | decide | assumption | omega) ?_)) (by first | rfl | (simp only [pk_mul, nI_add]; done) | (simp only [pk_mul, nI_add]; congr 1; omega) | (congr 1; omega)) (by omega) ?_
          refine J_icmp_ge_n 92 dX11_nearest_58 (by decide) (fun c58 => ?_) (fun c58 => ?_)
          · refine J_iload_n (by rfl) dX11_nearest_92 ?_
            exact J_ireturn dX11_nearest_93 rfl (by rw [show k = s 0 by omega]; exact hQ) (by decide) (by decide) (fun _ => rfl)
          · have z1 := hsq k (by omega)
            have z2 := hsq (amin (sqd (pX s) (pY s) a b) (k - 1)) (by omega)
            have hst : amin (sqd (pX s) (pY s) a b) k = if sqd (pX s) (pY s) a b k < sqd (pX s) (pY s) a b (amin (sqd (pX s) (pY s) a b) (k - 1)) then k else amin (sqd (pX s) (pY s) a b) (k - 1) := by
              obtain ⟨j, rfl⟩ : ∃ j, k = j + 1 := ⟨k - 1, by omega⟩
              rfl
            have hih := ih (by omega) (by omega)
            rw [Nat.add_sub_cancel, hst] at hih
            refine J_aload_n (by rfl) (by rfl) dX11_nearest_61 ?_
            refine J_iload (by rfl) dX11_nearest_62 ?_
            refine J_iload_n (by rfl) dX11_nearest_64 ?_
            refine J_iload_n (by rfl) dX11_nearest_65 ?_
            refine J_V3v (ci := 11) dX11_nearest_66 s_X11_163 m_X11_away rfl (by repeat (first | assumption | exact jget_same2 (by (try simp only [List.length_set]); exact jlt (by assumption)) | refine jget_ne (by first | decide | assumption | omega) ?_)) rfl (c_X11_away (s := s) (i := k) (by omega) (by repeat (first | assumption | exact jget_same2 (by (try simp only [List.length_set]); exact jlt (by assumption)) | refine jget_ne (by first | decide | assumption | omega) ?_)) (by repeat (first | assumption | exact jget_same2 (by (try simp only [List.length_set]); exact jlt (by assumption)) | refine jget_ne (by first | decide | assumption | omega) ?_)) (jKv_i ?_))
            refine J_aload_n (by rfl) (by rfl) dX11_nearest_69 ?_
            refine J_iload_n (by rfl) dX11_nearest_70 ?_
            refine J_iload_n (by rfl) dX11_nearest_71 ?_
            refine J_iload_n (by rfl) dX11_nearest_72 ?_
            refine J_V3v (ci := 11) dX11_nearest_73 s_X11_163 m_X11_away rfl (by repeat (first | assumption | exact jget_same2 (by (try simp only [List.length_set]); exact jlt (by assumption)) | refine jget_ne (by first | decide | assumption | omega) ?_)) rfl (c_X11_away (s := s) (by omega) (by repeat (first | assumption | exact jget_same2 (by (try simp only [List.length_set]); exact jlt (by assumption)) | refine jget_ne (by first | decide | assumption | omega) ?_)) (by repeat (first | assumption | exact jget_same2 (by (try simp only [List.length_set]); exact jlt (by assumption)) | refine jget_ne (by first | decide | assumption | omega) ?_)) (jKv_i ?_))
            refine J_icmp_ge_n 84 dX11_nearest_76 (by decide) (fun c76 => ?_) (fun c76 => ?_)
            · rw [if_neg (by omega)] at hih
              refine J_iload_n (by rfl) dX11_nearest_84 ?_
              refine J_istore_3 dX11_nearest_85 ?_
              refine J_iinc_4 (nI 1) dX11_nearest_86 (by decide) ?_
              try rw [nI_add]
              refine J_goto 50 dX11_nearest_89 (by decide) ?_
              exact hih
            · rw [if_pos (by omega)] at hih
              refine J_iload (by rfl) dX11_nearest_79 ?_
              refine J_goto 85 dX11_nearest_81 (by decide) ?_
              refine J_istore_3 dX11_nearest_85 ?_
              refine J_iinc_4 (nI 1) dX11_nearest_86 (by decide) ?_
              try rw [nI_add]
              refine J_goto 50 dX11_nearest_89 (by decide) ?_
              exact hih
        · exact absurd c40 (by decide)
      · have hT : Tn s x y = 2 := by unfold Tn; rw [if_pos c6, if_pos c28]
        have hQ := hQ (h.set 116 (hMo ch (Tn s x y) ea fa an sv ln tp he cm)) (jFr.refl.set 116 _ (by decide)) ⟨an, he, cm, W, F, C, (by repeat (first | assumption | exact jget_same2 (by (try simp only [List.length_set]); exact jlt (by assumption)) | refine jget_ne (by first | decide | assumption | omega) ?_)), (by repeat (first | assumption | exact jget_same2 (by (try simp only [List.length_set]); exact jlt (by assumption)) | refine jget_ne (by first | decide | assumption | omega) ?_)), (by repeat (first | assumption | exact jget_same2 (by (try simp only [List.length_set]); exact jlt (by assumption)) | refine jget_ne (by first | decide | assumption | omega) ?_)), (by repeat (first | assumption | exact jget_same2 (by (try simp only [List.length_set]); exact jlt (by assumption)) | refine jget_ne (by first | decide | assumption | omega) ?_)), (by repeat (first | assumption | exact jget_same2 (by (try simp only [List.length_set]); exact jlt (by assumption)) | refine jget_ne (by first | decide | assumption | omega) ?_)), (by repeat (first | assumption | exact jget_same2 (by (try simp only [List.length_set]); exact jlt (by assumption)) | refine jget_ne (by first | decide | assumption | omega) ?_)), (by repeat (first | assumption | exact jget_same2 (by (try simp only [List.length_set]); exact jlt (by assumption)) | refine jget_ne (by first | decide | assumption | omega) ?_)), (by repeat (first | assumption | exact jget_same2 (by (try simp only [List.length_set]); exact jlt (by assumption)) | refine jget_ne (by first | decide | assumption | omega) ?_)), (by repeat (first | assumption | exact jget_same2 (by (try simp only [List.length_set]); exact jlt (by assumption)) | refine jget_ne (by first | decide | assumption | omega) ?_))⟩
        rw [hT, if_neg (by decide)] at hQ
        refine J_iconst (nI 1) (by decide) dX11_nearest_31 ?_
        refine J_goto 36 dX11_nearest_32 (by decide) ?_
        refine J_iconst (nI 2) (by decide) dX11_nearest_36 ?_
        refine J_V2v (ci := 11) dX11_nearest_37 s_X11_63 m_X11_isThrown rfl (by repeat (first | assumption | exact jget_same2 (by (try simp only [List.length_set]); exact jlt (by assumption)) | refine jget_ne (by first | decide | assumption | omega) ?_)) rfl (c_X11_isThrown true (by repeat (first | assumption | exact jget_same2 (by (try simp only [List.length_set]); exact jlt (by assumption)) | refine jget_ne (by first | decide | assumption | omega) ?_)) (jKv_i ?_))
        refine J_if_eq_b 45 dX11_nearest_40 (by decide) (fun c40 => ?_) (fun c40 => ?_)
        · exact absurd c40 (by decide)
        · refine J_iconst (nI 0) (by decide) dX11_nearest_43 ?_
          exact J_ireturn dX11_nearest_44 rfl (by (try simp only [List.set_set]); exact hQ) (by decide) (by decide) (fun _ => rfl)
  · have hT : Tn s x y = 1 := by unfold Tn; rw [if_neg (by rw [c6]; decide)]
    have hQ := hQ (h.set 116 (hMo ch (Tn s x y) ea fa an sv ln tp he cm)) (jFr.refl.set 116 _ (by decide)) ⟨an, he, cm, W, F, C, (by repeat (first | assumption | exact jget_same2 (by (try simp only [List.length_set]); exact jlt (by assumption)) | refine jget_ne (by first | decide | assumption | omega) ?_)), (by repeat (first | assumption | exact jget_same2 (by (try simp only [List.length_set]); exact jlt (by assumption)) | refine jget_ne (by first | decide | assumption | omega) ?_)), (by repeat (first | assumption | exact jget_same2 (by (try simp only [List.length_set]); exact jlt (by assumption)) | refine jget_ne (by first | decide | assumption | omega) ?_)), (by repeat (first | assumption | exact jget_same2 (by (try simp only [List.length_set]); exact jlt (by assumption)) | refine jget_ne (by first | decide | assumption | omega) ?_)), (by repeat (first | assumption | exact jget_same2 (by (try simp only [List.length_set]); exact jlt (by assumption)) | refine jget_ne (by first | decide | assumption | omega) ?_)), (by repeat (first | assumption | exact jget_same2 (by (try simp only [List.length_set]); exact jlt (by assumption)) | refine jget_ne (by first | decide | assumption | omega) ?_)), (by repeat (first | assumption | exact jget_same2 (by (try simp only [List.length_set]); exact jlt (by assumption)) | refine jget_ne (by first | decide | assumption | omega) ?_)), (by repeat (first | assumption | exact jget_same2 (by (try simp only [List.length_set]); exact jlt (by assumption)) | refine jget_ne (by first | decide | assumption | omega) ?_)), (by repeat (first | assumption | exact jget_same2 (by (try simp only [List.length_set]); exact jlt (by assumption)) | refine jget_ne (by first | decide | assumption | omega) ?_))⟩
    rw [hT, if_neg (by decide)] at hQ
    refine J_iconst (nI 1) (by decide) dX11_nearest_9 ?_
    refine J_goto 14 dX11_nearest_10 (by decide) ?_
    refine J_iconst (nI 1) (by decide) dX11_nearest_14 ?_
    refine J_V2v (ci := 11) dX11_nearest_15 s_X11_63 m_X11_isThrown rfl (by repeat (first | assumption | exact jget_same2 (by (try simp only [List.length_set]); exact jlt (by assumption)) | refine jget_ne (by first | decide | assumption | omega) ?_)) rfl (c_X11_isThrown true (by repeat (first | assumption | exact jget_same2 (by (try simp only [List.length_set]); exact jlt (by assumption)) | refine jget_ne (by first | decide | assumption | omega) ?_)) (jKv_i ?_))
    refine J_if_ne_b 43 dX11_nearest_18 (by decide) (fun c18 => ?_) (fun c18 => ?_)
    · refine J_iconst (nI 0) (by decide) dX11_nearest_43 ?_
      exact J_ireturn dX11_nearest_44 rfl (hQ) (by decide) (by decide) (fun _ => rfl)
    · exact absurd c18 (by decide)
theorem c_X11_drift (hI : Inv K s) (hm : MPc h s sS P ch th ea fa sv lf ln tx tp) (hQ1 : s 1 = 0 → ∀ h', jFr mC h h' → MPc h' s sS P ch 1 ea fa sv lf ln tx tp → Q (.inl (some (.int (nI 0)))) h') (hQ2 : 0 < s 1 → ∀ h' r, jFr mC h h' → r * r * denS s (s 3) (s 4) ≤ numS s (s 3) (s 4) → numS s (s 3) (s 4) < (r + 1) * (r + 1) * denS s (s 3) (s 4) → MPc h' s sS P ch 0 ea fa sv lf ln tx tp → Q (.inl (some (.int (nI r)))) h') : jCT G M_X11_drift 4 0 0 X [.ref 116] h Q := by
  refine jCT_of [some (.ref 116), none] 1 rfl (by decide +kernel) rfl rfl ?_
  obtain ⟨an, he, cm, W, F, C, h1, h2, h3, h4, h5, h6, h7, h8, h9⟩ := hm
  have hs1 := hI.s1
  refine J_aload_n (by rfl) (by rfl) dX11_drift_0 ?_
  refine J_aload_n (by rfl) (by rfl) dX11_drift_1 ?_
  refine J_V0v (ci := 11) dX11_drift_2 s_X11_97 m_X11_isOnTour rfl (by repeat (first | assumption | exact jget_same2 (by (try simp only [List.length_set]); exact jlt (by assumption)) | refine jget_ne (by first | decide | assumption | omega) ?_)) rfl (c_X11_isOnTour hs1 (by repeat (first | assumption | exact jget_same2 (by (try simp only [List.length_set]); exact jlt (by assumption)) | refine jget_ne (by first | decide | assumption | omega) ?_)) (by repeat (first | assumption | exact jget_same2 (by (try simp only [List.length_set]); exact jlt (by assumption)) | refine jget_ne (by first | decide | assumption | omega) ?_)) (jKv_i ?_))
  refine J_if_ne_b 12 dX11_drift_5 (by decide) (fun c5 => ?_) (fun c5 => ?_)
  · have c5 : 0 < s 1 := by simpa using c5
    have hL := legOk_of hI c5
    obtain ⟨t1, t2, t3, t4, t5, t6, t7⟩ := hI.t c5
    have hle := num_le hI c5
    obtain ⟨b1, b2, b3⟩ := num_b hL t5 t6
    refine J_iconst (nI 0) (by decide) dX11_drift_12 ?_
    refine J_iconst (nI 1) (by decide) dX11_drift_13 ?_
    refine J_V2v (ci := 11) dX11_drift_14 s_X11_63 m_X11_isThrown rfl (by repeat (first | assumption | exact jget_same2 (by (try simp only [List.length_set]); exact jlt (by assumption)) | refine jget_ne (by first | decide | assumption | omega) ?_)) rfl (c_X11_isThrown false (by repeat (first | assumption | exact jget_same2 (by (try simp only [List.length_set]); exact jlt (by assumption)) | refine jget_ne (by first | decide | assumption | omega) ?_)) (jKv_i ?_))
    refine J_if_eq_b 22 dX11_drift_17 (by decide) (fun c17 => ?_) (fun c17 => ?_)
    · refine J_iconst (nI 0) (by decide) dX11_drift_22 ?_
      refine J_istore_1 dX11_drift_23 ?_
      suffices loop : ∀ k r, 141 - r ≤ k → r ≤ 140 → r * r * denS s (s 3) (s 4) ≤ numS s (s 3) (s 4) → J G (jR 4 0 0) (jFin G Q X 0 0) M_X11_drift X 0 0 24 [some (.ref 116), some (.int (nI r))] [] (h.set 116 (hMo ch 0 ea fa an sv ln tp he cm)) by
        exact loop 141 0 (by omega) (by omega) (by omega)
      intro k
      induction k with
      | zero => intro r hk hr; omega
      | succ k ih =>
        intro r hk hr hrn
        refine J_aload_n (by rfl) (by rfl) dX11_drift_24 ?_
        refine J_aload_n (by rfl) (by rfl) dX11_drift_25 ?_
        refine J_get dX11_drift_26 f_X11_9 (by repeat (first | assumption | exact jget_same2 (by (try simp only [List.length_set]); exact jlt (by assumption)) | refine jget_ne (by first | decide | assumption | omega) ?_)) (by rfl) ?_
        refine J_iconst (nI 3) (by decide) dX11_drift_29 ?_
        refine J_iald_n (3) dX11_drift_30 (by repeat (first | assumption | exact jget_same2 (by (try simp only [List.length_set]); exact jlt (by assumption)) | refine jget_ne (by first | decide | assumption | omega) ?_)) (by first | rfl | (simp only [pk_mul, nI_add]; done) | (simp only [pk_mul, nI_add]; congr 1; omega) | (congr 1; omega)) (by omega) ?_
        refine J_aload_n (by rfl) (by rfl) dX11_drift_31 ?_
        refine J_get dX11_drift_32 f_X11_9 (by repeat (first | assumption | exact jget_same2 (by (try simp only [List.length_set]); exact jlt (by assumption)) | refine jget_ne (by first | decide | assumption | omega) ?_)) (by rfl) ?_
        refine J_iconst (nI 4) (by decide) dX11_drift_35 ?_
        refine J_iald_n (4) dX11_drift_36 (by repeat (first | assumption | exact jget_same2 (by (try simp only [List.length_set]); exact jlt (by assumption)) | refine jget_ne (by first | decide | assumption | omega) ?_)) (by first | rfl | (simp only [pk_mul, nI_add]; done) | (simp only [pk_mul, nI_add]; congr 1; omega) | (congr 1; omega)) (by omega) ?_
        refine J_iload_n (by rfl) dX11_drift_37 ?_
        refine J_iconst (nI 1) (by decide) dX11_drift_38 ?_
        refine J_iadd dX11_drift_39 ?_
        try rw [nI_add]
        refine J_V3v (ci := 11) dX11_drift_40 s_X11_175 m_X11_isBeyond rfl (by repeat (first | assumption | exact jget_same2 (by (try simp only [List.length_set]); exact jlt (by assumption)) | refine jget_ne (by first | decide | assumption | omega) ?_)) rfl (c_X11_isBeyond (s := s) hL t5 t6 (by omega) (by repeat (first | assumption | exact jget_same2 (by (try simp only [List.length_set]); exact jlt (by assumption)) | refine jget_ne (by first | decide | assumption | omega) ?_)) (by repeat (first | assumption | exact jget_same2 (by (try simp only [List.length_set]); exact jlt (by assumption)) | refine jget_ne (by first | decide | assumption | omega) ?_)) (jKv_i ?_))
        by_cases hb : (r + 1) * (r + 1) * denS s (s 3) (s 4) ≤ numS s (s 3) (s 4)
        · rw [show decide ((r + 1) * (r + 1) * denS s (s 3) (s 4) ≤ numS s (s 3) (s 4)) = true by simpa using hb]
          have hr2 : r + 1 ≤ 140 := by
            rcases Nat.lt_or_ge r 140 with q | q
            · omega
            · exfalso
              have : 19881 * denS s (s 3) (s 4) ≤ (r + 1) * (r + 1) * denS s (s 3) (s 4) := Nat.mul_le_mul_right _ (Nat.mul_le_mul (show 141 ≤ r + 1 by omega) (show 141 ≤ r + 1 by omega))
              omega
          refine J_if_eq_b 52 dX11_drift_43 (by decide) (fun c43 => ?_) (fun c43 => ?_)
          · exact absurd c43 (by decide)
          · refine J_iinc_1 (nI 1) dX11_drift_46 (by decide) ?_
            try rw [nI_add]
            refine J_goto 24 dX11_drift_49 (by decide) ?_
            exact ih (r + 1) (by omega) hr2 hb
        · rw [show decide ((r + 1) * (r + 1) * denS s (s 3) (s 4) ≤ numS s (s 3) (s 4)) = false by simpa using hb]
          refine J_if_eq_b 52 dX11_drift_43 (by decide) (fun c43 => ?_) (fun c43 => ?_)
          · refine J_iload_n (by rfl) dX11_drift_52 ?_
            exact J_ireturn dX11_drift_53 rfl (hQ2 c5 _ r (jFr.refl.set 116 _ (by decide)) hrn (by omega) ⟨an, he, cm, W, F, C, (by repeat (first | assumption | exact jget_same2 (by (try simp only [List.length_set]); exact jlt (by assumption)) | refine jget_ne (by first | decide | assumption | omega) ?_)), (by repeat (first | assumption | exact jget_same2 (by (try simp only [List.length_set]); exact jlt (by assumption)) | refine jget_ne (by first | decide | assumption | omega) ?_)), (by repeat (first | assumption | exact jget_same2 (by (try simp only [List.length_set]); exact jlt (by assumption)) | refine jget_ne (by first | decide | assumption | omega) ?_)), (by repeat (first | assumption | exact jget_same2 (by (try simp only [List.length_set]); exact jlt (by assumption)) | refine jget_ne (by first | decide | assumption | omega) ?_)), (by repeat (first | assumption | exact jget_same2 (by (try simp only [List.length_set]); exact jlt (by assumption)) | refine jget_ne (by first | decide | assumption | omega) ?_)), (by repeat (first | assumption | exact jget_same2 (by (try simp only [List.length_set]); exact jlt (by assumption)) | refine jget_ne (by first | decide | assumption | omega) ?_)), (by repeat (first | assumption | exact jget_same2 (by (try simp only [List.length_set]); exact jlt (by assumption)) | refine jget_ne (by first | decide | assumption | omega) ?_)), (by repeat (first | assumption | exact jget_same2 (by (try simp only [List.length_set]); exact jlt (by assumption)) | refine jget_ne (by first | decide | assumption | omega) ?_)), (by repeat (first | assumption | exact jget_same2 (by (try simp only [List.length_set]); exact jlt (by assumption)) | refine jget_ne (by first | decide | assumption | omega) ?_))⟩) (by decide) (by decide) (fun _ => rfl)
          · exact absurd c43 (by decide)
    · exact absurd c17 (by decide)
  · have c5 : ¬ 0 < s 1 := by simpa using c5
    refine J_iconst (nI 1) (by decide) dX11_drift_8 ?_
    refine J_goto 13 dX11_drift_9 (by decide) ?_
    refine J_iconst (nI 1) (by decide) dX11_drift_13 ?_
    refine J_V2v (ci := 11) dX11_drift_14 s_X11_63 m_X11_isThrown rfl (by repeat (first | assumption | exact jget_same2 (by (try simp only [List.length_set]); exact jlt (by assumption)) | refine jget_ne (by first | decide | assumption | omega) ?_)) rfl (c_X11_isThrown true (by repeat (first | assumption | exact jget_same2 (by (try simp only [List.length_set]); exact jlt (by assumption)) | refine jget_ne (by first | decide | assumption | omega) ?_)) (jKv_i ?_))
    refine J_if_eq_b 22 dX11_drift_17 (by decide) (fun c17 => ?_) (fun c17 => ?_)
    · exact absurd c17 (by decide)
    · refine J_iconst (nI 0) (by decide) dX11_drift_20 ?_
      exact J_ireturn dX11_drift_21 rfl (hQ1 (by omega) _ (jFr.refl.set 116 _ (by decide)) ⟨an, he, cm, W, F, C, (by repeat (first | assumption | exact jget_same2 (by (try simp only [List.length_set]); exact jlt (by assumption)) | refine jget_ne (by first | decide | assumption | omega) ?_)), (by repeat (first | assumption | exact jget_same2 (by (try simp only [List.length_set]); exact jlt (by assumption)) | refine jget_ne (by first | decide | assumption | omega) ?_)), (by repeat (first | assumption | exact jget_same2 (by (try simp only [List.length_set]); exact jlt (by assumption)) | refine jget_ne (by first | decide | assumption | omega) ?_)), (by repeat (first | assumption | exact jget_same2 (by (try simp only [List.length_set]); exact jlt (by assumption)) | refine jget_ne (by first | decide | assumption | omega) ?_)), (by repeat (first | assumption | exact jget_same2 (by (try simp only [List.length_set]); exact jlt (by assumption)) | refine jget_ne (by first | decide | assumption | omega) ?_)), (by repeat (first | assumption | exact jget_same2 (by (try simp only [List.length_set]); exact jlt (by assumption)) | refine jget_ne (by first | decide | assumption | omega) ?_)), (by repeat (first | assumption | exact jget_same2 (by (try simp only [List.length_set]); exact jlt (by assumption)) | refine jget_ne (by first | decide | assumption | omega) ?_)), (by repeat (first | assumption | exact jget_same2 (by (try simp only [List.length_set]); exact jlt (by assumption)) | refine jget_ne (by first | decide | assumption | omega) ?_)), (by repeat (first | assumption | exact jget_same2 (by (try simp only [List.length_set]); exact jlt (by assumption)) | refine jget_ne (by first | decide | assumption | omega) ?_))⟩) (by decide) (by decide) (fun _ => rfl)
end MQ3
