/-! The reference: components, the nearest, the drift, the forecast, undo and snapshots, marks -/
theorem comps_s {w : Nat → Nat} {p : Nat} : comps w (p + 1) = comps w p + (if lowest w p = true then 1 else 0) := rfl
theorem drift_uniq {num den r q : Nat} (h1 : r * r * den ≤ num) (h2 : num < (r + 1) * (r + 1) * den) (h3 : q * q * den ≤ num) (h4 : num < (q + 1) * (q + 1) * den) : r = q := by
  rcases Nat.lt_trichotomy r q with h | h | h
  · have : (r + 1) * (r + 1) * den ≤ q * q * den := Nat.mul_le_mul_right _ (Nat.mul_le_mul h h)
    omega
  · exact h
  · have : (q + 1) * (q + 1) * den ≤ r * r * den := Nat.mul_le_mul_right _ (Nat.mul_le_mul h h)
    omega
theorem num_le {K : Nat} {s : Nat → Nat} (I : Inv K s) (h0 : 0 < s 1) : numS s (s 3) (s 4) < 141 * 141 * denS s (s 3) (s 4) := by
  obtain ⟨l1, l2, l3, l4, l5⟩ := legOk_of I h0
  have ha := l5 _ l3
  have hb := l5 _ l4
  obtain ⟨t1, t2, t3, t4, t5, t6, t7⟩ := I.t h0
  unfold numS denS
  generalize ((s 3 : Int) - pX s (begS s)) = a at *
  sorry
section MQ3
variable {G : jG} {X : Bool} {h : jH} {Q : jQ_} {ch th ln tp he cm K : Nat} {ea fa an : Int32} {sv : Bool} {s sS P lf tx : Nat → Nat}
theorem c_X11_components (hI : Inv K s) (hm : MPc h s sS P ch th ea fa sv lf ln tx tp) (hQ : ∀ h', jFr mC h h' → MPc h' s sS P ch 0 ea fa sv lf ln tx tp → Q (.inl (some (.int (nI (comps (wS s) (s 0)))))) h') : jCT G M_X11_components 3 0 0 X [.ref 116] h Q := by
  refine jCT_of [some (.ref 116), none, none, none, none] 4 rfl (by decide +kernel) rfl rfl ?_
  obtain ⟨an, he, cm, W, F, C, h1, h2, h3, h4, h5, h6, h7, h8, h9⟩ := hm
  have hn := hI.n12
  refine J_aload_n (by rfl) (by rfl) dX11_components_0 ?_
  refine J_iconst (nI 0) (by decide) dX11_components_1 ?_
  refine J_put_6 dX11_components_2 p_X11_41 (by repeat (first | assumption | exact jget_same2 (by (try simp only [List.length_set]); exact jlt (by assumption)) | refine jget_ne (by first | decide | assumption | omega) ?_)) ?_
  refine J_iconst (nI 0) (by decide) dX11_components_5 ?_
  refine J_istore_1 dX11_components_6 ?_
  refine J_iconst (nI 0) (by decide) dX11_components_7 ?_
  refine J_istore_2 dX11_components_8 ?_
  suffices loop : ∀ p, p ≤ s 0 → ∀ F l3 l4, J G (jR 3 0 0) (jFin G Q X 0 0) M_X11_components X 0 0 9 [some (.ref 116), some (.int (nI (comps (wS s) p))), some (.int (nI p)), l3, l4] [] ((h.set 116 (hMo ch 0 ea fa an sv ln tp he cm)).set 121 (ia 12 F)) by
    have := loop 0 (by omega) F none none
    rw [hset_id (by exact (by repeat (first | assumption | exact jget_same2 (by (try simp only [List.length_set]); exact jlt (by assumption)) | refine jget_ne (by first | decide | assumption | omega) ?_)))] at this
    exact this
  refine up_ind (s 0) (fun p hp ih F l3 l4 => ?_)
  refine J_iload_n (by rfl) dX11_components_9 ?_
  refine J_aload_n (by rfl) (by rfl) dX11_components_10 ?_
  refine J_get dX11_components_11 f_X11_9 (by repeat (first | assumption | exact jget_same2 (by (try simp only [List.length_set]); exact jlt (by assumption)) | refine jget_ne (by first | decide | assumption | omega) ?_)) (by rfl) ?_
  refine J_iconst (nI 0) (by decide) dX11_components_14 ?_
  refine J_iald_n (0) dX11_components_15 (by repeat (first | assumption | exact jget_same2 (by (try simp only [List.length_set]); exact jlt (by assumption)) | refine jget_ne (by first | decide | assumption | omega) ?_)) (by first | rfl | (simp only [pk_mul, nI_add]; done) | (simp only [pk_mul, nI_add]; congr 1; omega) | (congr 1; omega)) (by omega) ?_
  refine J_icmp_ge_n 79 dX11_components_16 (by decide) (fun c16 => ?_) (fun c16 => ?_)
  · have he9 : p = s 0 := by omega
    subst he9
    refine J_iload_n (by rfl) dX11_components_79 ?_
    exact J_ireturn dX11_components_80 rfl (hQ _ ((jFr.refl.set 116 _ (by decide)).set 121 _ (by decide)) ⟨an, he, cm, W, F, C, (by repeat (first | assumption | exact jget_same2 (by (try simp only [List.length_set]); exact jlt (by assumption)) | refine jget_ne (by first | decide | assumption | omega) ?_)), (by repeat (first | assumption | exact jget_same2 (by (try simp only [List.length_set]); exact jlt (by assumption)) | refine jget_ne (by first | decide | assumption | omega) ?_)), (by repeat (first | assumption | exact jget_same2 (by (try simp only [List.length_set]); exact jlt (by assumption)) | refine jget_ne (by first | decide | assumption | omega) ?_)), (by repeat (first | assumption | exact jget_same2 (by (try simp only [List.length_set]); exact jlt (by assumption)) | refine jget_ne (by first | decide | assumption | omega) ?_)), (by repeat (first | assumption | exact jget_same2 (by (try simp only [List.length_set]); exact jlt (by assumption)) | refine jget_ne (by first | decide | assumption | omega) ?_)), (by repeat (first | assumption | exact jget_same2 (by (try simp only [List.length_set]); exact jlt (by assumption)) | refine jget_ne (by first | decide | assumption | omega) ?_)), (by repeat (first | assumption | exact jget_same2 (by (try simp only [List.length_set]); exact jlt (by assumption)) | refine jget_ne (by first | decide | assumption | omega) ?_)), (by repeat (first | assumption | exact jget_same2 (by (try simp only [List.length_set]); exact jlt (by assumption)) | refine jget_ne (by first | decide | assumption | omega) ?_)), (by repeat (first | assumption | exact jget_same2 (by (try simp only [List.length_set]); exact jlt (by assumption)) | refine jget_ne (by first | decide | assumption | omega) ?_))⟩) (by decide) (by decide) (fun _ => rfl)
  · refine J_aload_n (by rfl) (by rfl) dX11_components_19 ?_
    refine J_iload_n (by rfl) dX11_components_20 ?_
    refine J_V10 (ci := 11) dX11_components_21 s_X11_101 m_X11_finds rfl (by repeat (first | assumption | exact jget_same2 (by (try simp only [List.length_set]); exact jlt (by assumption)) | refine jget_ne (by first | decide | assumption | omega) ?_)) rfl (c_X11_finds (a := p) (w := wS s) (F := F) hI.g (fun _ _ => rfl) (by omega) (by repeat (first | assumption | exact jget_same2 (by (try simp only [List.length_set]); exact jlt (by assumption)) | refine jget_ne (by first | decide | assumption | omega) ?_)) (by repeat (first | assumption | exact jget_same2 (by (try simp only [List.length_set]); exact jlt (by assumption)) | refine jget_ne (by first | decide | assumption | omega) ?_)) (by repeat (first | assumption | exact jget_same2 (by (try simp only [List.length_set]); exact jlt (by assumption)) | refine jget_ne (by first | decide | assumption | omega) ?_)) (fun D hD => (jK0_i ?_)))
    refine J_iconst (nI 1) (by decide) dX11_components_24 ?_
    rw [List.set_set]
    refine J_topi (jb true) rfl ?_
    refine J_istore_3 dX11_components_25 ?_
    refine J_iconst (nI 0) (by decide) dX11_components_26 ?_
    refine J_istore_4 dX11_components_27 ?_
    suffices inner : ∀ q, q ≤ p → ∀ b : Bool, (b = true ↔ ∀ o, o < q → ¬ dst (wS s) p o < 99999) → J G (jR 3 0 0) (jFin G Q X 0 0) M_X11_components X 0 0 29 [some (.ref 116), some (.int (nI (comps (wS s) p))), some (.int (nI p)), some (.int (jb b)), some (.int (nI q))] [] ((h.set 116 (hMo ch 0 ea fa an sv ln tp he cm)).set 121 (ia 12 D)) by
      exact inner 0 (by omega) true (by constructor; · intro _ o ho; omega; · intro _; rfl)
    refine up_ind p (fun q hq ih2 b hb => ?_)
    refine J_iload (by rfl) dX11_components_29 ?_
    refine J_iload_n (by rfl) dX11_components_31 ?_
    refine J_icmp_ge_n 61 dX11_components_32 (by decide) (fun c32 => ?_) (fun c32 => ?_)
    · have hqp : q = p := by omega
      subst hqp
      have hlow : lowest (wS s) q = b := by
        have := lowest_iff (w := wS s) (p := q)
        cases hl : lowest (wS s) q <;> cases b <;> simp_all
      have hih := ih (by omega) D (some (.int (jb b))) (some (.int (nI q)))
      rw [comps_s, hlow] at hih
      refine J_iload_n (by rfl) dX11_components_61 ?_
      refine J_iload_n (by rfl) dX11_components_62 ?_
      refine J_if_eq_b 70 dX11_components_63 (by decide) (fun c63 => ?_) (fun c63 => ?_)
      · subst c63
        refine J_iconst (nI 0) (by decide) dX11_components_70 ?_
        refine J_iadd dX11_components_71 ?_
        try rw [nI_add]
        refine J_istore_1 dX11_components_72 ?_
        refine J_iinc_2 (nI 1) dX11_components_73 (by decide) ?_
        try rw [nI_add]
        refine J_goto 9 dX11_components_76 (by decide) ?_
        exact hih
      · subst c63
        refine J_iconst (nI 1) (by decide) dX11_components_66 ?_
        refine J_goto 71 dX11_components_67 (by decide) ?_
        refine J_iadd dX11_components_71 ?_
        try rw [nI_add]
        refine J_istore_1 dX11_components_72 ?_
        refine J_iinc_2 (nI 1) dX11_components_73 (by decide) ?_
        try rw [nI_add]
        refine J_goto 9 dX11_components_76 (by decide) ?_
        exact hih
    · have hDq := hD.dst hI.g (v := q) (by omega)
      have hDm := hD.m q (by omega)
      refine J_iload_n (by rfl) dX11_components_35 ?_
      refine J_aload_n (by rfl) (by rfl) dX11_components_36 ?_
      refine J_get dX11_components_37 f_X11_22 (by repeat (first | assumption | exact jget_same2 (by (try simp only [List.length_set]); exact jlt (by assumption)) | refine jget_ne (by first | decide | assumption | omega) ?_)) (by rfl) ?_
      refine J_iload (by rfl) dX11_components_40 ?_
      refine J_iald_n (q) dX11_components_42 (by repeat (first | assumption | exact jget_same2 (by (try simp only [List.length_set]); exact jlt (by assumption)) | refine jget_ne (by first | decide | assumption | omega) ?_)) (by first | rfl | (simp only [pk_mul, nI_add]; done) | (simp only [pk_mul, nI_add]; congr 1; omega) | (congr 1; omega)) (by omega) ?_
      refine J_ldcI dX11_components_43 k_X11_96 ?_
      refine J_topi (nI 99999) (by rfl) ?_
      refine J_icmp_lt_n 52 dX11_components_45 (by decide) (fun c45 => ?_) (fun c45 => ?_)
      · have hnew : (b && false) = true ↔ ∀ o, o < q + 1 → ¬ dst (wS s) p o < 99999 := by
          rw [Bool.and_false]
          constructor
          · intro z; exact absurd z (by decide)
          · intro z; exact absurd (z q (by omega)) (by omega)
        refine J_iconst (nI 0) (by decide) dX11_components_52 ?_
        refine J_iand dX11_components_53 ?_
        refine J_topi (jb (b && false)) (by cases b <;> rfl) ?_
        refine J_istore_3 dX11_components_54 ?_
        refine J_iinc_4 (nI 1) dX11_components_55 (by decide) ?_
        try rw [nI_add]
        refine J_goto 29 dX11_components_58 (by decide) ?_
        exact ih2 (by omega) _ hnew
      · have hnew : (b && true) = true ↔ ∀ o, o < q + 1 → ¬ dst (wS s) p o < 99999 := by
          rw [Bool.and_true, hb]
          constructor
          · intro z o ho
            by_cases e : o = q
            · subst e; omega
            · exact z o (by omega)
          · intro z o ho; exact z o (by omega)
        refine J_iconst (nI 1) (by decide) dX11_components_48 ?_
        refine J_goto 53 dX11_components_49 (by decide) ?_
        refine J_iand dX11_components_53 ?_
        refine J_topi (jb (b && true)) (by cases b <;> rfl) ?_
        refine J_istore_3 dX11_components_54 ?_
        refine J_iinc_4 (nI 1) dX11_components_55 (by decide) ?_
        try rw [nI_add]
        refine J_goto 29 dX11_components_58 (by decide) ?_
        exact ih2 (by omega) _ hnew
theorem c_X11_componentsByMerging (hI : Inv K s) (hm : MPc h s sS P ch th ea fa sv lf ln tx tp) (hQ : ∀ h', jFr mC h h' → MPc h' s sS P ch 0 ea fa sv lf ln tx tp → Q (.inl (some (.int (nI (comps (wS s) (s 0)))))) h') : jCT G M_X11_componentsByMerging 4 0 0 X [.ref 116] h Q := by
  refine jCT_of [some (.ref 116)] 0 rfl (by decide +kernel) rfl rfl ?_
  obtain ⟨an, he, cm, W, F, C, h1, h2, h3, h4, h5, h6, h7, h8, h9⟩ := hm
  refine J_aload_n (by rfl) (by rfl) dX11_componentsByMerging_0 ?_
  refine J_V0v (ci := 11) dX11_componentsByMerging_1 s_X11_160 m_X11_components rfl (by repeat (first | assumption | exact jget_same2 (by (try simp only [List.length_set]); exact jlt (by assumption)) | refine jget_ne (by first | decide | assumption | omega) ?_)) rfl (c_X11_components hI ⟨an, he, cm, W, F, C, h1, h2, h3, h4, h5, h6, h7, h8, h9⟩ (fun h' hf hm => (jKv_i ?_)))
  exact J_ireturn dX11_componentsByMerging_4 rfl (hQ h' hf hm) (by decide) (by decide) (fun _ => rfl)
theorem c_X11_errorPosition (hm : MPc h s sS P ch th ea fa sv lf ln tx tp) (hQ : ∀ h', jFr mC h h' → MPc h' s sS P ch (if ea < 0 then 1 else 0) ea fa sv lf ln tx tp → Q (.inl (some (.int (if ea < 0 then nI 0 else ea)))) h') : jCT G M_X11_errorPosition 2 0 0 X [.ref 116] h Q := by
  refine jCT_of [some (.ref 116)] 0 rfl (by decide +kernel) rfl rfl ?_
  obtain ⟨an, he, cm, W, F, C, h1, h2, h3, h4, h5, h6, h7, h8, h9⟩ := hm
  have hQ := hQ (h.set 116 (hMo ch (if ea < 0 then 1 else 0) ea fa an sv ln tp he cm)) (jFr.refl.set 116 _ (by decide)) ⟨an, he, cm, W, F, C, (by repeat (first | assumption | exact jget_same2 (by (try simp only [List.length_set]); exact jlt (by assumption)) | refine jget_ne (by first | decide | assumption | omega) ?_)), (by repeat (first | assumption | exact jget_same2 (by (try simp only [List.length_set]); exact jlt (by assumption)) | refine jget_ne (by first | decide | assumption | omega) ?_)), (by repeat (first | assumption | exact jget_same2 (by (try simp only [List.length_set]); exact jlt (by assumption)) | refine jget_ne (by first | decide | assumption | omega) ?_)), (by repeat (first | assumption | exact jget_same2 (by (try simp only [List.length_set]); exact jlt (by assumption)) | refine jget_ne (by first | decide | assumption | omega) ?_)), (by repeat (first | assumption | exact jget_same2 (by (try simp only [List.length_set]); exact jlt (by assumption)) | refine jget_ne (by first | decide | assumption | omega) ?_)), (by repeat (first | assumption | exact jget_same2 (by (try simp only [List.length_set]); exact jlt (by assumption)) | refine jget_ne (by first | decide | assumption | omega) ?_)), (by repeat (first | assumption | exact jget_same2 (by (try simp only [List.length_set]); exact jlt (by assumption)) | refine jget_ne (by first | decide | assumption | omega) ?_)), (by repeat (first | assumption | exact jget_same2 (by (try simp only [List.length_set]); exact jlt (by assumption)) | refine jget_ne (by first | decide | assumption | omega) ?_)), (by repeat (first | assumption | exact jget_same2 (by (try simp only [List.length_set]); exact jlt (by assumption)) | refine jget_ne (by first | decide | assumption | omega) ?_))⟩
  sorry
end MQ3
