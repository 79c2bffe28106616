/-! The law's start: a class with four waypoints at least -/
theorem J_plain {G : jG} {R : Room} {F : jF} {M : jM} {X : Bool} {kc kn pc : Nat} {lo : List (Option Value)} {st : List Value} {h : jH} (k : J G R F M false kc kn pc lo st h) : J G R F M X kc kn pc lo st h := by
  intro p e s m args below meth c H locs ls C hS hH hL hX
  exact k p e s m args below meth c H locs ls C hS hH hL (fun q => by cases q)
section BEGUN
variable {G : jG} {Q : jQ_}
theorem l_begun (hL : g_L G ≤ 260) (hQ : ∀ h' s P ch, h'.length = 116 → Inv 320 s → Rt s → 4 ≤ s 0 → ch ≤ 8 → LC h' s s00 P ch false → Q (.inl (some (.ref 0))) h') : jCT2 G M_L_begun 10 150 3000 [.retAddr 0] [] Q := by
  refine jCT2_of [some (.retAddr 0), none, none, none, none, none] 5 rfl (by decide +kernel) rfl rfl ?_
  refine J_new dL_begun_0 n_L_10 (by decide) (by decide) ?_
  refine J_dup (by rfl) dL_begun_3 ?_
  refine J_I00 dL_begun_4 s_L_105 m_X10_init rfl (c_X10_init (by rfl) (by rfl) (fun h1 l1 cp1 => (jK0_i ?_)))
  refine J_plain ?_
  have g1 : LC h1 s00 s00 (fun _ => 0) 0 false := ⟨_, _, fun _ => 0, _, _, cp1 (fun _ => 0) (fun _ => 0)⟩
  refine J_astore_1 dL_begun_7 ?_
  refine J_iconst (nI 0) (by decide) dL_begun_8 ?_
  refine J_istore_2 dL_begun_9 ?_
  refine J_iconst (nI 4) (by decide) dL_begun_10 ?_
  refine J_aload_n (by rfl) (by rfl) dL_begun_11 ?_
  refine J_iconst (nI 0) (by decide) dL_begun_12 ?_
  refine J_iconst (nI 5) (by decide) dL_begun_13 ?_
  refine J_S3v dL_begun_14 s_L_106 m_L_in rfl (l_in (by decide) hL (by decide) (by decide) (fun m hm => (jKv_i ?_))) (hf := jfit_j (by rfl) (by rfl) (by omega) (by omega))
  refine J_iadd dL_begun_17 ?_
  try rw [nI_add]
  have m182 : ∀ h2 s2 P2 ch2 (z v : Int) kc kn wd l5, h2.length = 116 → Inv 320 s2 → Rt s2 → 4 ≤ s2 0 → ch2 ≤ 8 → LC h2 s2 s00 P2 ch2 false → -11000000 ≤ z → z ≤ 30000 → -900009 ≤ v → v ≤ 1000 → kc ≤ 150 → kn ≤ 3000 → J G (jR 10 150 3000) (jFin G Q false 150 3000) M_L_begun false kc kn 182 [some (.retAddr 0), some (.ref 0), some (.int (iI z)), some (.int (nI (4 + m))), some (.int (nI wd)), l5] [.int (iI v), .int (iI z)] h2 := by
    intro h2 s2 P2 ch2 z v kc kn wd l5 l2 I2 R2 h4 hch g2 z1 z2 v1 v2 q1 q2
    refine J_iadd dL_begun_182 ?_
    try rw [nI_add]
    rw [iI_add]
    refine J_istore_2 dL_begun_183 ?_
    refine J_iload_n (by rfl) dL_begun_184 ?_
    refine J_ldcI dL_begun_185 k_L_118 ?_
    refine J_icmp_ge 194 dL_begun_187 (by decide) (fun c187 => ?_) (fun c187 => ?_)
    · refine J_aload_n (by rfl) (by rfl) dL_begun_194 ?_
      exact J_areturn dL_begun_195 rfl (Or.inl ⟨_, rfl⟩) rfl (hQ h2 s2 P2 ch2 l2 I2 R2 h4 hch g2) (by omega) (by omega) (fun q => by cases q)
    · exact absurd (by rw [e9_t]; exact (iI_le (by omega) (by omega) (by omega) (by omega)).mpr (by omega)) c187
  have m149 : ∀ h2 s2 P2 ch2 (z : Int) kc kn wd l5, h2.length = 116 → Inv 300 s2 → Rt s2 → 4 ≤ s2 0 → ch2 ≤ 8 → LC h2 s2 s00 P2 ch2 false → -11000000 ≤ z → z ≤ 30000 → kc ≤ 144 → kn ≤ 2900 → J G (jR 10 150 3000) (jFin G Q false 150 3000) M_L_begun false kc kn 149 [some (.retAddr 0), some (.ref 0), some (.int (iI z)), some (.int (nI (4 + m))), some (.int (nI wd)), l5] [] h2 := by
    intro h2 s2 P2 ch2 z kc kn wd l5 l2 I2 R2 h4 hch g2 z1 z2 q1 q2
    refine J_iload_n (by rfl) dL_begun_149 ?_
    refine J_aload_n (by rfl) (by rfl) dL_begun_150 ?_
    refine J_bipush (nI 65) (by decide) dL_begun_151 ?_
    refine J_iconst (nI 4) (by decide) dL_begun_153 ?_
    refine J_S3v dL_begun_154 s_L_106 m_L_in rfl (l_in (by decide) hL (by decide) (by decide) (fun t ht => (jKv_i ?_))) (hf := jfit_j (by rfl) (by rfl) (by omega) (by omega))
    refine J_if_le_n 181 dL_begun_157 (by decide) (fun c157 => ?_) (fun c157 => ?_)
    · refine J_iconst (nI 0) (by decide) dL_begun_181 ?_
      rw [← iI_n 0]
      exact m182 h2 s2 P2 ch2 z 0 _ _ wd l5 l2 (I2.mono (by decide)) R2 h4 hch g2 z1 z2 (by decide) (by decide) (by omega) (by omega)
    · refine J_aload_n (by rfl) (by rfl) dL_begun_160 ?_
      refine J_aload_n (by rfl) (by rfl) dL_begun_161 ?_
      refine J_bipush (nI 66) (by decide) dL_begun_162 ?_
      refine J_iload_n (by rfl) dL_begun_164 ?_
      refine J_S3v dL_begun_165 s_L_106 m_L_in rfl (l_in (by decide) hL (by omega) (by omega) (fun x hx => (jKv_i ?_))) (hf := jfit_j (by rfl) (by rfl) (by omega) (by omega))
      refine J_aload_n (by rfl) (by rfl) dL_begun_168 ?_
      refine J_bipush (nI 67) (by decide) dL_begun_169 ?_
      refine J_iload_n (by rfl) dL_begun_171 ?_
      refine J_S3v dL_begun_172 s_L_106 m_L_in rfl (l_in (by decide) hL (by omega) (by omega) (fun y hy => (jKv_i ?_))) (hf := jfit_j (by rfl) (by rfl) (by omega) (by omega))
      refine J_SX3v dL_begun_175 s_L_115 m_L_startTour rfl (l_startTour _ _ I2 (by decide) g2 (dQ_r I2 R2 hch (by decide) ⟨fun h3 s3 v f3 I3 R3 h0 hv g3 => jKv_i ?_, fun h3 v f3 a b g3 => jKv_i ?_⟩)) (hf := jfit_j (by rfl) (by rfl) (by omega) (by omega))
      · refine J_goto 182 dL_begun_178 (by decide) ?_
        rw [← iI_n v]
        exact m182 h3 s3 _ _ z v _ _ wd l5 (f3.1.trans l2) (I3.mono (by decide)) R3 (by omega) (by omega) g3 z1 z2 (by omega) (by omega) (by omega) (by omega)
      · refine J_goto 182 dL_begun_178 (by decide) ?_
        exact m182 h3 s2 _ _ z v _ _ wd l5 (f3.1.trans l2) (I2.mono (by decide)) R2 h4 hch g3 z1 z2 (by omega) (by omega) (by omega) (by omega)
  have m93 : ∀ h2 s2 P2 ch2 n kc kn wd l5, h2.length = 116 → Inv 130 s2 → Rt s2 → 4 ≤ s2 0 → ch2 ≤ 8 → LC h2 s2 s00 P2 ch2 false → n ≤ 10000 → kc ≤ 130 → kn ≤ 2760 → J G (jR 10 150 3000) (jFin G Q false 150 3000) M_L_begun false kc kn 93 [some (.retAddr 0), some (.ref 0), some (.int (nI n)), some (.int (nI (4 + m))), some (.int (nI wd)), l5] [] h2 := by
    intro h2 s2 P2 ch2 n kc kn wd l5 l2 I2 R2 h4 hch g2 z1 q1 q2
    refine J_iconst (nI 0) (by decide) dL_begun_93 ?_
    refine J_istore_5 dL_begun_94 ?_
    rw [← iI_n n]
    suffices loop : ∀ k, k ≤ 12 → ∀ h2 s2 P2 ch2 (z : Int) kc kn, h2.length = 116 → Inv (130 + 13 * k) s2 → Rt s2 → 4 ≤ s2 0 → ch2 ≤ 8 → LC h2 s2 s00 P2 ch2 false → -900009 * (k : Int) ≤ z → z ≤ 10000 + 1000 * (k : Int) → kc ≤ 130 + k → kn ≤ 2760 + 6 * k → J G (jR 10 150 3000) (jFin G Q false 150 3000) M_L_begun false kc kn 96 [some (.retAddr 0), some (.ref 0), some (.int (iI z)), some (.int (nI (4 + m))), some (.int (nI wd)), some (.int (nI k))] [] h2 by
      exact loop 0 (by omega) h2 s2 P2 ch2 n kc kn l2 I2 R2 h4 hch g2 (by omega) (by omega) (by omega) (by omega)
    refine up_ind 12 (fun k hk ih => ?_)
    intro h2 s2 P2 ch2 z kc kn l2 I2 R2 h4 hch g2 z1 z2 q1 q2
    refine J_iload (by rfl) dL_begun_96 ?_
    refine J_bipush (nI 12) (by decide) dL_begun_98 ?_
    refine J_icmp_ge_n 149 dL_begun_100 (by decide) (fun c100 => ?_) (fun c100 => ?_)
    · exact m149 h2 s2 P2 ch2 z kc kn wd _ l2 (I2.mono (by omega)) R2 h4 hch g2 (by omega) (by omega) (by omega) (by omega)
    · refine J_iload_n (by rfl) dL_begun_103 ?_
      refine J_aload_n (by rfl) (by rfl) dL_begun_104 ?_
      refine J_aload_n (by rfl) (by rfl) dL_begun_105 ?_
      refine J_bipush (nI 29) (by decide) dL_begun_106 ?_
      refine J_iload (by rfl) dL_begun_108 ?_
      refine J_iadd dL_begun_110 ?_
      try rw [nI_add]
      refine J_iload_n (by rfl) dL_begun_111 ?_
      refine J_S3v dL_begun_112 s_L_106 m_L_in rfl (l_in (by omega) hL (by omega) (by omega) (fun x hx => (jKv_i ?_))) (hf := jfit_j (by rfl) (by rfl) (by omega) (by omega))
      refine J_aload_n (by rfl) (by rfl) dL_begun_115 ?_
      refine J_bipush (nI 41) (by decide) dL_begun_116 ?_
      refine J_iload (by rfl) dL_begun_118 ?_
      refine J_iadd dL_begun_120 ?_
      try rw [nI_add]
      refine J_iload_n (by rfl) dL_begun_121 ?_
      refine J_S3v dL_begun_122 s_L_106 m_L_in rfl (l_in (by omega) hL (by omega) (by omega) (fun y hy => (jKv_i ?_))) (hf := jfit_j (by rfl) (by rfl) (by omega) (by omega))
      refine J_iconst (nI 1) (by decide) dL_begun_125 ?_
      refine J_aload_n (by rfl) (by rfl) dL_begun_126 ?_
      refine J_bipush (nI 53) (by decide) dL_begun_127 ?_
      refine J_iload (by rfl) dL_begun_129 ?_
      refine J_iadd dL_begun_131 ?_
      try rw [nI_add]
      refine J_bipush (nI 12) (by decide) dL_begun_132 ?_
      refine J_S3v dL_begun_134 s_L_106 m_L_in rfl (l_in (by omega) hL (by decide) (by decide) (fun t ht => (jKv_i ?_))) (hf := jfit_j (by rfl) (by rfl) (by omega) (by omega))
      refine J_iadd dL_begun_137 ?_
      try rw [nI_add]
      refine J_SX4v dL_begun_138 s_L_113 m_L_addTrail rfl (l_addTrail _ _ _ I2 (by omega) g2 (dQ_r I2 R2 hch (by decide) ⟨fun h3 s3 v f3 I3 R3 h0 hv g3 => jKv_i ?_, fun h3 v f3 a b g3 => jKv_i ?_⟩)) (hf := jfit_j (by rfl) (by rfl) (by omega) (by omega))
      · refine J_iadd dL_begun_141 ?_
        rw [← iI_n v, iI_add]
        refine J_istore_2 dL_begun_142 ?_
        refine J_iinc_5 (nI 1) dL_begun_143 (by decide) ?_
        try rw [nI_add]
        refine J_goto 96 dL_begun_146 (by decide) ?_
        exact ih c100 h3 s3 _ _ (z + v) _ _ (f3.1.trans l2) (I3.mono (by omega)) R3 (by omega) (by omega) g3 (by omega) (by omega) (by omega) (by omega)
      · refine J_iadd dL_begun_141 ?_
        rw [iI_add]
        refine J_istore_2 dL_begun_142 ?_
        refine J_iinc_5 (nI 1) dL_begun_143 (by decide) ?_
        try rw [nI_add]
        refine J_goto 96 dL_begun_146 (by decide) ?_
        exact ih c100 h3 s2 _ _ (z + v) _ _ (f3.1.trans l2) (I2.mono (by omega)) R2 h4 hch g3 (by omega) (by omega) (by omega) (by omega)
  have m35 : ∀ wd, wd = 20 ∨ wd = 100 → J G (jR 10 150 3000) (jFin G Q false 150 3000) M_L_begun false 116 2625 35 [some (.retAddr 0), some (.ref 0), some (.int (nI 0)), some (.int (nI (4 + m))), none, none] [.int (nI wd)] h1 := by
    intro wd hwd
    refine J_istore_4 dL_begun_35 ?_
    refine J_iconst (nI 0) (by decide) dL_begun_37 ?_
    refine J_istore_5 dL_begun_38 ?_
    suffices loop : ∀ k, k ≤ 4 + m → ∀ h2 s2 P2 ch2 n kc kn, h2.length = 116 → Inv (13 * k) s2 → Rt s2 → s2 0 = k → ch2 ≤ 8 → LC h2 s2 s00 P2 ch2 false → n ≤ 1000 * k → kc ≤ 116 + k → kn ≤ 2625 + 6 * k → J G (jR 10 150 3000) (jFin G Q false 150 3000) M_L_begun false kc kn 40 [some (.retAddr 0), some (.ref 0), some (.int (nI n)), some (.int (nI (4 + m))), some (.int (nI wd)), some (.int (nI k))] [] h2 by
      exact loop 0 (by omega) h1 s00 _ 0 0 116 2625 l1 Inv_0 (Rt.z rfl) rfl (by omega) g1 (by omega) (by omega) (by omega)
    refine up_ind (4 + m) (fun k hk ih => ?_)
    intro h2 s2 P2 ch2 n kc kn l2 I2 R2 h0 hch g2 z1 q1 q2
    refine J_iload (by rfl) dL_begun_40 ?_
    refine J_iload_n (by rfl) dL_begun_42 ?_
    refine J_icmp_ge_n 93 dL_begun_43 (by decide) (fun c43 => ?_) (fun c43 => ?_)
    · exact m93 h2 s2 P2 ch2 n kc kn wd _ l2 (I2.mono (by omega)) R2 (by omega) hch g2 (by omega) (by omega) (by omega)
    · refine J_iload_n (by rfl) dL_begun_46 ?_
      refine J_aload_n (by rfl) (by rfl) dL_begun_47 ?_
      refine J_aload_n (by rfl) (by rfl) dL_begun_48 ?_
      refine J_iconst (nI 2) (by decide) dL_begun_49 ?_
      refine J_iload (by rfl) dL_begun_50 ?_
      refine J_iadd dL_begun_52 ?_
      try rw [nI_add]
      refine J_iload (by rfl) dL_begun_53 ?_
      refine J_S3v dL_begun_55 s_L_106 m_L_in rfl (l_in (by omega) hL (by omega) (by omega) (fun x hx => (jKv_i ?_))) (hf := jfit_j (by rfl) (by rfl) (by omega) (by omega))
      refine J_aload_n (by rfl) (by rfl) dL_begun_58 ?_
      refine J_bipush (nI 11) (by decide) dL_begun_59 ?_
      refine J_iload (by rfl) dL_begun_61 ?_
      refine J_iadd dL_begun_63 ?_
      try rw [nI_add]
      refine J_iload (by rfl) dL_begun_64 ?_
      refine J_S3v dL_begun_66 s_L_106 m_L_in rfl (l_in (by omega) hL (by omega) (by omega) (fun y hy => (jKv_i ?_))) (hf := jfit_j (by rfl) (by rfl) (by omega) (by omega))
      refine J_iconst (nI 1) (by decide) dL_begun_69 ?_
      refine J_aload_n (by rfl) (by rfl) dL_begun_70 ?_
      refine J_bipush (nI 20) (by decide) dL_begun_71 ?_
      refine J_iload (by rfl) dL_begun_73 ?_
      refine J_iadd dL_begun_75 ?_
      try rw [nI_add]
      refine J_bipush (nI 9) (by decide) dL_begun_76 ?_
      refine J_S3v dL_begun_78 s_L_106 m_L_in rfl (l_in (by omega) hL (by decide) (by decide) (fun t ht => (jKv_i ?_))) (hf := jfit_j (by rfl) (by rfl) (by omega) (by omega))
      refine J_iadd dL_begun_81 ?_
      try rw [nI_add]
      have hT : opT s2 0 (nI x) (nI y) (nI (1 + t)) = 0 := by
        show T0 s2 (nI x) (nI y) (nI (1 + t)) = 0
        unfold T0 isP
        rw [inB_n (by omega) (by decide) (by decide), inB_n (by omega) (by decide) (by decide), inB_n (by omega) (by decide) (by decide), decide_eq_true (show 0 ≤ x ∧ x ≤ 99 by omega), decide_eq_true (show 0 ≤ y ∧ y ≤ 99 by omega), decide_eq_true (show 1 ≤ 1 + t ∧ 1 + t ≤ 9 by omega), if_pos (show (true && true && true) = true from rfl), if_neg (by omega)]
      have e0 : opN s2 0 (nI x) (nI y) (nI (1 + t)) 0 = k + 1 := by
        unfold opN
        rw [if_pos hT, if_pos rfl]
        unfold N0
        rw [updN_s, h0]
      have ea := opA_le (k := 0) (x := nI x) (y := nI y) (z := nI (1 + t)) I2
      refine J_SX4v dL_begun_82 s_L_110 m_L_addWaypoint rfl (l_addWaypoint _ _ _ I2 (by omega) g2 ⟨fun _ h3 f3 hP => jKv_i ?_, fun q => absurd hT q⟩) (hf := jfit_j (by rfl) (by rfl) (by omega) (by omega))
      refine J_iadd dL_begun_85 ?_
      try rw [nI_add]
      refine J_istore_2 dL_begun_86 ?_
      refine J_iinc_5 (nI 1) dL_begun_87 (by decide) ?_
      try rw [nI_add]
      refine J_goto 40 dL_begun_90 (by decide) ?_
      exact ih c43 h3 _ _ _ _ _ _ (f3.1.trans l2) ((Inv_op I2 (by decide)).mono (by omega)) (Rt_op I2 R2 (by decide)).1 e0 (by omega) (hP _ (pastF_N hch)) (by omega) (by omega) (by omega)
  refine J_istore_3 dL_begun_18 ?_
  refine J_aload_n (by rfl) (by rfl) dL_begun_19 ?_
  refine J_iconst (nI 1) (by decide) dL_begun_20 ?_
  refine J_iconst (nI 2) (by decide) dL_begun_21 ?_
  refine J_S3v dL_begun_22 s_L_106 m_L_in rfl (l_in (by decide) hL (by decide) (by decide) (fun t ht => (jKv_i ?_))) (hf := jfit_j (by rfl) (by rfl) (by omega) (by omega))
  refine J_if_ne_n 33 dL_begun_25 (by decide) (fun c25 => ?_) (fun c25 => ?_)
  · refine J_bipush (nI 100) (by decide) dL_begun_33 ?_
    exact m35 100 (.inr rfl)
  · refine J_bipush (nI 20) (by decide) dL_begun_28 ?_
    refine J_goto 35 dL_begun_30 (by decide) ?_
    exact m35 20 (.inl rfl)
end BEGUN
