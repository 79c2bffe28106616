/-! The reference: more questions -/
theorem turn_b {K : Nat} {s : Nat → Nat} (I : Inv K s) {i : Nat} (h0 : 0 < i) (h1 : i + 1 < s 1) : s (192 + (i - 1)) < 12 ∧ s (192 + i) < 12 ∧ s (192 + (i + 1)) < 12 := by
  have hn := I.n12
  have ht := (I.t (by omega)).2.2.2.2.2.2
  have a := ht (i - 1) (by omega)
  have b := ht i (by omega)
  have c := ht (i + 1) (by omega)
  omega
theorem turn_bd {a b c d A : Int} (hA : A = a * b - c * d) (ha : -99 ≤ a ∧ a ≤ 99) (hb : -99 ≤ b ∧ b ≤ 99) (hc : -99 ≤ c ∧ c ≤ 99) (hd : -99 ≤ d ∧ d ≤ 99) : -19602 ≤ A ∧ A ≤ 19602 := by
  obtain ⟨e1, e2⟩ := mul_bd ha.1 ha.2 hb.1 hb.2
  obtain ⟨e3, e4⟩ := mul_bd hc.1 hc.2 hd.1 hd.2
  omega
theorem turn_bd2 {a b c d A : Int} (hA : A = a * b + c * d) (ha : -99 ≤ a ∧ a ≤ 99) (hb : -99 ≤ b ∧ b ≤ 99) (hc : -99 ≤ c ∧ c ≤ 99) (hd : -99 ≤ d ∧ d ≤ 99) : -19602 ≤ A ∧ A ≤ 19602 := by
  obtain ⟨e1, e2⟩ := mul_bd ha.1 ha.2 hb.1 hb.2
  obtain ⟨e3, e4⟩ := mul_bd hc.1 hc.2 hd.1 hd.2
  omega
section MQ2
variable {G : jG} {X : Bool} {h : jH} {Q : jQ_} {ch th ln tp he cm K : Nat} {ea fa an : Int32} {sv : Bool} {s sS P lf tx : Nat → Nat}
theorem c_X11_turnAt {i : Nat} (hI : Inv K s) (h0 : 0 < i) (h1 : i + 1 < s 1) (hM : h[116]? = some (hMo ch th ea fa an sv ln tp he cm)) (hS : h[117]? = some (ia 204 s)) (hQ : Q (.inl (some (.int (nI (turnC s i))))) h) : jCT G M_X11_turnAt 2 0 0 X [.ref 116, .int (nI i)] h Q := by
  refine jCT_of [some (.ref 116), some (.int (nI i)), none, none, none, none, none, none, none, none, none] 9 rfl (by decide +kernel) rfl rfl ?_
  obtain ⟨b1, b2, b3⟩ := turn_b hI h0 h1
  have hs1 := hI.s1
  have p1 := hI.p _ b1
  have p2 := hI.p _ b2
  have p3 := hI.p _ b3
  unfold turnC at hQ
  obtain ⟨ux, eux⟩ : ∃ z : Int, z = (pX s (s (192 + i)) : Int) - pX s (s (192 + (i - 1))) := ⟨_, rfl⟩
  obtain ⟨uy, euy⟩ : ∃ z : Int, z = (pY s (s (192 + i)) : Int) - pY s (s (192 + (i - 1))) := ⟨_, rfl⟩
  obtain ⟨vx, evx⟩ : ∃ z : Int, z = (pX s (s (192 + (i + 1))) : Int) - pX s (s (192 + i)) := ⟨_, rfl⟩
  obtain ⟨vy, evy⟩ : ∃ z : Int, z = (pY s (s (192 + (i + 1))) : Int) - pY s (s (192 + i)) := ⟨_, rfl⟩
  have ec : crossS s i = ux * vy - uy * vx := by unfold crossS; rw [eux, euy, evx, evy]
  have ed : dotS s i = ux * vx + uy * vy := by unfold dotS; rw [eux, euy, evx, evy]
  obtain ⟨q1, q2⟩ := turn_bd ec (by omega) (by omega) (by omega) (by omega)
  obtain ⟨q3, q4⟩ := turn_bd2 ed (by omega) (by omega) (by omega) (by omega)
  generalize crossS s i = cr at *
  generalize dotS s i = dt at *
  refine J_aload_n (by rfl) (by rfl) dX11_turnAt_0 ?_
  refine J_get dX11_turnAt_1 f_X11_9 (by repeat (first | assumption | exact jget_same2 (by (try simp only [List.length_set]); exact jlt (by assumption)) | refine jget_ne (by first | decide | assumption | omega) ?_)) (by rfl) ?_
  refine J_sipush (nI 192) (by decide) dX11_turnAt_4 ?_
  refine J_iload_n (by rfl) dX11_turnAt_7 ?_
  refine J_iadd dX11_turnAt_8 ?_
  try rw [nI_add]
  refine J_iconst (nI 1) (by decide) dX11_turnAt_9 ?_
  refine J_isub_n (by omega) dX11_turnAt_10 ?_
  refine J_iald_n (192 + i - 1) dX11_turnAt_11 (by repeat (first | assumption | exact jget_same2 (by (try simp only [List.length_set]); exact jlt (by assumption)) | refine jget_ne (by first | decide | assumption | omega) ?_)) (by first | rfl | (simp only [pk_mul, nI_add]; done) | (simp only [pk_mul, nI_add]; congr 1; omega) | (congr 1; omega)) (by omega) ?_
  refine J_topi (nI (s (192 + (i - 1)))) (by congr 2; omega) ?_
  refine J_istore_2 dX11_turnAt_12 ?_
  refine J_aload_n (by rfl) (by rfl) dX11_turnAt_13 ?_
  refine J_get dX11_turnAt_14 f_X11_9 (by repeat (first | assumption | exact jget_same2 (by (try simp only [List.length_set]); exact jlt (by assumption)) | refine jget_ne (by first | decide | assumption | omega) ?_)) (by rfl) ?_
  refine J_sipush (nI 192) (by decide) dX11_turnAt_17 ?_
  refine J_iload_n (by rfl) dX11_turnAt_20 ?_
  refine J_iadd dX11_turnAt_21 ?_
  try rw [nI_add]
  refine J_iald_n (192 + i) dX11_turnAt_22 (by repeat (first | assumption | exact jget_same2 (by (try simp only [List.length_set]); exact jlt (by assumption)) | refine jget_ne (by first | decide | assumption | omega) ?_)) (by first | rfl | (simp only [pk_mul, nI_add]; done) | (simp only [pk_mul, nI_add]; congr 1; omega) | (congr 1; omega)) (by omega) ?_
  refine J_istore_3 dX11_turnAt_23 ?_
  refine J_aload_n (by rfl) (by rfl) dX11_turnAt_24 ?_
  refine J_get dX11_turnAt_25 f_X11_9 (by repeat (first | assumption | exact jget_same2 (by (try simp only [List.length_set]); exact jlt (by assumption)) | refine jget_ne (by first | decide | assumption | omega) ?_)) (by rfl) ?_
  refine J_sipush (nI 192) (by decide) dX11_turnAt_28 ?_
  refine J_iload_n (by rfl) dX11_turnAt_31 ?_
  refine J_iadd dX11_turnAt_32 ?_
  try rw [nI_add]
  refine J_iconst (nI 1) (by decide) dX11_turnAt_33 ?_
  refine J_iadd dX11_turnAt_34 ?_
  try rw [nI_add]
  refine J_iald_n (192 + i + 1) dX11_turnAt_35 (by repeat (first | assumption | exact jget_same2 (by (try simp only [List.length_set]); exact jlt (by assumption)) | refine jget_ne (by first | decide | assumption | omega) ?_)) (by first | rfl | (simp only [pk_mul, nI_add]; done) | (simp only [pk_mul, nI_add]; congr 1; omega) | (congr 1; omega)) (by omega) ?_
  refine J_topi (nI (s (192 + (i + 1)))) (by rw [Nat.add_assoc]) ?_
  refine J_istore_4 dX11_turnAt_36 ?_
  refine J_aload_n (by rfl) (by rfl) dX11_turnAt_38 ?_
  refine J_iload_n (by rfl) dX11_turnAt_39 ?_
  refine J_iconst (nI 0) (by decide) dX11_turnAt_40 ?_
  refine J_V2v (ci := 11) dX11_turnAt_41 s_X11_108 m_X11_of rfl (by repeat (first | assumption | exact jget_same2 (by (try simp only [List.length_set]); exact jlt (by assumption)) | refine jget_ne (by first | decide | assumption | omega) ?_)) rfl (c_X11_of (by omega) hM hS (jKv_i ?_))
  refine J_topi (nI (pX s (s (192 + i)))) rfl ?_
  refine J_aload_n (by rfl) (by rfl) dX11_turnAt_44 ?_
  refine J_iload_n (by rfl) dX11_turnAt_45 ?_
  refine J_iconst (nI 0) (by decide) dX11_turnAt_46 ?_
  refine J_V2v (ci := 11) dX11_turnAt_47 s_X11_108 m_X11_of rfl (by repeat (first | assumption | exact jget_same2 (by (try simp only [List.length_set]); exact jlt (by assumption)) | refine jget_ne (by first | decide | assumption | omega) ?_)) rfl (c_X11_of (by omega) hM hS (jKv_i ?_))
  refine J_topi (nI (pX s (s (192 + (i - 1))))) rfl ?_
  refine J_isub dX11_turnAt_50 ?_
  refine J_topi (iI ux) (by rw [nI_sub, eux]) ?_
  refine J_istore_5 dX11_turnAt_51 ?_
  refine J_aload_n (by rfl) (by rfl) dX11_turnAt_53 ?_
  refine J_iload_n (by rfl) dX11_turnAt_54 ?_
  refine J_iconst (nI 1) (by decide) dX11_turnAt_55 ?_
  refine J_V2v (ci := 11) dX11_turnAt_56 s_X11_108 m_X11_of rfl (by repeat (first | assumption | exact jget_same2 (by (try simp only [List.length_set]); exact jlt (by assumption)) | refine jget_ne (by first | decide | assumption | omega) ?_)) rfl (c_X11_of (by omega) hM hS (jKv_i ?_))
  refine J_topi (nI (pY s (s (192 + i)))) rfl ?_
  refine J_aload_n (by rfl) (by rfl) dX11_turnAt_59 ?_
  refine J_iload_n (by rfl) dX11_turnAt_60 ?_
  refine J_iconst (nI 1) (by decide) dX11_turnAt_61 ?_
  refine J_V2v (ci := 11) dX11_turnAt_62 s_X11_108 m_X11_of rfl (by repeat (first | assumption | exact jget_same2 (by (try simp only [List.length_set]); exact jlt (by assumption)) | refine jget_ne (by first | decide | assumption | omega) ?_)) rfl (c_X11_of (by omega) hM hS (jKv_i ?_))
  refine J_topi (nI (pY s (s (192 + (i - 1))))) rfl ?_
  refine J_isub dX11_turnAt_65 ?_
  refine J_topi (iI uy) (by rw [nI_sub, euy]) ?_
  refine J_istore_6 dX11_turnAt_66 ?_
  refine J_aload_n (by rfl) (by rfl) dX11_turnAt_68 ?_
  refine J_iload (by rfl) dX11_turnAt_69 ?_
  refine J_iconst (nI 0) (by decide) dX11_turnAt_71 ?_
  refine J_V2v (ci := 11) dX11_turnAt_72 s_X11_108 m_X11_of rfl (by repeat (first | assumption | exact jget_same2 (by (try simp only [List.length_set]); exact jlt (by assumption)) | refine jget_ne (by first | decide | assumption | omega) ?_)) rfl (c_X11_of (by omega) hM hS (jKv_i ?_))
  refine J_topi (nI (pX s (s (192 + (i + 1))))) rfl ?_
  refine J_aload_n (by rfl) (by rfl) dX11_turnAt_75 ?_
  refine J_iload_n (by rfl) dX11_turnAt_76 ?_
  refine J_iconst (nI 0) (by decide) dX11_turnAt_77 ?_
  refine J_V2v (ci := 11) dX11_turnAt_78 s_X11_108 m_X11_of rfl (by repeat (first | assumption | exact jget_same2 (by (try simp only [List.length_set]); exact jlt (by assumption)) | refine jget_ne (by first | decide | assumption | omega) ?_)) rfl (c_X11_of (by omega) hM hS (jKv_i ?_))
  refine J_topi (nI (pX s (s (192 + i)))) rfl ?_
  refine J_isub dX11_turnAt_81 ?_
  refine J_topi (iI vx) (by rw [nI_sub, evx]) ?_
  refine J_istore_7 dX11_turnAt_82 ?_
  refine J_aload_n (by rfl) (by rfl) dX11_turnAt_84 ?_
  refine J_iload (by rfl) dX11_turnAt_85 ?_
  refine J_iconst (nI 1) (by decide) dX11_turnAt_87 ?_
  refine J_V2v (ci := 11) dX11_turnAt_88 s_X11_108 m_X11_of rfl (by repeat (first | assumption | exact jget_same2 (by (try simp only [List.length_set]); exact jlt (by assumption)) | refine jget_ne (by first | decide | assumption | omega) ?_)) rfl (c_X11_of (by omega) hM hS (jKv_i ?_))
  refine J_topi (nI (pY s (s (192 + (i + 1))))) rfl ?_
  refine J_aload_n (by rfl) (by rfl) dX11_turnAt_91 ?_
  refine J_iload_n (by rfl) dX11_turnAt_92 ?_
  refine J_iconst (nI 1) (by decide) dX11_turnAt_93 ?_
  refine J_V2v (ci := 11) dX11_turnAt_94 s_X11_108 m_X11_of rfl (by repeat (first | assumption | exact jget_same2 (by (try simp only [List.length_set]); exact jlt (by assumption)) | refine jget_ne (by first | decide | assumption | omega) ?_)) rfl (c_X11_of (by omega) hM hS (jKv_i ?_))
  refine J_topi (nI (pY s (s (192 + i)))) rfl ?_
  refine J_isub dX11_turnAt_97 ?_
  refine J_topi (iI vy) (by rw [nI_sub, evy]) ?_
  refine J_istore_8 dX11_turnAt_98 ?_
  refine J_iload (by rfl) dX11_turnAt_100 ?_
  refine J_iload (by rfl) dX11_turnAt_102 ?_
  refine J_imul dX11_turnAt_104 ?_
  try rw [pk_mul]
  refine J_iload (by rfl) dX11_turnAt_105 ?_
  refine J_iload (by rfl) dX11_turnAt_107 ?_
  refine J_imul dX11_turnAt_109 ?_
  try rw [pk_mul]
  refine J_isub dX11_turnAt_110 ?_
  refine J_topi (iI cr) (by rw [iI_mul, iI_mul, iI_sub, ec]) ?_
  refine J_istore_9 dX11_turnAt_111 ?_
  refine J_iload (by rfl) dX11_turnAt_113 ?_
  refine J_iload (by rfl) dX11_turnAt_115 ?_
  refine J_imul dX11_turnAt_117 ?_
  try rw [pk_mul]
  refine J_iload (by rfl) dX11_turnAt_118 ?_
  refine J_iload (by rfl) dX11_turnAt_120 ?_
  refine J_imul dX11_turnAt_122 ?_
  try rw [pk_mul]
  refine J_iadd dX11_turnAt_123 ?_
  try rw [nI_add]
  refine J_topi (iI dt) (by rw [iI_mul, iI_mul, iI_add, ed]) ?_
  have z0 : (0 : Int32) = iI 0 := rfl
  refine J_istore_10 dX11_turnAt_124 ?_
  refine J_iload (by rfl) dX11_turnAt_126 ?_
  refine J_if_le 136 dX11_turnAt_128 (by decide) (fun c128 => ?_) (fun c128 => ?_)
  · rw [z0, iI_le (by omega) (by omega) (by omega) (by omega)] at c128
    rw [if_neg (by omega)] at hQ
    refine J_iload (by rfl) dX11_turnAt_136 ?_
    refine J_if_ge 146 dX11_turnAt_138 (by decide) (fun c138 => ?_) (fun c138 => ?_)
    · rw [z0, iI_le (by omega) (by omega) (by omega) (by omega)] at c138
      rw [if_neg (by omega)] at hQ
      refine J_iload (by rfl) dX11_turnAt_146 ?_
      refine J_if_lt 156 dX11_turnAt_148 (by decide) (fun c148 => ?_) (fun c148 => ?_)
      · rw [iI_lt0 (by omega) (by omega)] at c148
        rw [if_neg (by omega)] at hQ
        refine J_bipush (nI 98) (by decide) dX11_turnAt_156 ?_
        exact J_ireturn dX11_turnAt_158 rfl (hQ) (by decide) (by decide) (fun _ => rfl)
      · rw [iI_lt0 (by omega) (by omega)] at c148
        rw [if_pos (by omega)] at hQ
        refine J_bipush (nI 115) (by decide) dX11_turnAt_151 ?_
        refine J_goto 158 dX11_turnAt_153 (by decide) ?_
        exact J_ireturn dX11_turnAt_158 rfl (hQ) (by decide) (by decide) (fun _ => rfl)
    · rw [z0, iI_le (by omega) (by omega) (by omega) (by omega)] at c138
      rw [if_pos (by omega)] at hQ
      refine J_bipush (nI 114) (by decide) dX11_turnAt_141 ?_
      refine J_goto 158 dX11_turnAt_143 (by decide) ?_
      exact J_ireturn dX11_turnAt_158 rfl (hQ) (by decide) (by decide) (fun _ => rfl)
  · rw [z0, iI_le (by omega) (by omega) (by omega) (by omega)] at c128
    rw [if_pos (by omega)] at hQ
    refine J_bipush (nI 108) (by decide) dX11_turnAt_131 ?_
    refine J_goto 158 dX11_turnAt_133 (by decide) ?_
    exact J_ireturn dX11_turnAt_158 rfl (hQ) (by decide) (by decide) (fun _ => rfl)
theorem c_X11_isNoIndex (x : Int32) (hI : Inv K s) (hM : h[116]? = some (hMo ch th ea fa an sv ln tp he cm)) (hS : h[117]? = some (ia 204 s)) (hQ : Q (.inl (some (.int (jb (decide (Tri s x ≠ 0)))))) (h.set 116 (hMo ch (Tri s x) ea fa an sv ln tp he cm))) : jCT G M_X11_isNoIndex 2 0 0 X [.ref 116, .int x] h Q := by
  refine jCT_of [some (.ref 116), some (.int x)] 0 rfl (by decide +kernel) rfl rfl ?_
  have hs1 := hI.s1
  refine J_aload_n (by rfl) (by rfl) dX11_isNoIndex_0 ?_
  refine J_aload_n (by rfl) (by rfl) dX11_isNoIndex_1 ?_
  refine J_V0v (ci := 11) dX11_isNoIndex_2 s_X11_97 m_X11_isOnTour rfl (by repeat (first | assumption | exact jget_same2 (by (try simp only [List.length_set]); exact jlt (by assumption)) | refine jget_ne (by first | decide | assumption | omega) ?_)) rfl (c_X11_isOnTour hs1 (by repeat (first | assumption | exact jget_same2 (by (try simp only [List.length_set]); exact jlt (by assumption)) | refine jget_ne (by first | decide | assumption | omega) ?_)) (by repeat (first | assumption | exact jget_same2 (by (try simp only [List.length_set]); exact jlt (by assumption)) | refine jget_ne (by first | decide | assumption | omega) ?_)) (jKv_i ?_))
  refine J_if_ne_b 12 dX11_isNoIndex_5 (by decide) (fun c5 => ?_) (fun c5 => ?_)
  · have c5 : 0 < s 1 := by simpa using c5
    refine J_iconst (nI 0) (by decide) dX11_isNoIndex_12 ?_
    refine J_iconst (nI 1) (by decide) dX11_isNoIndex_13 ?_
    refine J_V2v (ci := 11) dX11_isNoIndex_14 s_X11_63 m_X11_isThrown rfl (by repeat (first | assumption | exact jget_same2 (by (try simp only [List.length_set]); exact jlt (by assumption)) | refine jget_ne (by first | decide | assumption | omega) ?_)) rfl (c_X11_isThrown false (by repeat (first | assumption | exact jget_same2 (by (try simp only [List.length_set]); exact jlt (by assumption)) | refine jget_ne (by first | decide | assumption | omega) ?_)) (jKv_i ?_))
    refine J_if_ne_b 49 dX11_isNoIndex_17 (by decide) (fun c17 => ?_) (fun c17 => ?_)
    · exact absurd c17 (by decide)
    · refine J_aload_n (by rfl) (by rfl) dX11_isNoIndex_20 ?_
      refine J_iload_n (by rfl) dX11_isNoIndex_21 ?_
      refine J_iconst (nI 0) (by decide) dX11_isNoIndex_22 ?_
      refine J_aload_n (by rfl) (by rfl) dX11_isNoIndex_23 ?_
      refine J_get dX11_isNoIndex_24 f_X11_9 (by repeat (first | assumption | exact jget_same2 (by (try simp only [List.length_set]); exact jlt (by assumption)) | refine jget_ne (by first | decide | assumption | omega) ?_)) (by rfl) ?_
      refine J_iconst (nI 1) (by decide) dX11_isNoIndex_27 ?_
      refine J_iald_n (1) dX11_isNoIndex_28 (by repeat (first | assumption | exact jget_same2 (by (try simp only [List.length_set]); exact jlt (by assumption)) | refine jget_ne (by first | decide | assumption | omega) ?_)) (by first | rfl | (simp only [pk_mul, nI_add]; done) | (simp only [pk_mul, nI_add]; congr 1; omega) | (congr 1; omega)) (by omega) ?_
      refine J_iconst (nI 1) (by decide) dX11_isNoIndex_29 ?_
      refine J_isub dX11_isNoIndex_30 ?_
      refine J_S3v dX11_isNoIndex_31 s_X11_51 m_X11_isIn rfl (c_X11_isIn_x x _ (jKv_i ?_))
      rw [isIx_in (by omega)]
      cases hx : isIx x (s 1) with
      | true =>
        rw [show Tri s x = 0 by unfold Tri; rw [if_pos c5, if_pos hx]] at hQ
        refine J_if_ne_b 41 dX11_isNoIndex_34 (by decide) (fun c34 => ?_) (fun c34 => ?_)
        · refine J_iconst (nI 0) (by decide) dX11_isNoIndex_41 ?_
          refine J_iconst (nI 2) (by decide) dX11_isNoIndex_42 ?_
          refine J_V2v (ci := 11) dX11_isNoIndex_43 s_X11_63 m_X11_isThrown rfl (by repeat (first | assumption | exact jget_same2 (by (try simp only [List.length_set]); exact jlt (by assumption)) | refine jget_ne (by first | decide | assumption | omega) ?_)) rfl (c_X11_isThrown false (by repeat (first | assumption | exact jget_same2 (by (try simp only [List.length_set]); exact jlt (by assumption)) | refine jget_ne (by first | decide | assumption | omega) ?_)) (jKv_i ?_))
          refine J_if_eq_b 53 dX11_isNoIndex_46 (by decide) (fun c46 => ?_) (fun c46 => ?_)
          · refine J_iconst (nI 0) (by decide) dX11_isNoIndex_53 ?_
            exact J_zreturn dX11_isNoIndex_54 rfl (by first | rfl | exact jb_n _) (by (try simp only [List.set_set]); exact hQ) (by decide) (by decide) (fun _ => rfl)
          · exact absurd c46 (by decide)
        · exact absurd c34 (by decide)
      | false =>
        rw [show Tri s x = 2 by unfold Tri; rw [if_pos c5, if_neg (by rw [hx]; decide)]] at hQ
        refine J_if_ne_b 41 dX11_isNoIndex_34 (by decide) (fun c34 => ?_) (fun c34 => ?_)
        · exact absurd c34 (by decide)
        · refine J_iconst (nI 1) (by decide) dX11_isNoIndex_37 ?_
          refine J_goto 42 dX11_isNoIndex_38 (by decide) ?_
          refine J_iconst (nI 2) (by decide) dX11_isNoIndex_42 ?_
          refine J_V2v (ci := 11) dX11_isNoIndex_43 s_X11_63 m_X11_isThrown rfl (by repeat (first | assumption | exact jget_same2 (by (try simp only [List.length_set]); exact jlt (by assumption)) | refine jget_ne (by first | decide | assumption | omega) ?_)) rfl (c_X11_isThrown true (by repeat (first | assumption | exact jget_same2 (by (try simp only [List.length_set]); exact jlt (by assumption)) | refine jget_ne (by first | decide | assumption | omega) ?_)) (jKv_i ?_))
          refine J_if_eq_b 53 dX11_isNoIndex_46 (by decide) (fun c46 => ?_) (fun c46 => ?_)
          · exact absurd c46 (by decide)
          · refine J_iconst (nI 1) (by decide) dX11_isNoIndex_49 ?_
            refine J_goto 54 dX11_isNoIndex_50 (by decide) ?_
            exact J_zreturn dX11_isNoIndex_54 rfl (by first | rfl | exact jb_n _) (by (try simp only [List.set_set]); exact hQ) (by decide) (by decide) (fun _ => rfl)
  · have c5 : ¬ 0 < s 1 := by simpa using c5
    rw [show Tri s x = 1 by unfold Tri; rw [if_neg c5]] at hQ
    refine J_iconst (nI 1) (by decide) dX11_isNoIndex_8 ?_
    refine J_goto 13 dX11_isNoIndex_9 (by decide) ?_
    refine J_iconst (nI 1) (by decide) dX11_isNoIndex_13 ?_
    refine J_V2v (ci := 11) dX11_isNoIndex_14 s_X11_63 m_X11_isThrown rfl (by repeat (first | assumption | exact jget_same2 (by (try simp only [List.length_set]); exact jlt (by assumption)) | refine jget_ne (by first | decide | assumption | omega) ?_)) rfl (c_X11_isThrown true (by repeat (first | assumption | exact jget_same2 (by (try simp only [List.length_set]); exact jlt (by assumption)) | refine jget_ne (by first | decide | assumption | omega) ?_)) (jKv_i ?_))
    refine J_if_ne_b 49 dX11_isNoIndex_17 (by decide) (fun c17 => ?_) (fun c17 => ?_)
    · refine J_iconst (nI 1) (by decide) dX11_isNoIndex_49 ?_
      refine J_goto 54 dX11_isNoIndex_50 (by decide) ?_
      exact J_zreturn dX11_isNoIndex_54 rfl (by first | rfl | exact jb_n _) (by (try simp only [List.set_set]); exact hQ) (by decide) (by decide) (fun _ => rfl)
    · exact absurd c17 (by decide)
theorem Tri_0 {s : Nat → Nat} {x : Int32} (h : Tri s x = 0) : 0 < s 1 ∧ isIx x (s 1) = true := by
  unfold Tri at h
  by_cases h1 : 0 < s 1
  · rw [if_pos h1] at h
    by_cases h2 : isIx x (s 1) = true
    · exact ⟨h1, h2⟩
    · rw [if_neg h2] at h; omega
  · rw [if_neg h1] at h; omega
theorem c_X11_routeWaypoint (x : Int32) (hI : Inv K s) (hm : MPc h s sS P ch th ea fa sv lf ln tx tp) (hQ : ∀ h', jFr mC h h' → MPc h' s sS P ch (Tri s x) ea fa sv lf ln tx tp → Q (.inl (some (.int (nI (if Tri s x = 0 then s (192 + nP x) else 0))))) h') : jCT G M_X11_routeWaypoint 3 0 0 X [.ref 116, .int x] h Q := by
  refine jCT_of [some (.ref 116), some (.int x)] 0 rfl (by decide +kernel) rfl rfl ?_
  obtain ⟨an, he, cm, W, F, C, h1, h2, h3, h4, h5, h6, h7, h8, h9⟩ := hm
  have hs1 := hI.s1
  refine J_aload_n (by rfl) (by rfl) dX11_routeWaypoint_0 ?_
  refine J_iload_n (by rfl) dX11_routeWaypoint_1 ?_
  refine J_V1v (ci := 11) dX11_routeWaypoint_2 s_X11_169 m_X11_isNoIndex rfl (by repeat (first | assumption | exact jget_same2 (by (try simp only [List.length_set]); exact jlt (by assumption)) | refine jget_ne (by first | decide | assumption | omega) ?_)) rfl (c_X11_isNoIndex x hI (by repeat (first | assumption | exact jget_same2 (by (try simp only [List.length_set]); exact jlt (by assumption)) | refine jget_ne (by first | decide | assumption | omega) ?_)) (by repeat (first | assumption | exact jget_same2 (by (try simp only [List.length_set]); exact jlt (by assumption)) | refine jget_ne (by first | decide | assumption | omega) ?_)) (jKv_i ?_))
  have hQ := hQ _ (jFr.refl.set 116 _ (by decide)) ⟨an, he, cm, W, F, C, (by repeat (first | assumption | exact jget_same2 (by (try simp only [List.length_set]); exact jlt (by assumption)) | refine jget_ne (by first | decide | assumption | omega) ?_)), (by repeat (first | assumption | exact jget_same2 (by (try simp only [List.length_set]); exact jlt (by assumption)) | refine jget_ne (by first | decide | assumption | omega) ?_)), (by repeat (first | assumption | exact jget_same2 (by (try simp only [List.length_set]); exact jlt (by assumption)) | refine jget_ne (by first | decide | assumption | omega) ?_)), (by repeat (first | assumption | exact jget_same2 (by (try simp only [List.length_set]); exact jlt (by assumption)) | refine jget_ne (by first | decide | assumption | omega) ?_)), (by repeat (first | assumption | exact jget_same2 (by (try simp only [List.length_set]); exact jlt (by assumption)) | refine jget_ne (by first | decide | assumption | omega) ?_)), (by repeat (first | assumption | exact jget_same2 (by (try simp only [List.length_set]); exact jlt (by assumption)) | refine jget_ne (by first | decide | assumption | omega) ?_)), (by repeat (first | assumption | exact jget_same2 (by (try simp only [List.length_set]); exact jlt (by assumption)) | refine jget_ne (by first | decide | assumption | omega) ?_)), (by repeat (first | assumption | exact jget_same2 (by (try simp only [List.length_set]); exact jlt (by assumption)) | refine jget_ne (by first | decide | assumption | omega) ?_)), (by repeat (first | assumption | exact jget_same2 (by (try simp only [List.length_set]); exact jlt (by assumption)) | refine jget_ne (by first | decide | assumption | omega) ?_))⟩
  by_cases hT : Tri s x = 0
  · obtain ⟨z1, z2⟩ := Tri_0 hT
    obtain ⟨i, rfl, hi, e1⟩ := isIx_k z2 (by omega)
    rw [hT] at hQ ⊢
    rw [if_pos rfl, e1] at hQ
    refine J_if_eq_b 12 dX11_routeWaypoint_5 (by decide) (fun c5 => ?_) (fun c5 => ?_)
    · refine J_aload_n (by rfl) (by rfl) dX11_routeWaypoint_12 ?_
      refine J_get dX11_routeWaypoint_13 f_X11_9 (by repeat (first | assumption | exact jget_same2 (by (try simp only [List.length_set]); exact jlt (by assumption)) | refine jget_ne (by first | decide | assumption | omega) ?_)) (by rfl) ?_
      refine J_sipush (nI 192) (by decide) dX11_routeWaypoint_16 ?_
      refine J_iload_n (by rfl) dX11_routeWaypoint_19 ?_
      refine J_iadd dX11_routeWaypoint_20 ?_
      try rw [nI_add]
      refine J_iald_n (192 + i) dX11_routeWaypoint_21 (by repeat (first | assumption | exact jget_same2 (by (try simp only [List.length_set]); exact jlt (by assumption)) | refine jget_ne (by first | decide | assumption | omega) ?_)) (by first | rfl | (simp only [pk_mul, nI_add]; done) | (simp only [pk_mul, nI_add]; congr 1; omega) | (congr 1; omega)) (by omega) ?_
      exact J_ireturn dX11_routeWaypoint_22 rfl (hQ) (by decide) (by decide) (fun _ => rfl)
    · exact absurd c5 (by decide)
  · rw [show decide (Tri s x ≠ 0) = true by simpa using hT]
    rw [if_neg hT] at hQ
    refine J_if_eq_b 12 dX11_routeWaypoint_5 (by decide) (fun c5 => ?_) (fun c5 => ?_)
    · exact absurd c5 (by decide)
    · refine J_iconst (nI 0) (by decide) dX11_routeWaypoint_8 ?_
      refine J_goto 22 dX11_routeWaypoint_9 (by decide) ?_
      exact J_ireturn dX11_routeWaypoint_22 rfl (hQ) (by decide) (by decide) (fun _ => rfl)
theorem c_X11_turn (x : Int32) (hI : Inv K s) (hm : MPc h s sS P ch th ea fa sv lf ln tx tp) (hQ : ∀ h', jFr mC h h' → MPc h' s sS P ch (Ttu s x) ea fa sv lf ln tx tp → Q (.inl (some (.int (nI (if Ttu s x = 0 then turnC s (nP x) else 0))))) h') : jCT G M_X11_turn 3 0 0 X [.ref 116, .int x] h Q := by
  refine jCT_of [some (.ref 116), some (.int x)] 0 rfl (by decide +kernel) rfl rfl ?_
  obtain ⟨an, he, cm, W, F, C, h1, h2, h3, h4, h5, h6, h7, h8, h9⟩ := hm
  have hs1 := hI.s1
  have fin0 : ∀ t, Ttu s x = t → t ≠ 0 → Q (.inl (some (.int (nI 0)))) (h.set 116 (hMo ch t ea fa an sv ln tp he cm)) := fun t ht hne => by
    have := hQ (h.set 116 (hMo ch (Ttu s x) ea fa an sv ln tp he cm)) (jFr.refl.set 116 _ (by decide)) ⟨an, he, cm, W, F, C, (by repeat (first | assumption | exact jget_same2 (by (try simp only [List.length_set]); exact jlt (by assumption)) | refine jget_ne (by first | decide | assumption | omega) ?_)), (by repeat (first | assumption | exact jget_same2 (by (try simp only [List.length_set]); exact jlt (by assumption)) | refine jget_ne (by first | decide | assumption | omega) ?_)), (by repeat (first | assumption | exact jget_same2 (by (try simp only [List.length_set]); exact jlt (by assumption)) | refine jget_ne (by first | decide | assumption | omega) ?_)), (by repeat (first | assumption | exact jget_same2 (by (try simp only [List.length_set]); exact jlt (by assumption)) | refine jget_ne (by first | decide | assumption | omega) ?_)), (by repeat (first | assumption | exact jget_same2 (by (try simp only [List.length_set]); exact jlt (by assumption)) | refine jget_ne (by first | decide | assumption | omega) ?_)), (by repeat (first | assumption | exact jget_same2 (by (try simp only [List.length_set]); exact jlt (by assumption)) | refine jget_ne (by first | decide | assumption | omega) ?_)), (by repeat (first | assumption | exact jget_same2 (by (try simp only [List.length_set]); exact jlt (by assumption)) | refine jget_ne (by first | decide | assumption | omega) ?_)), (by repeat (first | assumption | exact jget_same2 (by (try simp only [List.length_set]); exact jlt (by assumption)) | refine jget_ne (by first | decide | assumption | omega) ?_)), (by repeat (first | assumption | exact jget_same2 (by (try simp only [List.length_set]); exact jlt (by assumption)) | refine jget_ne (by first | decide | assumption | omega) ?_))⟩
    rw [ht, if_neg hne] at this
    exact this
  refine J_aload_n (by rfl) (by rfl) dX11_turn_0 ?_
  refine J_iload_n (by rfl) dX11_turn_1 ?_
  refine J_V1v (ci := 11) dX11_turn_2 s_X11_169 m_X11_isNoIndex rfl (by repeat (first | assumption | exact jget_same2 (by (try simp only [List.length_set]); exact jlt (by assumption)) | refine jget_ne (by first | decide | assumption | omega) ?_)) rfl (c_X11_isNoIndex x hI (by repeat (first | assumption | exact jget_same2 (by (try simp only [List.length_set]); exact jlt (by assumption)) | refine jget_ne (by first | decide | assumption | omega) ?_)) (by repeat (first | assumption | exact jget_same2 (by (try simp only [List.length_set]); exact jlt (by assumption)) | refine jget_ne (by first | decide | assumption | omega) ?_)) (jKv_i ?_))
  by_cases hT : Tri s x = 0
  · obtain ⟨z1, z2⟩ := Tri_0 hT
    obtain ⟨i, rfl, hi, e1⟩ := isIx_k z2 (by omega)
    have hTu : Ttu s (nI i) = if i = 0 ∨ i + 1 = s 1 then 3 else 0 := by unfold Ttu; rw [if_pos z1, if_pos z2, e1]
    rw [hT]
    have fin3 : (i = 0 ∨ i + 1 = s 1) → J G (jR 3 0 0) (jFin G Q X 0 0) M_X11_turn X 0 0 25 [some (.ref 116), some (.int (nI i))] [.ref 116] (h.set 116 (hMo ch 0 ea fa an sv ln tp he cm)) := by
      intro z
      refine J_iconst (nI 1) (by decide) dX11_turn_25 ?_
      refine J_goto 30 dX11_turn_26 (by decide) ?_
      refine J_iconst (nI 3) (by decide) dX11_turn_30 ?_
      refine J_V2v (ci := 11) dX11_turn_31 s_X11_63 m_X11_isThrown rfl (by repeat (first | assumption | exact jget_same2 (by (try simp only [List.length_set]); exact jlt (by assumption)) | refine jget_ne (by first | decide | assumption | omega) ?_)) rfl (c_X11_isThrown true (by repeat (first | assumption | exact jget_same2 (by (try simp only [List.length_set]); exact jlt (by assumption)) | refine jget_ne (by first | decide | assumption | omega) ?_)) (jKv_i ?_))
      refine J_if_eq_b 39 dX11_turn_34 (by decide) (fun c34 => ?_) (fun c34 => ?_)
      · exact absurd c34 (by decide)
      · refine J_iconst (nI 0) (by decide) dX11_turn_37 ?_
        exact J_zreturn dX11_turn_38 rfl (by first | rfl | exact jb_n _) (by rw [List.set_set]; exact fin0 3 (by rw [hTu, if_pos z]) (by decide)) (by decide) (by decide) (fun _ => rfl)
    refine J_if_ne_b 37 dX11_turn_5 (by decide) (fun c5 => ?_) (fun c5 => ?_)
    · exact absurd c5 (by decide)
    · refine J_aload_n (by rfl) (by rfl) dX11_turn_8 ?_
      refine J_iload_n (by rfl) dX11_turn_9 ?_
      refine J_if_eq_n 25 dX11_turn_10 (by decide) (fun c10 => ?_) (fun c10 => ?_)
      · exact fin3 (.inl c10)
      · refine J_iload_n (by rfl) dX11_turn_13 ?_
        refine J_aload_n (by rfl) (by rfl) dX11_turn_14 ?_
        refine J_get dX11_turn_15 f_X11_9 (by repeat (first | assumption | exact jget_same2 (by (try simp only [List.length_set]); exact jlt (by assumption)) | refine jget_ne (by first | decide | assumption | omega) ?_)) (by rfl) ?_
        refine J_iconst (nI 1) (by decide) dX11_turn_18 ?_
        refine J_iald_n (1) dX11_turn_19 (by repeat (first | assumption | exact jget_same2 (by (try simp only [List.length_set]); exact jlt (by assumption)) | refine jget_ne (by first | decide | assumption | omega) ?_)) (by first | rfl | (simp only [pk_mul, nI_add]; done) | (simp only [pk_mul, nI_add]; congr 1; omega) | (congr 1; omega)) (by omega) ?_
        refine J_iconst (nI 1) (by decide) dX11_turn_20 ?_
        refine J_isub_n (by omega) dX11_turn_21 ?_
        refine J_icmp_ne_n 29 dX11_turn_22 (by decide) (fun c22 => ?_) (fun c22 => ?_)
        · have z : ¬ (i = 0 ∨ i + 1 = s 1) := by omega
          rw [if_neg z] at hTu
          have hQ := hQ (h.set 116 (hMo ch (Ttu s (nI i)) ea fa an sv ln tp he cm)) (jFr.refl.set 116 _ (by decide)) ⟨an, he, cm, W, F, C, (by repeat (first | assumption | exact jget_same2 (by (try simp only [List.length_set]); exact jlt (by assumption)) | refine jget_ne (by first | decide | assumption | omega) ?_)), (by repeat (first | assumption | exact jget_same2 (by (try simp only [List.length_set]); exact jlt (by assumption)) | refine jget_ne (by first | decide | assumption | omega) ?_)), (by repeat (first | assumption | exact jget_same2 (by (try simp only [List.length_set]); exact jlt (by assumption)) | refine jget_ne (by first | decide | assumption | omega) ?_)), (by repeat (first | assumption | exact jget_same2 (by (try simp only [List.length_set]); exact jlt (by assumption)) | refine jget_ne (by first | decide | assumption | omega) ?_)), (by repeat (first | assumption | exact jget_same2 (by (try simp only [List.length_set]); exact jlt (by assumption)) | refine jget_ne (by first | decide | assumption | omega) ?_)), (by repeat (first | assumption | exact jget_same2 (by (try simp only [List.length_set]); exact jlt (by assumption)) | refine jget_ne (by first | decide | assumption | omega) ?_)), (by repeat (first | assumption | exact jget_same2 (by (try simp only [List.length_set]); exact jlt (by assumption)) | refine jget_ne (by first | decide | assumption | omega) ?_)), (by repeat (first | assumption | exact jget_same2 (by (try simp only [List.length_set]); exact jlt (by assumption)) | refine jget_ne (by first | decide | assumption | omega) ?_)), (by repeat (first | assumption | exact jget_same2 (by (try simp only [List.length_set]); exact jlt (by assumption)) | refine jget_ne (by first | decide | assumption | omega) ?_))⟩
          rw [hTu, if_pos rfl, e1] at hQ
          have htc : turnC s i < 65536 := by
            unfold turnC
            repeat' split
            all_goals decide
          refine J_iconst (nI 0) (by decide) dX11_turn_29 ?_
          refine J_iconst (nI 3) (by decide) dX11_turn_30 ?_
          refine J_V2v (ci := 11) dX11_turn_31 s_X11_63 m_X11_isThrown rfl (by repeat (first | assumption | exact jget_same2 (by (try simp only [List.length_set]); exact jlt (by assumption)) | refine jget_ne (by first | decide | assumption | omega) ?_)) rfl (c_X11_isThrown false (by repeat (first | assumption | exact jget_same2 (by (try simp only [List.length_set]); exact jlt (by assumption)) | refine jget_ne (by first | decide | assumption | omega) ?_)) (jKv_i ?_))
          refine J_if_eq_b 39 dX11_turn_34 (by decide) (fun c34 => ?_) (fun c34 => ?_)
          · refine J_aload_n (by rfl) (by rfl) dX11_turn_39 ?_
            refine J_iload_n (by rfl) dX11_turn_40 ?_
            refine J_V1v (ci := 11) dX11_turn_41 s_X11_172 m_X11_turnAt rfl (by repeat (first | assumption | exact jget_same2 (by (try simp only [List.length_set]); exact jlt (by assumption)) | refine jget_ne (by first | decide | assumption | omega) ?_)) rfl (c_X11_turnAt (i := i) hI (by omega) (by omega) (by repeat (first | assumption | exact jget_same2 (by (try simp only [List.length_set]); exact jlt (by assumption)) | refine jget_ne (by first | decide | assumption | omega) ?_)) (by repeat (first | assumption | exact jget_same2 (by (try simp only [List.length_set]); exact jlt (by assumption)) | refine jget_ne (by first | decide | assumption | omega) ?_)) (jKv_i ?_))
            refine J_i2c dX11_turn_44 ?_
            refine J_topi (nI (turnC s i)) (i2c_n htc) ?_
            exact J_zreturn dX11_turn_45 rfl ((pk_charN htc).1) (by (try simp only [List.set_set]); exact hQ) (by decide) (by decide) (fun _ => rfl)
          · exact absurd c34 (by decide)
        · exact fin3 (.inr (by omega))
  · rw [show decide (Tri s x ≠ 0) = true by simpa using hT]
    have hTu : Ttu s x = Tri s x := by
      unfold Ttu Tri at *
      repeat' split
      all_goals first | rfl | (exfalso; simp_all)
    refine J_if_ne_b 37 dX11_turn_5 (by decide) (fun c5 => ?_) (fun c5 => ?_)
    · refine J_iconst (nI 0) (by decide) dX11_turn_37 ?_
      exact J_zreturn dX11_turn_38 rfl (by first | rfl | exact jb_n _) (fin0 _ hTu hT) (by decide) (by decide) (fun _ => rfl)
    · exact absurd c5 (by decide)
theorem c_X11_target (hI : Inv K s) (hm : MPc h s sS P ch th ea fa sv lf ln tx tp) (hQ : ∀ h', jFr mC h h' → MPc h' s sS P ch (T8 s) ea fa sv lf ln tx tp → Q (.inl (some (.int (nI (if T8 s = 0 then aimS s else 0))))) h') : jCT G M_X11_target 2 0 0 X [.ref 116] h Q := by
  refine jCT_of [some (.ref 116)] 0 rfl (by decide +kernel) rfl rfl ?_
  obtain ⟨an, he, cm, W, F, C, h1, h2, h3, h4, h5, h6, h7, h8, h9⟩ := hm
  have hs1 := hI.s1
  refine J_aload_n (by rfl) (by rfl) dX11_target_0 ?_
  refine J_aload_n (by rfl) (by rfl) dX11_target_1 ?_
  refine J_V0v (ci := 11) dX11_target_2 s_X11_97 m_X11_isOnTour rfl (by repeat (first | assumption | exact jget_same2 (by (try simp only [List.length_set]); exact jlt (by assumption)) | refine jget_ne (by first | decide | assumption | omega) ?_)) rfl (c_X11_isOnTour hs1 (by repeat (first | assumption | exact jget_same2 (by (try simp only [List.length_set]); exact jlt (by assumption)) | refine jget_ne (by first | decide | assumption | omega) ?_)) (by repeat (first | assumption | exact jget_same2 (by (try simp only [List.length_set]); exact jlt (by assumption)) | refine jget_ne (by first | decide | assumption | omega) ?_)) (jKv_i ?_))
  refine J_if_ne_b 12 dX11_target_5 (by decide) (fun c5 => ?_) (fun c5 => ?_)
  · have c5 : 0 < s 1 := by simpa using c5
    have hQ := hQ (h.set 116 (hMo ch (T8 s) ea fa an sv ln tp he cm)) (jFr.refl.set 116 _ (by decide)) ⟨an, he, cm, W, F, C, (by repeat (first | assumption | exact jget_same2 (by (try simp only [List.length_set]); exact jlt (by assumption)) | refine jget_ne (by first | decide | assumption | omega) ?_)), (by repeat (first | assumption | exact jget_same2 (by (try simp only [List.length_set]); exact jlt (by assumption)) | refine jget_ne (by first | decide | assumption | omega) ?_)), (by repeat (first | assumption | exact jget_same2 (by (try simp only [List.length_set]); exact jlt (by assumption)) | refine jget_ne (by first | decide | assumption | omega) ?_)), (by repeat (first | assumption | exact jget_same2 (by (try simp only [List.length_set]); exact jlt (by assumption)) | refine jget_ne (by first | decide | assumption | omega) ?_)), (by repeat (first | assumption | exact jget_same2 (by (try simp only [List.length_set]); exact jlt (by assumption)) | refine jget_ne (by first | decide | assumption | omega) ?_)), (by repeat (first | assumption | exact jget_same2 (by (try simp only [List.length_set]); exact jlt (by assumption)) | refine jget_ne (by first | decide | assumption | omega) ?_)), (by repeat (first | assumption | exact jget_same2 (by (try simp only [List.length_set]); exact jlt (by assumption)) | refine jget_ne (by first | decide | assumption | omega) ?_)), (by repeat (first | assumption | exact jget_same2 (by (try simp only [List.length_set]); exact jlt (by assumption)) | refine jget_ne (by first | decide | assumption | omega) ?_)), (by repeat (first | assumption | exact jget_same2 (by (try simp only [List.length_set]); exact jlt (by assumption)) | refine jget_ne (by first | decide | assumption | omega) ?_))⟩
    rw [show T8 s = 0 by unfold T8; rw [if_pos c5], if_pos rfl] at hQ
    have ht := (hI.t c5).2.2.2.1
    refine J_iconst (nI 0) (by decide) dX11_target_12 ?_
    refine J_iconst (nI 1) (by decide) dX11_target_13 ?_
    refine J_V2v (ci := 11) dX11_target_14 s_X11_63 m_X11_isThrown rfl (by repeat (first | assumption | exact jget_same2 (by (try simp only [List.length_set]); exact jlt (by assumption)) | refine jget_ne (by first | decide | assumption | omega) ?_)) rfl (c_X11_isThrown false (by repeat (first | assumption | exact jget_same2 (by (try simp only [List.length_set]); exact jlt (by assumption)) | refine jget_ne (by first | decide | assumption | omega) ?_)) (jKv_i ?_))
    refine J_if_eq_b 24 dX11_target_17 (by decide) (fun c17 => ?_) (fun c17 => ?_)
    · refine J_aload_n (by rfl) (by rfl) dX11_target_24 ?_
      refine J_V0v (ci := 11) dX11_target_25 s_X11_120 m_X11_aim rfl (by repeat (first | assumption | exact jget_same2 (by (try simp only [List.length_set]); exact jlt (by assumption)) | refine jget_ne (by first | decide | assumption | omega) ?_)) rfl (c_X11_aim (s := s) (by omega) (by repeat (first | assumption | exact jget_same2 (by (try simp only [List.length_set]); exact jlt (by assumption)) | refine jget_ne (by first | decide | assumption | omega) ?_)) (by repeat (first | assumption | exact jget_same2 (by (try simp only [List.length_set]); exact jlt (by assumption)) | refine jget_ne (by first | decide | assumption | omega) ?_)) (jKv_i ?_))
      exact J_ireturn dX11_target_28 rfl (hQ) (by decide) (by decide) (fun _ => rfl)
    · exact absurd c17 (by decide)
  · have c5 : ¬ 0 < s 1 := by simpa using c5
    have hQ := hQ (h.set 116 (hMo ch (T8 s) ea fa an sv ln tp he cm)) (jFr.refl.set 116 _ (by decide)) ⟨an, he, cm, W, F, C, (by repeat (first | assumption | exact jget_same2 (by (try simp only [List.length_set]); exact jlt (by assumption)) | refine jget_ne (by first | decide | assumption | omega) ?_)), (by repeat (first | assumption | exact jget_same2 (by (try simp only [List.length_set]); exact jlt (by assumption)) | refine jget_ne (by first | decide | assumption | omega) ?_)), (by repeat (first | assumption | exact jget_same2 (by (try simp only [List.length_set]); exact jlt (by assumption)) | refine jget_ne (by first | decide | assumption | omega) ?_)), (by repeat (first | assumption | exact jget_same2 (by (try simp only [List.length_set]); exact jlt (by assumption)) | refine jget_ne (by first | decide | assumption | omega) ?_)), (by repeat (first | assumption | exact jget_same2 (by (try simp only [List.length_set]); exact jlt (by assumption)) | refine jget_ne (by first | decide | assumption | omega) ?_)), (by repeat (first | assumption | exact jget_same2 (by (try simp only [List.length_set]); exact jlt (by assumption)) | refine jget_ne (by first | decide | assumption | omega) ?_)), (by repeat (first | assumption | exact jget_same2 (by (try simp only [List.length_set]); exact jlt (by assumption)) | refine jget_ne (by first | decide | assumption | omega) ?_)), (by repeat (first | assumption | exact jget_same2 (by (try simp only [List.length_set]); exact jlt (by assumption)) | refine jget_ne (by first | decide | assumption | omega) ?_)), (by repeat (first | assumption | exact jget_same2 (by (try simp only [List.length_set]); exact jlt (by assumption)) | refine jget_ne (by first | decide | assumption | omega) ?_))⟩
    rw [show T8 s = 1 by unfold T8; rw [if_neg c5], if_neg (by decide)] at hQ
    refine J_iconst (nI 1) (by decide) dX11_target_8 ?_
    refine J_goto 13 dX11_target_9 (by decide) ?_
    refine J_iconst (nI 1) (by decide) dX11_target_13 ?_
    refine J_V2v (ci := 11) dX11_target_14 s_X11_63 m_X11_isThrown rfl (by repeat (first | assumption | exact jget_same2 (by (try simp only [List.length_set]); exact jlt (by assumption)) | refine jget_ne (by first | decide | assumption | omega) ?_)) rfl (c_X11_isThrown true (by repeat (first | assumption | exact jget_same2 (by (try simp only [List.length_set]); exact jlt (by assumption)) | refine jget_ne (by first | decide | assumption | omega) ?_)) (jKv_i ?_))
    refine J_if_eq_b 24 dX11_target_17 (by decide) (fun c17 => ?_) (fun c17 => ?_)
    · exact absurd c17 (by decide)
    · refine J_iconst (nI 0) (by decide) dX11_target_20 ?_
      refine J_goto 28 dX11_target_21 (by decide) ?_
      exact J_ireturn dX11_target_28 rfl (hQ) (by decide) (by decide) (fun _ => rfl)
end MQ2
