/-! The class's face: paths, turns, drift, the text, undo and snapshots -/
theorem amin_congr {f g : Nat → Nat} : ∀ k, (∀ i, i ≤ k → f i = g i) → amin f k = amin g k
  | 0, _ => rfl
  | k + 1, h => by
    have e := amin_congr k (fun i hi => h i (by omega))
    have l := amin_le g k
    unfold amin
    rw [e, h (k + 1) (by omega), h (amin g k) (by omega)]
theorem comps_congr {w v : Nat → Nat} (h : ∀ k, k < 144 → w k = v k) (n : Nat) : comps w n = comps v n := by
  unfold comps
  refine cnt_ext n (fun i hi => ?_)
  rw [lowest_iff, lowest_iff]
  simp only [dst_congr h]
section FACE2
variable {G : jG} {X : Bool} {h : jH} {Q : jQ_} {ch ln tp K : Nat} {ea fa : Int32} {sv : Bool} {s sS P lf tx : Nat → Nat} {fx fy fr w rt D E L : Nat → Nat} {ti x9 y9 num den : Nat} {m : Nat → Bool}
theorem GP.pth {h' : jH} {D' E' L' : Nat → Nat} {m' : Nat → Bool} (g : GP h s fx fy fr w rt ti x9 y9 D E L m num den) (hf : jFr (fun j => 12 ≤ j ∧ j ≤ 15) h h') (a : h'[12]? = some (ia 12 D')) (b : h'[13]? = some (ia 12 E')) (c : h'[14]? = some (ia 12 L')) (d : h'[15]? = some (za 12 m')) : GP h' s fx fy fr w rt ti x9 y9 D' E' L' m' num den := by
  obtain ⟨g1, g2, g3, g4, g5, g6, g7, g8, g9, g10, g11, g12, g13, g14, g15, g16, e1, e2, e3⟩ := g
  exact ⟨hf.at (by decide) g1, hf.at (by decide) g2, hf.at (by decide) g3, hf.at (by decide) g4, hf.at (by decide) g5, hf.at (by decide) g6, hf.at (by decide) g7, hf.at (by decide) g8, hf.at (by decide) g9, hf.at (by decide) g10, hf.at (by decide) g11, a, b, c, d, hf.at (by decide) g16, e1, e2, e3⟩
theorem c_X1_turnAt {i : Nat} (I : Inv K s) (h0 : 0 < i) (h1 : i + 1 < s 1) (g : GP h s fx fy fr w rt ti x9 y9 D E L m num den) (hQ : Q (.inl (some (.int (nI (turnC s i))))) h) : jCT G M_X1_turnAt 2 0 0 X [.ref 1, .int (nI i)] h Q := by
  obtain ⟨g1, g2, g3, g4, g5, g6, g7, g8, g9, g10, g11, g12, g13, g14, g15, g16, e1, e2, e3⟩ := g
  refine jCT_of [some (.ref 1), some (.int (nI i)), none, none, none, none, none, none, none, none] 8 rfl (by decide +kernel) rfl rfl ?_
  obtain ⟨rfl, rfl, rfl, hr⟩ := e3 (by omega)
  obtain ⟨b1, b2, b3⟩ := turn_b I h0 h1
  have hs1 := I.s1
  have p1 := I.p _ b1
  have p2 := I.p _ b2
  have p3 := I.p _ b3
  unfold turnC at hQ
  obtain ⟨ux, eux⟩ : ∃ z : Int, z = (pX s (s (192 + i)) : Int) - pX s (s (192 + (i - 1))) := ⟨_, rfl⟩
  obtain ⟨uy, euy⟩ : ∃ z : Int, z = (pY s (s (192 + i)) : Int) - pY s (s (192 + (i - 1))) := ⟨_, rfl⟩
  obtain ⟨vx, evx⟩ : ∃ z : Int, z = (pX s (s (192 + (i + 1))) : Int) - pX s (s (192 + i)) := ⟨_, rfl⟩
  obtain ⟨vy, evy⟩ : ∃ z : Int, z = (pY s (s (192 + (i + 1))) : Int) - pY s (s (192 + i)) := ⟨_, rfl⟩
  have ec : crossS s i = ux * vy - uy * vx := by unfold crossS; rw [eux, euy, evx, evy]
  have ed : dotS s i = ux * vx + uy * vy := by unfold dotS; rw [eux, euy, evx, evy]
  obtain ⟨q1, q2⟩ := turn_bd ec (by omega) (by omega) (by omega) (by omega)
  obtain ⟨q3, q4⟩ := turn_bd2 ed (by omega) (by omega) (by omega) (by omega)
  generalize crossS s i = cr at *
  generalize dotS s i = dt at *
  refine J_aload_n (by rfl) (by rfl) dX1_turnAt_0 ?_
  refine J_get dX1_turnAt_1 f_X1_12 (by repeat (first | assumption | exact jget_same2 (by (try simp only [List.length_set]); exact jlt (by assumption)) | refine jget_ne (by first | decide | assumption | omega) ?_)) (by rfl) ?_
  refine J_get dX1_turnAt_4 f_X1_53 (by repeat (first | assumption | exact jget_same2 (by (try simp only [List.length_set]); exact jlt (by assumption)) | refine jget_ne (by first | decide | assumption | omega) ?_)) (by rfl) ?_
  refine J_iload_n (by rfl) dX1_turnAt_7 ?_
  refine J_iconst (nI 1) (by decide) dX1_turnAt_8 ?_
  refine J_isub_n (by omega) dX1_turnAt_9 ?_
  refine J_V1v (ci := 8) dX1_turnAt_10 s_X1_206 m_X8_waypointAt rfl (by repeat (first | assumption | exact jget_same2 (by (try simp only [List.length_set]); exact jlt (by assumption)) | refine jget_ne (by first | decide | assumption | omega) ?_)) rfl (c_X8_waypointAt (rt := rt) (i := i - 1) (by omega) hs1 g8 g9 (jKv_i ?_))
  refine J_topi (nI (s (192 + (i - 1)))) (by rw [hr _ (by omega)]) ?_
  refine J_istore_2 dX1_turnAt_13 ?_
  refine J_aload_n (by rfl) (by rfl) dX1_turnAt_14 ?_
  refine J_get dX1_turnAt_15 f_X1_12 (by repeat (first | assumption | exact jget_same2 (by (try simp only [List.length_set]); exact jlt (by assumption)) | refine jget_ne (by first | decide | assumption | omega) ?_)) (by rfl) ?_
  refine J_get dX1_turnAt_18 f_X1_53 (by repeat (first | assumption | exact jget_same2 (by (try simp only [List.length_set]); exact jlt (by assumption)) | refine jget_ne (by first | decide | assumption | omega) ?_)) (by rfl) ?_
  refine J_iload_n (by rfl) dX1_turnAt_21 ?_
  refine J_V1v (ci := 8) dX1_turnAt_22 s_X1_206 m_X8_waypointAt rfl (by repeat (first | assumption | exact jget_same2 (by (try simp only [List.length_set]); exact jlt (by assumption)) | refine jget_ne (by first | decide | assumption | omega) ?_)) rfl (c_X8_waypointAt (rt := rt) (i := i) (by omega) hs1 g8 g9 (jKv_i ?_))
  refine J_topi (nI (s (192 + i))) (by rw [hr _ (by omega)]) ?_
  refine J_istore_3 dX1_turnAt_25 ?_
  refine J_aload_n (by rfl) (by rfl) dX1_turnAt_26 ?_
  refine J_get dX1_turnAt_27 f_X1_12 (by repeat (first | assumption | exact jget_same2 (by (try simp only [List.length_set]); exact jlt (by assumption)) | refine jget_ne (by first | decide | assumption | omega) ?_)) (by rfl) ?_
  refine J_get dX1_turnAt_30 f_X1_53 (by repeat (first | assumption | exact jget_same2 (by (try simp only [List.length_set]); exact jlt (by assumption)) | refine jget_ne (by first | decide | assumption | omega) ?_)) (by rfl) ?_
  refine J_iload_n (by rfl) dX1_turnAt_33 ?_
  refine J_iconst (nI 1) (by decide) dX1_turnAt_34 ?_
  refine J_iadd dX1_turnAt_35 ?_
  try rw [nI_add]
  refine J_V1v (ci := 8) dX1_turnAt_36 s_X1_206 m_X8_waypointAt rfl (by repeat (first | assumption | exact jget_same2 (by (try simp only [List.length_set]); exact jlt (by assumption)) | refine jget_ne (by first | decide | assumption | omega) ?_)) rfl (c_X8_waypointAt (rt := rt) (i := i + 1) (by omega) hs1 g8 g9 (jKv_i ?_))
  refine J_topi (nI (s (192 + (i + 1)))) (by rw [hr _ (by omega)]) ?_
  refine J_istore_4 dX1_turnAt_39 ?_
  refine J_aload_n (by rfl) (by rfl) dX1_turnAt_41 ?_
  refine J_get dX1_turnAt_42 f_X1_12 (by repeat (first | assumption | exact jget_same2 (by (try simp only [List.length_set]); exact jlt (by assumption)) | refine jget_ne (by first | decide | assumption | omega) ?_)) (by rfl) ?_
  refine J_get dX1_turnAt_45 f_X1_67 (by repeat (first | assumption | exact jget_same2 (by (try simp only [List.length_set]); exact jlt (by assumption)) | refine jget_ne (by first | decide | assumption | omega) ?_)) (by rfl) ?_
  refine J_iload_n (by rfl) dX1_turnAt_48 ?_
  refine J_V1v (ci := 9) dX1_turnAt_49 s_X1_143 m_X9_xOf rfl (by repeat (first | assumption | exact jget_same2 (by (try simp only [List.length_set]); exact jlt (by assumption)) | refine jget_ne (by first | decide | assumption | omega) ?_)) rfl (c_X9_xOf b2 g3 g4 (jKv_i ?_))
  refine J_topi (nI (pX s (s (192 + i)))) (by rw [(e1 _ b2).1]) ?_
  refine J_aload_n (by rfl) (by rfl) dX1_turnAt_52 ?_
  refine J_get dX1_turnAt_53 f_X1_12 (by repeat (first | assumption | exact jget_same2 (by (try simp only [List.length_set]); exact jlt (by assumption)) | refine jget_ne (by first | decide | assumption | omega) ?_)) (by rfl) ?_
  refine J_get dX1_turnAt_56 f_X1_67 (by repeat (first | assumption | exact jget_same2 (by (try simp only [List.length_set]); exact jlt (by assumption)) | refine jget_ne (by first | decide | assumption | omega) ?_)) (by rfl) ?_
  refine J_iload_n (by rfl) dX1_turnAt_59 ?_
  refine J_V1v (ci := 9) dX1_turnAt_60 s_X1_143 m_X9_xOf rfl (by repeat (first | assumption | exact jget_same2 (by (try simp only [List.length_set]); exact jlt (by assumption)) | refine jget_ne (by first | decide | assumption | omega) ?_)) rfl (c_X9_xOf b1 g3 g4 (jKv_i ?_))
  refine J_topi (nI (pX s (s (192 + (i - 1))))) (by rw [(e1 _ b1).1]) ?_
  refine J_isub dX1_turnAt_63 ?_
  refine J_topi (iI ux) (by rw [nI_sub, eux]) ?_
  refine J_istore_5 dX1_turnAt_64 ?_
  refine J_aload_n (by rfl) (by rfl) dX1_turnAt_66 ?_
  refine J_get dX1_turnAt_67 f_X1_12 (by repeat (first | assumption | exact jget_same2 (by (try simp only [List.length_set]); exact jlt (by assumption)) | refine jget_ne (by first | decide | assumption | omega) ?_)) (by rfl) ?_
  refine J_get dX1_turnAt_70 f_X1_67 (by repeat (first | assumption | exact jget_same2 (by (try simp only [List.length_set]); exact jlt (by assumption)) | refine jget_ne (by first | decide | assumption | omega) ?_)) (by rfl) ?_
  refine J_iload_n (by rfl) dX1_turnAt_73 ?_
  refine J_V1v (ci := 9) dX1_turnAt_74 s_X1_149 m_X9_yOf rfl (by repeat (first | assumption | exact jget_same2 (by (try simp only [List.length_set]); exact jlt (by assumption)) | refine jget_ne (by first | decide | assumption | omega) ?_)) rfl (c_X9_yOf b2 g3 g5 (jKv_i ?_))
  refine J_topi (nI (pY s (s (192 + i)))) (by rw [(e1 _ b2).2.1]) ?_
  refine J_aload_n (by rfl) (by rfl) dX1_turnAt_77 ?_
  refine J_get dX1_turnAt_78 f_X1_12 (by repeat (first | assumption | exact jget_same2 (by (try simp only [List.length_set]); exact jlt (by assumption)) | refine jget_ne (by first | decide | assumption | omega) ?_)) (by rfl) ?_
  refine J_get dX1_turnAt_81 f_X1_67 (by repeat (first | assumption | exact jget_same2 (by (try simp only [List.length_set]); exact jlt (by assumption)) | refine jget_ne (by first | decide | assumption | omega) ?_)) (by rfl) ?_
  refine J_iload_n (by rfl) dX1_turnAt_84 ?_
  refine J_V1v (ci := 9) dX1_turnAt_85 s_X1_149 m_X9_yOf rfl (by repeat (first | assumption | exact jget_same2 (by (try simp only [List.length_set]); exact jlt (by assumption)) | refine jget_ne (by first | decide | assumption | omega) ?_)) rfl (c_X9_yOf b1 g3 g5 (jKv_i ?_))
  refine J_topi (nI (pY s (s (192 + (i - 1))))) (by rw [(e1 _ b1).2.1]) ?_
  refine J_isub dX1_turnAt_88 ?_
  refine J_topi (iI uy) (by rw [nI_sub, euy]) ?_
  refine J_istore_6 dX1_turnAt_89 ?_
  refine J_aload_n (by rfl) (by rfl) dX1_turnAt_91 ?_
  refine J_get dX1_turnAt_92 f_X1_12 (by repeat (first | assumption | exact jget_same2 (by (try simp only [List.length_set]); exact jlt (by assumption)) | refine jget_ne (by first | decide | assumption | omega) ?_)) (by rfl) ?_
  refine J_get dX1_turnAt_95 f_X1_67 (by repeat (first | assumption | exact jget_same2 (by (try simp only [List.length_set]); exact jlt (by assumption)) | refine jget_ne (by first | decide | assumption | omega) ?_)) (by rfl) ?_
  refine J_iload (by rfl) dX1_turnAt_98 ?_
  refine J_V1v (ci := 9) dX1_turnAt_100 s_X1_143 m_X9_xOf rfl (by repeat (first | assumption | exact jget_same2 (by (try simp only [List.length_set]); exact jlt (by assumption)) | refine jget_ne (by first | decide | assumption | omega) ?_)) rfl (c_X9_xOf b3 g3 g4 (jKv_i ?_))
  refine J_topi (nI (pX s (s (192 + (i + 1))))) (by rw [(e1 _ b3).1]) ?_
  refine J_aload_n (by rfl) (by rfl) dX1_turnAt_103 ?_
  refine J_get dX1_turnAt_104 f_X1_12 (by repeat (first | assumption | exact jget_same2 (by (try simp only [List.length_set]); exact jlt (by assumption)) | refine jget_ne (by first | decide | assumption | omega) ?_)) (by rfl) ?_
  refine J_get dX1_turnAt_107 f_X1_67 (by repeat (first | assumption | exact jget_same2 (by (try simp only [List.length_set]); exact jlt (by assumption)) | refine jget_ne (by first | decide | assumption | omega) ?_)) (by rfl) ?_
  refine J_iload_n (by rfl) dX1_turnAt_110 ?_
  refine J_V1v (ci := 9) dX1_turnAt_111 s_X1_143 m_X9_xOf rfl (by repeat (first | assumption | exact jget_same2 (by (try simp only [List.length_set]); exact jlt (by assumption)) | refine jget_ne (by first | decide | assumption | omega) ?_)) rfl (c_X9_xOf b2 g3 g4 (jKv_i ?_))
  refine J_topi (nI (pX s (s (192 + i)))) (by rw [(e1 _ b2).1]) ?_
  refine J_isub dX1_turnAt_114 ?_
  refine J_topi (iI vx) (by rw [nI_sub, evx]) ?_
  refine J_istore_7 dX1_turnAt_115 ?_
  refine J_aload_n (by rfl) (by rfl) dX1_turnAt_117 ?_
  refine J_get dX1_turnAt_118 f_X1_12 (by repeat (first | assumption | exact jget_same2 (by (try simp only [List.length_set]); exact jlt (by assumption)) | refine jget_ne (by first | decide | assumption | omega) ?_)) (by rfl) ?_
  refine J_get dX1_turnAt_121 f_X1_67 (by repeat (first | assumption | exact jget_same2 (by (try simp only [List.length_set]); exact jlt (by assumption)) | refine jget_ne (by first | decide | assumption | omega) ?_)) (by rfl) ?_
  refine J_iload (by rfl) dX1_turnAt_124 ?_
  refine J_V1v (ci := 9) dX1_turnAt_126 s_X1_149 m_X9_yOf rfl (by repeat (first | assumption | exact jget_same2 (by (try simp only [List.length_set]); exact jlt (by assumption)) | refine jget_ne (by first | decide | assumption | omega) ?_)) rfl (c_X9_yOf b3 g3 g5 (jKv_i ?_))
  refine J_topi (nI (pY s (s (192 + (i + 1))))) (by rw [(e1 _ b3).2.1]) ?_
  refine J_aload_n (by rfl) (by rfl) dX1_turnAt_129 ?_
  refine J_get dX1_turnAt_130 f_X1_12 (by repeat (first | assumption | exact jget_same2 (by (try simp only [List.length_set]); exact jlt (by assumption)) | refine jget_ne (by first | decide | assumption | omega) ?_)) (by rfl) ?_
  refine J_get dX1_turnAt_133 f_X1_67 (by repeat (first | assumption | exact jget_same2 (by (try simp only [List.length_set]); exact jlt (by assumption)) | refine jget_ne (by first | decide | assumption | omega) ?_)) (by rfl) ?_
  refine J_iload_n (by rfl) dX1_turnAt_136 ?_
  refine J_V1v (ci := 9) dX1_turnAt_137 s_X1_149 m_X9_yOf rfl (by repeat (first | assumption | exact jget_same2 (by (try simp only [List.length_set]); exact jlt (by assumption)) | refine jget_ne (by first | decide | assumption | omega) ?_)) rfl (c_X9_yOf b2 g3 g5 (jKv_i ?_))
  refine J_topi (nI (pY s (s (192 + i)))) (by rw [(e1 _ b2).2.1]) ?_
  refine J_isub dX1_turnAt_140 ?_
  refine J_topi (iI vy) (by rw [nI_sub, evy]) ?_
  refine J_istore_8 dX1_turnAt_141 ?_
  refine J_iload (by rfl) dX1_turnAt_143 ?_
  refine J_iload (by rfl) dX1_turnAt_145 ?_
  refine J_imul dX1_turnAt_147 ?_
  try rw [pk_mul]
  refine J_iload (by rfl) dX1_turnAt_148 ?_
  refine J_iload (by rfl) dX1_turnAt_150 ?_
  refine J_imul dX1_turnAt_152 ?_
  try rw [pk_mul]
  refine J_isub dX1_turnAt_153 ?_
  refine J_topi (iI cr) (by rw [iI_mul, iI_mul, iI_sub, ec]) ?_
  have z0 : (0 : Int32) = iI 0 := rfl
  refine J_istore_9 dX1_turnAt_154 ?_
  refine J_iload (by rfl) dX1_turnAt_156 ?_
  refine J_if_eq 174 dX1_turnAt_158 (by decide) (fun c158 => ?_) (fun c158 => ?_)
  · have w1 : iI cr ≤ iI 0 := by rw [c158]; decide
    have w2 : iI 0 ≤ iI cr := by rw [c158]; decide
    rw [iI_le (by omega) (by omega) (by omega) (by omega)] at w1 w2
    rw [if_neg (by omega), if_neg (by omega)] at hQ
    refine J_iload (by rfl) dX1_turnAt_174 ?_
    refine J_iload (by rfl) dX1_turnAt_176 ?_
    refine J_imul dX1_turnAt_178 ?_
    try rw [pk_mul]
    refine J_iload (by rfl) dX1_turnAt_179 ?_
    refine J_iload (by rfl) dX1_turnAt_181 ?_
    refine J_imul dX1_turnAt_183 ?_
    try rw [pk_mul]
    refine J_iadd dX1_turnAt_184 ?_
    try rw [nI_add]
    refine J_topi (iI dt) (by rw [iI_mul, iI_mul, iI_add, ed]) ?_
    refine J_if_ge 193 dX1_turnAt_185 (by decide) (fun c185 => ?_) (fun c185 => ?_)
    · rw [z0, iI_le (by omega) (by omega) (by omega) (by omega)] at c185
      rw [if_pos (by omega)] at hQ
      refine J_bipush (nI 115) (by decide) dX1_turnAt_193 ?_
      exact J_zreturn dX1_turnAt_195 rfl ((pk_charN (q := 115) (by omega)).1) (hQ) (by decide) (by decide) (fun _ => rfl)
    · rw [z0, iI_le (by omega) (by omega) (by omega) (by omega)] at c185
      rw [if_neg (by omega)] at hQ
      refine J_bipush (nI 98) (by decide) dX1_turnAt_188 ?_
      refine J_goto 195 dX1_turnAt_190 (by decide) ?_
      exact J_zreturn dX1_turnAt_195 rfl ((pk_charN (q := 98) (by omega)).1) (hQ) (by decide) (by decide) (fun _ => rfl)
  · have w0 : cr ≠ 0 := fun e => c158 (by rw [e]; rfl)
    refine J_iload (by rfl) dX1_turnAt_161 ?_
    refine J_if_le 171 dX1_turnAt_163 (by decide) (fun c163 => ?_) (fun c163 => ?_)
    · rw [z0, iI_le (by omega) (by omega) (by omega) (by omega)] at c163
      rw [if_neg (by omega), if_pos (by omega)] at hQ
      refine J_bipush (nI 114) (by decide) dX1_turnAt_171 ?_
      exact J_zreturn dX1_turnAt_173 rfl ((pk_charN (q := 114) (by omega)).1) (hQ) (by decide) (by decide) (fun _ => rfl)
    · rw [z0, iI_le (by omega) (by omega) (by omega) (by omega)] at c163
      rw [if_pos (by omega)] at hQ
      refine J_bipush (nI 108) (by decide) dX1_turnAt_166 ?_
      refine J_goto 173 dX1_turnAt_168 (by decide) ?_
      exact J_zreturn dX1_turnAt_173 rfl ((pk_charN (q := 108) (by omega)).1) (hQ) (by decide) (by decide) (fun _ => rfl)
theorem c_X10_trailLength (x y : Int32) (I : Inv K s) (cp : CPc h s sS P ch ea fa sv lf ln tx tp)
    (hQ1 : T2 s x y = 0 → Q (.inl (some (.int (nI (wS s (nP x * 12 + nP y)))))) h) (hQ2 : T2 s x y = 1 → Q (.inr "java/lang/IndexOutOfBoundsException") h) (hQ3 : T2 s x y = 2 → Q (.inr "java/util/NoSuchElementException") h) : jCT G M_X10_trailLength 7 3 18 false [.ref 0, .int x, .int y] h Q := by
  refine jCT_of [some (.ref 0), some (.int x), some (.int y)] 0 rfl (by decide +kernel) rfl rfl ?_
  obtain ⟨c0, gs, hhs, hsa, hbe, hpg, hli⟩ := cp
  have cp : CPc h s sS P ch ea fa sv lf ln tx tp := ⟨c0, gs, hhs, hsa, hbe, hpg, hli⟩
  obtain ⟨fx, fy, fr, w, rt, ti, x9, y9, D, E, L, m, num, den, g⟩ := gs
  have g0 := g
  have hgr := g.gr I
  obtain ⟨g1, g2, g3, g4, g5, g6, g7, g8, g9, g10, g11, g12, g13, g14, g15, g16, e1, e2, e3⟩ := g
  have hn := I.n12
  have hs1 := I.s1
  refine J_aload_n (by rfl) (by rfl) dX10_trailLength_0 ?_
  refine J_iload_n (by rfl) dX10_trailLength_1 ?_
  refine J_V10x (ci := 10) dX10_trailLength_2 s_X10_74 m_X10_requireWaypoint rfl (by repeat (first | assumption | exact jget_same2 (by (try simp only [List.length_set]); exact jlt (by assumption)) | refine jget_ne (by first | decide | assumption | omega) ?_)) rfl (c_X10_requireWaypoint x I cp (fun c => jKx0_i ?_) (fun c => jKx0_x ?_))
  · refine J_aload_n (by rfl) (by rfl) dX10_trailLength_5 ?_
    refine J_iload_n (by rfl) dX10_trailLength_6 ?_
    refine J_V10x (ci := 10) dX10_trailLength_7 s_X10_74 m_X10_requireWaypoint rfl (by repeat (first | assumption | exact jget_same2 (by (try simp only [List.length_set]); exact jlt (by assumption)) | refine jget_ne (by first | decide | assumption | omega) ?_)) rfl (c_X10_requireWaypoint y I cp (fun c9 => jKx0_i ?_) (fun c9 => jKx0_x ?_))
    · obtain ⟨i, j, rfl, rfl, hi, hj, ex, ey⟩ := both_t hn c c9
      have hl : w (i * 12 + j) < 2 ^ 31 := hgr.lt (by omega) (by omega)
      have ew := e2 (i * 12 + j) (by omega)
      have hT : T2 s (nI i) (nI j) = if w (i * 12 + j) = 0 then 2 else 0 := by
        simp only [T2, both, c, c9, Bool.and_self, if_true, ex, ey, ew]
      rw [ex, ey, ← ew] at hQ1
      refine J_aload_n (by rfl) (by rfl) dX10_trailLength_10 ?_
      refine J_get dX10_trailLength_11 f_X10_12 (by repeat (first | assumption | exact jget_same2 (by (try simp only [List.length_set]); exact jlt (by assumption)) | refine jget_ne (by first | decide | assumption | omega) ?_)) (by rfl) ?_
      refine J_get dX10_trailLength_14 f_X10_62 (by repeat (first | assumption | exact jget_same2 (by (try simp only [List.length_set]); exact jlt (by assumption)) | refine jget_ne (by first | decide | assumption | omega) ?_)) (by rfl) ?_
      refine J_get dX10_trailLength_17 f_X10_65 (by repeat (first | assumption | exact jget_same2 (by (try simp only [List.length_set]); exact jlt (by assumption)) | refine jget_ne (by first | decide | assumption | omega) ?_)) (by rfl) ?_
      refine J_iload_n (by rfl) dX10_trailLength_20 ?_
      refine J_iload_n (by rfl) dX10_trailLength_21 ?_
      refine J_V2v (ci := 9) dX10_trailLength_22 s_X10_91 m_X9_areJoined rfl (by repeat (first | assumption | exact jget_same2 (by (try simp only [List.length_set]); exact jlt (by assumption)) | refine jget_ne (by first | decide | assumption | omega) ?_)) rfl (c_X9_areJoined (i := i) (j := j) (by omega) (by omega) g3 g7 hl (jKv_i ?_))
      refine J_if_ne_b 38 dX10_trailLength_25 (by decide) (fun c25 => ?_) (fun c25 => ?_)
      · simp only [decide_eq_true_eq] at c25
        refine J_aload_n (by rfl) (by rfl) dX10_trailLength_38 ?_
        refine J_get dX10_trailLength_39 f_X10_12 (by repeat (first | assumption | exact jget_same2 (by (try simp only [List.length_set]); exact jlt (by assumption)) | refine jget_ne (by first | decide | assumption | omega) ?_)) (by rfl) ?_
        refine J_get dX10_trailLength_42 f_X10_62 (by repeat (first | assumption | exact jget_same2 (by (try simp only [List.length_set]); exact jlt (by assumption)) | refine jget_ne (by first | decide | assumption | omega) ?_)) (by rfl) ?_
        refine J_get dX10_trailLength_45 f_X10_65 (by repeat (first | assumption | exact jget_same2 (by (try simp only [List.length_set]); exact jlt (by assumption)) | refine jget_ne (by first | decide | assumption | omega) ?_)) (by rfl) ?_
        refine J_iload_n (by rfl) dX10_trailLength_48 ?_
        refine J_iload_n (by rfl) dX10_trailLength_49 ?_
        refine J_V2v (ci := 9) dX10_trailLength_50 s_X10_102 m_X9_lengthBetween rfl (by repeat (first | assumption | exact jget_same2 (by (try simp only [List.length_set]); exact jlt (by assumption)) | refine jget_ne (by first | decide | assumption | omega) ?_)) rfl (c_X9_lengthBetween (i := i) (j := j) (by omega) (by omega) g3 g7 (jKv_i ?_))
        exact J_ireturn dX10_trailLength_53 rfl (hQ1 (by rw [hT, if_neg (by omega)])) (by decide) (by decide) (fun q => by cases q)
      · simp only [decide_eq_false_iff_not] at c25
        exact J_throwN (i := 33) t_X10_95_99 dX10_trailLength_28 dX10_trailLength_31 dX10_trailLength_32 dX10_trailLength_34 dX10_trailLength_37 rfl rfl rfl rfl (by decide) (by exact Nat.le_of_ble_eq_true rfl) (by decide) (by decide) (by decide) (by decide) (hQ3 (by rw [hT, if_pos (by omega)]))
    · exact JX_out rfl (by decide) (by decide) (hQ2 (by unfold T2 both; rw [c, c9]; rfl))
  · exact JX_out rfl (by decide) (by decide) (hQ2 (by unfold T2 both; rw [c]; rfl))
theorem c_X10_distance (x y : Int32) (I : Inv K s) (cp : CPc h s sS P ch ea fa sv lf ln tx tp)
    (hQ1 : Td s x y = 0 → ∀ h', jFr gC h h' → CPc h' s sS P ch ea fa sv lf ln tx tp → Q (.inl (some (.int (nI (dst (wS s) (nP x) (nP y)))))) h') (hQ2 : Td s x y = 1 → Q (.inr "java/lang/IndexOutOfBoundsException") h) (hQ3 : Td s x y = 2 → ∀ h', jFr gC h h' → CPc h' s sS P ch ea fa sv lf ln tx tp → Q (.inr "java/util/NoSuchElementException") h') : jCT G M_X10_distance 7 3 18 false [.ref 0, .int x, .int y] h Q := by
  refine jCT_of [some (.ref 0), some (.int x), some (.int y), none] 1 rfl (by decide +kernel) rfl rfl ?_
  obtain ⟨c0, gs, hhs, hsa, hbe, hpg, hli⟩ := cp
  have cp : CPc h s sS P ch ea fa sv lf ln tx tp := ⟨c0, gs, hhs, hsa, hbe, hpg, hli⟩
  obtain ⟨fx, fy, fr, w, rt, ti, x9, y9, D, E, L, m, num, den, g⟩ := gs
  have g0 := g
  have hgr := g.gr I
  obtain ⟨g1, g2, g3, g4, g5, g6, g7, g8, g9, g10, g11, g12, g13, g14, g15, g16, e1, e2, e3⟩ := g
  have hn := I.n12
  have hs1 := I.s1
  refine J_aload_n (by rfl) (by rfl) dX10_distance_0 ?_
  refine J_iload_n (by rfl) dX10_distance_1 ?_
  refine J_V10x (ci := 10) dX10_distance_2 s_X10_74 m_X10_requireWaypoint rfl (by repeat (first | assumption | exact jget_same2 (by (try simp only [List.length_set]); exact jlt (by assumption)) | refine jget_ne (by first | decide | assumption | omega) ?_)) rfl (c_X10_requireWaypoint x I cp (fun c => jKx0_i ?_) (fun c => jKx0_x ?_))
  · refine J_aload_n (by rfl) (by rfl) dX10_distance_5 ?_
    refine J_iload_n (by rfl) dX10_distance_6 ?_
    refine J_V10x (ci := 10) dX10_distance_7 s_X10_74 m_X10_requireWaypoint rfl (by repeat (first | assumption | exact jget_same2 (by (try simp only [List.length_set]); exact jlt (by assumption)) | refine jget_ne (by first | decide | assumption | omega) ?_)) rfl (c_X10_requireWaypoint y I cp (fun c9 => jKx0_i ?_) (fun c9 => jKx0_x ?_))
    · obtain ⟨i, j, rfl, rfl, hi, hj, ex, ey⟩ := both_t hn c c9
      refine J_aload_n (by rfl) (by rfl) dX10_distance_10 ?_
      refine J_get dX10_distance_11 f_X10_12 (by repeat (first | assumption | exact jget_same2 (by (try simp only [List.length_set]); exact jlt (by assumption)) | refine jget_ne (by first | decide | assumption | omega) ?_)) (by rfl) ?_
      refine J_get dX10_distance_14 f_X10_106 (by repeat (first | assumption | exact jget_same2 (by (try simp only [List.length_set]); exact jlt (by assumption)) | refine jget_ne (by first | decide | assumption | omega) ?_)) (by rfl) ?_
      refine J_aload_n (by rfl) (by rfl) dX10_distance_17 ?_
      refine J_get dX10_distance_18 f_X10_12 (by repeat (first | assumption | exact jget_same2 (by (try simp only [List.length_set]); exact jlt (by assumption)) | refine jget_ne (by first | decide | assumption | omega) ?_)) (by rfl) ?_
      refine J_get dX10_distance_21 f_X10_62 (by repeat (first | assumption | exact jget_same2 (by (try simp only [List.length_set]); exact jlt (by assumption)) | refine jget_ne (by first | decide | assumption | omega) ?_)) (by rfl) ?_
      refine J_get dX10_distance_24 f_X10_65 (by repeat (first | assumption | exact jget_same2 (by (try simp only [List.length_set]); exact jlt (by assumption)) | refine jget_ne (by first | decide | assumption | omega) ?_)) (by rfl) ?_
      refine J_iload_n (by rfl) dX10_distance_27 ?_
      refine J_V20 (ci := 5) dX10_distance_28 s_X10_110 m_X5_settleFrom rfl (by repeat (first | assumption | exact jget_same2 (by (try simp only [List.length_set]); exact jlt (by assumption)) | refine jget_ne (by first | decide | assumption | omega) ?_)) rfl (c_X5_settleFrom (D0 := D) (m0 := m) hgr (by omega) g3 g7 g11 g12 g15 (fun D1 m1 hD1 => (jK0_i ?_)))
      have hfs : jFr gC h ((h.set 12 (ia 12 D1)).set 15 (za 12 m1)) := (jFr.refl.set 12 _ (by decide)).set 15 _ (by decide)
      have cps := cp.gset hfs (GS.mk (g0.settled (D' := D1) (m' := m1)))
      have k11 : ((h.set 12 (ia 12 D1)).set 15 (za 12 m1))[11]? = some hPaths := (by repeat (first | assumption | exact jget_same2 (by (try simp only [List.length_set]); exact jlt (by assumption)) | refine jget_ne (by first | decide | assumption | omega) ?_))
      have k12 : ((h.set 12 (ia 12 D1)).set 15 (za 12 m1))[12]? = some (ia 12 D1) := (by repeat (first | assumption | exact jget_same2 (by (try simp only [List.length_set]); exact jlt (by assumption)) | refine jget_ne (by first | decide | assumption | omega) ?_))
      have kg1 : ((h.set 12 (ia 12 D1)).set 15 (za 12 m1))[1]? = some (.inr (1, [.ref 2, .ref 11, .ref 16])) := (by repeat (first | assumption | exact jget_same2 (by (try simp only [List.length_set]); exact jlt (by assumption)) | refine jget_ne (by first | decide | assumption | omega) ?_))
      generalize (h.set 12 (ia 12 D1)).set 15 (za 12 m1) = hs at hfs cps k11 k12 kg1 ⊢
      have k0 := cps.c0
      have hDj := hD1.eq hgr (by decide) (v := j) (by omega)
      rw [dst_congr e2] at hDj
      have hle : D1 j ≤ 1000000 := by rw [hDj]; split <;> omega
      have hT : Td s (nI i) (nI j) = if dst (wS s) i j < 99999 then 0 else 2 := by
        simp only [Td, both, c, c9, Bool.and_self, if_true, ex, ey]
      rw [ex, ey] at hQ1
      refine J_aload_n (by rfl) (by rfl) dX10_distance_31 ?_
      refine J_get dX10_distance_32 f_X10_12 (by repeat (first | assumption | exact jget_same2 (by (try simp only [List.length_set]); exact jlt (by assumption)) | refine jget_ne (by first | decide | assumption | omega) ?_)) (by rfl) ?_
      refine J_get dX10_distance_35 f_X10_106 (by repeat (first | assumption | exact jget_same2 (by (try simp only [List.length_set]); exact jlt (by assumption)) | refine jget_ne (by first | decide | assumption | omega) ?_)) (by rfl) ?_
      refine J_iload_n (by rfl) dX10_distance_38 ?_
      refine J_V1v (ci := 5) dX10_distance_39 s_X10_116 m_X5_settledDistance rfl (by repeat (first | assumption | exact jget_same2 (by (try simp only [List.length_set]); exact jlt (by assumption)) | refine jget_ne (by first | decide | assumption | omega) ?_)) rfl (c_X5_settledDistance (D := D1) (v := j) (by omega) k11 k12 (jKv_i ?_))
      refine J_istore_3 dX10_distance_42 ?_
      refine J_iload_n (by rfl) dX10_distance_43 ?_
      refine J_S10x dX10_distance_44 s_X10_119 m_X10_requirePath rfl (c_X10_requirePath hle (fun c44 => jKx0_i ?_) (fun c44 => jKx0_x ?_))
      · have hd : dst (wS s) i j < 99999 := Decidable.byContradiction fun z => by rw [if_neg z] at hDj; omega
        rw [if_pos hd] at hDj hT
        rw [← hDj] at hQ1
        refine J_iload_n (by rfl) dX10_distance_47 ?_
        exact J_ireturn dX10_distance_48 rfl (hQ1 hT _ hfs cps) (by decide) (by decide) (fun q => by cases q)
      · have hd : ¬ dst (wS s) i j < 99999 := fun z => by rw [if_pos z] at hDj; omega
        rw [if_neg hd] at hT
        exact JX_out rfl (by decide) (by decide) (hQ3 hT _ hfs cps)
    · exact JX_out rfl (by decide) (by decide) (hQ2 (by unfold Td both; rw [c, c9]; rfl))
  · exact JX_out rfl (by decide) (by decide) (hQ2 (by unfold Td both; rw [c]; rfl))
theorem c_X10_distanceByRelaxation (x y : Int32) (I : Inv K s) (cp : CPc h s sS P ch ea fa sv lf ln tx tp)
    (hQ1 : Td s x y = 0 → ∀ h', jFr gC h h' → CPc h' s sS P ch ea fa sv lf ln tx tp → Q (.inl (some (.int (nI (dst (wS s) (nP x) (nP y)))))) h') (hQ2 : Td s x y = 1 → Q (.inr "java/lang/IndexOutOfBoundsException") h) (hQ3 : Td s x y = 2 → ∀ h', jFr gC h h' → CPc h' s sS P ch ea fa sv lf ln tx tp → Q (.inr "java/util/NoSuchElementException") h') : jCT G M_X10_distanceByRelaxation 7 3 18 false [.ref 0, .int x, .int y] h Q := by
  refine jCT_of [some (.ref 0), some (.int x), some (.int y), none] 1 rfl (by decide +kernel) rfl rfl ?_
  obtain ⟨c0, gs, hhs, hsa, hbe, hpg, hli⟩ := cp
  have cp : CPc h s sS P ch ea fa sv lf ln tx tp := ⟨c0, gs, hhs, hsa, hbe, hpg, hli⟩
  obtain ⟨fx, fy, fr, w, rt, ti, x9, y9, D, E, L, m, num, den, g⟩ := gs
  have g0 := g
  have hgr := g.gr I
  obtain ⟨g1, g2, g3, g4, g5, g6, g7, g8, g9, g10, g11, g12, g13, g14, g15, g16, e1, e2, e3⟩ := g
  have hn := I.n12
  have hs1 := I.s1
  refine J_aload_n (by rfl) (by rfl) dX10_distanceByRelaxation_0 ?_
  refine J_iload_n (by rfl) dX10_distanceByRelaxation_1 ?_
  refine J_V10x (ci := 10) dX10_distanceByRelaxation_2 s_X10_74 m_X10_requireWaypoint rfl (by repeat (first | assumption | exact jget_same2 (by (try simp only [List.length_set]); exact jlt (by assumption)) | refine jget_ne (by first | decide | assumption | omega) ?_)) rfl (c_X10_requireWaypoint x I cp (fun c => jKx0_i ?_) (fun c => jKx0_x ?_))
  · refine J_aload_n (by rfl) (by rfl) dX10_distanceByRelaxation_5 ?_
    refine J_iload_n (by rfl) dX10_distanceByRelaxation_6 ?_
    refine J_V10x (ci := 10) dX10_distanceByRelaxation_7 s_X10_74 m_X10_requireWaypoint rfl (by repeat (first | assumption | exact jget_same2 (by (try simp only [List.length_set]); exact jlt (by assumption)) | refine jget_ne (by first | decide | assumption | omega) ?_)) rfl (c_X10_requireWaypoint y I cp (fun c9 => jKx0_i ?_) (fun c9 => jKx0_x ?_))
    · obtain ⟨i, j, rfl, rfl, hi, hj, ex, ey⟩ := both_t hn c c9
      refine J_aload_n (by rfl) (by rfl) dX10_distanceByRelaxation_10 ?_
      refine J_get dX10_distanceByRelaxation_11 f_X10_12 (by repeat (first | assumption | exact jget_same2 (by (try simp only [List.length_set]); exact jlt (by assumption)) | refine jget_ne (by first | decide | assumption | omega) ?_)) (by rfl) ?_
      refine J_get dX10_distanceByRelaxation_14 f_X10_106 (by repeat (first | assumption | exact jget_same2 (by (try simp only [List.length_set]); exact jlt (by assumption)) | refine jget_ne (by first | decide | assumption | omega) ?_)) (by rfl) ?_
      refine J_aload_n (by rfl) (by rfl) dX10_distanceByRelaxation_17 ?_
      refine J_get dX10_distanceByRelaxation_18 f_X10_12 (by repeat (first | assumption | exact jget_same2 (by (try simp only [List.length_set]); exact jlt (by assumption)) | refine jget_ne (by first | decide | assumption | omega) ?_)) (by rfl) ?_
      refine J_get dX10_distanceByRelaxation_21 f_X10_62 (by repeat (first | assumption | exact jget_same2 (by (try simp only [List.length_set]); exact jlt (by assumption)) | refine jget_ne (by first | decide | assumption | omega) ?_)) (by rfl) ?_
      refine J_get dX10_distanceByRelaxation_24 f_X10_65 (by repeat (first | assumption | exact jget_same2 (by (try simp only [List.length_set]); exact jlt (by assumption)) | refine jget_ne (by first | decide | assumption | omega) ?_)) (by rfl) ?_
      refine J_iload_n (by rfl) dX10_distanceByRelaxation_27 ?_
      refine J_V20 (ci := 5) dX10_distanceByRelaxation_28 s_X10_122 m_X5_relaxFrom rfl (by repeat (first | assumption | exact jget_same2 (by (try simp only [List.length_set]); exact jlt (by assumption)) | refine jget_ne (by first | decide | assumption | omega) ?_)) rfl (c_X5_relaxFrom (D0 := E) hgr (by omega) g3 g7 g11 g13 (fun D1 hD1 => (jK0_i ?_)))
      have hfs : jFr gC h (h.set 13 (ia 12 D1)) := jFr.refl.set 13 _ (by decide)
      have cps := cp.gset hfs (GS.mk (g0.pth (h' := h.set 13 (ia 12 D1)) (jFr.refl.set 13 _ (by decide)) (D' := D) (E' := D1) (L' := L) (m' := m) (by repeat (first | assumption | exact jget_same2 (by (try simp only [List.length_set]); exact jlt (by assumption)) | refine jget_ne (by first | decide | assumption | omega) ?_)) (by repeat (first | assumption | exact jget_same2 (by (try simp only [List.length_set]); exact jlt (by assumption)) | refine jget_ne (by first | decide | assumption | omega) ?_)) (by repeat (first | assumption | exact jget_same2 (by (try simp only [List.length_set]); exact jlt (by assumption)) | refine jget_ne (by first | decide | assumption | omega) ?_)) (by repeat (first | assumption | exact jget_same2 (by (try simp only [List.length_set]); exact jlt (by assumption)) | refine jget_ne (by first | decide | assumption | omega) ?_))))
      have k11 : (h.set 13 (ia 12 D1))[11]? = some hPaths := (by repeat (first | assumption | exact jget_same2 (by (try simp only [List.length_set]); exact jlt (by assumption)) | refine jget_ne (by first | decide | assumption | omega) ?_))
      have k12 : (h.set 13 (ia 12 D1))[13]? = some (ia 12 D1) := (by repeat (first | assumption | exact jget_same2 (by (try simp only [List.length_set]); exact jlt (by assumption)) | refine jget_ne (by first | decide | assumption | omega) ?_))
      have kg1 : (h.set 13 (ia 12 D1))[1]? = some (.inr (1, [.ref 2, .ref 11, .ref 16])) := (by repeat (first | assumption | exact jget_same2 (by (try simp only [List.length_set]); exact jlt (by assumption)) | refine jget_ne (by first | decide | assumption | omega) ?_))
      generalize h.set 13 (ia 12 D1) = hs at hfs cps k11 k12 kg1 ⊢
      have k0 := cps.c0
      have hDj := hD1.eq hgr (by decide) (v := j) (by omega)
      rw [dst_congr e2] at hDj
      have hle : D1 j ≤ 1000000 := by rw [hDj]; split <;> omega
      have hT : Td s (nI i) (nI j) = if dst (wS s) i j < 99999 then 0 else 2 := by
        simp only [Td, both, c, c9, Bool.and_self, if_true, ex, ey]
      rw [ex, ey] at hQ1
      refine J_aload_n (by rfl) (by rfl) dX10_distanceByRelaxation_31 ?_
      refine J_get dX10_distanceByRelaxation_32 f_X10_12 (by repeat (first | assumption | exact jget_same2 (by (try simp only [List.length_set]); exact jlt (by assumption)) | refine jget_ne (by first | decide | assumption | omega) ?_)) (by rfl) ?_
      refine J_get dX10_distanceByRelaxation_35 f_X10_106 (by repeat (first | assumption | exact jget_same2 (by (try simp only [List.length_set]); exact jlt (by assumption)) | refine jget_ne (by first | decide | assumption | omega) ?_)) (by rfl) ?_
      refine J_iload_n (by rfl) dX10_distanceByRelaxation_38 ?_
      refine J_V1v (ci := 5) dX10_distanceByRelaxation_39 s_X10_125 m_X5_relaxedDistance rfl (by repeat (first | assumption | exact jget_same2 (by (try simp only [List.length_set]); exact jlt (by assumption)) | refine jget_ne (by first | decide | assumption | omega) ?_)) rfl (c_X5_relaxedDistance (D := D1) (v := j) (by omega) k11 k12 (jKv_i ?_))
      refine J_istore_3 dX10_distanceByRelaxation_42 ?_
      refine J_iload_n (by rfl) dX10_distanceByRelaxation_43 ?_
      refine J_S10x dX10_distanceByRelaxation_44 s_X10_119 m_X10_requirePath rfl (c_X10_requirePath hle (fun c44 => jKx0_i ?_) (fun c44 => jKx0_x ?_))
      · have hd : dst (wS s) i j < 99999 := Decidable.byContradiction fun z => by rw [if_neg z] at hDj; omega
        rw [if_pos hd] at hDj hT
        rw [← hDj] at hQ1
        refine J_iload_n (by rfl) dX10_distanceByRelaxation_47 ?_
        exact J_ireturn dX10_distanceByRelaxation_48 rfl (hQ1 hT _ hfs cps) (by decide) (by decide) (fun q => by cases q)
      · have hd : ¬ dst (wS s) i j < 99999 := fun z => by rw [if_pos z] at hDj; omega
        rw [if_neg hd] at hT
        exact JX_out rfl (by decide) (by decide) (hQ3 hT _ hfs cps)
    · exact JX_out rfl (by decide) (by decide) (hQ2 (by unfold Td both; rw [c, c9]; rfl))
  · exact JX_out rfl (by decide) (by decide) (hQ2 (by unfold Td both; rw [c]; rfl))
theorem c_X10_components (I : Inv K s) (cp : CPc h s sS P ch ea fa sv lf ln tx tp)
    (hQ : ∀ h', jFr gC h h' → CPc h' s sS P ch ea fa sv lf ln tx tp → Q (.inl (some (.int (nI (comps (wS s) (s 0)))))) h') : jCT G M_X10_components 16 0 0 X [.ref 0] h Q := by
  refine jCT_of [some (.ref 0)] 0 rfl (by decide +kernel) rfl rfl ?_
  obtain ⟨c0, gs, hhs, hsa, hbe, hpg, hli⟩ := cp
  have cp : CPc h s sS P ch ea fa sv lf ln tx tp := ⟨c0, gs, hhs, hsa, hbe, hpg, hli⟩
  obtain ⟨fx, fy, fr, w, rt, ti, x9, y9, D, E, L, m, num, den, g⟩ := gs
  have g0 := g
  have hgr := g.gr I
  obtain ⟨g1, g2, g3, g4, g5, g6, g7, g8, g9, g10, g11, g12, g13, g14, g15, g16, e1, e2, e3⟩ := g
  have hn := I.n12
  have hs1 := I.s1
  have hce := comps_congr e2 (s 0)
  refine J_aload_n (by rfl) (by rfl) dX10_components_0 ?_
  refine J_get dX10_components_1 f_X10_12 (by repeat (first | assumption | exact jget_same2 (by (try simp only [List.length_set]); exact jlt (by assumption)) | refine jget_ne (by first | decide | assumption | omega) ?_)) (by rfl) ?_
  refine J_get dX10_components_4 f_X10_106 (by repeat (first | assumption | exact jget_same2 (by (try simp only [List.length_set]); exact jlt (by assumption)) | refine jget_ne (by first | decide | assumption | omega) ?_)) (by rfl) ?_
  refine J_aload_n (by rfl) (by rfl) dX10_components_7 ?_
  refine J_get dX10_components_8 f_X10_12 (by repeat (first | assumption | exact jget_same2 (by (try simp only [List.length_set]); exact jlt (by assumption)) | refine jget_ne (by first | decide | assumption | omega) ?_)) (by rfl) ?_
  refine J_get dX10_components_11 f_X10_62 (by repeat (first | assumption | exact jget_same2 (by (try simp only [List.length_set]); exact jlt (by assumption)) | refine jget_ne (by first | decide | assumption | omega) ?_)) (by rfl) ?_
  refine J_get dX10_components_14 f_X10_65 (by repeat (first | assumption | exact jget_same2 (by (try simp only [List.length_set]); exact jlt (by assumption)) | refine jget_ne (by first | decide | assumption | omega) ?_)) (by rfl) ?_
  refine J_V1v (ci := 5) dX10_components_17 s_X10_128 m_X5_countBySearch rfl (by repeat (first | assumption | exact jget_same2 (by (try simp only [List.length_set]); exact jlt (by assumption)) | refine jget_ne (by first | decide | assumption | omega) ?_)) rfl (c_X5_countBySearch hgr g3 g7 g11 g15 (fun m1 => (jKv_i ?_)))
  exact J_ireturn dX10_components_20 rfl (by
    rw [hce]
    exact hQ _ (jFr.refl.set 15 _ (by decide)) (cp.gset (jFr.refl.set 15 _ (by decide)) (GS.mk (g0.pth (h' := h.set 15 (za 12 m1)) (jFr.refl.set 15 _ (by decide)) (D' := D) (E' := E) (L' := L) (m' := m1) (by repeat (first | assumption | exact jget_same2 (by (try simp only [List.length_set]); exact jlt (by assumption)) | refine jget_ne (by first | decide | assumption | omega) ?_)) (by repeat (first | assumption | exact jget_same2 (by (try simp only [List.length_set]); exact jlt (by assumption)) | refine jget_ne (by first | decide | assumption | omega) ?_)) (by repeat (first | assumption | exact jget_same2 (by (try simp only [List.length_set]); exact jlt (by assumption)) | refine jget_ne (by first | decide | assumption | omega) ?_)) (by repeat (first | assumption | exact jget_same2 (by (try simp only [List.length_set]); exact jlt (by assumption)) | refine jget_ne (by first | decide | assumption | omega) ?_)))))) (by decide) (by decide) (fun _ => rfl)
theorem c_X10_componentsByMerging (I : Inv K s) (cp : CPc h s sS P ch ea fa sv lf ln tx tp)
    (hQ : ∀ h', jFr gC h h' → CPc h' s sS P ch ea fa sv lf ln tx tp → Q (.inl (some (.int (nI (comps (wS s) (s 0)))))) h') : jCT G M_X10_componentsByMerging 16 0 0 X [.ref 0] h Q := by
  refine jCT_of [some (.ref 0)] 0 rfl (by decide +kernel) rfl rfl ?_
  obtain ⟨c0, gs, hhs, hsa, hbe, hpg, hli⟩ := cp
  have cp : CPc h s sS P ch ea fa sv lf ln tx tp := ⟨c0, gs, hhs, hsa, hbe, hpg, hli⟩
  obtain ⟨fx, fy, fr, w, rt, ti, x9, y9, D, E, L, m, num, den, g⟩ := gs
  have g0 := g
  have hgr := g.gr I
  obtain ⟨g1, g2, g3, g4, g5, g6, g7, g8, g9, g10, g11, g12, g13, g14, g15, g16, e1, e2, e3⟩ := g
  have hn := I.n12
  have hs1 := I.s1
  have hce := comps_congr e2 (s 0)
  refine J_aload_n (by rfl) (by rfl) dX10_componentsByMerging_0 ?_
  refine J_get dX10_componentsByMerging_1 f_X10_12 (by repeat (first | assumption | exact jget_same2 (by (try simp only [List.length_set]); exact jlt (by assumption)) | refine jget_ne (by first | decide | assumption | omega) ?_)) (by rfl) ?_
  refine J_get dX10_componentsByMerging_4 f_X10_106 (by repeat (first | assumption | exact jget_same2 (by (try simp only [List.length_set]); exact jlt (by assumption)) | refine jget_ne (by first | decide | assumption | omega) ?_)) (by rfl) ?_
  refine J_aload_n (by rfl) (by rfl) dX10_componentsByMerging_7 ?_
  refine J_get dX10_componentsByMerging_8 f_X10_12 (by repeat (first | assumption | exact jget_same2 (by (try simp only [List.length_set]); exact jlt (by assumption)) | refine jget_ne (by first | decide | assumption | omega) ?_)) (by rfl) ?_
  refine J_get dX10_componentsByMerging_11 f_X10_62 (by repeat (first | assumption | exact jget_same2 (by (try simp only [List.length_set]); exact jlt (by assumption)) | refine jget_ne (by first | decide | assumption | omega) ?_)) (by rfl) ?_
  refine J_get dX10_componentsByMerging_14 f_X10_65 (by repeat (first | assumption | exact jget_same2 (by (try simp only [List.length_set]); exact jlt (by assumption)) | refine jget_ne (by first | decide | assumption | omega) ?_)) (by rfl) ?_
  refine J_V1v (ci := 5) dX10_componentsByMerging_17 s_X10_132 m_X5_countByMerging rfl (by repeat (first | assumption | exact jget_same2 (by (try simp only [List.length_set]); exact jlt (by assumption)) | refine jget_ne (by first | decide | assumption | omega) ?_)) rfl (c_X5_countByMerging hgr g3 g7 g11 g14 (fun L1 => (jKv_i ?_)))
  exact J_ireturn dX10_componentsByMerging_20 rfl (by
    rw [hce]
    exact hQ _ (jFr.refl.set 14 _ (by decide)) (cp.gset (jFr.refl.set 14 _ (by decide)) (GS.mk (g0.pth (h' := h.set 14 (ia 12 L1)) (jFr.refl.set 14 _ (by decide)) (D' := D) (E' := E) (L' := L1) (m' := m) (by repeat (first | assumption | exact jget_same2 (by (try simp only [List.length_set]); exact jlt (by assumption)) | refine jget_ne (by first | decide | assumption | omega) ?_)) (by repeat (first | assumption | exact jget_same2 (by (try simp only [List.length_set]); exact jlt (by assumption)) | refine jget_ne (by first | decide | assumption | omega) ?_)) (by repeat (first | assumption | exact jget_same2 (by (try simp only [List.length_set]); exact jlt (by assumption)) | refine jget_ne (by first | decide | assumption | omega) ?_)) (by repeat (first | assumption | exact jget_same2 (by (try simp only [List.length_set]); exact jlt (by assumption)) | refine jget_ne (by first | decide | assumption | omega) ?_)))))) (by decide) (by decide) (fun _ => rfl)
theorem c_X10_nearest (x y : Int32) (I : Inv K s) (cp : CPc h s sS P ch ea fa sv lf ln tx tp)
    (hQ1 : Tn s x y = 0 → Q (.inl (some (.int (nI (amin (sqd (pX s) (pY s) (nP x) (nP y)) (s 0 - 1)))))) h) (hQ2 : Tn s x y = 1 → Q (.inr "java/lang/IllegalArgumentException") h) (hQ3 : Tn s x y = 2 → Q (.inr "java/util/NoSuchElementException") h) : jCT G M_X10_nearest 7 2 12 false [.ref 0, .int x, .int y] h Q := by
  refine jCT_of [some (.ref 0), some (.int x), some (.int y), none] 1 rfl (by decide +kernel) rfl rfl ?_
  obtain ⟨c0, gs, hhs, hsa, hbe, hpg, hli⟩ := cp
  have cp : CPc h s sS P ch ea fa sv lf ln tx tp := ⟨c0, gs, hhs, hsa, hbe, hpg, hli⟩
  obtain ⟨fx, fy, fr, w, rt, ti, x9, y9, D, E, L, m, num, den, g⟩ := gs
  have g0 := g
  have hgr := g.gr I
  obtain ⟨g1, g2, g3, g4, g5, g6, g7, g8, g9, g10, g11, g12, g13, g14, g15, g16, e1, e2, e3⟩ := g
  have hn := I.n12
  have hs1 := I.s1
  refine J_iload_n (by rfl) dX10_nearest_0 ?_
  refine J_iload_n (by rfl) dX10_nearest_1 ?_
  refine J_S20x dX10_nearest_2 s_X10_135 m_X10_requireCoordinates rfl (c_X10_requireCoordinates x y (fun c => jKx0_i ?_) (fun c => jKx0_x ?_))
  · obtain ⟨a, b, rfl, rfl, ha, hb, ex, ey⟩ := isP_t c
    have ham := amin_le (sqd (pX s) (pY s) a b) (s 0 - 1)
    have hce : amin (sqd fx fy a b) (s 0 - 1) = amin (sqd (pX s) (pY s) a b) (s 0 - 1) := by
      refine amin_congr _ (fun i hi => ?_)
      unfold sqd
      rw [(e1 i (by omega)).1, (e1 i (by omega)).2.1]
    have hT : Tn s (nI a) (nI b) = if s 0 = 0 then 2 else 0 := by unfold Tn; rw [if_pos c]
    rw [ex, ey] at hQ1
    refine J_aload_n (by rfl) (by rfl) dX10_nearest_5 ?_
    refine J_get dX10_nearest_6 f_X10_12 (by repeat (first | assumption | exact jget_same2 (by (try simp only [List.length_set]); exact jlt (by assumption)) | refine jget_ne (by first | decide | assumption | omega) ?_)) (by rfl) ?_
    refine J_get dX10_nearest_9 f_X10_62 (by repeat (first | assumption | exact jget_same2 (by (try simp only [List.length_set]); exact jlt (by assumption)) | refine jget_ne (by first | decide | assumption | omega) ?_)) (by rfl) ?_
    refine J_get dX10_nearest_12 f_X10_65 (by repeat (first | assumption | exact jget_same2 (by (try simp only [List.length_set]); exact jlt (by assumption)) | refine jget_ne (by first | decide | assumption | omega) ?_)) (by rfl) ?_
    refine J_iload_n (by rfl) dX10_nearest_15 ?_
    refine J_iload_n (by rfl) dX10_nearest_16 ?_
    refine J_V2v (ci := 9) dX10_nearest_17 s_X10_139 m_X9_closestTo rfl (by repeat (first | assumption | exact jget_same2 (by (try simp only [List.length_set]); exact jlt (by assumption)) | refine jget_ne (by first | decide | assumption | omega) ?_)) rfl (c_X9_closestTo ha hb (fun i hi => by rw [(e1 i hi).1]; exact (I.p i hi).1) (fun i hi => by rw [(e1 i hi).2.1]; exact (I.p i hi).2.1) hn g3 g4 g5 (jKv_i ?_))
    by_cases h0 : s 0 = 0
    · rw [if_pos h0]
      refine J_istore_3 dX10_nearest_20 ?_
      refine J_iload_n (by rfl) dX10_nearest_21 ?_
      refine J_iconst (-1) (by decide) dX10_nearest_22 ?_
      refine J_icmp_ne 36 dX10_nearest_23 (by decide) (fun c23 => ?_) (fun c23 => ?_)
      · exact absurd rfl c23
      · exact J_throwN (i := 7) t_X10_95_99 dX10_nearest_26 dX10_nearest_29 dX10_nearest_30 dX10_nearest_32 dX10_nearest_35 rfl rfl rfl rfl (by decide) (by exact Nat.le_of_ble_eq_true rfl) (by decide) (by decide) (by decide) (by decide) (hQ3 (by rw [hT, if_pos h0]))
    · rw [if_neg h0, hce]
      refine J_istore_3 dX10_nearest_20 ?_
      refine J_iload_n (by rfl) dX10_nearest_21 ?_
      refine J_iconst (-1) (by decide) dX10_nearest_22 ?_
      refine J_icmp_ne 36 dX10_nearest_23 (by decide) (fun c23 => ?_) (fun c23 => ?_)
      · refine J_iload_n (by rfl) dX10_nearest_36 ?_
        exact J_ireturn dX10_nearest_37 rfl (hQ1 (by rw [hT, if_neg h0])) (by decide) (by decide) (fun q => by cases q)
      · exact absurd c23 (nI_neg1 (by omega))
  · exact JX_out rfl (by decide) (by decide) (hQ2 (by unfold Tn; rw [if_neg (by rw [c]; decide)]))
theorem c_X10_routeWaypoint (x : Int32) (I : Inv K s) (cp : CPc h s sS P ch ea fa sv lf ln tx tp)
    (hQ1 : Tri s x = 0 → Q (.inl (some (.int (nI (s (192 + nP x)))))) h) (hQ2 : Tri s x = 1 → Q (.inr "java/lang/IllegalStateException") h) (hQ3 : Tri s x = 2 → Q (.inr "java/lang/IndexOutOfBoundsException") h) : jCT G M_X10_routeWaypoint 7 2 12 false [.ref 0, .int x] h Q := by
  refine jCT_of [some (.ref 0), some (.int x)] 0 rfl (by decide +kernel) rfl rfl ?_
  obtain ⟨c0, gs, hhs, hsa, hbe, hpg, hli⟩ := cp
  have cp : CPc h s sS P ch ea fa sv lf ln tx tp := ⟨c0, gs, hhs, hsa, hbe, hpg, hli⟩
  obtain ⟨fx, fy, fr, w, rt, ti, x9, y9, D, E, L, m, num, den, g⟩ := gs
  have g0 := g
  have hgr := g.gr I
  obtain ⟨g1, g2, g3, g4, g5, g6, g7, g8, g9, g10, g11, g12, g13, g14, g15, g16, e1, e2, e3⟩ := g
  have hn := I.n12
  have hs1 := I.s1
  refine J_aload_n (by rfl) (by rfl) dX10_routeWaypoint_0 ?_
  refine J_V00x (ci := 10) dX10_routeWaypoint_1 s_X10_154 m_X10_requireTour rfl (by repeat (first | assumption | exact jget_same2 (by (try simp only [List.length_set]); exact jlt (by assumption)) | refine jget_ne (by first | decide | assumption | omega) ?_)) rfl (c_X10_requireTour I cp (fun c => jKx0_i ?_) (fun c => jKx0_x ?_))
  · refine J_aload_n (by rfl) (by rfl) dX10_routeWaypoint_4 ?_
    refine J_iload_n (by rfl) dX10_routeWaypoint_5 ?_
    refine J_V10x (ci := 10) dX10_routeWaypoint_6 s_X10_158 m_X10_requireRouteIndex rfl (by repeat (first | assumption | exact jget_same2 (by (try simp only [List.length_set]); exact jlt (by assumption)) | refine jget_ne (by first | decide | assumption | omega) ?_)) rfl (c_X10_requireRouteIndex x I cp (fun c9 => jKx0_i ?_) (fun c9 => jKx0_x ?_))
    · obtain ⟨i, rfl, hi, ex⟩ := isIx_k c9 (by omega)
      have hr := (e3 c).2.2.2 i hi
      rw [ex, ← hr] at hQ1
      refine J_aload_n (by rfl) (by rfl) dX10_routeWaypoint_9 ?_
      refine J_get dX10_routeWaypoint_10 f_X10_12 (by repeat (first | assumption | exact jget_same2 (by (try simp only [List.length_set]); exact jlt (by assumption)) | refine jget_ne (by first | decide | assumption | omega) ?_)) (by rfl) ?_
      refine J_get dX10_routeWaypoint_13 f_X10_62 (by repeat (first | assumption | exact jget_same2 (by (try simp only [List.length_set]); exact jlt (by assumption)) | refine jget_ne (by first | decide | assumption | omega) ?_)) (by rfl) ?_
      refine J_get dX10_routeWaypoint_16 f_X10_144 (by repeat (first | assumption | exact jget_same2 (by (try simp only [List.length_set]); exact jlt (by assumption)) | refine jget_ne (by first | decide | assumption | omega) ?_)) (by rfl) ?_
      refine J_iload_n (by rfl) dX10_routeWaypoint_19 ?_
      refine J_V1v (ci := 8) dX10_routeWaypoint_20 s_X10_161 m_X8_waypointAt rfl (by repeat (first | assumption | exact jget_same2 (by (try simp only [List.length_set]); exact jlt (by assumption)) | refine jget_ne (by first | decide | assumption | omega) ?_)) rfl (c_X8_waypointAt (rt := rt) (i := i) hi hs1 g8 g9 (jKv_i ?_))
      exact J_ireturn dX10_routeWaypoint_23 rfl (hQ1 (by unfold Tri; rw [if_pos c, if_pos c9])) (by decide) (by decide) (fun q => by cases q)
    · exact JX_out rfl (by decide) (by decide) (hQ3 (by unfold Tri; rw [if_pos c, if_neg (by rw [c9]; decide)]))
  · exact JX_out rfl (by decide) (by decide) (hQ2 (by unfold Tri; rw [if_neg c]))
theorem c_X10_drift (I : Inv K s) (cp : CPc h s sS P ch ea fa sv lf ln tx tp)
    (hQ1 : 0 < s 1 → ∀ h' r, jFr gC h h' → r * r * denS s (s 3) (s 4) ≤ numS s (s 3) (s 4) → numS s (s 3) (s 4) < (r + 1) * (r + 1) * denS s (s 3) (s 4) → CPc h' s sS P ch ea fa sv lf ln tx tp → Q (.inl (some (.int (nI r)))) h') (hQ2 : ¬ 0 < s 1 → Q (.inr "java/lang/IllegalStateException") h) : jCT G M_X10_drift 7 1 6 false [.ref 0] h Q := by
  refine jCT_of [some (.ref 0)] 0 rfl (by decide +kernel) rfl rfl ?_
  obtain ⟨c0, gs, hhs, hsa, hbe, hpg, hli⟩ := cp
  have cp : CPc h s sS P ch ea fa sv lf ln tx tp := ⟨c0, gs, hhs, hsa, hbe, hpg, hli⟩
  obtain ⟨fx, fy, fr, w, rt, ti, x9, y9, D, E, L, m, num, den, g⟩ := gs
  have g0 := g
  have hgr := g.gr I
  obtain ⟨g1, g2, g3, g4, g5, g6, g7, g8, g9, g10, g11, g12, g13, g14, g15, g16, e1, e2, e3⟩ := g
  have hn := I.n12
  have hs1 := I.s1
  refine J_aload_n (by rfl) (by rfl) dX10_drift_0 ?_
  refine J_V00x (ci := 10) dX10_drift_1 s_X10_154 m_X10_requireTour rfl (by repeat (first | assumption | exact jget_same2 (by (try simp only [List.length_set]); exact jlt (by assumption)) | refine jget_ne (by first | decide | assumption | omega) ?_)) rfl (c_X10_requireTour I cp (fun c => jKx0_i ?_) (fun c => jKx0_x ?_))
  · obtain ⟨rfl, rfl, rfl, hr⟩ := e3 c
    obtain ⟨t1, t2, t3, t4, t5, t6, t7⟩ := I.t c
    have hL := legOk_of I c
    have hnl := num_le I c
    have hdl := num_b (s := s) hL (show s 3 ≤ 99 by omega) (show s 4 ≤ 99 by omega)
    refine J_aload_n (by rfl) (by rfl) dX10_drift_4 ?_
    refine J_get dX10_drift_5 f_X10_12 (by repeat (first | assumption | exact jget_same2 (by (try simp only [List.length_set]); exact jlt (by assumption)) | refine jget_ne (by first | decide | assumption | omega) ?_)) (by rfl) ?_
    refine J_aload_n (by rfl) (by rfl) dX10_drift_8 ?_
    refine J_get dX10_drift_9 f_X10_12 (by repeat (first | assumption | exact jget_same2 (by (try simp only [List.length_set]); exact jlt (by assumption)) | refine jget_ne (by first | decide | assumption | omega) ?_)) (by rfl) ?_
    refine J_get dX10_drift_12 f_X10_62 (by repeat (first | assumption | exact jget_same2 (by (try simp only [List.length_set]); exact jlt (by assumption)) | refine jget_ne (by first | decide | assumption | omega) ?_)) (by rfl) ?_
    refine J_get dX10_drift_15 f_X10_144 (by repeat (first | assumption | exact jget_same2 (by (try simp only [List.length_set]); exact jlt (by assumption)) | refine jget_ne (by first | decide | assumption | omega) ?_)) (by rfl) ?_
    refine J_get dX10_drift_18 f_X10_178 (by repeat (first | assumption | exact jget_same2 (by (try simp only [List.length_set]); exact jlt (by assumption)) | refine jget_ne (by first | decide | assumption | omega) ?_)) (by rfl) ?_
    refine J_aload_n (by rfl) (by rfl) dX10_drift_21 ?_
    refine J_get dX10_drift_22 f_X10_12 (by repeat (first | assumption | exact jget_same2 (by (try simp only [List.length_set]); exact jlt (by assumption)) | refine jget_ne (by first | decide | assumption | omega) ?_)) (by rfl) ?_
    refine J_get dX10_drift_25 f_X10_62 (by repeat (first | assumption | exact jget_same2 (by (try simp only [List.length_set]); exact jlt (by assumption)) | refine jget_ne (by first | decide | assumption | omega) ?_)) (by rfl) ?_
    refine J_get dX10_drift_28 f_X10_144 (by repeat (first | assumption | exact jget_same2 (by (try simp only [List.length_set]); exact jlt (by assumption)) | refine jget_ne (by first | decide | assumption | omega) ?_)) (by rfl) ?_
    refine J_get dX10_drift_31 f_X10_181 (by repeat (first | assumption | exact jget_same2 (by (try simp only [List.length_set]); exact jlt (by assumption)) | refine jget_ne (by first | decide | assumption | omega) ?_)) (by rfl) ?_
    refine J_V20 (ci := 1) dX10_drift_34 s_X10_184 m_X1_measureDrift rfl (by repeat (first | assumption | exact jget_same2 (by (try simp only [List.length_set]); exact jlt (by assumption)) | refine jget_ne (by first | decide | assumption | omega) ?_)) rfl (c_X1_measureDrift (by omega) (by omega) c hs1 (by omega) hL g0 (fun h1 hf g => (jK0_i ?_)))
    have cps := cp.gset hf (GS.mk g)
    have k0 := cps.c0
    have k1 := g.g1
    have k16 := g.g16
    refine J_aload_n (by rfl) (by rfl) dX10_drift_37 ?_
    refine J_get dX10_drift_38 f_X10_12 (by repeat (first | assumption | exact jget_same2 (by (try simp only [List.length_set]); exact jlt (by assumption)) | refine jget_ne (by first | decide | assumption | omega) ?_)) (by rfl) ?_
    refine J_get dX10_drift_41 f_X10_187 (by repeat (first | assumption | exact jget_same2 (by (try simp only [List.length_set]); exact jlt (by assumption)) | refine jget_ne (by first | decide | assumption | omega) ?_)) (by rfl) ?_
    refine J_V0v (ci := 0) dX10_drift_44 s_X10_191 m_X0_roundedDown rfl (by repeat (first | assumption | exact jget_same2 (by (try simp only [List.length_set]); exact jlt (by assumption)) | refine jget_ne (by first | decide | assumption | omega) ?_)) rfl (c_X0_roundedDown (by omega) (by omega) k16 (fun r r0 r1 r2 => (jKv_i ?_)))
    exact J_ireturn dX10_drift_47 rfl (hQ1 c _ r hf r1 r2 cps) (by decide) (by decide) (fun q => by cases q)
  · exact JX_out rfl (by decide) (by decide) (hQ2 c)
end FACE2
