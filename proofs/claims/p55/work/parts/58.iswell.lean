/-! The law's isWell holds of every state -/
theorem iI_lt0 {z : Int} (h1 : -2 ^ 31 ≤ z) (h2 : z < 2 ^ 31) : iI z < 0 ↔ z < 0 := by
  have := iI_lt (a := z) (b := 0) h1 h2 (by decide) (by decide)
  rwa [show iI 0 = 0 from rfl] at this
theorem iI_ge0 {z : Int} (h1 : -2 ^ 31 ≤ z) (h2 : z < 2 ^ 31) : 0 ≤ iI z ↔ 0 ≤ z := by
  have := iI_le (a := 0) (b := z) (by decide) (by decide) h1 h2
  rwa [show iI 0 = 0 from rfl] at this
theorem cnt_s (f : Nat → Bool) (k : Nat) : cnt f (k + 1) = cnt f k + (if f k = true then 1 else 0) := rfl
section WELL
variable {G : jG} {X : Bool} {h : jH} {Q : jQ_} {K ch : Nat} {sv : Bool} {s sS P : Nat → Nat}
/-- from the innermost loop on -/
theorem ww_C {i j A B t f : Nat} {e : Bool} (hi : i < s 0) (hj : j < s 0) (I : Inv K s) (hA : A + 96 ≤ 17000) (hB : B + 576 ≤ 102000)
    (hk : ∀ h1 kc kn l8 l9, jFr clC h h1 → LC h1 s sS P ch sv → kc ≤ A + 96 → kn ≤ B + 576 → J G (jR 17 17000 102000) (jFin G Q false 17000 102000) M_L_isWell false kc kn 229 [some (.ref 0), some (.int (nI t)), some (.int (nI f)), some (.int (nI i)), some (.int (jb e)), some (.int (nI j)), some (.int (iI (fD (wS s) i j))), some (.int (jb (decide (0 < wS s (i * 12 + j))))), l8, l9] [] h1) :
    ∀ b, b ≤ s 0 → ∀ h1 kc kn l9, jFr clC h h1 → LC h1 s sS P ch sv → kc ≤ A + 8 * b → kn ≤ B + 48 * b → J G (jR 17 17000 102000) (jFin G Q false 17000 102000) M_L_isWell false kc kn 166 [some (.ref 0), some (.int (nI t)), some (.int (nI f)), some (.int (nI i)), some (.int (jb e)), some (.int (nI j)), some (.int (iI (fD (wS s) i j))), some (.int (jb (decide (0 < wS s (i * 12 + j))))), some (.int (nI b)), l9] [] h1 := by
  have hn := I.n12
  refine up_ind (s 0) (fun b hb ih => ?_)
  intro h1 kc kn l9 f1 g1 q1 q2
  have g1' := g1
  obtain ⟨ea, fa, lf, ln, tx, cp⟩ := g1
  have c0 := cp.c0
  refine J_iload (by rfl) dL_isWell_166 ?_
  refine J_aload_n (by rfl) (by rfl) dL_isWell_168 ?_
  refine J_V0v (ci := 10) dL_isWell_169 s_L_184 m_X10_waypoints rfl (by repeat (first | assumption | exact jget_same2 (by (try simp only [List.length_set]); exact jlt (by assumption)) | refine jget_ne (by first | decide | assumption | omega) ?_)) rfl (c_X10_waypoints I cp (jKv_i ?_)) (hf := jfit_j (by rfl) (by rfl) (by omega) (by omega))
  refine J_icmp_ge_n 229 dL_isWell_172 (by decide) (fun c172 => ?_) (fun c172 => ?_)
  · exact hk h1 _ _ _ _ f1 g1' (by omega) (by omega)
  · refine J_aload_n (by rfl) (by rfl) dL_isWell_175 ?_
    refine J_iload_n (by rfl) dL_isWell_176 ?_
    refine J_iload (by rfl) dL_isWell_177 ?_
    refine J_SX3v dL_isWell_179 s_L_232 m_L_distance rfl (l_distance hi c172 I g1' (fun h2 f2 g2 => (jKv_i ?_))) (hf := jfit_j (by rfl) (by rfl) (by omega) (by omega))
    have g2' := g2
    obtain ⟨ea2, fa2, lf2, ln2, tx2, cp2⟩ := g2
    have c02 := cp2.c0
    have f3 := f1.trans f2
    have db := fD_b (wS s) i b
    have dj := fD_b (wS s) i j
    refine J_istore_9 dL_isWell_182 ?_
    refine J_aload_n (by rfl) (by rfl) dL_isWell_184 ?_
    refine J_iload (by rfl) dL_isWell_185 ?_
    refine J_iload (by rfl) dL_isWell_187 ?_
    refine J_V2v (ci := 10) dL_isWell_189 s_L_226 m_X10_hasTrail rfl (by repeat (first | assumption | exact jget_same2 (by (try simp only [List.length_set]); exact jlt (by assumption)) | refine jget_ne (by first | decide | assumption | omega) ?_)) rfl (k_has c172 hj I cp2 (jKv_i ?_)) (hf := jfit_j (by rfl) (by rfl) (by omega) (by omega))
    refine J_if_eq_b 223 dL_isWell_192 (by decide) (fun c192 => ?_) (fun c192 => ?_)
    · refine J_iinc_8 (nI 1) dL_isWell_223 (by decide) ?_
      try rw [nI_add]
      refine J_goto 166 dL_isWell_226 (by decide) ?_
      exact ih c172 h2 _ _ _ f3 g2' (by omega) (by omega)
    · have hp : 0 < wS s (b * 12 + j) := of_decide_eq_true c192
      refine J_iload (by rfl) dL_isWell_195 ?_
      refine J_if_lt 223 dL_isWell_197 (by decide) (fun c197 => ?_) (fun c197 => ?_)
      · refine J_iinc_8 (nI 1) dL_isWell_223 (by decide) ?_
        try rw [nI_add]
        refine J_goto 166 dL_isWell_226 (by decide) ?_
        exact ih c172 h2 _ _ _ f3 g2' (by omega) (by omega)
      · have h0 : 0 ≤ fD (wS s) i b := by
          rcases Int.lt_or_le (fD (wS s) i b) 0 with q | q
          · exact absurd ((iI_lt0 (by omega) (by omega)).mpr q) c197
          · exact q
        have ht := fD_tri I.g (i := i) (b := b) (j := j) (by omega) (by omega) hp h0
        have hl := I.le (b * 12 + j) (by omega)
        refine J_iload (by rfl) dL_isWell_200 ?_
        refine J_if_lt 221 dL_isWell_202 (by decide) (fun c202 => ?_) (fun c202 => ?_)
        · exact absurd ((iI_lt0 (by omega) (by omega)).mp c202) (by omega)
        · refine J_iload (by rfl) dL_isWell_205 ?_
          refine J_iload (by rfl) dL_isWell_207 ?_
          refine J_aload_n (by rfl) (by rfl) dL_isWell_209 ?_
          refine J_iload (by rfl) dL_isWell_210 ?_
          refine J_iload (by rfl) dL_isWell_212 ?_
          refine J_V2v (ci := 10) dL_isWell_214 s_L_229 m_X10_trailLength rfl (by repeat (first | assumption | exact jget_same2 (by (try simp only [List.length_set]); exact jlt (by assumption)) | refine jget_ne (by first | decide | assumption | omega) ?_)) rfl (k_len c172 hj hp I cp2 (jKv_i ?_)) (hf := jfit_j (by rfl) (by rfl) (by omega) (by omega))
          refine J_iadd dL_isWell_217 ?_
          try rw [nI_add]
          rw [← iI_n (wS s (b * 12 + j))]
          refine J_topi (iI (fD (wS s) i b + wS s (b * 12 + j))) (iI_add _ _) ?_
          refine J_icmp_le 223 dL_isWell_218 (by decide) (fun c218 => ?_) (fun c218 => ?_)
          · refine J_iinc_8 (nI 1) dL_isWell_223 (by decide) ?_
            try rw [nI_add]
            refine J_goto 166 dL_isWell_226 (by decide) ?_
            exact ih c172 h2 _ _ _ f3 g2' (by omega) (by omega)
          · exact absurd ((iI_le (by omega) (by omega) (by omega) (by omega)).mpr ht.2) c218
/-- a pair of waypoints -/
theorem ww_B {i j A B f : Nat} (hi : i < s 0) (hj : j < s 0) (I : Inv K s) (hA : A + 112 ≤ 17000) (hB : B + 672 ≤ 102000)
    (hk : ∀ h1 kc kn l6 l7 l8 l9, jFr clC h h1 → LC h1 s sS P ch sv → kc ≤ A + 112 → kn ≤ B + 672 → J G (jR 17 17000 102000) (jFin G Q false 17000 102000) M_L_isWell false kc kn 20 [some (.ref 0), some (.int (nI (tC (wS s) i + cnt (fun q => decide (0 < wS s (i * 12 + q)) && decide (q < i)) (j + 1)))), some (.int (nI f)), some (.int (nI i)), some (.int (jb (fl (wS s) i (j + 1)))), some (.int (nI (j + 1))), l6, l7, l8, l9] [] h1) :
    ∀ h1 kc kn l6 l7 l8 l9, jFr clC h h1 → LC h1 s sS P ch sv → kc ≤ A → kn ≤ B → J G (jR 17 17000 102000) (jFin G Q false 17000 102000) M_L_isWell false kc kn 29 [some (.ref 0), some (.int (nI (tC (wS s) i + cnt (fun q => decide (0 < wS s (i * 12 + q)) && decide (q < i)) j))), some (.int (nI f)), some (.int (nI i)), some (.int (jb (fl (wS s) i j))), some (.int (nI j)), l6, l7, l8, l9] [] h1 := by
  have hn := I.n12
  have dj := fD_b (wS s) i j
  have hs := I.g.sym i j (by omega) (by omega)
  have m163 : ∀ h1 kc kn l8 l9, jFr clC h h1 → LC h1 s sS P ch sv → kc ≤ A + 16 → kn ≤ B + 96 → J G (jR 17 17000 102000) (jFin G Q false 17000 102000) M_L_isWell false kc kn 163 [some (.ref 0), some (.int (nI (tC (wS s) i + cnt (fun q => decide (0 < wS s (i * 12 + q)) && decide (q < i)) (j + 1)))), some (.int (nI f)), some (.int (nI i)), some (.int (jb (fl (wS s) i (j + 1)))), some (.int (nI j)), some (.int (iI (fD (wS s) i j))), some (.int (jb (decide (0 < wS s (i * 12 + j))))), l8, l9] [] h1 := by
    intro h1 kc kn l8 l9 f1 g1 q1 q2
    refine J_iconst (nI 0) (by decide) dL_isWell_163 ?_
    refine J_istore_8 dL_isWell_164 ?_
    refine ww_C (h := h) (A := A + 16) (B := B + 96) hi hj I (by omega) (by omega) (fun h2 kc2 kn2 l8 l9 f2 g2 q3 q4 => ?_) 0 (by omega) h1 kc kn l9 f1 g1 (by omega) (by omega)
    refine J_iinc_5 (nI 1) dL_isWell_229 (by decide) ?_
    try rw [nI_add]
    refine J_goto 20 dL_isWell_232 (by decide) ?_
    exact hk h2 _ _ _ _ _ _ f2 g2 (by omega) (by omega)
  have m139 : ∀ h1 kc kn l8 l9, jFr clC h h1 → LC h1 s sS P ch sv → kc ≤ A + 13 → kn ≤ B + 78 → J G (jR 17 17000 102000) (jFin G Q false 17000 102000) M_L_isWell false kc kn 139 [some (.ref 0), some (.int (nI (tC (wS s) i + cnt (fun q => decide (0 < wS s (i * 12 + q)) && decide (q < i)) (j + 1)))), some (.int (nI f)), some (.int (nI i)), some (.int (jb (fl (wS s) i (j + 1)))), some (.int (nI j)), some (.int (iI (fD (wS s) i j))), some (.int (jb (decide (0 < wS s (i * 12 + j))))), l8, l9] [] h1 := by
    intro h1 kc kn l8 l9 f1 g1 q1 q2
    have g1' := g1
    obtain ⟨ea, fa, lf, ln, tx, cp⟩ := g1
    have c0 := cp.c0
    refine J_iload (by rfl) dL_isWell_139 ?_
    refine J_if_eq_b 163 dL_isWell_141 (by decide) (fun c141 => ?_) (fun c141 => ?_)
    · exact m163 h1 _ _ _ _ f1 g1' (by omega) (by omega)
    · have hp : 0 < wS s (i * 12 + j) := of_decide_eq_true c141
      have he := fD_edge I.g (i := i) (j := j) (by omega) (by omega) hp
      have hl := I.le (i * 12 + j) (by omega)
      refine J_iload (by rfl) dL_isWell_144 ?_
      refine J_if_lt 161 dL_isWell_146 (by decide) (fun c146 => ?_) (fun c146 => ?_)
      · exact absurd ((iI_lt0 (by omega) (by omega)).mp c146) (by omega)
      · refine J_iload (by rfl) dL_isWell_149 ?_
        refine J_aload_n (by rfl) (by rfl) dL_isWell_151 ?_
        refine J_iload_n (by rfl) dL_isWell_152 ?_
        refine J_iload (by rfl) dL_isWell_153 ?_
        refine J_V2v (ci := 10) dL_isWell_155 s_L_229 m_X10_trailLength rfl (by repeat (first | assumption | exact jget_same2 (by (try simp only [List.length_set]); exact jlt (by assumption)) | refine jget_ne (by first | decide | assumption | omega) ?_)) rfl (k_len hi hj hp I cp (jKv_i ?_)) (hf := jfit_j (by rfl) (by rfl) (by omega) (by omega))
        rw [← iI_n (wS s (i * 12 + j))]
        refine J_icmp_le 163 dL_isWell_158 (by decide) (fun c158 => ?_) (fun c158 => ?_)
        · exact m163 h1 _ _ _ _ f1 g1' (by omega) (by omega)
        · exact absurd ((iI_le (by omega) (by omega) (by omega) (by omega)).mpr he.2) c158
  have m84 : ∀ h1 kc kn l8 l9, jFr clC h h1 → LC h1 s sS P ch sv → kc ≤ A + 5 → kn ≤ B + 30 → J G (jR 17 17000 102000) (jFin G Q false 17000 102000) M_L_isWell false kc kn 84 [some (.ref 0), some (.int (nI (tC (wS s) i + cnt (fun q => decide (0 < wS s (i * 12 + q)) && decide (q < i)) (j + 1)))), some (.int (nI f)), some (.int (nI i)), some (.int (jb (fl (wS s) i j))), some (.int (nI j)), some (.int (iI (fD (wS s) i j))), some (.int (jb (decide (0 < wS s (i * 12 + j))))), l8, l9] [.int (jb (decide (i ≤ j) || decide (fD (wS s) i j < 0))), .int (jb (fl (wS s) i j))] h1 := by
    intro h1 kc kn l8 l9 f1 g1 q1 q2
    refine J_iand dL_isWell_84 ?_
    refine J_topi (jb (fl (wS s) i (j + 1))) (by rw [jb_and, fl_s]) ?_
    refine J_istore_4 dL_isWell_85 ?_
    refine J_iload (by rfl) dL_isWell_87 ?_
    refine J_aload_n (by rfl) (by rfl) dL_isWell_89 ?_
    refine J_iload_n (by rfl) dL_isWell_90 ?_
    refine J_iload (by rfl) dL_isWell_91 ?_
    refine J_SX3v dL_isWell_93 s_L_234 m_L_distanceByRelaxation rfl (l_relax hi hj I g1 (fun h2 f2 g2 => (jKv_i ?_))) (hf := jfit_j (by rfl) (by rfl) (by omega) (by omega))
    refine J_icmp_ne 161 dL_isWell_96 (by decide) (fun c96 => ?_) (fun c96 => ?_)
    · exact absurd rfl c96
    · have f3 := f1.trans f2
      refine J_iload (by rfl) dL_isWell_99 ?_
      refine J_aload_n (by rfl) (by rfl) dL_isWell_101 ?_
      refine J_iload (by rfl) dL_isWell_102 ?_
      refine J_iload_n (by rfl) dL_isWell_104 ?_
      refine J_SX3v dL_isWell_105 s_L_232 m_L_distance rfl (l_distance hj hi I g2 (fun h3 f4 g3 => (jKv_i ?_))) (hf := jfit_j (by rfl) (by rfl) (by omega) (by omega))
      refine J_icmp_ne 161 dL_isWell_108 (by decide) (fun c108 => ?_) (fun c108 => ?_)
      · exact absurd (congrArg iI (fD_sym I.g i j)) c108
      · have f5 := f3.trans f4
        have g3' := g3
        obtain ⟨ea, fa, lf, ln, tx, cp⟩ := g3
        have c0 := cp.c0
        refine J_iload (by rfl) dL_isWell_111 ?_
        refine J_aload_n (by rfl) (by rfl) dL_isWell_113 ?_
        refine J_iload (by rfl) dL_isWell_114 ?_
        refine J_iload_n (by rfl) dL_isWell_116 ?_
        refine J_V2v (ci := 10) dL_isWell_117 s_L_226 m_X10_hasTrail rfl (by repeat (first | assumption | exact jget_same2 (by (try simp only [List.length_set]); exact jlt (by assumption)) | refine jget_ne (by first | decide | assumption | omega) ?_)) rfl (k_has hj hi I cp (jKv_i ?_)) (hf := jfit_j (by rfl) (by rfl) (by omega) (by omega))
        refine J_icmp_ne 161 dL_isWell_120 (by decide) (fun c120 => ?_) (fun c120 => ?_)
        · exact absurd (by rw [hs]) c120
        · refine J_iload_n (by rfl) dL_isWell_123 ?_
          refine J_iload (by rfl) dL_isWell_124 ?_
          refine J_icmp_ne_n 139 dL_isWell_126 (by decide) (fun c126 => ?_) (fun c126 => ?_)
          · exact m139 h3 _ _ _ _ f5 g3' (by omega) (by omega)
          · refine J_iload (by rfl) dL_isWell_129 ?_
            refine J_if_ne 161 dL_isWell_131 (by decide) (fun c131 => ?_) (fun c131 => ?_)
            · exact absurd (by subst c126; rw [fD_s]; rfl) c131
            · refine J_iload (by rfl) dL_isWell_134 ?_
              refine J_if_ne_b 161 dL_isWell_136 (by decide) (fun c136 => ?_) (fun c136 => ?_)
              · exact absurd (of_decide_eq_true c136) (by subst c126; rw [I.nl i (by omega)]; exact Nat.lt_irrefl 0)
              · exact m139 h3 _ _ _ _ f5 g3' (by omega) (by omega)
  have m64 : ∀ h1 kc kn l8 l9 c, c = (if (decide (0 < wS s (i * 12 + j)) && decide (j < i)) = true then 1 else 0) → jFr clC h h1 → LC h1 s sS P ch sv → kc ≤ A + 5 → kn ≤ B + 30 → J G (jR 17 17000 102000) (jFin G Q false 17000 102000) M_L_isWell false kc kn 64 [some (.ref 0), some (.int (nI (tC (wS s) i + cnt (fun q => decide (0 < wS s (i * 12 + q)) && decide (q < i)) j))), some (.int (nI f)), some (.int (nI i)), some (.int (jb (fl (wS s) i j))), some (.int (nI j)), some (.int (iI (fD (wS s) i j))), some (.int (jb (decide (0 < wS s (i * 12 + j))))), l8, l9] [.int (nI c), .int (nI (tC (wS s) i + cnt (fun q => decide (0 < wS s (i * 12 + q)) && decide (q < i)) j))] h1 := by
    intro h1 kc kn l8 l9 c hc f1 g1 q1 q2
    refine J_iadd dL_isWell_64 ?_
    try rw [nI_add]
    refine J_topi (nI (tC (wS s) i + cnt (fun q => decide (0 < wS s (i * 12 + q)) && decide (q < i)) (j + 1))) (by rw [cnt_s, hc, Nat.add_assoc]) ?_
    refine J_istore_1 dL_isWell_65 ?_
    refine J_iload (by rfl) dL_isWell_66 ?_
    refine J_iload (by rfl) dL_isWell_68 ?_
    refine J_iload_n (by rfl) dL_isWell_70 ?_
    refine J_icmp_ge_n 79 dL_isWell_71 (by decide) (fun c71 => ?_) (fun c71 => ?_)
    · refine J_iconst (nI 1) (by decide) dL_isWell_79 ?_
      refine J_goto 84 dL_isWell_80 (by decide) ?_
      refine J_topi (jb (decide (i ≤ j) || decide (fD (wS s) i j < 0))) (by rw [decide_eq_true c71]; rfl) ?_
      exact m84 h1 _ _ _ _ f1 g1 (by omega) (by omega)
    · refine J_iload (by rfl) dL_isWell_74 ?_
      refine J_if_ge 83 dL_isWell_76 (by decide) (fun c76 => ?_) (fun c76 => ?_)
      · have hz : ¬ fD (wS s) i j < 0 := by have := (iI_ge0 (by omega) (by omega)).mp c76; omega
        refine J_iconst (nI 0) (by decide) dL_isWell_83 ?_
        refine J_topi (jb (decide (i ≤ j) || decide (fD (wS s) i j < 0))) (by rw [decide_eq_false (show ¬ i ≤ j by omega), decide_eq_false hz]; rfl) ?_
        exact m84 h1 _ _ _ _ f1 g1 (by omega) (by omega)
      · have hz : fD (wS s) i j < 0 := by
          rcases Int.lt_or_le (fD (wS s) i j) 0 with q | q
          · exact q
          · exact absurd ((iI_ge0 (by omega) (by omega)).mpr q) c76
        refine J_iconst (nI 1) (by decide) dL_isWell_79 ?_
        refine J_goto 84 dL_isWell_80 (by decide) ?_
        refine J_topi (jb (decide (i ≤ j) || decide (fD (wS s) i j < 0))) (by rw [decide_eq_true hz, Bool.or_true]; rfl) ?_
        exact m84 h1 _ _ _ _ f1 g1 (by omega) (by omega)
  intro h1 kc kn l6 l7 l8 l9 f1 g1 q1 q2
  refine J_aload_n (by rfl) (by rfl) dL_isWell_29 ?_
  refine J_iload_n (by rfl) dL_isWell_30 ?_
  refine J_iload (by rfl) dL_isWell_31 ?_
  refine J_SX3v dL_isWell_33 s_L_232 m_L_distance rfl (l_distance hi hj I g1 (fun h2 f2 g2 => (jKv_i ?_))) (hf := jfit_j (by rfl) (by rfl) (by omega) (by omega))
  have f3 := f1.trans f2
  have g2' := g2
  obtain ⟨ea, fa, lf, ln, tx, cp⟩ := g2
  have c0 := cp.c0
  refine J_istore_6 dL_isWell_36 ?_
  refine J_aload_n (by rfl) (by rfl) dL_isWell_38 ?_
  refine J_iload_n (by rfl) dL_isWell_39 ?_
  refine J_iload (by rfl) dL_isWell_40 ?_
  refine J_V2v (ci := 10) dL_isWell_42 s_L_226 m_X10_hasTrail rfl (by repeat (first | assumption | exact jget_same2 (by (try simp only [List.length_set]); exact jlt (by assumption)) | refine jget_ne (by first | decide | assumption | omega) ?_)) rfl (k_has hi hj I cp (jKv_i ?_)) (hf := jfit_j (by rfl) (by rfl) (by omega) (by omega))
  refine J_istore_7 dL_isWell_45 ?_
  refine J_iload_n (by rfl) dL_isWell_47 ?_
  refine J_iload (by rfl) dL_isWell_48 ?_
  refine J_if_eq_b 63 dL_isWell_50 (by decide) (fun c50 => ?_) (fun c50 => ?_)
  · refine J_iconst (nI 0) (by decide) dL_isWell_63 ?_
    exact m64 h2 _ _ _ _ 0 (by rw [c50]; rfl) f3 g2' (by omega) (by omega)
  · refine J_iload (by rfl) dL_isWell_53 ?_
    refine J_iload_n (by rfl) dL_isWell_55 ?_
    refine J_icmp_ge_n 63 dL_isWell_56 (by decide) (fun c56 => ?_) (fun c56 => ?_)
    · refine J_iconst (nI 0) (by decide) dL_isWell_63 ?_
      exact m64 h2 _ _ _ _ 0 (by rw [decide_eq_false (show ¬ j < i by omega), Bool.and_false]; rfl) f3 g2' (by omega) (by omega)
    · refine J_iconst (nI 1) (by decide) dL_isWell_59 ?_
      refine J_goto 64 dL_isWell_60 (by decide) ?_
      exact m64 h2 _ _ _ _ 1 (by rw [c50, decide_eq_true c56]; rfl) f3 g2' (by omega) (by omega)
/-- all pairs -/
theorem ww_A (I : Inv K s) (g : LC h s sS P ch sv)
    (hk : ∀ h1 kc kn l3 l4 l5 l6 l7 l8 l9, jFr clC h h1 → LC h1 s sS P ch sv → kc ≤ 16128 → kn ≤ 96768 → J G (jR 17 17000 102000) (jFin G Q false 17000 102000) M_L_isWell false kc kn 254 [some (.ref 0), some (.int (nI (mT (wS s)))), some (.int (nI (comps (wS s) (s 0)))), some (.int l3), l4, l5, l6, l7, l8, l9] [] h1) :
    J G (jR 17 17000 102000) (jFin G Q false 17000 102000) M_L_isWell false 0 0 0 [some (.ref 0), none, none, none, none, none, none, none, none, none] [] h := by
  have hn := I.n12
  refine J_iconst (nI 0) (by decide) dL_isWell_0 ?_
  refine J_istore_1 dL_isWell_1 ?_
  refine J_iconst (nI 0) (by decide) dL_isWell_2 ?_
  refine J_istore_2 dL_isWell_3 ?_
  refine J_iconst (nI 0) (by decide) dL_isWell_4 ?_
  refine J_istore_3 dL_isWell_5 ?_
  suffices loop : ∀ i, i ≤ s 0 → ∀ h1 kc kn l4 l5 l6 l7 l8 l9, jFr clC h h1 → LC h1 s sS P ch sv → kc ≤ 1344 * i → kn ≤ 8064 * i → J G (jR 17 17000 102000) (jFin G Q false 17000 102000) M_L_isWell false kc kn 6 [some (.ref 0), some (.int (nI (tC (wS s) i))), some (.int (nI (cnt (lowest (wS s)) i))), some (.int (nI i)), l4, l5, l6, l7, l8, l9] [] h1 by
    exact loop 0 (by omega) h 0 0 _ _ _ _ _ _ jFr.refl g (by omega) (by omega)
  refine up_ind (s 0) (fun i hi ih => ?_)
  intro h1 kc kn l4 l5 l6 l7 l8 l9 f1 g1 q1 q2
  have g1' := g1
  obtain ⟨ea, fa, lf, ln, tx, cp⟩ := g1
  have c0 := cp.c0
  refine J_iload_n (by rfl) dL_isWell_6 ?_
  refine J_aload_n (by rfl) (by rfl) dL_isWell_7 ?_
  refine J_V0v (ci := 10) dL_isWell_8 s_L_184 m_X10_waypoints rfl (by repeat (first | assumption | exact jget_same2 (by (try simp only [List.length_set]); exact jlt (by assumption)) | refine jget_ne (by first | decide | assumption | omega) ?_)) rfl (c_X10_waypoints I cp (jKv_i ?_)) (hf := jfit_j (by rfl) (by rfl) (by omega) (by omega))
  refine J_icmp_ge_n 254 dL_isWell_11 (by decide) (fun c11 => ?_) (fun c11 => ?_)
  · obtain rfl : i = s 0 := by omega
    rw [tC_n I.g]
    exact hk h1 _ _ _ _ _ _ _ _ _ f1 g1' (by omega) (by omega)
  · refine J_iconst (nI 1) (by decide) dL_isWell_14 ?_
    refine J_topi (jb true) (by rfl) ?_
    refine J_istore_4 dL_isWell_15 ?_
    refine J_iconst (nI 0) (by decide) dL_isWell_17 ?_
    refine J_istore_5 dL_isWell_18 ?_
    suffices loopj : ∀ j, j ≤ s 0 → ∀ h2 kc kn l6 l7 l8 l9, jFr clC h h2 → LC h2 s sS P ch sv → kc ≤ 1344 * i + 112 * j → kn ≤ 8064 * i + 672 * j → J G (jR 17 17000 102000) (jFin G Q false 17000 102000) M_L_isWell false kc kn 20 [some (.ref 0), some (.int (nI (tC (wS s) i + cnt (fun q => decide (0 < wS s (i * 12 + q)) && decide (q < i)) j))), some (.int (nI (cnt (lowest (wS s)) i))), some (.int (nI i)), some (.int (jb (fl (wS s) i j))), some (.int (nI j)), l6, l7, l8, l9] [] h2 by
      have h9 := loopj 0 (by omega) h1 _ _ l6 l7 l8 l9 f1 g1' (by omega) (by omega)
      rw [fl_0] at h9
      exact h9
    refine up_ind (s 0) (fun j hj ihj => ?_)
    intro h2 kc kn l6 l7 l8 l9 f2 g2 q3 q4
    have g2' := g2
    obtain ⟨ea2, fa2, lf2, ln2, tx2, cp2⟩ := g2
    have c02 := cp2.c0
    refine J_iload (by rfl) dL_isWell_20 ?_
    refine J_aload_n (by rfl) (by rfl) dL_isWell_22 ?_
    refine J_V0v (ci := 10) dL_isWell_23 s_L_184 m_X10_waypoints rfl (by repeat (first | assumption | exact jget_same2 (by (try simp only [List.length_set]); exact jlt (by assumption)) | refine jget_ne (by first | decide | assumption | omega) ?_)) rfl (c_X10_waypoints I cp2 (jKv_i ?_)) (hf := jfit_j (by rfl) (by rfl) (by omega) (by omega))
    refine J_icmp_ge_n 235 dL_isWell_26 (by decide) (fun c26 => ?_) (fun c26 => ?_)
    · obtain rfl : j = s 0 := by omega
      have m246 : ∀ c, c = (if lowest (wS s) i = true then 1 else 0) → J G (jR 17 17000 102000) (jFin G Q false 17000 102000) M_L_isWell false (kc + 0) (kn + 0) 246 [some (.ref 0), some (.int (nI (tC (wS s) i + cnt (fun q => decide (0 < wS s (i * 12 + q)) && decide (q < i)) (s 0)))), some (.int (nI (cnt (lowest (wS s)) i))), some (.int (nI i)), some (.int (jb (fl (wS s) i (s 0)))), some (.int (nI (s 0))), l6, l7, l8, l9] [.int (nI c), .int (nI (cnt (lowest (wS s)) i))] h2 := by
        intro c hc
        refine J_iadd dL_isWell_246 ?_
        try rw [nI_add]
        refine J_topi (nI (cnt (lowest (wS s)) (i + 1))) (by rw [cnt_s, hc]) ?_
        refine J_istore_2 dL_isWell_247 ?_
        refine J_iinc_3 (nI 1) dL_isWell_248 (by decide) ?_
        try rw [nI_add]
        refine J_goto 6 dL_isWell_251 (by decide) ?_
        rw [cnt_cutn hi, ← tC_s]
        exact ih c11 h2 _ _ _ _ _ _ _ _ f2 g2' (by omega) (by omega)
      rw [fl_n hi] at m246 ⊢
      refine J_iload_n (by rfl) dL_isWell_235 ?_
      refine J_iload (by rfl) dL_isWell_236 ?_
      refine J_if_eq_b 245 dL_isWell_238 (by decide) (fun c238 => ?_) (fun c238 => ?_)
      · refine J_iconst (nI 0) (by decide) dL_isWell_245 ?_
        exact m246 0 (by rw [c238]; rfl)
      · refine J_iconst (nI 1) (by decide) dL_isWell_241 ?_
        refine J_goto 246 dL_isWell_242 (by decide) ?_
        exact m246 1 (by rw [c238]; rfl)
    · have k9 := ihj c26
      clear ih ihj
      have a1 : kc + 112 ≤ 17000 := by omega
      have a2 : kn + 672 ≤ 102000 := by omega
      have b1 : kc + 112 ≤ 1344 * i + 112 * (j + 1) := by omega
      have b2 : kn + 672 ≤ 8064 * i + 672 * (j + 1) := Nat.le_trans (Nat.add_le_add_right q4 672) (Nat.le_of_eq (Nat.add_assoc (8064 * i) (672 * j) 672))
      exact ww_B (h := h) (A := kc) (B := kn) c11 c26 I a1 a2 (fun h3 kc3 kn3 m6 m7 m8 m9 f3 g3 q5 q6 => k9 h3 kc3 kn3 m6 m7 m8 m9 f3 g3 (Nat.le_trans q5 b1) (Nat.le_trans q6 b2)) h2 kc kn l6 l7 l8 l9 f2 g2' (Nat.le_refl _) (Nat.le_refl _)
end WELL
