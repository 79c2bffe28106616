/-! The law: its end, its loop, its entry -/
section LAW2
variable {G G0 : jG} {F : jF} {h h' : jH} {Q : jQ_} {QA : jQG} {K ch i kc kn : Nat} {sv : Bool} {s sS P : Nat → Nat} {l2 l3 l4 : Option Value}
theorem rO_1 (hch : ch ≤ 8) (I : Inv K s) (R : Rt s) (k : ∀ h' s' P' ch' (v : Int), jFr clC h h' → Inv (K + 13) s' → Rt s' → s 0 ≤ s' 0 → ch' ≤ 8 → LC h' s' sS P' ch' sv → -900009 < v → v ≤ 1000 → Q (.inl (some (.int (iI v)))) h') : rO Q h K s sS P ch sv :=
  ⟨fun h' s' v hf I' R' h0 hv g' => by rw [← iI_n v]; exact k h' s' _ _ v hf I' R' h0 (by omega) g' (by omega) (by omega), fun h' v hf a b g' => k h' s _ _ v hf (I.mono (by omega)) R (Nat.le_refl _) hch g' a (by omega)⟩
theorem law_end2 {b : Nat} {z v : Int} (I : Inv K s) (R : Rt s) (hK : K + 100 < 2 ^ 30) (h4w : 4 ≤ s 0) (hch : ch ≤ 8) (r : Rest h) (g : LC h s s P ch true) (hb : 116 ≤ b) (hbl : b < h.length) (b1 : h[b]? = some (ia 220 (SF s))) (hz1 : -4000000 ≤ z) (hz2 : z ≤ 300000) (hv1 : -900009 ≤ v) (hv2 : v ≤ 30000) (hc : kc + 10000 ≤ room_1.cells) (hn : kn + 20000 ≤ room_1.slots)
    (fin : ∀ (G' : jG) kc kn lo (h : jH), gEx 0 G G' → kc ≤ room_1.cells → kn ≤ room_1.slots → J G' room_1 F M_L_law false kc kn 258 lo [.int (nI 1)] h) :
    J G room_1 F M_L_law false kc kn 163 [some (.retAddr 0), some (.ref 0), some (.ref b), some (.int (nI (s 0))), l4] [.int (iI v), .int (iI z)] h := by
  have h0 : 0 < h.length := by omega
  refine J_iadd dL_law_163 ?_
  try rw [nI_add]
  rw [iI_add]
  refine J_istore_4 dL_law_164 ?_
  refine J_aload_n (by rfl) (by rfl) dL_law_166 ?_
  refine J_aload_n (by rfl) (by rfl) dL_law_167 ?_
  refine J_S1vA dL_law_168 s_L_273 m_L_seen rfl (by exact ⟨trivial, h0, hbl, trivial, trivial, trivial⟩) (by exact ⟨hbl, trivial⟩) (l_seen I (g.ok r) r.1 g (fun G2 e2 => (jKv_i fun _ => ?_))) (hf := jfit_k rfl rfl (by omega) (by omega))
  have r2 := Rest.pushA (f := SF s) r (g.ok r)
  have g2 := g.push (c := ia 220 (SF s)) r.1
  have n2 : (h ++ [ia 220 (SF s)]).length = h.length + 1 := push_len
  have b2 : (h ++ [ia 220 (SF s)])[b]? = some (ia 220 (SF s)) := push_lo2 b1
  refine J_S2v dL_law_171 s_L_282 m_L_areAlike rfl (l_areAlike b2 push_at (jKv_i ?_)) (hf := jfit_k rfl rfl (by omega) (by omega))
  refine J_if_ne_b 179 dL_law_174 (by decide) (fun c174 => ?_) (fun c174 => ?_)
  · refine J_iload (by rfl) dL_law_179 ?_
    refine J_aload_n (by rfl) (by rfl) dL_law_181 ?_
    refine J_iconst (nI 2) (by decide) dL_law_182 ?_
    refine J_SX2v dL_law_183 s_L_146 m_L_setMode rfl (l_setMode _ I (by omega) g2 (dQ_r I R hch (by decide) (rO_1 hch I R (fun h3 s3 P3 ch3 v3 f3 I3 R3 t3 c3 g3 x3 y3 => jKv_i ?_)))) (hf := jfit_k rfl rfl (by omega) (by omega))
    refine J_aload_n (by rfl) (by rfl) dL_law_186 ?_
    refine J_iconst (nI 5) (by decide) dL_law_187 ?_
    refine J_SX2v dL_law_188 s_L_148 m_L_charge rfl (l_charge _ I3 (by omega) g3 (dQ_r I3 R3 c3 (by decide) (rO_1 c3 I3 R3 (fun h4 s4 P4 ch4 v4 f4 I4 R4 t4 c4 g4 x4 y4 => jKv_i ?_)))) (hf := jfit_k rfl rfl (by omega) (by omega))
    refine J_iadd dL_law_191 ?_
    try rw [nI_add]
    rw [iI_add]
    refine J_aload_n (by rfl) (by rfl) dL_law_192 ?_
    refine J_iconst (nI 0) (by decide) dL_law_193 ?_
    refine J_iconst (nI 1) (by decide) dL_law_194 ?_
    refine J_SX3v dL_law_195 s_L_115 m_L_startTour rfl (l_startTour _ _ I4 (by omega) g4 (dQ_r I4 R4 c4 (by decide) (rO_1 c4 I4 R4 (fun h5 s5 P5 ch5 v5 f5 I5 R5 t5 c5 g5 x5 y5 => jKv_i ?_)))) (hf := jfit_k rfl rfl (by omega) (by omega))
    refine J_iadd dL_law_198 ?_
    try rw [nI_add]
    rw [iI_add]
    refine J_aload_n (by rfl) (by rfl) dL_law_199 ?_
    refine J_bipush (nI 50) (by decide) dL_law_200 ?_
    refine J_bipush (nI 50) (by decide) dL_law_202 ?_
    refine J_SX3v dL_law_204 s_L_141 m_L_update rfl (l_update _ _ I5 (by omega) g5 (dQ_r I5 R5 c5 (by decide) (rO_1 c5 I5 R5 (fun h6 s6 P6 ch6 v6 f6 I6 R6 t6 c6 g6 x6 y6 => jKv_i ?_)))) (hf := jfit_k rfl rfl (by omega) (by omega))
    refine J_iadd dL_law_207 ?_
    try rw [nI_add]
    rw [iI_add]
    refine J_aload_n (by rfl) (by rfl) dL_law_208 ?_
    refine J_bipush (nI 9) (by decide) dL_law_209 ?_
    refine J_SX2v dL_law_211 s_L_143 m_L_setTolerance rfl (l_setTolerance _ I6 (by omega) g6 (dQ_r I6 R6 c6 (by decide) (rO_1 c6 I6 R6 (fun h7 s7 P7 ch7 v7 f7 I7 R7 t7 c7 g7 x7 y7 => jKv_i ?_)))) (hf := jfit_k rfl rfl (by omega) (by omega))
    have f37 := (((f3.trans f4).trans f5).trans f6).trans f7
    have r7 := r2.cl f37
    have b7 := cl_at f37 hb b2
    have n7 : h7.length = (h ++ [ia 220 (SF s)]).length := f37.1
    refine J_iadd dL_law_214 ?_
    try rw [nI_add]
    rw [iI_add]
    refine J_iadd dL_law_215 ?_
    try rw [nI_add]
    rw [iI_add]
    refine J_istore_4 dL_law_216 ?_
    refine J_iload (by rfl) dL_law_218 ?_
    refine J_ldcI dL_law_220 k_L_118 ?_
    refine J_icmp_le 257 dL_law_222 (by decide) (fun c222 => ?_) (fun c222 => ?_)
    · rw [e9_t] at c222
      exact absurd ((iI_le (by omega) (by omega) (by omega) (by omega)).mp c222) (by omega)
    · refine J_aload_n (by rfl) (by rfl) dL_law_225 ?_
      refine J_SX1v dL_law_226 s_L_296 m_L_restore rfl (l_restore I7 g7 rfl (fun h8 f8 g8 => (jKv_i ?_))) (hf := jfit_k rfl rfl (by omega) (by omega))
      refine J_iload_n (by rfl) dL_law_229 ?_
      have r8 := r7.cl f8
      have b8 := cl_at f8 hb b7
      have n8 : h8.length = h7.length := f8.1
      have u0 : 0 < h8.length := by omega
      have u1 : b < h8.length := by omega
      refine J_icmp_ne 257 dL_law_230 (by decide) (fun c230 => ?_) (fun c230 => ?_)
      · exact absurd rfl c230
      · refine J_aload_n (by rfl) (by rfl) dL_law_233 ?_
        refine J_aload_n (by rfl) (by rfl) dL_law_234 ?_
        refine J_S1vA dL_law_235 s_L_273 m_L_seen rfl (by exact ⟨trivial, u0, u1, trivial, trivial, trivial⟩) (by exact ⟨u1, trivial⟩) (l_seen I (g8.ok r8) r8.1 g8 (fun G9 e9 => (jKv_i fun _ => ?_))) (hf := jfit_k rfl rfl (by omega) (by omega))
        have g9 := g8.push (c := ia 220 (SF s)) r8.1
        refine J_S2v dL_law_238 s_L_282 m_L_areAlike rfl (l_areAlike (push_lo2 b8) push_at (jKv_i ?_)) (hf := jfit_k rfl rfl (by omega) (by omega))
        refine J_if_eq_b 257 dL_law_241 (by decide) (fun c241 => ?_) (fun c241 => ?_)
        · cases c241
        · refine J_aload_n (by rfl) (by rfl) dL_law_244 ?_
          refine J_SX1v dL_law_245 s_L_286 m_L_undo rfl (l_undo I g9 (fun q => absurd q (by omega)) (fun _ => (jKv_i ?_))) (hf := jfit_k rfl rfl (by omega) (by omega))
          refine J_ldcI dL_law_248 k_L_17 ?_
          refine J_icmp_ne 257 dL_law_250 (by decide) (fun c250 => ?_) (fun c250 => ?_)
          · exact absurd rfl c250
          · refine J_iconst (nI 1) (by decide) dL_law_253 ?_
            refine J_goto 258 dL_law_254 (by decide) ?_
            exact fin _ _ _ _ _ (e2.z.trans e9.z (Nat.le_refl _)) (by omega) (by omega)
  · cases c174
theorem law_end (I : Inv K s) (R : Rt s) (hK : K + 100 < 2 ^ 30) (h4w : 4 ≤ s 0) (hch : ch ≤ 8) (r : Rest h) (g : LC h s s00 P ch false) (hl3 : lOk h.length [l3]) (hl4 : lOk h.length [l4]) (hc : kc + 20000 ≤ room_1.cells) (hn : kn + 30000 ≤ room_1.slots)
    (fin : ∀ (G' : jG) kc kn lo (h : jH), gEx 0 G G' → kc ≤ room_1.cells → kn ≤ room_1.slots → J G' room_1 F M_L_law false kc kn 258 lo [.int (nI 1)] h) :
    J G room_1 F M_L_law false kc kn 125 [some (.retAddr 0), some (.ref 0), some (.int (nI i)), l3, l4] [] h := by
  have hl := r.1
  have hn12 := I.n12
  have h0 : 0 < h.length := by omega
  refine J_aload_n (by rfl) (by rfl) dL_law_125 ?_
  refine J_S1vA dL_law_126 s_L_273 m_L_seen rfl (by exact ⟨trivial, h0, trivial, lOk_cons hl3 hl4⟩) (by exact trivial) (l_seen I (g.ok r) hl g (fun G2 e2 => (jKv_i fun _ => ?_))) (hf := jfit_k rfl rfl (by omega) (by omega))
  have r1 := Rest.pushA (f := SF s) r (g.ok r)
  have g1 := g.push (c := ia 220 (SF s)) hl
  have b1 : (h ++ [ia 220 (SF s)])[h.length]? = some (ia 220 (SF s)) := push_at
  have n1 : (h ++ [ia 220 (SF s)]).length = h.length + 1 := push_len
  obtain ⟨ea, fa, lf, ln, tx, cp1⟩ := g1
  have c01 := cp1.c0
  refine J_astore_2 dL_law_129 ?_
  refine J_aload_n (by rfl) (by rfl) dL_law_130 ?_
  refine J_V0v (ci := 10) dL_law_131 s_L_288 m_X10_save rfl (by repeat (first | assumption | exact jget_same2 (by (try simp only [List.length_set]); exact jlt (by assumption)) | refine jget_ne (by first | decide | assumption | omega) ?_)) rfl (c_X10_save I cp1 (fun h2 f2 cp2 => (jKv_i ?_))) (hf := jfit_k rfl rfl (by omega) (by omega))
  refine J_istore_3 dL_law_134 ?_
  have c02 := cp2.c0
  have g2 : LC h2 s s P ch true := ⟨_, _, _, _, _, cp2⟩
  refine J_aload_n (by rfl) (by rfl) dL_law_135 ?_
  refine J_iconst (nI 5) (by decide) dL_law_136 ?_
  refine J_iconst (nI 5) (by decide) dL_law_137 ?_
  refine J_SX3v dL_law_138 s_L_291 m_L_nearest rfl (l_nearest I g2 (fun v1 w1 w2 => (jKv_i ?_))) (hf := jfit_k rfl rfl (by omega) (by omega))
  refine J_aload_n (by rfl) (by rfl) dL_law_141 ?_
  refine J_V0v (ci := 10) dL_law_142 s_L_247 m_X10_writeRoute rfl (by repeat (first | assumption | exact jget_same2 (by (try simp only [List.length_set]); exact jlt (by assumption)) | refine jget_ne (by first | decide | assumption | omega) ?_)) rfl (c_X10_writeRoute I cp2 (fun h3 f3 cp3 => (jKv_i ?_))) (hf := jfit_k rfl rfl (by omega) (by omega))
  have c03 := cp3.c0
  have z3 := routeL_len s lf (s 1)
  have hs1 := I.s1
  refine J_iadd dL_law_145 ?_
  try rw [nI_add]
  refine J_topi (iI (v1 + ((routeL s lf (s 1)).2 : Int))) (by rw [← iI_n, iI_add]) ?_
  refine J_aload_n (by rfl) (by rfl) dL_law_146 ?_
  refine J_iconst (nI 0) (by decide) dL_law_147 ?_
  refine J_V1v (ci := 10) dL_law_148 s_L_293 m_X10_writeTrails rfl (by repeat (first | assumption | exact jget_same2 (by (try simp only [List.length_set]); exact jlt (by assumption)) | refine jget_ne (by first | decide | assumption | omega) ?_)) rfl (c_X10_writeTrails (nI 0) I cp3 (fun _ h4 f4 cp4 => (jKv_i ?_)) (fun q => by rw [isIx_n (show 0 < s 0 by omega) (by omega)] at q; cases q)) (hf := jfit_k rfl rfl (by omega) (by omega))
  have z4 := trailL_len s (routeL s lf (s 1)).1 (nP (nI 0)) (s 0)
  have g4 : LC h4 s s P ch true := ⟨_, _, _, _, _, cp4⟩
  refine J_iadd dL_law_151 ?_
  try rw [nI_add]
  refine J_topi (iI (v1 + ((routeL s lf (s 1)).2 : Int) + ((trailL s (routeL s lf (s 1)).1 (nP (nI 0)) (s 0)).2 : Int))) (by rw [← iI_n, iI_add]) ?_
  refine J_aload_n (by rfl) (by rfl) dL_law_152 ?_
  refine J_iconst (nI 0) (by decide) dL_law_153 ?_
  refine J_iconst (nI 1) (by decide) dL_law_154 ?_
  refine J_SX3v dL_law_155 s_L_232 m_L_distance rfl (l_distance (i := 0) (j := 1) (by omega) (by omega) I g4 (fun h5 f5 g5 => (jKv_i ?_))) (hf := jfit_k rfl rfl (by omega) (by omega))
  have z5 := fD_b (wS s) 0 1
  refine J_iadd dL_law_158 ?_
  try rw [nI_add]
  refine J_topi (iI (v1 + ((routeL s lf (s 1)).2 : Int) + ((trailL s (routeL s lf (s 1)).1 (nP (nI 0)) (s 0)).2 : Int) + fD (wS s) 0 1)) (iI_add _ _) ?_
  have f25 := ((f2.trans f3).trans f4).trans f5
  have r5 := r1.cl f25
  have b5 := cl_at f25 hl b1
  have n5 : h5.length = (h ++ [ia 220 (SF s)]).length := f25.1
  refine J_aload_n (by rfl) (by rfl) dL_law_159 ?_
  refine J_SX1v dL_law_160 s_L_245 m_L_drift rfl (l_drift I g5 (fun ht h6 rr f6 g6 hr => jKv_i ?_) (fun _ => jKv_i ?_)) (hf := jfit_k rfl rfl (by omega) (by omega))
  · obtain ⟨t1, t2, t3, t4, t5, t6, t7⟩ := I.t ht
    have ta := t7 (s 2) t4
    have tb := t7 (s 2 - 1) (by omega)
    have pa := I.p (aimS s) (by unfold aimS; omega)
    have pb := I.p (begS s) (by unfold begS; omega)
    have hrr : rr ≤ 20000 := drift_r (by omega) (by omega) (by omega) (by omega) hr
    refine J_topi (iI (rr : Int)) (iI_n rr).symm ?_
    have n6 : h6.length = h5.length := f6.1
    exact law_end2 I R hK h4w hch (r5.cl f6) g6 hl (by omega) (cl_at f6 hl b5) (by omega) (by omega) (by omega) (by omega) (by omega) (by omega) (fun G' kc kn lo h e a b => fin G' kc kn lo h (e2.z.trans e (Nat.le_refl _)) a b)
  · refine J_topi (iI (-900001)) e9_1 ?_
    exact law_end2 I R hK h4w hch r5 g5 hl (by omega) b5 (by omega) (by omega) (by decide) (by decide) (by omega) (by omega) (fun G' kc kn lo h e a b => fin G' kc kn lo h (e2.z.trans e (Nat.le_refl _)) a b)
theorem law_main (hL : g_L G0 ≤ 260)
    (fin : ∀ (G' : jG) kc kn lo (h : jH), gEx 0 G0 G' → kc ≤ room_1.cells → kn ≤ room_1.slots → J G' room_1 F M_L_law false kc kn 258 lo [.int (nI 1)] h) :
    ∀ i, i ≤ 8 → ∀ (G : jG) h s P ch l3 l4 kc kn, gEx 0 G0 G → Rest h → Inv (320 + 13 * i) s → Rt s → 4 ≤ s 0 → ch ≤ 8 → LC h s s00 P ch false → lOk h.length [l3] → lOk h.length [l4] → kc ≤ 20000 + 20000 * i → kn ≤ 110000 + 190000 * i → J G room_1 F M_L_law false kc kn 20 [some (.retAddr 0), some (.ref 0), some (.int (nI i)), l3, l4] [] h := by
  have rc : room_1.cells = 1200390 := rfl
  have rs : room_1.slots = 5490680 := rfl
  refine up_ind 8 (fun i hi ih => ?_)
  intro G h s P ch l3 l4 kc kn e r I R h4 hch g hl3 hl4 q1 q2
  refine J_iload_n (by rfl) dL_law_20 ?_
  refine J_bipush (nI 8) (by decide) dL_law_21 ?_
  refine J_icmp_ge_n 125 dL_law_23 (by decide) (fun c23 => ?_) (fun c23 => ?_)
  · exact law_end I R (by omega) h4 hch r g hl3 hl4 (by omega) (by omega) (fun G' kc kn lo h e' a b => fin G' kc kn lo h (e.trans e' (Nat.le_refl _)) a b)
  · have a1 : kc + 20000 ≤ 20000 + 20000 * (i + 1) := by omega
    have a2 : kn + 190000 ≤ 110000 + 190000 * (i + 1) := Nat.le_trans (Nat.add_le_add_right q2 190000) (Nat.le_of_eq (Nat.add_assoc 110000 (190000 * i) 190000))
    refine law_it (by rw [e.L]; exact hL) c23 I R (by omega) h4 hch r g hl3 hl4 (by omega) (by omega) (fun G' h' s' P' ch' l3 l4 kc' kn' e' r' I' R' h4' hch' g' hl3' hl4' b1 b2 => ?_)
    exact ih c23 G' h' s' P' ch' l3 l4 kc' kn' (e.trans e' (Nat.le_refl _)) r' (I'.mono (by omega)) R' h4' hch' g' hl3' hl4' (Nat.le_trans b1 a1) (Nat.le_trans b2 a2)
theorem law_entry (hL : g_L G ≤ 260)
    (fin : ∀ (G' : jG) kc kn lo (h : jH), gEx 0 G G' → kc ≤ room_1.cells → kn ≤ room_1.slots → J G' room_1 F M_L_law false kc kn 258 lo [.int (nI 1)] h) :
    J G room_1 F M_L_law true 0 0 0 [some (.retAddr 0), none, none, none, none] [] [] := by
  have rc : room_1.cells = 1200390 := rfl
  have rs : room_1.slots = 5490680 := rfl
  refine J_aload_n (by rfl) (by rfl) dL_law_0 ?_
  refine J_callS2 (as := [.retAddr 0]) (st := []) (Q := jKv fun r h' => J G room_1 F M_L_law false (0 + 150) (0 + 3000) (1 + 3) [some (.retAddr 0), none, none, none, none] [r] h') dL_law_1 s_L_265 m_L_begun rfl (by decide +kernel) (by exact Nat.le_of_ble_eq_true rfl) (l_begun hL (fun h1 s P ch l1 I R h4 hch g => jKv_i ?_)) (fun r h' q => by cases r with | none => exact q.elim | some v => exact q) (fun E h' q => q.elim)
  have r1 : Rest h1 := ⟨by omega, fun j c hj hc => absurd (jlt hc) (by omega)⟩
  refine J_astore_1 dL_law_4 ?_
  refine J_aload_n (by rfl) (by rfl) dL_law_5 ?_
  refine J_ifnull dL_law_6 ?_
  refine J_aload_n (by rfl) (by rfl) dL_law_9 ?_
  refine J_S1v dL_law_10 s_L_269 m_L_isWell rfl (l_isWell I R g (fun h2 f2 g2 => (jKv_i ?_))) (hf := jfit_k rfl rfl (by omega) (by omega))
  refine J_if_ne_b 18 dL_law_13 (by decide) (fun c13 => ?_) (fun c13 => ?_)
  · refine J_iconst (nI 0) (by decide) dL_law_18 ?_
    refine J_istore_2 dL_law_19 ?_
    exact law_main hL fin 0 (by omega) G h2 s P ch none none _ _ (gEx.refl _ _) (r1.cl f2) I R h4 hch g2 trivial trivial (by decide) (by decide)
  · cases c13
end LAW2
