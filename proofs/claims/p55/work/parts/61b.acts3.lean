/-! The law's acts: all of them -/
section ACTS2
variable {G : jG} {X : Bool} {h : jH} {Q : jQ_} {QA : jQG} {K ch : Nat} {sv : Bool} {s sS P : Nat → Nat}
theorem l_acts {i : Nat} (hi : i + 3 < 1000) (hL : g_L G ≤ 260) (I : Inv K s) (R : Rt s) (hK : K + 20 < 2 ^ 30) (hch : ch ≤ 8) (r : Rest h) (g : LC h s sS P ch sv) (o : aO QA G h K s sS P ch sv) : jCTA G M_L_acts 12 150 70000 [.ref 0, .retAddr 0, .int (nI i)] h QA := by
  have hn := I.n12
  have hK2 : K < 2 ^ 30 := by omega
  refine jCTA_of [some (.ref 0), some (.retAddr 0), some (.int (nI i)), none, none, none] 3 rfl (by decide +kernel) rfl rfl ?_
  have rr : ∀ {kc kn pc : Nat} {lo : List (Option Value)}, decode (m_c M_L_acts) pc = .ok (.ireturn, 1) → kc ≤ 150 → kn ≤ 70000 → rO (jKv fun r h' => J G (jR 12 150 70000) (jFinA G h.length QA 150 70000) M_L_acts false kc kn pc lo (r :: []) h') h K s sS P ch sv := fun hd h1 h2 => rO_k (gEx.refl _ _) (kpx.refl r) o (fun v h' q => J_iretA (gEx.refl _ _) hd rfl q h1 h2)
  refine J_aload_n (by rfl) (by rfl) dL_acts_0 ?_
  refine J_iload_n (by rfl) dL_acts_1 ?_
  refine J_iconst (nI 1) (by decide) dL_acts_2 ?_
  refine J_iadd dL_acts_3 ?_
  try rw [nI_add]
  refine J_bipush (nI 9) (by decide) dL_acts_4 ?_
  refine J_S3v dL_acts_6 s_L_106 m_L_in rfl (l_in (by omega) hL (by decide) (by decide) (fun a ha => (jKv_i ?_)))
  refine J_istore_3 dL_acts_9 ?_
  refine J_aload_n (by rfl) (by rfl) dL_acts_10 ?_
  refine J_iload_n (by rfl) dL_acts_11 ?_
  refine J_iconst (nI 2) (by decide) dL_acts_12 ?_
  refine J_iadd dL_acts_13 ?_
  try rw [nI_add]
  refine J_bipush (nI 9) (by decide) dL_acts_14 ?_
  refine J_S3v dL_acts_16 s_L_106 m_L_in rfl (l_in (by omega) hL (by decide) (by decide) (fun b hb => (jKv_i ?_)))
  refine J_istore_4 dL_acts_19 ?_
  refine J_aload_n (by rfl) (by rfl) dL_acts_21 ?_
  refine J_iload_n (by rfl) dL_acts_22 ?_
  refine J_iconst (nI 3) (by decide) dL_acts_23 ?_
  refine J_iadd dL_acts_24 ?_
  try rw [nI_add]
  refine J_bipush (nI 40) (by decide) dL_acts_25 ?_
  refine J_S3v dL_acts_27 s_L_106 m_L_in rfl (l_in (by omega) hL (by decide) (by decide) (fun c hc => (jKv_i ?_)))
  refine J_istore_5 dL_acts_30 ?_
  refine J_aload_n (by rfl) (by rfl) dL_acts_32 ?_
  refine J_iload_n (by rfl) dL_acts_33 ?_
  refine J_bipush (nI 22) (by decide) dL_acts_34 ?_
  refine J_S3v dL_acts_36 s_L_106 m_L_in rfl (l_in (by omega) hL (by decide) (by decide) (fun t ht => (jKv_i ?_)))
  have g0 := g
  obtain ⟨ea, fa, lf, ln, tx, cp⟩ := g0
  have c0 := cp.c0
  have t124 : J G (jR 12 150 70000) (jFinA G h.length QA 150 70000) M_L_acts false 0 0 124 [some (.ref 0), some (.retAddr 0), some (.int (nI i)), some (.int (nI a)), some (.int (nI b)), some (.int (nI c))] [] h := by
    refine J_aload_n (by rfl) (by rfl) dL_acts_124 ?_
    refine J_iconst (nI 3) (by decide) dL_acts_125 ?_
    refine J_iload (by rfl) dL_acts_126 ?_
    refine J_imul dL_acts_128 ?_
    try rw [pk_mul]
    refine J_iconst (nI 5) (by decide) dL_acts_129 ?_
    refine J_isub dL_acts_130 ?_
    refine J_bipush (nI 11) (by decide) dL_acts_131 ?_
    refine J_iload_n (by rfl) dL_acts_133 ?_
    refine J_imul dL_acts_134 ?_
    try rw [pk_mul]
    refine J_iload (by rfl) dL_acts_135 ?_
    refine J_iconst (nI 1) (by decide) dL_acts_137 ?_
    refine J_iadd dL_acts_138 ?_
    try rw [nI_add]
    exact J_SX4v dL_acts_139 s_L_110 m_L_addWaypoint rfl (l_addWaypoint _ _ _ I hK2 g (dQ_r I R hch (by decide) (rr dL_acts_142 (by decide) (by decide))))
  have t143 : J G (jR 12 150 70000) (jFinA G h.length QA 150 70000) M_L_acts false 0 0 143 [some (.ref 0), some (.retAddr 0), some (.int (nI i)), some (.int (nI a)), some (.int (nI b)), some (.int (nI c))] [] h := by
    refine J_aload_n (by rfl) (by rfl) dL_acts_143 ?_
    refine J_iload_n (by rfl) dL_acts_144 ?_
    refine J_iload (by rfl) dL_acts_145 ?_
    refine J_iload (by rfl) dL_acts_147 ?_
    exact J_SX4v dL_acts_149 s_L_113 m_L_addTrail rfl (l_addTrail _ _ _ I hK2 g (dQ_r I R hch (by decide) (rr dL_acts_152 (by decide) (by decide))))
  have t153 : J G (jR 12 150 70000) (jFinA G h.length QA 150 70000) M_L_acts false 0 0 153 [some (.ref 0), some (.retAddr 0), some (.int (nI i)), some (.int (nI a)), some (.int (nI b)), some (.int (nI c))] [] h := by
    refine J_aload_n (by rfl) (by rfl) dL_acts_153 ?_
    refine J_iload_n (by rfl) dL_acts_154 ?_
    refine J_iload (by rfl) dL_acts_155 ?_
    exact J_SX3v dL_acts_157 s_L_119 m_L_removeTrail rfl (l_removeTrail _ _ I hK2 g (dQ_r I R hch (by decide) (rr dL_acts_160 (by decide) (by decide))))
  have t161 : J G (jR 12 150 70000) (jFinA G h.length QA 150 70000) M_L_acts false 0 0 161 [some (.ref 0), some (.retAddr 0), some (.int (nI i)), some (.int (nI a)), some (.int (nI b)), some (.int (nI c))] [] h := by
    refine J_aload_n (by rfl) (by rfl) dL_acts_161 ?_
    refine J_iload_n (by rfl) dL_acts_162 ?_
    refine J_iload (by rfl) dL_acts_163 ?_
    exact J_SX3v dL_acts_165 s_L_115 m_L_startTour rfl (l_startTour _ _ I hK2 g (dQ_r I R hch (by decide) (rr dL_acts_168 (by decide) (by decide))))
  have t169 : J G (jR 12 150 70000) (jFinA G h.length QA 150 70000) M_L_acts false 0 0 169 [some (.ref 0), some (.retAddr 0), some (.int (nI i)), some (.int (nI a)), some (.int (nI b)), some (.int (nI c))] [] h := by
    refine J_aload_n (by rfl) (by rfl) dL_acts_169 ?_
    exact J_SX1v dL_acts_170 s_L_121 m_L_stopTour rfl (l_stopTour I hK2 g (dQ_r I R hch (by decide) (rr dL_acts_173 (by decide) (by decide))))
  have t233 : J G (jR 12 150 70000) (jFinA G h.length QA 150 70000) M_L_acts false 0 0 233 [some (.ref 0), some (.retAddr 0), some (.int (nI i)), some (.int (nI a)), some (.int (nI b)), some (.int (nI c))] [] h := by
    refine J_aload_n (by rfl) (by rfl) dL_acts_233 ?_
    refine J_iconst (nI 3) (by decide) dL_acts_234 ?_
    refine J_iload (by rfl) dL_acts_235 ?_
    refine J_imul dL_acts_237 ?_
    try rw [pk_mul]
    refine J_iconst (nI 4) (by decide) dL_acts_238 ?_
    refine J_isub dL_acts_239 ?_
    refine J_bipush (nI 11) (by decide) dL_acts_240 ?_
    refine J_iload_n (by rfl) dL_acts_242 ?_
    refine J_imul dL_acts_243 ?_
    try rw [pk_mul]
    exact J_SX3v dL_acts_244 s_L_141 m_L_update rfl (l_update _ _ I hK2 g (dQ_r I R hch (by decide) (rr dL_acts_247 (by decide) (by decide))))
  have t174 : J G (jR 12 150 70000) (jFinA G h.length QA 150 70000) M_L_acts false 0 0 174 [some (.ref 0), some (.retAddr 0), some (.int (nI i)), some (.int (nI a)), some (.int (nI b)), some (.int (nI c))] [] h := by
    refine J_aload_n (by rfl) (by rfl) dL_acts_174 ?_
    refine J_V0v (ci := 10) dL_acts_175 s_L_123 m_X10_isTouring rfl (by repeat (first | assumption | exact jget_same2 (by (try simp only [List.length_set]); exact jlt (by assumption)) | refine jget_ne (by first | decide | assumption | omega) ?_)) rfl (c_X10_isTouring I cp (jKv_i ?_))
    refine J_if_eq_b 233 dL_acts_178 (by decide) (fun c178 => ?_) (fun c178 => ?_)
    · exact t233
    · have h0 : 0 < s 1 := of_decide_eq_true c178
      obtain ⟨t1, t2, t3, t4, t5, t6, t7⟩ := I.t h0
      have hta : aimS s < s 0 := t7 _ t4
      refine J_iload (by rfl) dL_acts_181 ?_
      refine J_iconst (nI 4) (by decide) dL_acts_183 ?_
      refine J_irem_n (by omega) (by omega) (by omega) dL_acts_184 ?_
      refine J_if_le_n 233 dL_acts_185 (by decide) (fun c185 => ?_) (fun c185 => ?_)
      · exact t233
      · refine J_aload_n (by rfl) (by rfl) dL_acts_188 ?_
        refine J_iconst (nI 0) (by decide) dL_acts_189 ?_
        refine J_aload_n (by rfl) (by rfl) dL_acts_190 ?_
        refine J_aload_n (by rfl) (by rfl) dL_acts_191 ?_
        refine J_V0v (ci := 10) dL_acts_192 s_L_60 m_X10_target rfl (by repeat (first | assumption | exact jget_same2 (by (try simp only [List.length_set]); exact jlt (by assumption)) | refine jget_ne (by first | decide | assumption | omega) ?_)) rfl (k_target h0 I cp (jKv_i ?_))
        refine J_V1v (ci := 10) dL_acts_195 s_L_127 m_X10_waypointX rfl (by repeat (first | assumption | exact jget_same2 (by (try simp only [List.length_set]); exact jlt (by assumption)) | refine jget_ne (by first | decide | assumption | omega) ?_)) rfl (k_wx hta I cp (jKv_i ?_))
        refine J_iload_n (by rfl) dL_acts_198 ?_
        refine J_iadd dL_acts_199 ?_
        try rw [nI_add]
        refine J_iconst (nI 4) (by decide) dL_acts_200 ?_
        refine J_isub dL_acts_201 ?_
        refine J_mmax dL_acts_202 s_L_130 ?_
        refine J_iconst (nI 0) (by decide) dL_acts_205 ?_
        refine J_bipush (nI 99) (by decide) dL_acts_206 ?_
        refine J_aload_n (by rfl) (by rfl) dL_acts_208 ?_
        refine J_aload_n (by rfl) (by rfl) dL_acts_209 ?_
        refine J_V0v (ci := 10) dL_acts_210 s_L_60 m_X10_target rfl (by repeat (first | assumption | exact jget_same2 (by (try simp only [List.length_set]); exact jlt (by assumption)) | refine jget_ne (by first | decide | assumption | omega) ?_)) rfl (k_target h0 I cp (jKv_i ?_))
        refine J_V1v (ci := 10) dL_acts_213 s_L_135 m_X10_waypointY rfl (by repeat (first | assumption | exact jget_same2 (by (try simp only [List.length_set]); exact jlt (by assumption)) | refine jget_ne (by first | decide | assumption | omega) ?_)) rfl (k_wy hta I cp (jKv_i ?_))
        refine J_iload (by rfl) dL_acts_216 ?_
        refine J_iadd dL_acts_218 ?_
        try rw [nI_add]
        refine J_iconst (nI 4) (by decide) dL_acts_219 ?_
        refine J_isub dL_acts_220 ?_
        refine J_mmin dL_acts_221 s_L_138 ?_
        refine J_mmax dL_acts_224 s_L_130 ?_
        exact J_SX3v dL_acts_227 s_L_141 m_L_update rfl (l_update _ _ I hK2 g (dQ_r I R hch (by decide) (rO_k (gEx.refl _ _) (kpx.refl r) o (fun v h' q => J_goto 247 dL_acts_230 (by decide) (J_iretA (gEx.refl _ _) dL_acts_247 rfl q (by decide) (by decide))))))
  have t248 : J G (jR 12 150 70000) (jFinA G h.length QA 150 70000) M_L_acts false 0 0 248 [some (.ref 0), some (.retAddr 0), some (.int (nI i)), some (.int (nI a)), some (.int (nI b)), some (.int (nI c))] [] h := by
    refine J_aload_n (by rfl) (by rfl) dL_acts_248 ?_
    refine J_iload (by rfl) dL_acts_249 ?_
    refine J_iconst (nI 2) (by decide) dL_acts_251 ?_
    refine J_isub dL_acts_252 ?_
    exact J_SX2v dL_acts_253 s_L_143 m_L_setTolerance rfl (l_setTolerance _ I hK2 g (dQ_r I R hch (by decide) (rr dL_acts_256 (by decide) (by decide))))
  have t257 : J G (jR 12 150 70000) (jFinA G h.length QA 150 70000) M_L_acts false 0 0 257 [some (.ref 0), some (.retAddr 0), some (.int (nI i)), some (.int (nI a)), some (.int (nI b)), some (.int (nI c))] [] h := by
    refine J_aload_n (by rfl) (by rfl) dL_acts_257 ?_
    refine J_iload_n (by rfl) dL_acts_258 ?_
    refine J_iconst (nI 4) (by decide) dL_acts_259 ?_
    refine J_irem_n (by omega) (by omega) (by omega) dL_acts_260 ?_
    exact J_SX2v dL_acts_261 s_L_146 m_L_setMode rfl (l_setMode _ I hK2 g (dQ_r I R hch (by decide) (rr dL_acts_264 (by decide) (by decide))))
  have t265 : J G (jR 12 150 70000) (jFinA G h.length QA 150 70000) M_L_acts false 0 0 265 [some (.ref 0), some (.retAddr 0), some (.int (nI i)), some (.int (nI a)), some (.int (nI b)), some (.int (nI c))] [] h := by
    refine J_aload_n (by rfl) (by rfl) dL_acts_265 ?_
    refine J_bipush (nI 25) (by decide) dL_acts_266 ?_
    refine J_iload (by rfl) dL_acts_268 ?_
    refine J_imul dL_acts_270 ?_
    try rw [pk_mul]
    exact J_SX2v dL_acts_271 s_L_148 m_L_charge rfl (l_charge _ I hK2 g (dQ_r I R hch (by decide) (rr dL_acts_274 (by decide) (by decide))))
  have t275 : J G (jR 12 150 70000) (jFinA G h.length QA 150 70000) M_L_acts false 0 0 275 [some (.ref 0), some (.retAddr 0), some (.int (nI i)), some (.int (nI a)), some (.int (nI b)), some (.int (nI c))] [] h := l_text ha hb hc I R hK hch r g o
  rcases Nat.lt_or_ge t 18 with q | q
  · rcases (show t = 0 ∨ t = 1 ∨ t = 2 ∨ t = 3 ∨ t = 4 ∨ t = 5 ∨ t = 6 ∨ t = 7 ∨ t = 8 ∨ t = 9 ∨ t = 10 ∨ t = 11 ∨ t = 12 ∨ t = 13 ∨ t = 14 ∨ t = 15 ∨ t = 16 ∨ t = 17 by omega) with rfl | rfl | rfl | rfl | rfl | rfl | rfl | rfl | rfl | rfl | rfl | rfl | rfl | rfl | rfl | rfl | rfl | rfl
    · exact J_tableIn (off := 85) 124 dL_acts_39 (by decide) (by decide) (by decide) (by decide) t124
    · exact J_tableIn (off := 104) 143 dL_acts_39 (by decide) (by decide) (by decide) (by decide) t143
    · exact J_tableIn (off := 104) 143 dL_acts_39 (by decide) (by decide) (by decide) (by decide) t143
    · exact J_tableIn (off := 104) 143 dL_acts_39 (by decide) (by decide) (by decide) (by decide) t143
    · exact J_tableIn (off := 114) 153 dL_acts_39 (by decide) (by decide) (by decide) (by decide) t153
    · exact J_tableIn (off := 114) 153 dL_acts_39 (by decide) (by decide) (by decide) (by decide) t153
    · exact J_tableIn (off := 122) 161 dL_acts_39 (by decide) (by decide) (by decide) (by decide) t161
    · exact J_tableIn (off := 122) 161 dL_acts_39 (by decide) (by decide) (by decide) (by decide) t161
    · exact J_tableIn (off := 122) 161 dL_acts_39 (by decide) (by decide) (by decide) (by decide) t161
    · exact J_tableIn (off := 130) 169 dL_acts_39 (by decide) (by decide) (by decide) (by decide) t169
    · exact J_tableIn (off := 135) 174 dL_acts_39 (by decide) (by decide) (by decide) (by decide) t174
    · exact J_tableIn (off := 135) 174 dL_acts_39 (by decide) (by decide) (by decide) (by decide) t174
    · exact J_tableIn (off := 135) 174 dL_acts_39 (by decide) (by decide) (by decide) (by decide) t174
    · exact J_tableIn (off := 135) 174 dL_acts_39 (by decide) (by decide) (by decide) (by decide) t174
    · exact J_tableIn (off := 135) 174 dL_acts_39 (by decide) (by decide) (by decide) (by decide) t174
    · exact J_tableIn (off := 209) 248 dL_acts_39 (by decide) (by decide) (by decide) (by decide) t248
    · exact J_tableIn (off := 218) 257 dL_acts_39 (by decide) (by decide) (by decide) (by decide) t257
    · exact J_tableIn (off := 226) 265 dL_acts_39 (by decide) (by decide) (by decide) (by decide) t265
  · exact J_tableOut 275 dL_acts_39 (.inr (by rw [nI_toInt (by omega)]; omega)) (by decide) t275
end ACTS2
