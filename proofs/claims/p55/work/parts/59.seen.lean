/-! What the law sees of the class: an array of its numbers -/
def b13 (s : Nat → Nat) (a b c d : Nat) : Nat → Nat := updN (updN (updN (updN (updN (updN (updN (updN (updN (updN (updN (updN (updN (fun _ => 0) 0 (s 0)) 1 (mT (wS s))) 2 (s 6)) 3 (s 7)) 4 (s 8)) 5 (s 9)) 6 (s 10)) 7 (s 11)) 8 (s 5)) 9 a) 10 b) 11 c) 12 d
def rtL (s : Nat → Nat) (f : Nat → Nat) : Nat → Nat → Nat
  | 0 => f
  | k + 1 => updN (rtL s f k) (14 + k) (s (192 + k))
def tlL (s : Nat → Nat) (k : Nat) (f : Nat → Nat) : Nat → Nat → Nat
  | 0 => f
  | j + 1 => updN (tlL s k f j) (70 + k * (k - 1) / 2 + j) (wS s (k * 12 + j))
def wpL (s : Nat → Nat) (f : Nat → Nat) : Nat → Nat → Nat
  | 0 => f
  | k + 1 => tlL s k (updN (updN (updN (wpL s f k) (30 + 3 * k) (pX s k)) (31 + 3 * k) (pY s k)) (32 + 3 * k) (pR s k)) k
def SF (s : Nat → Nat) : Nat → Nat := wpL s (rtL s (b13 s (s 1) (if 0 < s 1 then aimS s else 0) (if 0 < s 1 then s 3 else 0) (if 0 < s 1 then s 4 else 0)) (s 1)) (s 0)
theorem rtL_lo {s f : Nat → Nat} {q : Nat} (hq : q < 14) : ∀ k, rtL s f k q = f q
  | 0 => rfl
  | k + 1 => by
    show updN (rtL s f k) (14 + k) _ q = f q
    rw [updN_n (by omega), rtL_lo hq k]
theorem b13_9 {s : Nat → Nat} {a b c d : Nat} : b13 s a b c d 9 = a := by
  unfold b13
  rw [updN_n (by decide), updN_n (by decide), updN_n (by decide), updN_s]
theorem push_set {h : jH} {c d : jC} : (h ++ [c]).set h.length d = h ++ [d] := by simp
section SEEN
variable {G : jG} {X : Bool} {h : jH} {QA : jQG} {K ch : Nat} {sv : Bool} {s sS P : Nat → Nat}
theorem J_iastp {R : Room} {F : jF} {M : jM} {kc kn pc v : Nat} {lo : List (Option Value)} {st : List Value} {f : Nat → Nat} {x : Int32} (j : Nat) (hd : decode (m_c M) pc = .ok (.iastore, 1)) (hx : x = nI j) (hj : j < 220) (kk : J G R F M X kc kn (pc + 1) lo st (h ++ [ia 220 (updN f j v)])) : J G R F M X kc kn pc lo (.int (nI v) :: .int x :: .ref h.length :: st) (h ++ [ia 220 f]) :=
  J_iast_n j hd push_at hx hj (by rw [push_set]; exact kk)
theorem l_seen (I : Inv K s) (hh : hOk h) (hl : 116 ≤ h.length) (g : LC h s sS P ch sv) (hQ : ∀ G' : jG, gEx h.length G G' → QA G' (.inl (some (.ref h.length))) (h ++ [ia 220 (SF s)])) : jCTA G M_L_seen 8 800 5000 [.ref 0] h QA := by
  have hn := I.n12
  have hs1 := I.s1
  have ha1 := I.a1
  obtain ⟨ea, fa, lf, ln, tx, cp⟩ := g
  have cpf : ∀ f, CPc (h ++ [ia 220 f]) s sS P ch ea fa sv lf ln tx 0 := fun f => cp.grow (fun j hj => push_lo (by omega))
  refine jCTA_of [some (.ref 0), none, none, none] 3 rfl (by decide +kernel) rfl rfl ?_
  refine J_sipush (nI 220) (by decide) dL_seen_0 ?_
  refine J_newIA 220 dL_seen_3 aw_int rfl hh ⟨by show 0 < h.length; omega, trivial⟩ trivial (by decide) (by decide) (by decide) (fun G1 e1 => ?_)
  show J G1 _ _ _ _ _ _ _ _ _ (h ++ [ia 220 (fun _ => 0)])
  have mT1 : ∀ k, k < s 0 → ∀ f, (∀ kc kn l3, kc ≤ 40 + 58 * k + 58 → kn ≤ 400 + 348 * k + 348 → J G1 (jR 8 800 5000) (jFinA G h.length QA 800 5000) M_L_seen false kc kn 278 [some (.ref 0), some (.ref h.length), some (.int (nI k)), l3] [] (h ++ [ia 220 (tlL s k f k)])) → ∀ j, j ≤ k → ∀ kc kn, kc ≤ 40 + 58 * k + 3 + 5 * j → kn ≤ 400 + 348 * k + 18 + 30 * j → J G1 (jR 8 800 5000) (jFinA G h.length QA 800 5000) M_L_seen false kc kn 234 [some (.ref 0), some (.ref h.length), some (.int (nI k)), some (.int (nI j))] [] (h ++ [ia 220 (tlL s k f j)]) := by
    intro k hk f hend
    have hkk : k * (k - 1) ≤ 11 * 10 := Nat.mul_le_mul (by omega) (by omega)
    refine up_ind k (fun j hj ih => ?_)
    intro kc kn q1 q2
    refine J_iload_n (by rfl) dL_seen_234 ?_
    refine J_iload_n (by rfl) dL_seen_235 ?_
    refine J_icmp_ge_n 278 dL_seen_236 (by decide) (fun c236 => ?_) (fun c236 => ?_)
    · obtain rfl : j = k := by omega
      exact hend _ _ _ (by omega) (by omega)
    · have hst : ∀ kc kn, kc ≤ 40 + 58 * k + 3 + 5 * j + 5 → kn ≤ 400 + 348 * k + 18 + 30 * j + 30 → J G1 (jR 8 800 5000) (jFinA G h.length QA 800 5000) M_L_seen false kc kn 271 [some (.ref 0), some (.ref h.length), some (.int (nI k)), some (.int (nI j))] [.int (nI (wS s (k * 12 + j))), .int (nI (70 + k * (k - 1) / 2 + j)), .ref h.length] (h ++ [ia 220 (tlL s k f j)]) := by
        intro kc kn q1 q2
        refine J_iastp (70 + k * (k - 1) / 2 + j) dL_seen_271 (by rfl) (by omega) ?_
        refine J_iinc_3 (nI 1) dL_seen_272 (by decide) ?_
        try rw [nI_add]
        refine J_goto 234 dL_seen_275 (by decide) ?_
        exact ih c236 kc kn (by omega) (by omega)
      refine J_aload_n (by rfl) (by rfl) dL_seen_239 ?_
      refine J_bipush (nI 70) (by decide) dL_seen_240 ?_
      refine J_iload_n (by rfl) dL_seen_242 ?_
      refine J_iload_n (by rfl) dL_seen_243 ?_
      refine J_iconst (nI 1) (by decide) dL_seen_244 ?_
      refine J_isub_n (by omega) dL_seen_245 ?_
      refine J_imul dL_seen_246 ?_
      try rw [pk_mul]
      refine J_iconst (nI 2) (by decide) dL_seen_247 ?_
      refine J_idiv_n (by omega) (by decide) (by decide) dL_seen_248 ?_
      refine J_iadd dL_seen_249 ?_
      try rw [nI_add]
      refine J_iload_n (by rfl) dL_seen_250 ?_
      refine J_iadd dL_seen_251 ?_
      try rw [nI_add]
      refine J_aload_n (by rfl) (by rfl) dL_seen_252 ?_
      refine J_iload_n (by rfl) dL_seen_253 ?_
      refine J_iload_n (by rfl) dL_seen_254 ?_
      refine J_V2v (ci := 10) dL_seen_255 s_L_226 m_X10_hasTrail rfl ((cpf _).c0) rfl (k_has hk (by omega) I (cpf _) (jKv_i ?_)) (hf := jfit_j (by rfl) (by rfl) (by omega) (by omega))
      refine J_if_eq_b 270 dL_seen_258 (by decide) (fun c258 => ?_) (fun c258 => ?_)
      · have hz : wS s (k * 12 + j) = 0 := by have := of_decide_eq_false c258; omega
        refine J_iconst (nI 0) (by decide) dL_seen_270 ?_
        refine J_topi (nI (wS s (k * 12 + j))) (by rw [hz]) ?_
        exact hst _ _ (by omega) (by omega)
      · refine J_aload_n (by rfl) (by rfl) dL_seen_261 ?_
        refine J_iload_n (by rfl) dL_seen_262 ?_
        refine J_iload_n (by rfl) dL_seen_263 ?_
        refine J_V2v (ci := 10) dL_seen_264 s_L_229 m_X10_trailLength rfl ((cpf _).c0) rfl (k_len hk (by omega) (of_decide_eq_true c258) I (cpf _) (jKv_i ?_)) (hf := jfit_j (by rfl) (by rfl) (by omega) (by omega))
        refine J_goto 271 dL_seen_267 (by decide) ?_
        exact hst _ _ (by omega) (by omega)
  have mW : ∀ k, k ≤ s 0 → ∀ kc kn l3, kc ≤ 40 + 58 * k → kn ≤ 400 + 348 * k → J G1 (jR 8 800 5000) (jFinA G h.length QA 800 5000) M_L_seen false kc kn 185 [some (.ref 0), some (.ref h.length), some (.int (nI k)), l3] [] (h ++ [ia 220 (wpL s (rtL s (b13 s (s 1) (if 0 < s 1 then aimS s else 0) (if 0 < s 1 then s 3 else 0) (if 0 < s 1 then s 4 else 0)) (s 1)) k)]) := by
    refine up_ind (s 0) (fun k hk ih => ?_)
    intro kc kn l3 q1 q2
    refine J_iload_n (by rfl) dL_seen_185 ?_
    refine J_aload_n (by rfl) (by rfl) dL_seen_186 ?_
    refine J_V0v (ci := 10) dL_seen_187 s_L_184 m_X10_waypoints rfl ((cpf _).c0) rfl (c_X10_waypoints I (cpf _) (jKv_i ?_)) (hf := jfit_j (by rfl) (by rfl) (by omega) (by omega))
    refine J_icmp_ge_n 284 dL_seen_190 (by decide) (fun c190 => ?_) (fun c190 => ?_)
    · obtain rfl : k = s 0 := by omega
      refine J_aload_n (by rfl) (by rfl) dL_seen_284 ?_
      exact J_aretA e1 dL_seen_285 rfl (Or.inr ⟨_, rfl⟩) rfl (hQ G1 e1) (by omega) (by omega)
    · refine J_aload_n (by rfl) (by rfl) dL_seen_193 ?_
      refine J_bipush (nI 30) (by decide) dL_seen_194 ?_
      refine J_iconst (nI 3) (by decide) dL_seen_196 ?_
      refine J_iload_n (by rfl) dL_seen_197 ?_
      refine J_imul dL_seen_198 ?_
      try rw [pk_mul]
      refine J_iadd dL_seen_199 ?_
      try rw [nI_add]
      refine J_aload_n (by rfl) (by rfl) dL_seen_200 ?_
      refine J_iload_n (by rfl) dL_seen_201 ?_
      refine J_V1v (ci := 10) dL_seen_202 s_L_127 m_X10_waypointX rfl ((cpf _).c0) rfl (k_wx c190 I (cpf _) (jKv_i ?_)) (hf := jfit_j (by rfl) (by rfl) (by omega) (by omega))
      refine J_iastp (30 + 3 * k) dL_seen_205 (by rfl) (by omega) ?_
      refine J_aload_n (by rfl) (by rfl) dL_seen_206 ?_
      refine J_bipush (nI 31) (by decide) dL_seen_207 ?_
      refine J_iconst (nI 3) (by decide) dL_seen_209 ?_
      refine J_iload_n (by rfl) dL_seen_210 ?_
      refine J_imul dL_seen_211 ?_
      try rw [pk_mul]
      refine J_iadd dL_seen_212 ?_
      try rw [nI_add]
      refine J_aload_n (by rfl) (by rfl) dL_seen_213 ?_
      refine J_iload_n (by rfl) dL_seen_214 ?_
      refine J_V1v (ci := 10) dL_seen_215 s_L_135 m_X10_waypointY rfl ((cpf _).c0) rfl (k_wy c190 I (cpf _) (jKv_i ?_)) (hf := jfit_j (by rfl) (by rfl) (by omega) (by omega))
      refine J_iastp (31 + 3 * k) dL_seen_218 (by rfl) (by omega) ?_
      refine J_aload_n (by rfl) (by rfl) dL_seen_219 ?_
      refine J_bipush (nI 32) (by decide) dL_seen_220 ?_
      refine J_iconst (nI 3) (by decide) dL_seen_222 ?_
      refine J_iload_n (by rfl) dL_seen_223 ?_
      refine J_imul dL_seen_224 ?_
      try rw [pk_mul]
      refine J_iadd dL_seen_225 ?_
      try rw [nI_add]
      refine J_aload_n (by rfl) (by rfl) dL_seen_226 ?_
      refine J_iload_n (by rfl) dL_seen_227 ?_
      refine J_V1v (ci := 10) dL_seen_228 s_L_223 m_X10_radius rfl ((cpf _).c0) rfl (k_wr c190 I (cpf _) (jKv_i ?_)) (hf := jfit_j (by rfl) (by rfl) (by omega) (by omega))
      refine J_iastp (32 + 3 * k) dL_seen_231 (by rfl) (by omega) ?_
      refine J_iconst (nI 0) (by decide) dL_seen_232 ?_
      refine J_istore_3 dL_seen_233 ?_
      refine mT1 k c190 _ (fun kc kn l3 r1 r2 => ?_) 0 (by omega) _ _ (by omega) (by omega)
      refine J_iinc_2 (nI 1) dL_seen_278 (by decide) ?_
      try rw [nI_add]
      refine J_goto 185 dL_seen_281 (by decide) ?_
      exact ih c190 kc kn _ (by omega) (Nat.le_trans r2 (Nat.le_of_eq (Nat.add_assoc 400 (348 * k) 348)))
  have m156 : ∀ kc kn, kc ≤ 6 → kn ≤ 250 → J G1 (jR 8 800 5000) (jFinA G h.length QA 800 5000) M_L_seen false kc kn 156 [some (.ref 0), some (.ref h.length), none, none] [] (h ++ [ia 220 (b13 s (s 1) (if 0 < s 1 then aimS s else 0) (if 0 < s 1 then s 3 else 0) (if 0 < s 1 then s 4 else 0))]) := by
    intro kc kn q1 q2
    refine J_iconst (nI 0) (by decide) dL_seen_156 ?_
    refine J_istore_2 dL_seen_157 ?_
    suffices loop : ∀ i, i ≤ s 1 → ∀ kc kn, kc ≤ 6 + 2 * i → kn ≤ 250 + 12 * i → J G1 (jR 8 800 5000) (jFinA G h.length QA 800 5000) M_L_seen false kc kn 158 [some (.ref 0), some (.ref h.length), some (.int (nI i)), none] [] (h ++ [ia 220 (rtL s (b13 s (s 1) (if 0 < s 1 then aimS s else 0) (if 0 < s 1 then s 3 else 0) (if 0 < s 1 then s 4 else 0)) i)]) by
      exact loop 0 (by omega) kc kn (by omega) (by omega)
    refine up_ind (s 1) (fun i hi ih => ?_)
    intro kc kn q1 q2
    have h9 : rtL s (b13 s (s 1) (if 0 < s 1 then aimS s else 0) (if 0 < s 1 then s 3 else 0) (if 0 < s 1 then s 4 else 0)) i 9 = s 1 := by rw [rtL_lo (by decide), b13_9]
    refine J_iload_n (by rfl) dL_seen_158 ?_
    refine J_aload_n (by rfl) (by rfl) dL_seen_159 ?_
    refine J_bipush (nI 9) (by decide) dL_seen_160 ?_
    refine J_iald_n 9 dL_seen_162 push_at (by rfl) (by decide) ?_
    rw [h9]
    refine J_icmp_ge_n 183 dL_seen_163 (by decide) (fun c163 => ?_) (fun c163 => ?_)
    · obtain rfl : i = s 1 := by omega
      refine J_iconst (nI 0) (by decide) dL_seen_183 ?_
      refine J_istore_2 dL_seen_184 ?_
      exact mW 0 (by omega) kc kn _ (by omega) (by omega)
    · refine J_aload_n (by rfl) (by rfl) dL_seen_166 ?_
      refine J_bipush (nI 14) (by decide) dL_seen_167 ?_
      refine J_iload_n (by rfl) dL_seen_169 ?_
      refine J_iadd dL_seen_170 ?_
      try rw [nI_add]
      refine J_aload_n (by rfl) (by rfl) dL_seen_171 ?_
      refine J_iload_n (by rfl) dL_seen_172 ?_
      refine J_V1v (ci := 10) dL_seen_173 s_L_220 m_X10_routeWaypoint rfl ((cpf _).c0) rfl (k_route (by omega) c163 I (cpf _) (jKv_i ?_)) (hf := jfit_j (by rfl) (by rfl) (by omega) (by omega))
      refine J_iastp (14 + i) dL_seen_176 (by rfl) (by omega) ?_
      refine J_iinc_2 (nI 1) dL_seen_177 (by decide) ?_
      try rw [nI_add]
      refine J_goto 158 dL_seen_180 (by decide) ?_
      exact ih c163 _ _ (by omega) (by omega)
  refine J_astore_1 dL_seen_5 ?_
  refine J_aload_n (by rfl) (by rfl) dL_seen_6 ?_
  refine J_iconst (nI 0) (by decide) dL_seen_7 ?_
  refine J_aload_n (by rfl) (by rfl) dL_seen_8 ?_
  refine J_V0v (ci := 10) dL_seen_9 s_L_184 m_X10_waypoints rfl ((cpf _).c0) rfl (c_X10_waypoints I (cpf _) (jKv_i ?_)) (hf := jfit_j (by rfl) (by rfl) (by omega) (by omega))
  refine J_iastp 0 dL_seen_12 (by rfl) (by decide) ?_
  refine J_aload_n (by rfl) (by rfl) dL_seen_13 ?_
  refine J_iconst (nI 1) (by decide) dL_seen_14 ?_
  refine J_aload_n (by rfl) (by rfl) dL_seen_15 ?_
  refine J_V0v (ci := 10) dL_seen_16 s_L_187 m_X10_trails rfl ((cpf _).c0) rfl (c_X10_trails I (cpf _) (jKv_i ?_)) (hf := jfit_j (by rfl) (by rfl) (by omega) (by omega))
  refine J_iastp 1 dL_seen_19 (by rfl) (by decide) ?_
  refine J_aload_n (by rfl) (by rfl) dL_seen_20 ?_
  refine J_iconst (nI 2) (by decide) dL_seen_21 ?_
  refine J_aload_n (by rfl) (by rfl) dL_seen_22 ?_
  refine J_V0v (ci := 10) dL_seen_23 s_L_190 m_X10_battery rfl ((cpf _).c0) rfl (c_X10_battery I (cpf _) (jKv_i ?_)) (hf := jfit_j (by rfl) (by rfl) (by omega) (by omega))
  refine J_iastp 2 dL_seen_26 (by rfl) (by decide) ?_
  refine J_aload_n (by rfl) (by rfl) dL_seen_27 ?_
  refine J_iconst (nI 3) (by decide) dL_seen_28 ?_
  refine J_aload_n (by rfl) (by rfl) dL_seen_29 ?_
  refine J_V0v (ci := 10) dL_seen_30 s_L_193 m_X10_mode rfl ((cpf _).c0) rfl (c_X10_mode I (cpf _) (jKv_i ?_)) (hf := jfit_j (by rfl) (by rfl) (by omega) (by omega))
  refine J_iastp 3 dL_seen_33 (by rfl) (by decide) ?_
  refine J_aload_n (by rfl) (by rfl) dL_seen_34 ?_
  refine J_iconst (nI 4) (by decide) dL_seen_35 ?_
  refine J_aload_n (by rfl) (by rfl) dL_seen_36 ?_
  refine J_V0v (ci := 10) dL_seen_37 s_L_196 m_X10_tolerance rfl ((cpf _).c0) rfl (c_X10_tolerance I (cpf _) (jKv_i ?_)) (hf := jfit_j (by rfl) (by rfl) (by omega) (by omega))
  refine J_iastp 4 dL_seen_40 (by rfl) (by decide) ?_
  refine J_aload_n (by rfl) (by rfl) dL_seen_41 ?_
  refine J_iconst (nI 5) (by decide) dL_seen_42 ?_
  refine J_aload_n (by rfl) (by rfl) dL_seen_43 ?_
  refine J_V0v (ci := 10) dL_seen_44 s_L_199 m_X10_updates rfl ((cpf _).c0) rfl (c_X10_updates I (cpf _) (jKv_i ?_)) (hf := jfit_j (by rfl) (by rfl) (by omega) (by omega))
  refine J_iastp 5 dL_seen_47 (by rfl) (by decide) ?_
  refine J_aload_n (by rfl) (by rfl) dL_seen_48 ?_
  refine J_bipush (nI 6) (by decide) dL_seen_49 ?_
  refine J_aload_n (by rfl) (by rfl) dL_seen_51 ?_
  refine J_V0v (ci := 10) dL_seen_52 s_L_202 m_X10_alarms rfl ((cpf _).c0) rfl (c_X10_alarms I (cpf _) (jKv_i ?_)) (hf := jfit_j (by rfl) (by rfl) (by omega) (by omega))
  refine J_iastp 6 dL_seen_55 (by rfl) (by decide) ?_
  refine J_aload_n (by rfl) (by rfl) dL_seen_56 ?_
  refine J_bipush (nI 7) (by decide) dL_seen_57 ?_
  refine J_aload_n (by rfl) (by rfl) dL_seen_59 ?_
  refine J_V0v (ci := 10) dL_seen_60 s_L_205 m_X10_reached rfl ((cpf _).c0) rfl (c_X10_reached I (cpf _) (jKv_i ?_)) (hf := jfit_j (by rfl) (by rfl) (by omega) (by omega))
  refine J_iastp 7 dL_seen_63 (by rfl) (by decide) ?_
  have m80 : J G1 (jR 8 800 5000) (jFinA G h.length QA 800 5000) M_L_seen false 1 220 80 [some (.ref 0), some (.ref h.length), none, none] [] (h ++ [ia 220 (updN (updN (updN (updN (updN (updN (updN (updN (updN (fun _ => 0) 0 (s 0)) 1 (mT (wS s))) 2 (s 6)) 3 (s 7)) 4 (s 8)) 5 (s 9)) 6 (s 10)) 7 (s 11)) 8 (s 5))]) := by
    refine J_aload_n (by rfl) (by rfl) dL_seen_80 ?_
    refine J_bipush (nI 9) (by decide) dL_seen_81 ?_
    refine J_aload_n (by rfl) (by rfl) dL_seen_83 ?_
    refine J_V0v (ci := 10) dL_seen_84 s_L_123 m_X10_isTouring rfl ((cpf _).c0) rfl (c_X10_isTouring I (cpf _) (jKv_i ?_)) (hf := jfit_j (by rfl) (by rfl) (by omega) (by omega))
    refine J_if_eq_b 97 dL_seen_87 (by decide) (fun c87 => ?_) (fun c87 => ?_)
    · have hz : ¬ 0 < s 1 := of_decide_eq_false c87
      have hz1 : s 1 = 0 := by omega
      refine J_iconst (nI 0) (by decide) dL_seen_97 ?_
      refine J_topi (nI (s 1)) (by rw [hz1]) ?_
      refine J_iastp 9 dL_seen_98 (by rfl) (by decide) ?_
      refine J_aload_n (by rfl) (by rfl) dL_seen_99 ?_
      refine J_bipush (nI 10) (by decide) dL_seen_100 ?_
      refine J_aload_n (by rfl) (by rfl) dL_seen_102 ?_
      refine J_V0v (ci := 10) dL_seen_103 s_L_123 m_X10_isTouring rfl ((cpf _).c0) rfl (c_X10_isTouring I (cpf _) (jKv_i ?_)) (hf := jfit_j (by rfl) (by rfl) (by omega) (by omega))
      refine J_if_eq_b 116 dL_seen_106 (by decide) (fun c106 => ?_) (fun c106 => ?_)
      · refine J_iconst (nI 0) (by decide) dL_seen_116 ?_
        refine J_iastp 10 dL_seen_117 (by rfl) (by decide) ?_
        refine J_aload_n (by rfl) (by rfl) dL_seen_118 ?_
        refine J_bipush (nI 11) (by decide) dL_seen_119 ?_
        refine J_aload_n (by rfl) (by rfl) dL_seen_121 ?_
        refine J_V0v (ci := 10) dL_seen_122 s_L_123 m_X10_isTouring rfl ((cpf _).c0) rfl (c_X10_isTouring I (cpf _) (jKv_i ?_)) (hf := jfit_j (by rfl) (by rfl) (by omega) (by omega))
        refine J_if_eq_b 135 dL_seen_125 (by decide) (fun c125 => ?_) (fun c125 => ?_)
        · refine J_iconst (nI 0) (by decide) dL_seen_135 ?_
          refine J_iastp 11 dL_seen_136 (by rfl) (by decide) ?_
          refine J_aload_n (by rfl) (by rfl) dL_seen_137 ?_
          refine J_bipush (nI 12) (by decide) dL_seen_138 ?_
          refine J_aload_n (by rfl) (by rfl) dL_seen_140 ?_
          refine J_V0v (ci := 10) dL_seen_141 s_L_123 m_X10_isTouring rfl ((cpf _).c0) rfl (c_X10_isTouring I (cpf _) (jKv_i ?_)) (hf := jfit_j (by rfl) (by rfl) (by omega) (by omega))
          refine J_if_eq_b 154 dL_seen_144 (by decide) (fun c144 => ?_) (fun c144 => ?_)
          · refine J_iconst (nI 0) (by decide) dL_seen_154 ?_
            refine J_iastp 12 dL_seen_155 (by rfl) (by decide) ?_
            have h9 := m156 1 220 (by decide) (by decide)
            rw [if_neg hz, if_neg hz, if_neg hz] at h9
            exact h9
          · exact absurd (of_decide_eq_true c144) hz
        · exact absurd (of_decide_eq_true c125) hz
      · exact absurd (of_decide_eq_true c106) hz
    · have h0 : 0 < s 1 := of_decide_eq_true c87
      refine J_aload_n (by rfl) (by rfl) dL_seen_90 ?_
      refine J_V0v (ci := 10) dL_seen_91 s_L_211 m_X10_routeLength rfl ((cpf _).c0) rfl (k_rlen h0 I (cpf _) (jKv_i ?_)) (hf := jfit_j (by rfl) (by rfl) (by omega) (by omega))
      refine J_goto 98 dL_seen_94 (by decide) ?_
      refine J_iastp 9 dL_seen_98 (by rfl) (by decide) ?_
      refine J_aload_n (by rfl) (by rfl) dL_seen_99 ?_
      refine J_bipush (nI 10) (by decide) dL_seen_100 ?_
      refine J_aload_n (by rfl) (by rfl) dL_seen_102 ?_
      refine J_V0v (ci := 10) dL_seen_103 s_L_123 m_X10_isTouring rfl ((cpf _).c0) rfl (c_X10_isTouring I (cpf _) (jKv_i ?_)) (hf := jfit_j (by rfl) (by rfl) (by omega) (by omega))
      refine J_if_eq_b 116 dL_seen_106 (by decide) (fun c106 => ?_) (fun c106 => ?_)
      · exact absurd h0 (of_decide_eq_false c106)
      · refine J_aload_n (by rfl) (by rfl) dL_seen_109 ?_
        refine J_V0v (ci := 10) dL_seen_110 s_L_60 m_X10_target rfl ((cpf _).c0) rfl (k_target h0 I (cpf _) (jKv_i ?_)) (hf := jfit_j (by rfl) (by rfl) (by omega) (by omega))
        refine J_goto 117 dL_seen_113 (by decide) ?_
        refine J_iastp 10 dL_seen_117 (by rfl) (by decide) ?_
        refine J_aload_n (by rfl) (by rfl) dL_seen_118 ?_
        refine J_bipush (nI 11) (by decide) dL_seen_119 ?_
        refine J_aload_n (by rfl) (by rfl) dL_seen_121 ?_
        refine J_V0v (ci := 10) dL_seen_122 s_L_123 m_X10_isTouring rfl ((cpf _).c0) rfl (c_X10_isTouring I (cpf _) (jKv_i ?_)) (hf := jfit_j (by rfl) (by rfl) (by omega) (by omega))
        refine J_if_eq_b 135 dL_seen_125 (by decide) (fun c125 => ?_) (fun c125 => ?_)
        · exact absurd h0 (of_decide_eq_false c125)
        · refine J_aload_n (by rfl) (by rfl) dL_seen_128 ?_
          refine J_V0v (ci := 10) dL_seen_129 s_L_214 m_X10_hikerX rfl ((cpf _).c0) rfl (k_hx h0 I (cpf _) (jKv_i ?_)) (hf := jfit_j (by rfl) (by rfl) (by omega) (by omega))
          refine J_goto 136 dL_seen_132 (by decide) ?_
          refine J_iastp 11 dL_seen_136 (by rfl) (by decide) ?_
          refine J_aload_n (by rfl) (by rfl) dL_seen_137 ?_
          refine J_bipush (nI 12) (by decide) dL_seen_138 ?_
          refine J_aload_n (by rfl) (by rfl) dL_seen_140 ?_
          refine J_V0v (ci := 10) dL_seen_141 s_L_123 m_X10_isTouring rfl ((cpf _).c0) rfl (c_X10_isTouring I (cpf _) (jKv_i ?_)) (hf := jfit_j (by rfl) (by rfl) (by omega) (by omega))
          refine J_if_eq_b 154 dL_seen_144 (by decide) (fun c144 => ?_) (fun c144 => ?_)
          · exact absurd h0 (of_decide_eq_false c144)
          · refine J_aload_n (by rfl) (by rfl) dL_seen_147 ?_
            refine J_V0v (ci := 10) dL_seen_148 s_L_217 m_X10_hikerY rfl ((cpf _).c0) rfl (k_hy h0 I (cpf _) (jKv_i ?_)) (hf := jfit_j (by rfl) (by rfl) (by omega) (by omega))
            refine J_goto 155 dL_seen_151 (by decide) ?_
            refine J_iastp 12 dL_seen_155 (by rfl) (by decide) ?_
            have h9 := m156 5 244 (by decide) (by decide)
            rw [if_pos h0, if_pos h0, if_pos h0] at h9
            exact h9
  refine J_aload_n (by rfl) (by rfl) dL_seen_64 ?_
  refine J_bipush (nI 8) (by decide) dL_seen_65 ?_
  refine J_aload_n (by rfl) (by rfl) dL_seen_67 ?_
  refine J_V0v (ci := 10) dL_seen_68 s_L_208 m_X10_isAlarm rfl ((cpf _).c0) rfl (c_X10_isAlarm I (cpf _) (jKv_i ?_)) (hf := jfit_j (by rfl) (by rfl) (by omega) (by omega))
  refine J_if_eq_b 78 dL_seen_71 (by decide) (fun c71 => ?_) (fun c71 => ?_)
  · have hz : s 5 = 0 := by have := of_decide_eq_false c71; omega
    refine J_iconst (nI 0) (by decide) dL_seen_78 ?_
    refine J_topi (nI (s 5)) (by rw [hz]) ?_
    refine J_iastp 8 dL_seen_79 (by rfl) (by decide) ?_
    exact m80
  · have hz : s 5 = 1 := of_decide_eq_true c71
    refine J_iconst (nI 1) (by decide) dL_seen_74 ?_
    refine J_goto 79 dL_seen_75 (by decide) ?_
    refine J_topi (nI (s 5)) (by rw [hz]) ?_
    refine J_iastp 8 dL_seen_79 (by rfl) (by decide) ?_
    exact m80
end SEEN
