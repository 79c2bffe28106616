/-! The law's body: the other cases that catch -/
section LAWG
variable {G : jG} {F : jF} {h : jH} {i kc kn K th : Nat} {l6 l7 l8 : Option Value} {f : Nat → Int64} {g : Nat → UInt64}
theorem JI.r116 (q : JI K h th) : ∃ vs, h[116]? = some (.inr (11, vs)) := by
  obtain ⟨s, sc, sm, P, ch, ea, fa, sv, lf, ln, tx, tp, cp, mp, _⟩ := q
  obtain ⟨an8, he8, cm8, W8, F8, C8, m1162, _⟩ := mp
  exact ⟨_, m1162⟩
theorem i2c_nI (x : Int32) : ∃ c, c < 65536 ∧ (x.toUInt32 % 65536).toInt32 = nI c := by
  refine ⟨(x.toUInt32 % 65536).toNat, ?_, ?_⟩
  · rw [UInt32.toNat_mod]; exact Nat.mod_lt _ (by decide)
  · unfold nI
    apply Int32.toBitVec_inj.mp
    apply BitVec.eq_of_toNat_eq
    have h : x.toUInt32.toNat = x.toBitVec.toNat := rfl
    simp
    omega
theorem i32_ge {x : Int32} (h : x = -1 ∨ 0 ≤ x) (h0 : x ≠ -1) : ¬ x < 0 := by
  rcases h with h | h
  · exact absurd h h0
  · intro q
    rw [Int32.le_iff_toInt_le] at h
    rw [Int32.lt_iff_toInt_lt] at q
    omega
theorem lawg_hasTrail (hi : i + 4 ≤ g_L G) (hL : g_L G ≤ 2048) (hc : kc + 10 ≤ room_1.cells) (hn : kn + 60 ≤ room_1.slots) (hK : K < 2 ^ 29) (g1 : JI K h th) (o1 : h[125]? = some (.inl (3, 1, .inr (.inl f)))) (o2 : h[126]? = some (.inl (4, 1, .inr (.inr (.inr (.inl g))))))
    (next : ∀ h' th' f' g' l6 l7 l8, JI (K + 13) h' th' → h'[125]? = some (.inl (3, 1, .inr (.inl f'))) → h'[126]? = some (.inl (4, 1, .inr (.inr (.inr (.inl g'))))) → J G room_1 F M_L_law false (kc + 10) (kn + 60) 2508 [some (.retAddr 0), some (.ref 0), some (.ref 116), some (.ref 125), some (.ref 126), some (.int (nI i)), l6, l7, l8] [] h') :
    J G room_1 F M_L_law false kc kn 1045 [some (.retAddr 0), some (.ref 0), some (.ref 116), some (.ref 125), some (.ref 126), some (.int (nI i)), l6, l7, l8] [] h := by
  obtain ⟨s, sc, sm, P, ch, ea, fa, sv, lf, ln, tx, tp, cp, mp, I, hv, hp, h1', h2', h3, h4, h5, h6, h7⟩ := g1
  have c0 := cp.c0
  refine J_aload_n (by rfl) (by rfl) dL_law_1045 ?_
  refine J_aload_n (by rfl) (by rfl) dL_law_1046 ?_
  refine J_iload (by rfl) dL_law_1047 ?_
  refine J_iconst (nI 1) (by decide) dL_law_1049 ?_
  refine J_iadd dL_law_1050 ?_
  try rw [nI_add]
  refine J_xald (i + 1) dL_law_1051 rfl (by omega) (by omega) ?_
  refine J_aload_n (by rfl) (by rfl) dL_law_1052 ?_
  refine J_iload (by rfl) dL_law_1053 ?_
  refine J_iconst (nI 2) (by decide) dL_law_1055 ?_
  refine J_iadd dL_law_1056 ?_
  try rw [nI_add]
  refine J_xald (i + 2) dL_law_1057 rfl (by omega) (by omega) ?_
  obtain ⟨x, hx⟩ : ∃ x, x = g_S G (i + 1) := ⟨_, rfl⟩
  obtain ⟨y, hy⟩ : ∃ y, y = g_S G (i + 2) := ⟨_, rfl⟩
  rw [← hx, ← hy]
  have cont : ∀ (T : Nat) (v : Bool) (h1 : jH) (f1 : Nat → Int64), T ≤ 9 → (∃ vs, h1[116]? = some (.inr (11, vs))) → h1[125]? = some (.inl (3, 1, .inr (.inl f1))) → h1[126]? = some (.inl (4, 1, .inr (.inr (.inr (.inl g))))) → (T = 0 → f1 0 = (if v = true then 1 else 0)) → (∀ Q : jQ_, (∀ h2, jFr mC h1 h2 → JI (K + 13) h2 T → Q (.inl (some (.int (jb v)))) h2) → jCT G M_X11_hasTrail 3 0 0 false [.ref 116, .int x, .int y] h1 Q) → J G room_1 F M_L_law false (kc + 2) (kn + 12) 1062 [some (.retAddr 0), some (.ref 0), some (.ref 116), some (.ref 125), some (.ref 126), some (.int (nI i)), l6, l7, l8] [.int (nI T)] h1 := by
    intro T v h1 f1 hT2 m116 q1 q3 q2 hm
    obtain ⟨vs9, m116⟩ := m116
    refine J_istore_6 dL_law_1062 ?_
    refine J_aload_n (by rfl) (by rfl) dL_law_1064 ?_
    refine J_aload_n (by rfl) (by rfl) dL_law_1065 ?_
    refine J_iload (by rfl) dL_law_1066 ?_
    refine J_iconst (nI 1) (by decide) dL_law_1068 ?_
    refine J_iadd dL_law_1069 ?_
    try rw [nI_add]
    refine J_xald (i + 1) dL_law_1070 rfl (by omega) (by omega) ?_
    refine J_aload_n (by rfl) (by rfl) dL_law_1071 ?_
    refine J_iload (by rfl) dL_law_1072 ?_
    refine J_iconst (nI 2) (by decide) dL_law_1074 ?_
    refine J_iadd dL_law_1075 ?_
    try rw [nI_add]
    refine J_xald (i + 2) dL_law_1076 rfl (by omega) (by omega) ?_
    rw [← hx, ← hy]
    refine J_V2v (ci := 11) dL_law_1077 s_L_195 m_X11_hasTrail rfl (by repeat (first | assumption | exact jget_same2 (by (try simp only [List.length_set]); exact jlt (by assumption)) | refine jget_ne (by first | decide | assumption | omega) ?_)) rfl (hm _ (fun h2 hf2 ji => (jKv_i ?_))) (hf := jfit_k rfl rfl (by omega) (by omega))
    have e116 := ji
    obtain ⟨_, _, _, _, _, _, _, _, _, _, _, _, _, mp2, _⟩ := e116
    obtain ⟨vs8, m1162⟩ := JI.r116 ji
    have o12 := hf2.at (by decide) q1
    have o22 := hf2.at (by decide) q3
    refine J_istore_7 dL_law_1080 ?_
    refine J_aload_n (by rfl) (by rfl) dL_law_1082 ?_
    refine J_V0v (ci := 11) dL_law_1083 s_L_146 m_X11_thrown rfl (by repeat (first | assumption | exact jget_same2 (by (try simp only [List.length_set]); exact jlt (by assumption)) | refine jget_ne (by first | decide | assumption | omega) ?_)) rfl (c_X11_thrown mp2 (jKv_i ?_)) (hf := jfit_k rfl rfl (by omega) (by omega))
    refine J_iload (by rfl) dL_law_1086 ?_
    refine J_icmp_eq 1093 dL_law_1088 (by decide) (fun c1088 => ?_) (fun c1088 => ?_)
    · refine J_iload (by rfl) dL_law_1093 ?_
      refine J_if_ne_n 1117 dL_law_1095 (by decide) (fun c1095 => ?_) (fun c1095 => ?_)
      · refine J_goto 2508 dL_law_1117 (by decide) ?_
        exact J_widen (by omega) (by omega) (next h2 _ f1 g _ _ _ ji o12 o22)
      · have q2 := q2 (by omega)
        refine J_aload_n (by rfl) (by rfl) dL_law_1098 ?_
        refine J_iconst (nI 0) (by decide) dL_law_1099 ?_
        refine J_lald (0) dL_law_1100 (by repeat (first | assumption | exact jget_same2 (by (try simp only [List.length_set]); exact jlt (by assumption)) | refine jget_ne (by first | decide | assumption | omega) ?_)) (by first | rfl | (simp only [pk_mul, nI_add]; done) | (simp only [pk_mul, nI_add]; congr 1; omega) | (congr 1; omega)) (by omega) ?_
        refine J_iload (by rfl) dL_law_1101 ?_
        refine J_if_eq_b 1110 dL_law_1103 (by decide) (fun c1103 => ?_) (fun c1103 => ?_)
        · rw [c1103, if_neg (by decide)] at q2
          rw [q2]
          refine J_lconst (lN 0) (by decide) dL_law_1110 ?_
          refine J_lcmp dL_law_1111 ?_
          refine J_topi (nI 0) (by rfl) ?_
          refine J_if_eq_n 1117 dL_law_1112 (by decide) (fun c1112 => ?_) (fun c1112 => ?_)
          · refine J_goto 2508 dL_law_1117 (by decide) ?_
            exact J_widen (by omega) (by omega) (next h2 _ f1 g _ _ _ ji o12 o22)
          · exact absurd c1112 (Nat.lt_irrefl 0)
        · rw [c1103, if_pos rfl] at q2
          rw [q2]
          refine J_lconst (lN 1) (by decide) dL_law_1106 ?_
          refine J_goto 1111 dL_law_1107 (by decide) ?_
          refine J_lcmp dL_law_1111 ?_
          refine J_topi (nI 0) (by rfl) ?_
          refine J_if_eq_n 1117 dL_law_1112 (by decide) (fun c1112 => ?_) (fun c1112 => ?_)
          · refine J_goto 2508 dL_law_1117 (by decide) ?_
            exact J_widen (by omega) (by omega) (next h2 _ f1 g _ _ _ ji o12 o22)
          · exact absurd c1112 (Nat.lt_irrefl 0)
    · exact absurd rfl c1088
  refine J_aload_n (by rfl) (by rfl) dL_law_1058 ?_
  refine J_SX4v dL_law_1059 s_L_193 m_L_hasTrail rfl (w_hasTrail x y c0 (fun Q' k1 k2 => c_X10_hasTrail x y I cp (fun hT => k1 _ _ _ o1 (jKv_i ?_)) (fun hT => k2 _ _ ?_))) (jfit_k rfl rfl (by omega) (by omega))
  · have mp4 := mp
    have cp4 := cp
    have o14 := o1
    have o24 := o2
    have e4 : Tb s x y = 0 := by unfold Tb; rw [if_pos hT]
    have hfs := (jFr.refl (C := fun j => j = 125)).set 125 (.inl (3, 1, .inr (.inl (vp_updL f 0 (if decide (0 < wS s (nP x * 12 + nP y)) = true then 1 else 0))))) (h := h) rfl
    have mp5 := MPc.frm mp4 hfs (fun j a b => by omega)
    have cp5 := cp4.frm hfs (fun j hj => by omega)
    have ji0 := mp5
    obtain ⟨an9, he9, cm9, W9, F9, C9, m116, _⟩ := ji0
    have ct := cont (Tb s x y) (decide (Tb s x y = 0 ∧ 0 < wS s (nP x * 12 + nP y))) _ _ (by omega) ⟨_, m116⟩ (jget_same2 (jlt o14)) (hfs.at (by decide) o24) (fun _ => by rw [e4]; simp only [true_and]; rfl) (fun Q hq => c_X11_hasTrail x y I mp5 (fun h2 hf2 mp2 => hq h2 hf2 ⟨_, sc, sm, P, _, ea, fa, sv, lf, ln, tx, tp, (cp5.frm hf2 (fun j hj => by show ¬ (_ ∧ _); omega)), mp2, I.mono (by omega), fun w => ⟨(hv w).1.mono (by omega), (hv w).2⟩, hp.mono (by omega), h1', h2', h3, h4, h5, h6, h7⟩))
    rw [e4] at ct
    exact ct
  · have mp4 := mp
    have cp4 := cp
    have o14 := o1
    have o24 := o2
    have e4 : Tb s x y = 1 := by unfold Tb; rw [if_neg (by rw [hT]; decide)]
    have ji0 := mp4
    obtain ⟨an9, he9, cm9, W9, F9, C9, m116, _⟩ := ji0
    have ct := cont (Tb s x y) (decide (Tb s x y = 0 ∧ 0 < wS s (nP x * 12 + nP y))) _ f (by omega) ⟨_, m116⟩ o14 o24 (fun w => by omega) (fun Q hq => c_X11_hasTrail x y I mp4 (fun h2 hf2 mp2 => hq h2 hf2 ⟨_, sc, sm, P, _, ea, fa, sv, lf, ln, tx, tp, (cp4.frm hf2 (fun j hj => by show ¬ (_ ∧ _); omega)), mp2, I.mono (by omega), fun w => ⟨(hv w).1.mono (by omega), (hv w).2⟩, hp.mono (by omega), h1', h2', h3, h4, h5, h6, h7⟩))
    rw [e4] at ct
    exact ⟨rfl, jKv_i ct⟩
theorem lawg_distance (hi : i + 4 ≤ g_L G) (hL : g_L G ≤ 2048) (hc : kc + 10 ≤ room_1.cells) (hn : kn + 60 ≤ room_1.slots) (hK : K < 2 ^ 29) (g1 : JI K h th) (o1 : h[125]? = some (.inl (3, 1, .inr (.inl f)))) (o2 : h[126]? = some (.inl (4, 1, .inr (.inr (.inr (.inl g))))))
    (next : ∀ h' th' f' g' l6 l7 l8, JI (K + 13) h' th' → h'[125]? = some (.inl (3, 1, .inr (.inl f'))) → h'[126]? = some (.inl (4, 1, .inr (.inr (.inr (.inl g'))))) → J G room_1 F M_L_law false (kc + 10) (kn + 60) 2508 [some (.retAddr 0), some (.ref 0), some (.ref 116), some (.ref 125), some (.ref 126), some (.int (nI i)), l6, l7, l8] [] h') :
    J G room_1 F M_L_law false kc kn 1188 [some (.retAddr 0), some (.ref 0), some (.ref 116), some (.ref 125), some (.ref 126), some (.int (nI i)), l6, l7, l8] [] h := by
  obtain ⟨s, sc, sm, P, ch, ea, fa, sv, lf, ln, tx, tp, cp, mp, I, hv, hp, h1', h2', h3, h4, h5, h6, h7⟩ := g1
  have c0 := cp.c0
  refine J_aload_n (by rfl) (by rfl) dL_law_1188 ?_
  refine J_aload_n (by rfl) (by rfl) dL_law_1189 ?_
  refine J_iload (by rfl) dL_law_1190 ?_
  refine J_iconst (nI 1) (by decide) dL_law_1192 ?_
  refine J_iadd dL_law_1193 ?_
  try rw [nI_add]
  refine J_xald (i + 1) dL_law_1194 rfl (by omega) (by omega) ?_
  refine J_aload_n (by rfl) (by rfl) dL_law_1195 ?_
  refine J_iload (by rfl) dL_law_1196 ?_
  refine J_iconst (nI 2) (by decide) dL_law_1198 ?_
  refine J_iadd dL_law_1199 ?_
  try rw [nI_add]
  refine J_xald (i + 2) dL_law_1200 rfl (by omega) (by omega) ?_
  obtain ⟨x, hx⟩ : ∃ x, x = g_S G (i + 1) := ⟨_, rfl⟩
  obtain ⟨y, hy⟩ : ∃ y, y = g_S G (i + 2) := ⟨_, rfl⟩
  rw [← hx, ← hy]
  have cont : ∀ (T : Nat) (v : Int32) (h1 : jH) (f1 : Nat → Int64), T ≤ 9 → (∃ vs, h1[116]? = some (.inr (11, vs))) → h1[125]? = some (.inl (3, 1, .inr (.inl f1))) → h1[126]? = some (.inl (4, 1, .inr (.inr (.inr (.inl g))))) → (T = 0 → f1 0 = v.toInt64) → (∀ Q : jQ_, (∀ h2, jFr mC h1 h2 → JI (K + 13) h2 T → Q (.inl (some (.int v))) h2) → jCT G M_X11_distance 3 0 0 false [.ref 116, .int x, .int y] h1 Q) → J G room_1 F M_L_law false (kc + 3) (kn + 18) 1205 [some (.retAddr 0), some (.ref 0), some (.ref 116), some (.ref 125), some (.ref 126), some (.int (nI i)), l6, l7, l8] [.int (nI T)] h1 := by
    intro T v h1 f1 hT2 m116 q1 q3 q2 hm
    obtain ⟨vs9, m116⟩ := m116
    refine J_istore_6 dL_law_1205 ?_
    refine J_aload_n (by rfl) (by rfl) dL_law_1207 ?_
    refine J_aload_n (by rfl) (by rfl) dL_law_1208 ?_
    refine J_iload (by rfl) dL_law_1209 ?_
    refine J_iconst (nI 1) (by decide) dL_law_1211 ?_
    refine J_iadd dL_law_1212 ?_
    try rw [nI_add]
    refine J_xald (i + 1) dL_law_1213 rfl (by omega) (by omega) ?_
    refine J_aload_n (by rfl) (by rfl) dL_law_1214 ?_
    refine J_iload (by rfl) dL_law_1215 ?_
    refine J_iconst (nI 2) (by decide) dL_law_1217 ?_
    refine J_iadd dL_law_1218 ?_
    try rw [nI_add]
    refine J_xald (i + 2) dL_law_1219 rfl (by omega) (by omega) ?_
    rw [← hx, ← hy]
    refine J_V2v (ci := 11) dL_law_1220 s_L_201 m_X11_distance rfl (by repeat (first | assumption | exact jget_same2 (by (try simp only [List.length_set]); exact jlt (by assumption)) | refine jget_ne (by first | decide | assumption | omega) ?_)) rfl (hm _ (fun h2 hf2 ji => (jKv_i ?_))) (hf := jfit_k rfl rfl (by omega) (by omega))
    have e116 := ji
    obtain ⟨_, _, _, _, _, _, _, _, _, _, _, _, _, mp2, _⟩ := e116
    obtain ⟨vs8, m1162⟩ := JI.r116 ji
    have o12 := hf2.at (by decide) q1
    have o22 := hf2.at (by decide) q3
    refine J_istore_7 dL_law_1223 ?_
    refine J_aload_n (by rfl) (by rfl) dL_law_1225 ?_
    refine J_V0v (ci := 11) dL_law_1226 s_L_146 m_X11_thrown rfl (by repeat (first | assumption | exact jget_same2 (by (try simp only [List.length_set]); exact jlt (by assumption)) | refine jget_ne (by first | decide | assumption | omega) ?_)) rfl (c_X11_thrown mp2 (jKv_i ?_)) (hf := jfit_k rfl rfl (by omega) (by omega))
    refine J_iload (by rfl) dL_law_1229 ?_
    refine J_icmp_eq 1236 dL_law_1231 (by decide) (fun c1231 => ?_) (fun c1231 => ?_)
    · refine J_iload (by rfl) dL_law_1236 ?_
      refine J_if_ne_n 1253 dL_law_1238 (by decide) (fun c1238 => ?_) (fun c1238 => ?_)
      · refine J_goto 2508 dL_law_1253 (by decide) ?_
        exact J_widen (by omega) (by omega) (next h2 _ f1 g _ _ _ ji o12 o22)
      · refine J_aload_n (by rfl) (by rfl) dL_law_1241 ?_
        refine J_iconst (nI 0) (by decide) dL_law_1242 ?_
        refine J_lald (0) dL_law_1243 (by repeat (first | assumption | exact jget_same2 (by (try simp only [List.length_set]); exact jlt (by assumption)) | refine jget_ne (by first | decide | assumption | omega) ?_)) (by first | rfl | (simp only [pk_mul, nI_add]; done) | (simp only [pk_mul, nI_add]; congr 1; omega) | (congr 1; omega)) (by omega) ?_
        refine J_iload (by rfl) dL_law_1244 ?_
        refine J_i2l dL_law_1246 ?_
        refine J_lcmp dL_law_1247 ?_
        refine J_topi (nI 0) (by rw [q2 (by omega)]; unfold lg_cmp; simp; rfl) ?_
        refine J_if_eq_n 1253 dL_law_1248 (by decide) (fun c1248 => ?_) (fun c1248 => ?_)
        · refine J_goto 2508 dL_law_1253 (by decide) ?_
          exact J_widen (by omega) (by omega) (next h2 _ f1 g _ _ _ ji o12 o22)
        · exact absurd c1248 (Nat.lt_irrefl 0)
    · exact absurd rfl c1231
  refine J_aload_n (by rfl) (by rfl) dL_law_1201 ?_
  refine J_SX4v dL_law_1202 s_L_199 m_L_distance rfl (w_distance x y c0 (fun Q' k1 k2 => c_X10_distance x y I cp (fun hT k4 hf4 cp4 => k1 _ _ _ (hf4.at (by decide) o1) (jKv_i ?_)) (fun hT => k2 _ _ ?_) (fun hT k4 hf4 cp4 => k2 _ _ ?_))) (jfit_k rfl rfl (by omega) (by omega))
  · have mp4 := MPc.frm mp hf4 (fun j a b => by first | omega | (show ¬ (_ ∧ _); omega) | (show ¬ (_ ≤ _); omega))
    have o14 := hf4.at (by decide) o1
    have o24 := hf4.at (by decide) o2
    have e4 : Td s x y = 0 := hT
    have hfs := (jFr.refl (C := fun j => j = 125)).set 125 (.inl (3, 1, .inr (.inl (vp_updL f 0 (nI (dst (wS s) (nP x) (nP y))).toInt64)))) (h := k4) rfl
    have mp5 := MPc.frm mp4 hfs (fun j a b => by omega)
    have cp5 := cp4.frm hfs (fun j hj => by omega)
    have ji0 := mp5
    obtain ⟨an9, he9, cm9, W9, F9, C9, m116, _⟩ := ji0
    have ct := cont (Td s x y) (nI (if Td s x y = 0 then dst (wS s) (nP x) (nP y) else 0)) _ _ (by omega) ⟨_, m116⟩ (jget_same2 (jlt o14)) (hfs.at (by decide) o24) (fun _ => by rw [if_pos e4]; rfl) (fun Q hq => c_X11_distance x y I mp5 (fun h2 hf2 mp2 => hq h2 hf2 ⟨_, sc, sm, P, _, ea, fa, sv, lf, ln, tx, tp, (cp5.frm hf2 (fun j hj => by show ¬ (_ ∧ _); omega)), mp2, I.mono (by omega), fun w => ⟨(hv w).1.mono (by omega), (hv w).2⟩, hp.mono (by omega), h1', h2', h3, h4, h5, h6, h7⟩))
    rw [e4] at ct
    exact ct
  · have mp4 := mp
    have cp4 := cp
    have o14 := o1
    have o24 := o2
    have e4 : Td s x y = 1 := hT
    have ji0 := mp4
    obtain ⟨an9, he9, cm9, W9, F9, C9, m116, _⟩ := ji0
    have ct := cont (Td s x y) (nI (if Td s x y = 0 then dst (wS s) (nP x) (nP y) else 0)) _ f (by omega) ⟨_, m116⟩ o14 o24 (fun w => by omega) (fun Q hq => c_X11_distance x y I mp4 (fun h2 hf2 mp2 => hq h2 hf2 ⟨_, sc, sm, P, _, ea, fa, sv, lf, ln, tx, tp, (cp4.frm hf2 (fun j hj => by show ¬ (_ ∧ _); omega)), mp2, I.mono (by omega), fun w => ⟨(hv w).1.mono (by omega), (hv w).2⟩, hp.mono (by omega), h1', h2', h3, h4, h5, h6, h7⟩))
    rw [e4] at ct
    exact .inl ⟨rfl, jKv_i ct⟩
  · have mp4 := MPc.frm mp hf4 (fun j a b => by first | omega | (show ¬ (_ ∧ _); omega) | (show ¬ (_ ≤ _); omega))
    have o14 := hf4.at (by decide) o1
    have o24 := hf4.at (by decide) o2
    have e4 : Td s x y = 2 := hT
    have ji0 := mp4
    obtain ⟨an9, he9, cm9, W9, F9, C9, m116, _⟩ := ji0
    have ct := cont (Td s x y) (nI (if Td s x y = 0 then dst (wS s) (nP x) (nP y) else 0)) _ f (by omega) ⟨_, m116⟩ o14 o24 (fun w => by omega) (fun Q hq => c_X11_distance x y I mp4 (fun h2 hf2 mp2 => hq h2 hf2 ⟨_, sc, sm, P, _, ea, fa, sv, lf, ln, tx, tp, (cp4.frm hf2 (fun j hj => by show ¬ (_ ∧ _); omega)), mp2, I.mono (by omega), fun w => ⟨(hv w).1.mono (by omega), (hv w).2⟩, hp.mono (by omega), h1', h2', h3, h4, h5, h6, h7⟩))
    rw [e4] at ct
    exact .inr (⟨rfl, jKv_i ct⟩)
theorem lawg_distanceByRelaxation (hi : i + 4 ≤ g_L G) (hL : g_L G ≤ 2048) (hc : kc + 10 ≤ room_1.cells) (hn : kn + 60 ≤ room_1.slots) (hK : K < 2 ^ 29) (g1 : JI K h th) (o1 : h[125]? = some (.inl (3, 1, .inr (.inl f)))) (o2 : h[126]? = some (.inl (4, 1, .inr (.inr (.inr (.inl g))))))
    (next : ∀ h' th' f' g' l6 l7 l8, JI (K + 13) h' th' → h'[125]? = some (.inl (3, 1, .inr (.inl f'))) → h'[126]? = some (.inl (4, 1, .inr (.inr (.inr (.inl g'))))) → J G room_1 F M_L_law false (kc + 10) (kn + 60) 2508 [some (.retAddr 0), some (.ref 0), some (.ref 116), some (.ref 125), some (.ref 126), some (.int (nI i)), l6, l7, l8] [] h') :
    J G room_1 F M_L_law false kc kn 1256 [some (.retAddr 0), some (.ref 0), some (.ref 116), some (.ref 125), some (.ref 126), some (.int (nI i)), l6, l7, l8] [] h := by
  obtain ⟨s, sc, sm, P, ch, ea, fa, sv, lf, ln, tx, tp, cp, mp, I, hv, hp, h1', h2', h3, h4, h5, h6, h7⟩ := g1
  have c0 := cp.c0
  refine J_aload_n (by rfl) (by rfl) dL_law_1256 ?_
  refine J_aload_n (by rfl) (by rfl) dL_law_1257 ?_
  refine J_iload (by rfl) dL_law_1258 ?_
  refine J_iconst (nI 1) (by decide) dL_law_1260 ?_
  refine J_iadd dL_law_1261 ?_
  try rw [nI_add]
  refine J_xald (i + 1) dL_law_1262 rfl (by omega) (by omega) ?_
  refine J_aload_n (by rfl) (by rfl) dL_law_1263 ?_
  refine J_iload (by rfl) dL_law_1264 ?_
  refine J_iconst (nI 2) (by decide) dL_law_1266 ?_
  refine J_iadd dL_law_1267 ?_
  try rw [nI_add]
  refine J_xald (i + 2) dL_law_1268 rfl (by omega) (by omega) ?_
  obtain ⟨x, hx⟩ : ∃ x, x = g_S G (i + 1) := ⟨_, rfl⟩
  obtain ⟨y, hy⟩ : ∃ y, y = g_S G (i + 2) := ⟨_, rfl⟩
  rw [← hx, ← hy]
  have cont : ∀ (T : Nat) (v : Int32) (h1 : jH) (f1 : Nat → Int64), T ≤ 9 → (∃ vs, h1[116]? = some (.inr (11, vs))) → h1[125]? = some (.inl (3, 1, .inr (.inl f1))) → h1[126]? = some (.inl (4, 1, .inr (.inr (.inr (.inl g))))) → (T = 0 → f1 0 = v.toInt64) → (∀ Q : jQ_, (∀ h2, jFr mC h1 h2 → JI (K + 13) h2 T → Q (.inl (some (.int v))) h2) → jCT G M_X11_distanceByRelaxation 4 0 0 false [.ref 116, .int x, .int y] h1 Q) → J G room_1 F M_L_law false (kc + 3) (kn + 18) 1273 [some (.retAddr 0), some (.ref 0), some (.ref 116), some (.ref 125), some (.ref 126), some (.int (nI i)), l6, l7, l8] [.int (nI T)] h1 := by
    intro T v h1 f1 hT2 m116 q1 q3 q2 hm
    obtain ⟨vs9, m116⟩ := m116
    refine J_istore_6 dL_law_1273 ?_
    refine J_aload_n (by rfl) (by rfl) dL_law_1275 ?_
    refine J_aload_n (by rfl) (by rfl) dL_law_1276 ?_
    refine J_iload (by rfl) dL_law_1277 ?_
    refine J_iconst (nI 1) (by decide) dL_law_1279 ?_
    refine J_iadd dL_law_1280 ?_
    try rw [nI_add]
    refine J_xald (i + 1) dL_law_1281 rfl (by omega) (by omega) ?_
    refine J_aload_n (by rfl) (by rfl) dL_law_1282 ?_
    refine J_iload (by rfl) dL_law_1283 ?_
    refine J_iconst (nI 2) (by decide) dL_law_1285 ?_
    refine J_iadd dL_law_1286 ?_
    try rw [nI_add]
    refine J_xald (i + 2) dL_law_1287 rfl (by omega) (by omega) ?_
    rw [← hx, ← hy]
    refine J_V2v (ci := 11) dL_law_1288 s_L_204 m_X11_distanceByRelaxation rfl (by repeat (first | assumption | exact jget_same2 (by (try simp only [List.length_set]); exact jlt (by assumption)) | refine jget_ne (by first | decide | assumption | omega) ?_)) rfl (hm _ (fun h2 hf2 ji => (jKv_i ?_))) (hf := jfit_k rfl rfl (by omega) (by omega))
    have e116 := ji
    obtain ⟨_, _, _, _, _, _, _, _, _, _, _, _, _, mp2, _⟩ := e116
    obtain ⟨vs8, m1162⟩ := JI.r116 ji
    have o12 := hf2.at (by decide) q1
    have o22 := hf2.at (by decide) q3
    refine J_istore_7 dL_law_1291 ?_
    refine J_aload_n (by rfl) (by rfl) dL_law_1293 ?_
    refine J_V0v (ci := 11) dL_law_1294 s_L_146 m_X11_thrown rfl (by repeat (first | assumption | exact jget_same2 (by (try simp only [List.length_set]); exact jlt (by assumption)) | refine jget_ne (by first | decide | assumption | omega) ?_)) rfl (c_X11_thrown mp2 (jKv_i ?_)) (hf := jfit_k rfl rfl (by omega) (by omega))
    refine J_iload (by rfl) dL_law_1297 ?_
    refine J_icmp_eq 1304 dL_law_1299 (by decide) (fun c1299 => ?_) (fun c1299 => ?_)
    · refine J_iload (by rfl) dL_law_1304 ?_
      refine J_if_ne_n 1321 dL_law_1306 (by decide) (fun c1306 => ?_) (fun c1306 => ?_)
      · refine J_goto 2508 dL_law_1321 (by decide) ?_
        exact J_widen (by omega) (by omega) (next h2 _ f1 g _ _ _ ji o12 o22)
      · refine J_aload_n (by rfl) (by rfl) dL_law_1309 ?_
        refine J_iconst (nI 0) (by decide) dL_law_1310 ?_
        refine J_lald (0) dL_law_1311 (by repeat (first | assumption | exact jget_same2 (by (try simp only [List.length_set]); exact jlt (by assumption)) | refine jget_ne (by first | decide | assumption | omega) ?_)) (by first | rfl | (simp only [pk_mul, nI_add]; done) | (simp only [pk_mul, nI_add]; congr 1; omega) | (congr 1; omega)) (by omega) ?_
        refine J_iload (by rfl) dL_law_1312 ?_
        refine J_i2l dL_law_1314 ?_
        refine J_lcmp dL_law_1315 ?_
        refine J_topi (nI 0) (by rw [q2 (by omega)]; unfold lg_cmp; simp; rfl) ?_
        refine J_if_eq_n 1321 dL_law_1316 (by decide) (fun c1316 => ?_) (fun c1316 => ?_)
        · refine J_goto 2508 dL_law_1321 (by decide) ?_
          exact J_widen (by omega) (by omega) (next h2 _ f1 g _ _ _ ji o12 o22)
        · exact absurd c1316 (Nat.lt_irrefl 0)
    · exact absurd rfl c1299
  refine J_aload_n (by rfl) (by rfl) dL_law_1269 ?_
  refine J_SX4v dL_law_1270 s_L_202 m_L_distanceByRelaxation rfl (w_distanceByRelaxation x y c0 (fun Q' k1 k2 => c_X10_distanceByRelaxation x y I cp (fun hT k4 hf4 cp4 => k1 _ _ _ (hf4.at (by decide) o1) (jKv_i ?_)) (fun hT => k2 _ _ ?_) (fun hT k4 hf4 cp4 => k2 _ _ ?_))) (jfit_k rfl rfl (by omega) (by omega))
  · have mp4 := MPc.frm mp hf4 (fun j a b => by first | omega | (show ¬ (_ ∧ _); omega) | (show ¬ (_ ≤ _); omega))
    have o14 := hf4.at (by decide) o1
    have o24 := hf4.at (by decide) o2
    have e4 : Td s x y = 0 := hT
    have hfs := (jFr.refl (C := fun j => j = 125)).set 125 (.inl (3, 1, .inr (.inl (vp_updL f 0 (nI (dst (wS s) (nP x) (nP y))).toInt64)))) (h := k4) rfl
    have mp5 := MPc.frm mp4 hfs (fun j a b => by omega)
    have cp5 := cp4.frm hfs (fun j hj => by omega)
    have ji0 := mp5
    obtain ⟨an9, he9, cm9, W9, F9, C9, m116, _⟩ := ji0
    have ct := cont (Td s x y) (nI (if Td s x y = 0 then dst (wS s) (nP x) (nP y) else 0)) _ _ (by omega) ⟨_, m116⟩ (jget_same2 (jlt o14)) (hfs.at (by decide) o24) (fun _ => by rw [if_pos e4]; rfl) (fun Q hq => c_X11_distanceByRelaxation x y I mp5 (fun h2 hf2 mp2 => hq h2 hf2 ⟨_, sc, sm, P, _, ea, fa, sv, lf, ln, tx, tp, (cp5.frm hf2 (fun j hj => by show ¬ (_ ∧ _); omega)), mp2, I.mono (by omega), fun w => ⟨(hv w).1.mono (by omega), (hv w).2⟩, hp.mono (by omega), h1', h2', h3, h4, h5, h6, h7⟩))
    rw [e4] at ct
    exact ct
  · have mp4 := mp
    have cp4 := cp
    have o14 := o1
    have o24 := o2
    have e4 : Td s x y = 1 := hT
    have ji0 := mp4
    obtain ⟨an9, he9, cm9, W9, F9, C9, m116, _⟩ := ji0
    have ct := cont (Td s x y) (nI (if Td s x y = 0 then dst (wS s) (nP x) (nP y) else 0)) _ f (by omega) ⟨_, m116⟩ o14 o24 (fun w => by omega) (fun Q hq => c_X11_distanceByRelaxation x y I mp4 (fun h2 hf2 mp2 => hq h2 hf2 ⟨_, sc, sm, P, _, ea, fa, sv, lf, ln, tx, tp, (cp4.frm hf2 (fun j hj => by show ¬ (_ ∧ _); omega)), mp2, I.mono (by omega), fun w => ⟨(hv w).1.mono (by omega), (hv w).2⟩, hp.mono (by omega), h1', h2', h3, h4, h5, h6, h7⟩))
    rw [e4] at ct
    exact .inl ⟨rfl, jKv_i ct⟩
  · have mp4 := MPc.frm mp hf4 (fun j a b => by first | omega | (show ¬ (_ ∧ _); omega) | (show ¬ (_ ≤ _); omega))
    have o14 := hf4.at (by decide) o1
    have o24 := hf4.at (by decide) o2
    have e4 : Td s x y = 2 := hT
    have ji0 := mp4
    obtain ⟨an9, he9, cm9, W9, F9, C9, m116, _⟩ := ji0
    have ct := cont (Td s x y) (nI (if Td s x y = 0 then dst (wS s) (nP x) (nP y) else 0)) _ f (by omega) ⟨_, m116⟩ o14 o24 (fun w => by omega) (fun Q hq => c_X11_distanceByRelaxation x y I mp4 (fun h2 hf2 mp2 => hq h2 hf2 ⟨_, sc, sm, P, _, ea, fa, sv, lf, ln, tx, tp, (cp4.frm hf2 (fun j hj => by show ¬ (_ ∧ _); omega)), mp2, I.mono (by omega), fun w => ⟨(hv w).1.mono (by omega), (hv w).2⟩, hp.mono (by omega), h1', h2', h3, h4, h5, h6, h7⟩))
    rw [e4] at ct
    exact .inr (⟨rfl, jKv_i ct⟩)
theorem lawg_forecast (hi : i + 4 ≤ g_L G) (hL : g_L G ≤ 2048) (hc : kc + 10 ≤ room_1.cells) (hn : kn + 60 ≤ room_1.slots) (hK : K < 2 ^ 29) (g1 : JI K h th) (o1 : h[125]? = some (.inl (3, 1, .inr (.inl f)))) (o2 : h[126]? = some (.inl (4, 1, .inr (.inr (.inr (.inl g))))))
    (next : ∀ h' th' f' g' l6 l7 l8, JI (K + 13) h' th' → h'[125]? = some (.inl (3, 1, .inr (.inl f'))) → h'[126]? = some (.inl (4, 1, .inr (.inr (.inr (.inl g'))))) → J G room_1 F M_L_law false (kc + 10) (kn + 60) 2508 [some (.retAddr 0), some (.ref 0), some (.ref 116), some (.ref 125), some (.ref 126), some (.int (nI i)), l6, l7, l8] [] h') :
    J G room_1 F M_L_law false kc kn 1776 [some (.retAddr 0), some (.ref 0), some (.ref 116), some (.ref 125), some (.ref 126), some (.int (nI i)), l6, l7, l8] [] h := by
  obtain ⟨s, sc, sm, P, ch, ea, fa, sv, lf, ln, tx, tp, cp, mp, I, hv, hp, h1', h2', h3, h4, h5, h6, h7⟩ := g1
  have c0 := cp.c0
  refine J_aload_n (by rfl) (by rfl) dL_law_1776 ?_
  refine J_aload_n (by rfl) (by rfl) dL_law_1777 ?_
  refine J_iload (by rfl) dL_law_1778 ?_
  refine J_iconst (nI 1) (by decide) dL_law_1780 ?_
  refine J_iadd dL_law_1781 ?_
  try rw [nI_add]
  refine J_xald (i + 1) dL_law_1782 rfl (by omega) (by omega) ?_
  refine J_aload_n (by rfl) (by rfl) dL_law_1783 ?_
  refine J_iload (by rfl) dL_law_1784 ?_
  refine J_iconst (nI 2) (by decide) dL_law_1786 ?_
  refine J_iadd dL_law_1787 ?_
  try rw [nI_add]
  refine J_xald (i + 2) dL_law_1788 rfl (by omega) (by omega) ?_
  obtain ⟨x, hx⟩ : ∃ x, x = g_S G (i + 1) := ⟨_, rfl⟩
  obtain ⟨y, hy⟩ : ∃ y, y = g_S G (i + 2) := ⟨_, rfl⟩
  rw [← hx, ← hy]
  have cont : ∀ (T : Nat) (v : Int32) (h1 : jH) (f1 : Nat → Int64), T ≤ 9 → (∃ vs, h1[116]? = some (.inr (11, vs))) → h1[125]? = some (.inl (3, 1, .inr (.inl f1))) → h1[126]? = some (.inl (4, 1, .inr (.inr (.inr (.inl g))))) → (T = 0 → f1 0 = v.toInt64) → (∀ Q : jQ_, (∀ h2, jFr mC h1 h2 → JI (K + 13) h2 T → Q (.inl (some (.int v))) h2) → jCT G M_X11_forecast 4 0 0 false [.ref 116, .int x, .int y] h1 Q) → J G room_1 F M_L_law false (kc + 2) (kn + 12) 1793 [some (.retAddr 0), some (.ref 0), some (.ref 116), some (.ref 125), some (.ref 126), some (.int (nI i)), l6, l7, l8] [.int (nI T)] h1 := by
    intro T v h1 f1 hT2 m116 q1 q3 q2 hm
    obtain ⟨vs9, m116⟩ := m116
    refine J_istore_6 dL_law_1793 ?_
    refine J_aload_n (by rfl) (by rfl) dL_law_1795 ?_
    refine J_aload_n (by rfl) (by rfl) dL_law_1796 ?_
    refine J_iload (by rfl) dL_law_1797 ?_
    refine J_iconst (nI 1) (by decide) dL_law_1799 ?_
    refine J_iadd dL_law_1800 ?_
    try rw [nI_add]
    refine J_xald (i + 1) dL_law_1801 rfl (by omega) (by omega) ?_
    refine J_aload_n (by rfl) (by rfl) dL_law_1802 ?_
    refine J_iload (by rfl) dL_law_1803 ?_
    refine J_iconst (nI 2) (by decide) dL_law_1805 ?_
    refine J_iadd dL_law_1806 ?_
    try rw [nI_add]
    refine J_xald (i + 2) dL_law_1807 rfl (by omega) (by omega) ?_
    rw [← hx, ← hy]
    refine J_V2v (ci := 11) dL_law_1808 s_L_248 m_X11_forecast rfl (by repeat (first | assumption | exact jget_same2 (by (try simp only [List.length_set]); exact jlt (by assumption)) | refine jget_ne (by first | decide | assumption | omega) ?_)) rfl (hm _ (fun h2 hf2 ji => (jKv_i ?_))) (hf := jfit_k rfl rfl (by omega) (by omega))
    have e116 := ji
    obtain ⟨_, _, _, _, _, _, _, _, _, _, _, _, _, mp2, _⟩ := e116
    obtain ⟨vs8, m1162⟩ := JI.r116 ji
    have o12 := hf2.at (by decide) q1
    have o22 := hf2.at (by decide) q3
    refine J_istore_7 dL_law_1811 ?_
    refine J_aload_n (by rfl) (by rfl) dL_law_1813 ?_
    refine J_V0v (ci := 11) dL_law_1814 s_L_146 m_X11_thrown rfl (by repeat (first | assumption | exact jget_same2 (by (try simp only [List.length_set]); exact jlt (by assumption)) | refine jget_ne (by first | decide | assumption | omega) ?_)) rfl (c_X11_thrown mp2 (jKv_i ?_)) (hf := jfit_k rfl rfl (by omega) (by omega))
    refine J_iload (by rfl) dL_law_1817 ?_
    refine J_icmp_eq 1824 dL_law_1819 (by decide) (fun c1819 => ?_) (fun c1819 => ?_)
    · refine J_iload (by rfl) dL_law_1824 ?_
      refine J_if_ne_n 1841 dL_law_1826 (by decide) (fun c1826 => ?_) (fun c1826 => ?_)
      · refine J_goto 2508 dL_law_1841 (by decide) ?_
        exact J_widen (by omega) (by omega) (next h2 _ f1 g _ _ _ ji o12 o22)
      · refine J_aload_n (by rfl) (by rfl) dL_law_1829 ?_
        refine J_iconst (nI 0) (by decide) dL_law_1830 ?_
        refine J_lald (0) dL_law_1831 (by repeat (first | assumption | exact jget_same2 (by (try simp only [List.length_set]); exact jlt (by assumption)) | refine jget_ne (by first | decide | assumption | omega) ?_)) (by first | rfl | (simp only [pk_mul, nI_add]; done) | (simp only [pk_mul, nI_add]; congr 1; omega) | (congr 1; omega)) (by omega) ?_
        refine J_iload (by rfl) dL_law_1832 ?_
        refine J_i2l dL_law_1834 ?_
        refine J_lcmp dL_law_1835 ?_
        refine J_topi (nI 0) (by rw [q2 (by omega)]; unfold lg_cmp; simp; rfl) ?_
        refine J_if_eq_n 1841 dL_law_1836 (by decide) (fun c1836 => ?_) (fun c1836 => ?_)
        · refine J_goto 2508 dL_law_1841 (by decide) ?_
          exact J_widen (by omega) (by omega) (next h2 _ f1 g _ _ _ ji o12 o22)
        · exact absurd c1836 (Nat.lt_irrefl 0)
    · exact absurd rfl c1819
  refine J_aload_n (by rfl) (by rfl) dL_law_1789 ?_
  refine J_SX4v dL_law_1790 s_L_246 m_L_forecast rfl (w_forecast x y c0 (fun Q' k1 k2 => c_X10_forecast x y I cp (fun hT k4 hf4 cp4 => k1 _ _ _ (hf4.at (by decide) o1) (jKv_i ?_)) (fun hT => k2 _ _ ?_) (fun hT => k2 _ _ ?_))) (jfit_k rfl rfl (by omega) (by omega))
  · have mp4 := MPc.frm mp hf4 (fun j a b => by first | omega | (show ¬ (_ ∧ _); omega) | (show ¬ (_ ≤ _); omega))
    have o14 := hf4.at (by decide) o1
    have o24 := hf4.at (by decide) o2
    have e4 : Tfc s x y = 0 := hT
    have hfs := (jFr.refl (C := fun j => j = 125)).set 125 (.inl (3, 1, .inr (.inl (vp_updL f 0 (nI (fcC s (nP x) (nP y))).toInt64)))) (h := k4) rfl
    have mp5 := MPc.frm mp4 hfs (fun j a b => by omega)
    have cp5 := cp4.frm hfs (fun j hj => by omega)
    have ji0 := mp5
    obtain ⟨an9, he9, cm9, W9, F9, C9, m116, _⟩ := ji0
    have ct := cont (Tfc s x y) (nI (if Tfc s x y = 0 then fcC s (nP x) (nP y) else 0)) _ _ (by omega) ⟨_, m116⟩ (jget_same2 (jlt o14)) (hfs.at (by decide) o24) (fun _ => by rw [if_pos e4]; rfl) (fun Q hq => c_X11_forecast x y I mp5 (fun h2 hf2 mp2 => hq h2 hf2 ⟨_, sc, sm, P, _, ea, fa, sv, lf, ln, tx, tp, (cp5.frm hf2 (fun j hj => by show ¬ (_ ∧ _); omega)), mp2, I.mono (by omega), fun w => ⟨(hv w).1.mono (by omega), (hv w).2⟩, hp.mono (by omega), h1', h2', h3, h4, h5, h6, h7⟩))
    rw [e4] at ct
    exact ct
  · have mp4 := mp
    have cp4 := cp
    have o14 := o1
    have o24 := o2
    have e4 : Tfc s x y = 1 := hT
    have ji0 := mp4
    obtain ⟨an9, he9, cm9, W9, F9, C9, m116, _⟩ := ji0
    have ct := cont (Tfc s x y) (nI (if Tfc s x y = 0 then fcC s (nP x) (nP y) else 0)) _ f (by omega) ⟨_, m116⟩ o14 o24 (fun w => by omega) (fun Q hq => c_X11_forecast x y I mp4 (fun h2 hf2 mp2 => hq h2 hf2 ⟨_, sc, sm, P, _, ea, fa, sv, lf, ln, tx, tp, (cp4.frm hf2 (fun j hj => by show ¬ (_ ∧ _); omega)), mp2, I.mono (by omega), fun w => ⟨(hv w).1.mono (by omega), (hv w).2⟩, hp.mono (by omega), h1', h2', h3, h4, h5, h6, h7⟩))
    rw [e4] at ct
    exact .inl ⟨rfl, jKv_i ct⟩
  · have mp4 := mp
    have cp4 := cp
    have o14 := o1
    have o24 := o2
    have e4 : Tfc s x y = 2 := hT
    have ji0 := mp4
    obtain ⟨an9, he9, cm9, W9, F9, C9, m116, _⟩ := ji0
    have ct := cont (Tfc s x y) (nI (if Tfc s x y = 0 then fcC s (nP x) (nP y) else 0)) _ f (by omega) ⟨_, m116⟩ o14 o24 (fun w => by omega) (fun Q hq => c_X11_forecast x y I mp4 (fun h2 hf2 mp2 => hq h2 hf2 ⟨_, sc, sm, P, _, ea, fa, sv, lf, ln, tx, tp, (cp4.frm hf2 (fun j hj => by show ¬ (_ ∧ _); omega)), mp2, I.mono (by omega), fun w => ⟨(hv w).1.mono (by omega), (hv w).2⟩, hp.mono (by omega), h1', h2', h3, h4, h5, h6, h7⟩))
    rw [e4] at ct
    exact .inr (⟨rfl, jKv_i ct⟩)
theorem lawg_charAt (hi : i + 4 ≤ g_L G) (hL : g_L G ≤ 2048) (hc : kc + 10 ≤ room_1.cells) (hn : kn + 60 ≤ room_1.slots) (hK : K < 2 ^ 29) (g1 : JI K h th) (o1 : h[125]? = some (.inl (3, 1, .inr (.inl f)))) (o2 : h[126]? = some (.inl (4, 1, .inr (.inr (.inr (.inl g))))))
    (next : ∀ h' th' f' g' l6 l7 l8, JI (K + 13) h' th' → h'[125]? = some (.inl (3, 1, .inr (.inl f'))) → h'[126]? = some (.inl (4, 1, .inr (.inr (.inr (.inl g'))))) → J G room_1 F M_L_law false (kc + 10) (kn + 60) 2508 [some (.retAddr 0), some (.ref 0), some (.ref 116), some (.ref 125), some (.ref 126), some (.int (nI i)), l6, l7, l8] [] h') :
    J G room_1 F M_L_law false kc kn 2161 [some (.retAddr 0), some (.ref 0), some (.ref 116), some (.ref 125), some (.ref 126), some (.int (nI i)), l6, l7, l8] [] h := by
  obtain ⟨s, sc, sm, P, ch, ea, fa, sv, lf, ln, tx, tp, cp, mp, I, hv, hp, h1', h2', h3, h4, h5, h6, h7⟩ := g1
  have c0 := cp.c0
  refine J_aload_n (by rfl) (by rfl) dL_law_2161 ?_
  refine J_aload_n (by rfl) (by rfl) dL_law_2162 ?_
  refine J_iload (by rfl) dL_law_2163 ?_
  refine J_iconst (nI 1) (by decide) dL_law_2165 ?_
  refine J_iadd dL_law_2166 ?_
  try rw [nI_add]
  refine J_xald (i + 1) dL_law_2167 rfl (by omega) (by omega) ?_
  obtain ⟨x, hx⟩ : ∃ x, x = g_S G (i + 1) := ⟨_, rfl⟩
  rw [← hx]
  have cont : ∀ (T : Nat) (v : Int32) (h1 : jH) (f1 : Nat → Int64), T ≤ 9 → (∃ vs, h1[116]? = some (.inr (11, vs))) → h1[125]? = some (.inl (3, 1, .inr (.inl f1))) → h1[126]? = some (.inl (4, 1, .inr (.inr (.inr (.inl g))))) → (T = 0 → f1 0 = v.toInt64) → (∀ Q : jQ_, (∀ h2, jFr mC h1 h2 → JI (K + 13) h2 T → Q (.inl (some (.int v))) h2) → jCT G M_X11_charAt 2 0 0 false [.ref 116, .int x] h1 Q) → J G room_1 F M_L_law false (kc + 1) (kn + 6) 2172 [some (.retAddr 0), some (.ref 0), some (.ref 116), some (.ref 125), some (.ref 126), some (.int (nI i)), l6, l7, l8] [.int (nI T)] h1 := by
    intro T v h1 f1 hT2 m116 q1 q3 q2 hm
    obtain ⟨vs9, m116⟩ := m116
    refine J_istore_6 dL_law_2172 ?_
    refine J_aload_n (by rfl) (by rfl) dL_law_2174 ?_
    refine J_aload_n (by rfl) (by rfl) dL_law_2175 ?_
    refine J_iload (by rfl) dL_law_2176 ?_
    refine J_iconst (nI 1) (by decide) dL_law_2178 ?_
    refine J_iadd dL_law_2179 ?_
    try rw [nI_add]
    refine J_xald (i + 1) dL_law_2180 rfl (by omega) (by omega) ?_
    rw [← hx]
    refine J_V1v (ci := 11) dL_law_2181 s_L_301 m_X11_charAt rfl (by repeat (first | assumption | exact jget_same2 (by (try simp only [List.length_set]); exact jlt (by assumption)) | refine jget_ne (by first | decide | assumption | omega) ?_)) rfl (hm _ (fun h2 hf2 ji => (jKv_i ?_))) (hf := jfit_k rfl rfl (by omega) (by omega))
    have e116 := ji
    obtain ⟨_, _, _, _, _, _, _, _, _, _, _, _, _, mp2, _⟩ := e116
    obtain ⟨vs8, m1162⟩ := JI.r116 ji
    have o12 := hf2.at (by decide) q1
    have o22 := hf2.at (by decide) q3
    refine J_istore_7 dL_law_2184 ?_
    refine J_aload_n (by rfl) (by rfl) dL_law_2186 ?_
    refine J_V0v (ci := 11) dL_law_2187 s_L_146 m_X11_thrown rfl (by repeat (first | assumption | exact jget_same2 (by (try simp only [List.length_set]); exact jlt (by assumption)) | refine jget_ne (by first | decide | assumption | omega) ?_)) rfl (c_X11_thrown mp2 (jKv_i ?_)) (hf := jfit_k rfl rfl (by omega) (by omega))
    refine J_iload (by rfl) dL_law_2190 ?_
    refine J_icmp_eq 2197 dL_law_2192 (by decide) (fun c2192 => ?_) (fun c2192 => ?_)
    · refine J_iload (by rfl) dL_law_2197 ?_
      refine J_if_ne_n 2214 dL_law_2199 (by decide) (fun c2199 => ?_) (fun c2199 => ?_)
      · refine J_goto 2508 dL_law_2214 (by decide) ?_
        exact J_widen (by omega) (by omega) (next h2 _ f1 g _ _ _ ji o12 o22)
      · refine J_aload_n (by rfl) (by rfl) dL_law_2202 ?_
        refine J_iconst (nI 0) (by decide) dL_law_2203 ?_
        refine J_lald (0) dL_law_2204 (by repeat (first | assumption | exact jget_same2 (by (try simp only [List.length_set]); exact jlt (by assumption)) | refine jget_ne (by first | decide | assumption | omega) ?_)) (by first | rfl | (simp only [pk_mul, nI_add]; done) | (simp only [pk_mul, nI_add]; congr 1; omega) | (congr 1; omega)) (by omega) ?_
        refine J_iload (by rfl) dL_law_2205 ?_
        refine J_i2l dL_law_2207 ?_
        refine J_lcmp dL_law_2208 ?_
        refine J_topi (nI 0) (by rw [q2 (by omega)]; unfold lg_cmp; simp; rfl) ?_
        refine J_if_eq_n 2214 dL_law_2209 (by decide) (fun c2209 => ?_) (fun c2209 => ?_)
        · refine J_goto 2508 dL_law_2214 (by decide) ?_
          exact J_widen (by omega) (by omega) (next h2 _ f1 g _ _ _ ji o12 o22)
        · exact absurd c2209 (Nat.lt_irrefl 0)
    · exact absurd rfl c2192
  refine J_aload_n (by rfl) (by rfl) dL_law_2168 ?_
  refine J_SX3v dL_law_2169 s_L_299 m_L_charAt rfl (w_charAt x c0 (fun Q' k1 k2 => c_X10_charAt x (by omega) h5 cp (fun hT => k1 _ _ _ o1 (jKv_i ?_)) (fun hT => k2 _ _ ?_))) (jfit_k rfl rfl (by omega) (by omega))
  · have mp4 := mp
    have cp4 := cp
    have o14 := o1
    have o24 := o2
    have e4 : (if isIx x ln = true then 0 else 1) = 0 := if_pos hT
    have hfs := (jFr.refl (C := fun j => j = 125)).set 125 (.inl (3, 1, .inr (.inl (vp_updL f 0 (nI (lf (nP x))).toInt64)))) (h := h) rfl
    have mp5 := MPc.frm mp4 hfs (fun j a b => by omega)
    have cp5 := cp4.frm hfs (fun j hj => by omega)
    have ji0 := mp5
    obtain ⟨an9, he9, cm9, W9, F9, C9, m116, _⟩ := ji0
    have ct := cont ((if isIx x ln = true then 0 else 1)) (nI (if isIx x ln = true then lf (nP x) else 0)) _ _ (by omega) ⟨_, m116⟩ (jget_same2 (jlt o14)) (hfs.at (by decide) o24) (fun _ => by rw [if_pos hT]; rfl) (fun Q hq => c_X11_charAt x (by omega) h5 mp5 (fun h2 hf2 mp2 => hq h2 hf2 ⟨_, sc, sm, P, _, ea, fa, sv, lf, ln, tx, tp, (cp5.frm hf2 (fun j hj => by show ¬ (_ ∧ _); omega)), mp2, I.mono (by omega), fun w => ⟨(hv w).1.mono (by omega), (hv w).2⟩, hp.mono (by omega), h1', h2', h3, h4, h5, h6, h7⟩))
    rw [e4] at ct
    exact ct
  · have mp4 := mp
    have cp4 := cp
    have o14 := o1
    have o24 := o2
    have e4 : (if isIx x ln = true then 0 else 1) = 1 := if_neg (by rw [hT]; decide)
    have ji0 := mp4
    obtain ⟨an9, he9, cm9, W9, F9, C9, m116, _⟩ := ji0
    have ct := cont ((if isIx x ln = true then 0 else 1)) (nI (if isIx x ln = true then lf (nP x) else 0)) _ f (by omega) ⟨_, m116⟩ o14 o24 (fun w => by omega) (fun Q hq => c_X11_charAt x (by omega) h5 mp4 (fun h2 hf2 mp2 => hq h2 hf2 ⟨_, sc, sm, P, _, ea, fa, sv, lf, ln, tx, tp, (cp4.frm hf2 (fun j hj => by show ¬ (_ ∧ _); omega)), mp2, I.mono (by omega), fun w => ⟨(hv w).1.mono (by omega), (hv w).2⟩, hp.mono (by omega), h1', h2', h3, h4, h5, h6, h7⟩))
    rw [e4] at ct
    exact ⟨rfl, jKv_i ct⟩
theorem lawg_errorPosition (hi : i + 4 ≤ g_L G) (hL : g_L G ≤ 2048) (hc : kc + 10 ≤ room_1.cells) (hn : kn + 60 ≤ room_1.slots) (hK : K < 2 ^ 29) (g1 : JI K h th) (o1 : h[125]? = some (.inl (3, 1, .inr (.inl f)))) (o2 : h[126]? = some (.inl (4, 1, .inr (.inr (.inr (.inl g))))))
    (next : ∀ h' th' f' g' l6 l7 l8, JI (K + 13) h' th' → h'[125]? = some (.inl (3, 1, .inr (.inl f'))) → h'[126]? = some (.inl (4, 1, .inr (.inr (.inr (.inl g'))))) → J G room_1 F M_L_law false (kc + 10) (kn + 60) 2508 [some (.retAddr 0), some (.ref 0), some (.ref 116), some (.ref 125), some (.ref 126), some (.int (nI i)), l6, l7, l8] [] h') :
    J G room_1 F M_L_law false kc kn 2319 [some (.retAddr 0), some (.ref 0), some (.ref 116), some (.ref 125), some (.ref 126), some (.int (nI i)), l6, l7, l8] [] h := by
  obtain ⟨s, sc, sm, P, ch, ea, fa, sv, lf, ln, tx, tp, cp, mp, I, hv, hp, h1', h2', h3, h4, h5, h6, h7⟩ := g1
  have c0 := cp.c0
  have cont : ∀ (T : Nat) (v : Int32) (h1 : jH) (f1 : Nat → Int64), T ≤ 9 → (∃ vs, h1[116]? = some (.inr (11, vs))) → h1[125]? = some (.inl (3, 1, .inr (.inl f1))) → h1[126]? = some (.inl (4, 1, .inr (.inr (.inr (.inl g))))) → (T = 0 → f1 0 = v.toInt64) → (∀ Q : jQ_, (∀ h2, jFr mC h1 h2 → JI (K + 13) h2 T → Q (.inl (some (.int v))) h2) → jCT G M_X11_errorPosition 2 0 0 false [.ref 116] h1 Q) → J G room_1 F M_L_law false (kc + 1) (kn + 6) 2324 [some (.retAddr 0), some (.ref 0), some (.ref 116), some (.ref 125), some (.ref 126), some (.int (nI i)), l6, l7, l8] [.int (nI T)] h1 := by
    intro T v h1 f1 hT2 m116 q1 q3 q2 hm
    obtain ⟨vs9, m116⟩ := m116
    refine J_istore_6 dL_law_2324 ?_
    refine J_aload_n (by rfl) (by rfl) dL_law_2326 ?_
    refine J_V0v (ci := 11) dL_law_2327 s_L_311 m_X11_errorPosition rfl (by repeat (first | assumption | exact jget_same2 (by (try simp only [List.length_set]); exact jlt (by assumption)) | refine jget_ne (by first | decide | assumption | omega) ?_)) rfl (hm _ (fun h2 hf2 ji => (jKv_i ?_))) (hf := jfit_k rfl rfl (by omega) (by omega))
    have e116 := ji
    obtain ⟨_, _, _, _, _, _, _, _, _, _, _, _, _, mp2, _⟩ := e116
    obtain ⟨vs8, m1162⟩ := JI.r116 ji
    have o12 := hf2.at (by decide) q1
    have o22 := hf2.at (by decide) q3
    refine J_istore_7 dL_law_2330 ?_
    refine J_aload_n (by rfl) (by rfl) dL_law_2332 ?_
    refine J_V0v (ci := 11) dL_law_2333 s_L_146 m_X11_thrown rfl (by repeat (first | assumption | exact jget_same2 (by (try simp only [List.length_set]); exact jlt (by assumption)) | refine jget_ne (by first | decide | assumption | omega) ?_)) rfl (c_X11_thrown mp2 (jKv_i ?_)) (hf := jfit_k rfl rfl (by omega) (by omega))
    refine J_iload (by rfl) dL_law_2336 ?_
    refine J_icmp_eq 2343 dL_law_2338 (by decide) (fun c2338 => ?_) (fun c2338 => ?_)
    · refine J_iload (by rfl) dL_law_2343 ?_
      refine J_if_ne_n 2360 dL_law_2345 (by decide) (fun c2345 => ?_) (fun c2345 => ?_)
      · refine J_goto 2508 dL_law_2360 (by decide) ?_
        exact J_widen (by omega) (by omega) (next h2 _ f1 g _ _ _ ji o12 o22)
      · refine J_aload_n (by rfl) (by rfl) dL_law_2348 ?_
        refine J_iconst (nI 0) (by decide) dL_law_2349 ?_
        refine J_lald (0) dL_law_2350 (by repeat (first | assumption | exact jget_same2 (by (try simp only [List.length_set]); exact jlt (by assumption)) | refine jget_ne (by first | decide | assumption | omega) ?_)) (by first | rfl | (simp only [pk_mul, nI_add]; done) | (simp only [pk_mul, nI_add]; congr 1; omega) | (congr 1; omega)) (by omega) ?_
        refine J_iload (by rfl) dL_law_2351 ?_
        refine J_i2l dL_law_2353 ?_
        refine J_lcmp dL_law_2354 ?_
        refine J_topi (nI 0) (by rw [q2 (by omega)]; unfold lg_cmp; simp; rfl) ?_
        refine J_if_eq_n 2360 dL_law_2355 (by decide) (fun c2355 => ?_) (fun c2355 => ?_)
        · refine J_goto 2508 dL_law_2360 (by decide) ?_
          exact J_widen (by omega) (by omega) (next h2 _ f1 g _ _ _ ji o12 o22)
        · exact absurd c2355 (Nat.lt_irrefl 0)
    · exact absurd rfl c2338
  refine J_aload_n (by rfl) (by rfl) dL_law_2319 ?_
  refine J_aload_n (by rfl) (by rfl) dL_law_2320 ?_
  refine J_SX2v dL_law_2321 s_L_309 m_L_errorPosition rfl (w_errorPosition c0 (fun Q' k1 k2 => c_X10_errorPosition cp (fun hT => k1 _ _ _ o1 (jKv_i ?_)) (fun hT => k2 _ _ ?_))) (jfit_k rfl rfl (by omega) (by omega))
  · have mp4 := mp
    have cp4 := cp
    have o14 := o1
    have o24 := o2
    have e4 : (if ea < 0 then 1 else 0) = 0 := if_neg (i32_ge h6 hT)
    have hfs := (jFr.refl (C := fun j => j = 125)).set 125 (.inl (3, 1, .inr (.inl (vp_updL f 0 ea.toInt64)))) (h := h) rfl
    have mp5 := MPc.frm mp4 hfs (fun j a b => by omega)
    have cp5 := cp4.frm hfs (fun j hj => by omega)
    have ji0 := mp5
    obtain ⟨an9, he9, cm9, W9, F9, C9, m116, _⟩ := ji0
    have ct := cont ((if ea < 0 then 1 else 0)) (if ea < 0 then nI 0 else ea) _ _ (by omega) ⟨_, m116⟩ (jget_same2 (jlt o14)) (hfs.at (by decide) o24) (fun _ => by rw [if_neg (i32_ge h6 hT)]; rfl) (fun Q hq => c_X11_errorPosition mp5 (fun h2 hf2 mp2 => hq h2 hf2 ⟨_, sc, sm, P, _, ea, fa, sv, lf, ln, tx, tp, (cp5.frm hf2 (fun j hj => by show ¬ (_ ∧ _); omega)), mp2, I.mono (by omega), fun w => ⟨(hv w).1.mono (by omega), (hv w).2⟩, hp.mono (by omega), h1', h2', h3, h4, h5, h6, h7⟩))
    rw [e4] at ct
    exact ct
  · have mp4 := mp
    have cp4 := cp
    have o14 := o1
    have o24 := o2
    have e4 : (if ea < 0 then 1 else 0) = 1 := if_pos (by rw [hT]; decide)
    have ji0 := mp4
    obtain ⟨an9, he9, cm9, W9, F9, C9, m116, _⟩ := ji0
    have ct := cont ((if ea < 0 then 1 else 0)) (if ea < 0 then nI 0 else ea) _ f (by omega) ⟨_, m116⟩ o14 o24 (fun w => by omega) (fun Q hq => c_X11_errorPosition mp4 (fun h2 hf2 mp2 => hq h2 hf2 ⟨_, sc, sm, P, _, ea, fa, sv, lf, ln, tx, tp, (cp4.frm hf2 (fun j hj => by show ¬ (_ ∧ _); omega)), mp2, I.mono (by omega), fun w => ⟨(hv w).1.mono (by omega), (hv w).2⟩, hp.mono (by omega), h1', h2', h3, h4, h5, h6, h7⟩))
    rw [e4] at ct
    exact ⟨rfl, jKv_i ct⟩
theorem lawg_failedCommand (hi : i + 4 ≤ g_L G) (hL : g_L G ≤ 2048) (hc : kc + 10 ≤ room_1.cells) (hn : kn + 60 ≤ room_1.slots) (hK : K < 2 ^ 29) (g1 : JI K h th) (o1 : h[125]? = some (.inl (3, 1, .inr (.inl f)))) (o2 : h[126]? = some (.inl (4, 1, .inr (.inr (.inr (.inl g))))))
    (next : ∀ h' th' f' g' l6 l7 l8, JI (K + 13) h' th' → h'[125]? = some (.inl (3, 1, .inr (.inl f'))) → h'[126]? = some (.inl (4, 1, .inr (.inr (.inr (.inl g'))))) → J G room_1 F M_L_law false (kc + 10) (kn + 60) 2508 [some (.retAddr 0), some (.ref 0), some (.ref 116), some (.ref 125), some (.ref 126), some (.int (nI i)), l6, l7, l8] [] h') :
    J G room_1 F M_L_law false kc kn 2363 [some (.retAddr 0), some (.ref 0), some (.ref 116), some (.ref 125), some (.ref 126), some (.int (nI i)), l6, l7, l8] [] h := by
  obtain ⟨s, sc, sm, P, ch, ea, fa, sv, lf, ln, tx, tp, cp, mp, I, hv, hp, h1', h2', h3, h4, h5, h6, h7⟩ := g1
  have c0 := cp.c0
  have cont : ∀ (T : Nat) (v : Int32) (h1 : jH) (f1 : Nat → Int64), T ≤ 9 → (∃ vs, h1[116]? = some (.inr (11, vs))) → h1[125]? = some (.inl (3, 1, .inr (.inl f1))) → h1[126]? = some (.inl (4, 1, .inr (.inr (.inr (.inl g))))) → (T = 0 → f1 0 = v.toInt64) → (∀ Q : jQ_, (∀ h2, jFr mC h1 h2 → JI (K + 13) h2 T → Q (.inl (some (.int v))) h2) → jCT G M_X11_failedCommand 2 0 0 false [.ref 116] h1 Q) → J G room_1 F M_L_law false (kc + 1) (kn + 6) 2368 [some (.retAddr 0), some (.ref 0), some (.ref 116), some (.ref 125), some (.ref 126), some (.int (nI i)), l6, l7, l8] [.int (nI T)] h1 := by
    intro T v h1 f1 hT2 m116 q1 q3 q2 hm
    obtain ⟨vs9, m116⟩ := m116
    refine J_istore_6 dL_law_2368 ?_
    refine J_aload_n (by rfl) (by rfl) dL_law_2370 ?_
    refine J_V0v (ci := 11) dL_law_2371 s_L_314 m_X11_failedCommand rfl (by repeat (first | assumption | exact jget_same2 (by (try simp only [List.length_set]); exact jlt (by assumption)) | refine jget_ne (by first | decide | assumption | omega) ?_)) rfl (hm _ (fun h2 hf2 ji => (jKv_i ?_))) (hf := jfit_k rfl rfl (by omega) (by omega))
    have e116 := ji
    obtain ⟨_, _, _, _, _, _, _, _, _, _, _, _, _, mp2, _⟩ := e116
    obtain ⟨vs8, m1162⟩ := JI.r116 ji
    have o12 := hf2.at (by decide) q1
    have o22 := hf2.at (by decide) q3
    refine J_istore_7 dL_law_2374 ?_
    refine J_aload_n (by rfl) (by rfl) dL_law_2376 ?_
    refine J_V0v (ci := 11) dL_law_2377 s_L_146 m_X11_thrown rfl (by repeat (first | assumption | exact jget_same2 (by (try simp only [List.length_set]); exact jlt (by assumption)) | refine jget_ne (by first | decide | assumption | omega) ?_)) rfl (c_X11_thrown mp2 (jKv_i ?_)) (hf := jfit_k rfl rfl (by omega) (by omega))
    refine J_iload (by rfl) dL_law_2380 ?_
    refine J_icmp_eq 2387 dL_law_2382 (by decide) (fun c2382 => ?_) (fun c2382 => ?_)
    · refine J_iload (by rfl) dL_law_2387 ?_
      refine J_if_ne_n 2404 dL_law_2389 (by decide) (fun c2389 => ?_) (fun c2389 => ?_)
      · refine J_goto 2508 dL_law_2404 (by decide) ?_
        exact J_widen (by omega) (by omega) (next h2 _ f1 g _ _ _ ji o12 o22)
      · refine J_aload_n (by rfl) (by rfl) dL_law_2392 ?_
        refine J_iconst (nI 0) (by decide) dL_law_2393 ?_
        refine J_lald (0) dL_law_2394 (by repeat (first | assumption | exact jget_same2 (by (try simp only [List.length_set]); exact jlt (by assumption)) | refine jget_ne (by first | decide | assumption | omega) ?_)) (by first | rfl | (simp only [pk_mul, nI_add]; done) | (simp only [pk_mul, nI_add]; congr 1; omega) | (congr 1; omega)) (by omega) ?_
        refine J_iload (by rfl) dL_law_2395 ?_
        refine J_i2l dL_law_2397 ?_
        refine J_lcmp dL_law_2398 ?_
        refine J_topi (nI 0) (by rw [q2 (by omega)]; unfold lg_cmp; simp; rfl) ?_
        refine J_if_eq_n 2404 dL_law_2399 (by decide) (fun c2399 => ?_) (fun c2399 => ?_)
        · refine J_goto 2508 dL_law_2404 (by decide) ?_
          exact J_widen (by omega) (by omega) (next h2 _ f1 g _ _ _ ji o12 o22)
        · exact absurd c2399 (Nat.lt_irrefl 0)
    · exact absurd rfl c2382
  refine J_aload_n (by rfl) (by rfl) dL_law_2363 ?_
  refine J_aload_n (by rfl) (by rfl) dL_law_2364 ?_
  refine J_SX2v dL_law_2365 s_L_312 m_L_failedCommand rfl (w_failedCommand c0 (fun Q' k1 k2 => c_X10_failedCommand cp (fun hT => k1 _ _ _ o1 (jKv_i ?_)) (fun hT => k2 _ _ ?_))) (jfit_k rfl rfl (by omega) (by omega))
  · have mp4 := mp
    have cp4 := cp
    have o14 := o1
    have o24 := o2
    have e4 : (if fa < 0 then 1 else 0) = 0 := if_neg (i32_ge h7 hT)
    have hfs := (jFr.refl (C := fun j => j = 125)).set 125 (.inl (3, 1, .inr (.inl (vp_updL f 0 fa.toInt64)))) (h := h) rfl
    have mp5 := MPc.frm mp4 hfs (fun j a b => by omega)
    have cp5 := cp4.frm hfs (fun j hj => by omega)
    have ji0 := mp5
    obtain ⟨an9, he9, cm9, W9, F9, C9, m116, _⟩ := ji0
    have ct := cont ((if fa < 0 then 1 else 0)) (if fa < 0 then nI 0 else fa) _ _ (by omega) ⟨_, m116⟩ (jget_same2 (jlt o14)) (hfs.at (by decide) o24) (fun _ => by rw [if_neg (i32_ge h7 hT)]; rfl) (fun Q hq => c_X11_failedCommand mp5 (fun h2 hf2 mp2 => hq h2 hf2 ⟨_, sc, sm, P, _, ea, fa, sv, lf, ln, tx, tp, (cp5.frm hf2 (fun j hj => by show ¬ (_ ∧ _); omega)), mp2, I.mono (by omega), fun w => ⟨(hv w).1.mono (by omega), (hv w).2⟩, hp.mono (by omega), h1', h2', h3, h4, h5, h6, h7⟩))
    rw [e4] at ct
    exact ct
  · have mp4 := mp
    have cp4 := cp
    have o14 := o1
    have o24 := o2
    have e4 : (if fa < 0 then 1 else 0) = 1 := if_pos (by rw [hT]; decide)
    have ji0 := mp4
    obtain ⟨an9, he9, cm9, W9, F9, C9, m116, _⟩ := ji0
    have ct := cont ((if fa < 0 then 1 else 0)) (if fa < 0 then nI 0 else fa) _ f (by omega) ⟨_, m116⟩ o14 o24 (fun w => by omega) (fun Q hq => c_X11_failedCommand mp4 (fun h2 hf2 mp2 => hq h2 hf2 ⟨_, sc, sm, P, _, ea, fa, sv, lf, ln, tx, tp, (cp4.frm hf2 (fun j hj => by show ¬ (_ ∧ _); omega)), mp2, I.mono (by omega), fun w => ⟨(hv w).1.mono (by omega), (hv w).2⟩, hp.mono (by omega), h1', h2', h3, h4, h5, h6, h7⟩))
    rw [e4] at ct
    exact ⟨rfl, jKv_i ct⟩
end LAWG
