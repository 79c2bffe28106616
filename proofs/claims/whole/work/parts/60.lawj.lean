/-! The law's body: the two questions that answer a fraction -/
section LAWJ
variable {G : jG} {F : jF} {h : jH} {i kc kn K th : Nat} {l6 l7 l8 : Option Value} {f : Nat → Int64} {g : Nat → UInt64}
theorem vf_dnan {v : UInt64} (h : vf_n64 v) : Jvm.FP.Core.dIsNaN v = false := by
  have h2 : v &&& 0x7fffffffffffffff ≤ 0x7ff0000000000000 := h
  rw [UInt64.le_iff_toNat_le, UInt64.toNat_and] at h2
  have h3 : v.toNat &&& (2 ^ 63 - 1) ≤ 9218868437227405312 := h2
  rw [Nat.and_two_pow_sub_one_eq_mod] at h3
  cases e : Jvm.FP.Core.dIsNaN v with
  | false => rfl
  | true => have := (Jvm.FP.Core.isNaN_bits _).mp e; omega
theorem dcmp_refl {v : UInt64} (h : vf_n64 v) : FP.dcmp v v = some .eq := Jvm.FP.Core.dcmp_self (fun e => of_decide_eq_false (vf_dnan h) e)
theorem vf_fnan {v : UInt32} (h : vf_n32 v) : Jvm.FP.Core.fIsNaN v = false := by
  have h2 : v &&& 0x7fffffff ≤ 0x7f800000 := h
  rw [UInt32.le_iff_toNat_le, UInt32.toNat_and] at h2
  have h3 : v.toNat &&& (2 ^ 31 - 1) ≤ 2139095040 := h2
  rw [Nat.and_two_pow_sub_one_eq_mod] at h3
  cases e : Jvm.FP.Core.fIsNaN v with
  | false => rfl
  | true => have := (Jvm.FP.Core.isNaN_bits32 _).mp e; omega
theorem f2d_vf {x : UInt32} (h : vf_n32 x) : vf_n64 (FP.f2d x) := by
  have h1 : Jvm.FP.Core.dIsNaN (FP.f2d x) = false := (Jvm.FP.f2d_nan x).trans (vf_fnan h)
  have h2 : ¬ 9218868437227405312 < (FP.f2d x).toNat % 2 ^ 63 := fun q => by rw [(Jvm.FP.Core.isNaN_bits _).mpr q] at h1; cases h1
  show FP.f2d x &&& 0x7fffffffffffffff ≤ 0x7ff0000000000000
  rw [UInt64.le_iff_toNat_le, UInt64.toNat_and]
  show _ &&& (2 ^ 63 - 1) ≤ 9218868437227405312
  rw [Nat.and_two_pow_sub_one_eq_mod]
  omega
theorem lawg_alarmRate (hi : i + 4 ≤ g_L G) (hL : g_L G ≤ 2048) (hc : kc + 10 ≤ room_1.cells) (hn : kn + 60 ≤ room_1.slots) (hK : K < 2 ^ 29) (g1 : JI K h th) (o1 : h[125]? = some (.inl (3, 1, .inr (.inl f)))) (o2 : h[126]? = some (.inl (4, 1, .inr (.inr (.inr (.inl g))))))
    (next : ∀ h' th' f' g' l6 l7 l8, JI (K + 13) h' th' → h'[125]? = some (.inl (3, 1, .inr (.inl f'))) → h'[126]? = some (.inl (4, 1, .inr (.inr (.inr (.inl g'))))) → J G room_1 F M_L_law false (kc + 10) (kn + 60) 2508 [some (.retAddr 0), some (.ref 0), some (.ref 116), some (.ref 125), some (.ref 126), some (.int (nI i)), l6, l7, l8] [] h') :
    J G room_1 F M_L_law false kc kn 1948 [some (.retAddr 0), some (.ref 0), some (.ref 116), some (.ref 125), some (.ref 126), some (.int (nI i)), l6, l7, l8] [] h := by
  obtain ⟨s, sc, sm, P, ch, ea, fa, sv, lf, ln, tx, tp, cp, mp, I, hv, hp, h1', h2', h3, h4, h5, h6, h7⟩ := g1
  have c0 := cp.c0
  have cont : ∀ (T : Nat) (v : UInt32) (h1 : jH) (g1 : Nat → UInt64), T ≤ 9 → (∃ vs, h1[116]? = some (.inr (11, vs))) → h1[125]? = some (.inl (3, 1, .inr (.inl f))) → h1[126]? = some (.inl (4, 1, .inr (.inr (.inr (.inl g1))))) → (T = 0 → g1 0 = FP.f2d v ∧ FP.dcmp (FP.f2d v) (FP.f2d v) = some .eq ∧ vf_n64 (FP.f2d v)) → (∀ Q : jQ_, (∀ h2, jFr mC h1 h2 → JI (K + 13) h2 T → Q (.inl (some (.float v))) h2) → jCT G M_X11_alarmRate 2 0 0 false [.ref 116] h1 Q) → J G room_1 F M_L_law false (kc + 1) (kn + 6) 1954 [some (.retAddr 0), some (.ref 0), some (.ref 116), some (.ref 125), some (.ref 126), some (.int (nI i)), l6, l7, l8] [.int (nI T)] h1 := by
    intro T v h1 g1 hT2 m116 q1 q3 q2 hm
    obtain ⟨vs9, m116⟩ := m116
    refine J_istore_6 dL_law_1954 ?_
    refine J_aload_n (by rfl) (by rfl) dL_law_1956 ?_
    refine J_V0v (ci := 11) dL_law_1957 s_L_284 m_X11_alarmRate rfl (by repeat (first | assumption | exact jget_same2 (by (try simp only [List.length_set]); exact jlt (by assumption)) | refine jget_ne (by first | decide | assumption | omega) ?_)) rfl (hm _ (fun h2 hf2 ji => (jKv_i ?_))) (hf := jfit_k rfl rfl (by omega) (by omega))
    have e116 := ji
    obtain ⟨_, _, _, _, _, _, _, _, _, _, _, _, _, mp2, _⟩ := e116
    obtain ⟨vs8, m1162⟩ := JI.r116 ji
    have o12 := hf2.at (by decide) q1
    have o22 := hf2.at (by decide) q3
    refine J_fstore dL_law_1960 (by decide) ?_
    refine J_aload_n (by rfl) (by rfl) dL_law_1962 ?_
    refine J_V0v (ci := 11) dL_law_1963 s_L_146 m_X11_thrown rfl (by repeat (first | assumption | exact jget_same2 (by (try simp only [List.length_set]); exact jlt (by assumption)) | refine jget_ne (by first | decide | assumption | omega) ?_)) rfl (c_X11_thrown mp2 (jKv_i ?_)) (hf := jfit_k rfl rfl (by omega) (by omega))
    refine J_iload (by rfl) dL_law_1966 ?_
    refine J_icmp_eq 1973 dL_law_1968 (by decide) (fun c1968 => ?_) (fun c1968 => ?_)
    · refine J_iload (by rfl) dL_law_1973 ?_
      refine J_if_ne_n 2011 dL_law_1975 (by decide) (fun c1975 => ?_) (fun c1975 => ?_)
      · refine J_goto 2508 dL_law_2011 (by decide) ?_
        exact J_widen (by omega) (by omega) (next h2 _ f g1 _ _ _ ji o12 o22)
      · obtain ⟨q4, q5, q6⟩ := q2 (by omega)
        refine J_aload (by rfl) (by rfl) dL_law_1978 ?_
        refine J_iconst (nI 0) (by decide) dL_law_1980 ?_
        refine J_dald (0) dL_law_1981 (by repeat (first | assumption | exact jget_same2 (by (try simp only [List.length_set]); exact jlt (by assumption)) | refine jget_ne (by first | decide | assumption | omega) ?_)) (by first | rfl | (simp only [pk_mul, nI_add]; done) | (simp only [pk_mul, nI_add]; congr 1; omega) | (congr 1; omega)) (by omega) ?_
        refine J_fload (by rfl) dL_law_1982 ?_
        refine J_f2d (q6) dL_law_1984 ?_
        refine J_dcmp dL_law_1985 ?_
        rw [q4]
        refine J_topi (nI 0) (by rw [q5]; rfl) ?_
        refine J_if_eq_n 2011 dL_law_1986 (by decide) (fun c1986 => ?_) (fun c1986 => ?_)
        · refine J_goto 2508 dL_law_2011 (by decide) ?_
          exact J_widen (by omega) (by omega) (next h2 _ f g1 _ _ _ ji o12 o22)
        · exact absurd c1986 (Nat.lt_irrefl 0)
    · exact absurd rfl c1968
  refine J_aload_n (by rfl) (by rfl) dL_law_1948 ?_
  refine J_aload (by rfl) (by rfl) dL_law_1949 ?_
  refine J_SX2v dL_law_1951 s_L_281 m_L_alarmRate rfl (w_alarmRate c0 (fun Q' k1 k2 => c_X10_alarmRate I cp (by omega) (fun hT => k1 _ _ _ (f2d_vf (fdiv_vf (nI_ne hT (by have := I.u.1; omega)))) o2 (jKv_i ?_)) (fun hT => k2 _ _ ?_))) (jfit_k rfl rfl (by omega) (by omega))
  · have hfs := (jFr.refl (C := fun j => j = 126)).set 126 (.inl (4, 1, .inr (.inr (.inr (.inl (vf_upd g 0 (FP.f2d (FP.fdiv (FP.i2f (nI (s 10))) (FP.i2f (nI (s 9))))))))))) (h := h) rfl
    have mp5 := MPc.frm mp hfs (fun j a b => by omega)
    have cp5 := cp.frm hfs (fun j hj => by omega)
    have ji0 := mp5
    obtain ⟨an9, he9, cm9, W9, F9, C9, m116, _⟩ := ji0
    exact cont 0 (FP.fdiv (FP.i2f (nI (s 10))) (FP.i2f (nI (s 9)))) _ _ (by omega) ⟨_, m116⟩ (hfs.at (by decide) o1) (jget_same2 (jlt o2)) (fun _ => ⟨rfl, dcmp_refl (f2d_vf (fdiv_vf (nI_ne hT (by have := I.u.1; omega)))), f2d_vf (fdiv_vf (nI_ne hT (by have := I.u.1; omega)))⟩) (fun Q hq => c_X11_alarmRate I mp5 (by omega) (fun _ h2 hf2 mp2 => hq h2 hf2 ⟨_, sc, sm, P, _, ea, fa, sv, lf, ln, tx, tp, (cp5).frm hf2 (fun j hj => by show ¬ (_ ∧ _); omega), mp2, I.mono (by omega), fun w => ⟨(hv w).1.mono (by omega), (hv w).2⟩, hp.mono (by omega), h1', h2', h3, h4, h5, h6, h7⟩) (fun e => absurd e (by omega)))
  · have ji0 := mp
    obtain ⟨an9, he9, cm9, W9, F9, C9, m116, _⟩ := ji0
    have ct := cont 1 (0) _ g (by omega) ⟨_, m116⟩ o1 o2 (fun w => by omega) (fun Q hq => c_X11_alarmRate I mp (by omega) (fun e => absurd e (by omega)) (fun _ h2 hf2 mp2 => hq h2 hf2 ⟨_, sc, sm, P, _, ea, fa, sv, lf, ln, tx, tp, (cp).frm hf2 (fun j hj => by show ¬ (_ ∧ _); omega), mp2, I.mono (by omega), fun w => ⟨(hv w).1.mono (by omega), (hv w).2⟩, hp.mono (by omega), h1', h2', h3, h4, h5, h6, h7⟩))
    exact ⟨rfl, jKv_i ct⟩
theorem lawg_meanTrailLength (hi : i + 4 ≤ g_L G) (hL : g_L G ≤ 2048) (hc : kc + 10 ≤ room_1.cells) (hn : kn + 60 ≤ room_1.slots) (hK : K < 2 ^ 29) (g1 : JI K h th) (o1 : h[125]? = some (.inl (3, 1, .inr (.inl f)))) (o2 : h[126]? = some (.inl (4, 1, .inr (.inr (.inr (.inl g))))))
    (next : ∀ h' th' f' g' l6 l7 l8, JI (K + 13) h' th' → h'[125]? = some (.inl (3, 1, .inr (.inl f'))) → h'[126]? = some (.inl (4, 1, .inr (.inr (.inr (.inl g'))))) → J G room_1 F M_L_law false (kc + 10) (kn + 60) 2508 [some (.retAddr 0), some (.ref 0), some (.ref 116), some (.ref 125), some (.ref 126), some (.int (nI i)), l6, l7, l8] [] h') :
    J G room_1 F M_L_law false kc kn 2014 [some (.retAddr 0), some (.ref 0), some (.ref 116), some (.ref 125), some (.ref 126), some (.int (nI i)), l6, l7, l8] [] h := by
  obtain ⟨s, sc, sm, P, ch, ea, fa, sv, lf, ln, tx, tp, cp, mp, I, hv, hp, h1', h2', h3, h4, h5, h6, h7⟩ := g1
  have c0 := cp.c0
  have cont : ∀ (T : Nat) (v : UInt64) (h1 : jH) (g1 : Nat → UInt64), T ≤ 9 → (∃ vs, h1[116]? = some (.inr (11, vs))) → h1[125]? = some (.inl (3, 1, .inr (.inl f))) → h1[126]? = some (.inl (4, 1, .inr (.inr (.inr (.inl g1))))) → (T = 0 → g1 0 = v ∧ FP.dcmp (v) (v) = some .eq) → (∀ Q : jQ_, (∀ h2, jFr mC h1 h2 → JI (K + 13) h2 T → Q (.inl (some (.double v))) h2) → jCT G M_X11_meanTrailLength 3 0 0 false [.ref 116] h1 Q) → J G room_1 F M_L_law false (kc + 1) (kn + 6) 2020 [some (.retAddr 0), some (.ref 0), some (.ref 116), some (.ref 125), some (.ref 126), some (.int (nI i)), l6, l7, l8] [.int (nI T)] h1 := by
    intro T v h1 g1 hT2 m116 q1 q3 q2 hm
    obtain ⟨vs9, m116⟩ := m116
    refine J_istore_6 dL_law_2020 ?_
    refine J_aload_n (by rfl) (by rfl) dL_law_2022 ?_
    refine J_V0v (ci := 11) dL_law_2023 s_L_287 m_X11_meanTrailLength rfl (by repeat (first | assumption | exact jget_same2 (by (try simp only [List.length_set]); exact jlt (by assumption)) | refine jget_ne (by first | decide | assumption | omega) ?_)) rfl (hm _ (fun h2 hf2 ji => (jKv_i ?_))) (hf := jfit_k rfl rfl (by omega) (by omega))
    have e116 := ji
    obtain ⟨_, _, _, _, _, _, _, _, _, _, _, _, _, mp2, _⟩ := e116
    obtain ⟨vs8, m1162⟩ := JI.r116 ji
    have o12 := hf2.at (by decide) q1
    have o22 := hf2.at (by decide) q3
    refine J_dstore dL_law_2026 (by decide) ?_
    refine J_aload_n (by rfl) (by rfl) dL_law_2028 ?_
    refine J_V0v (ci := 11) dL_law_2029 s_L_146 m_X11_thrown rfl (by repeat (first | assumption | exact jget_same2 (by (try simp only [List.length_set]); exact jlt (by assumption)) | refine jget_ne (by first | decide | assumption | omega) ?_)) rfl (c_X11_thrown mp2 (jKv_i ?_)) (hf := jfit_k rfl rfl (by omega) (by omega))
    refine J_iload (by rfl) dL_law_2032 ?_
    refine J_icmp_eq 2039 dL_law_2034 (by decide) (fun c2034 => ?_) (fun c2034 => ?_)
    · refine J_iload (by rfl) dL_law_2039 ?_
      refine J_if_ne_n 2076 dL_law_2041 (by decide) (fun c2041 => ?_) (fun c2041 => ?_)
      · refine J_goto 2508 dL_law_2076 (by decide) ?_
        exact J_widen (by omega) (by omega) (next h2 _ f g1 _ _ _ ji o12 o22)
      · obtain ⟨q4, q5⟩ := q2 (by omega)
        refine J_aload (by rfl) (by rfl) dL_law_2044 ?_
        refine J_iconst (nI 0) (by decide) dL_law_2046 ?_
        refine J_dald (0) dL_law_2047 (by repeat (first | assumption | exact jget_same2 (by (try simp only [List.length_set]); exact jlt (by assumption)) | refine jget_ne (by first | decide | assumption | omega) ?_)) (by first | rfl | (simp only [pk_mul, nI_add]; done) | (simp only [pk_mul, nI_add]; congr 1; omega) | (congr 1; omega)) (by omega) ?_
        refine J_dload (by rfl) dL_law_2048 ?_
        refine J_dcmp dL_law_2050 ?_
        rw [q4]
        refine J_topi (nI 0) (by rw [q5]; rfl) ?_
        refine J_if_eq_n 2076 dL_law_2051 (by decide) (fun c2051 => ?_) (fun c2051 => ?_)
        · refine J_goto 2508 dL_law_2076 (by decide) ?_
          exact J_widen (by omega) (by omega) (next h2 _ f g1 _ _ _ ji o12 o22)
        · exact absurd c2051 (Nat.lt_irrefl 0)
    · exact absurd rfl c2034
  refine J_aload_n (by rfl) (by rfl) dL_law_2014 ?_
  refine J_aload (by rfl) (by rfl) dL_law_2015 ?_
  refine J_SX2v dL_law_2017 s_L_285 m_L_meanTrailLength rfl (w_meanTrailLength c0 (fun Q' k1 k2 => c_X10_meanTrailLength I cp (fun hT => k1 _ _ _ o2 (jKv_i ?_)) (fun hT => k2 _ _ ?_))) (jfit_k rfl rfl (by omega) (by omega))
  · have hfs := (jFr.refl (C := fun j => j = 126)).set 126 (.inl (4, 1, .inr (.inr (.inr (.inl (vf_upd g 0 (FP.ddiv (FP.i2d (nI (lowS (wS s) 12))) (FP.i2d (nI (mT (wS s))))))))))) (h := h) rfl
    have mp5 := MPc.frm mp hfs (fun j a b => by omega)
    have cp5 := cp.frm hfs (fun j hj => by omega)
    have ji0 := mp5
    obtain ⟨an9, he9, cm9, W9, F9, C9, m116, _⟩ := ji0
    exact cont 0 (FP.ddiv (FP.i2d (nI (lowS (wS s) 12))) (FP.i2d (nI (mT (wS s))))) _ _ (by omega) ⟨_, m116⟩ (hfs.at (by decide) o1) (jget_same2 (jlt o2)) (fun _ => ⟨rfl, dcmp_refl (ddiv_vf (nI_ne hT (by have := mT_le (wS s); omega)))⟩) (fun Q hq => c_X11_meanTrailLength I mp5 (fun _ h2 hf2 mp2 => hq h2 hf2 ⟨_, sc, sm, P, _, ea, fa, sv, lf, ln, tx, tp, (cp5).frm hf2 (fun j hj => by show ¬ (_ ∧ _); omega), mp2, I.mono (by omega), fun w => ⟨(hv w).1.mono (by omega), (hv w).2⟩, hp.mono (by omega), h1', h2', h3, h4, h5, h6, h7⟩) (fun e => absurd e (by omega)))
  · have ji0 := mp
    obtain ⟨an9, he9, cm9, W9, F9, C9, m116, _⟩ := ji0
    have ct := cont 1 (0) _ g (by omega) ⟨_, m116⟩ o1 o2 (fun w => by omega) (fun Q hq => c_X11_meanTrailLength I mp (fun e => absurd e (by omega)) (fun _ h2 hf2 mp2 => hq h2 hf2 ⟨_, sc, sm, P, _, ea, fa, sv, lf, ln, tx, tp, (cp).frm hf2 (fun j hj => by show ¬ (_ ∧ _); omega), mp2, I.mono (by omega), fun w => ⟨(hv w).1.mono (by omega), (hv w).2⟩, hp.mono (by omega), h1', h2', h3, h4, h5, h6, h7⟩))
    exact ⟨rfl, jKv_i ct⟩
end LAWJ
