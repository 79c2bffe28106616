/-! The reference: a tour begins; a command by its letter -/
theorem setR_1 {s r : Nat → Nat} {k : Nat} : setR s r k 1 = k + 1 := by unfold setR; rw [if_neg (by omega), if_pos rfl]
theorem setR_o {s r : Nat → Nat} {k q : Nat} (h1 : q < 192 ∨ 192 + (k + 1) ≤ q) (h2 : q ≠ 1) : setR s r k q = s q := by unfold setR; rw [if_neg (by omega), if_neg h2]
theorem setR_i {s r : Nat → Nat} {k i : Nat} (h : i ≤ k) : setR s r k (192 + i) = r i := by unfold setR; rw [if_pos (by omega), show 192 + i - 192 = i by omega]
theorem setR_0 {s r : Nat → Nat} : updN (updN s 192 (r 0)) 1 1 = setR s r 0 := by
  funext q
  unfold setR updN
  by_cases h1 : q = 1
  · subst h1; rw [if_pos rfl, if_neg (by omega), if_pos rfl]
  · rw [if_neg h1, if_neg h1]
    by_cases h2 : q = 192
    · subst h2; rw [if_pos rfl, if_pos (by omega)]
    · rw [if_neg h2, if_neg (by omega)]
theorem setR_s {s r : Nat → Nat} {k : Nat} : updN (updN (setR s r k) (192 + (k + 1)) (r (k + 1))) 1 (k + 1 + 1) = setR s r (k + 1) := by
  funext q
  unfold setR updN
  by_cases h1 : q = 1
  · subst h1; rw [if_pos rfl, if_neg (by omega), if_pos rfl]
  · rw [if_neg h1]
    by_cases h2 : q = 192 + (k + 1)
    · subst h2; rw [if_pos rfl, if_pos (by omega), show 192 + (k + 1) - 192 = k + 1 by omega]
    · rw [if_neg h2]
      by_cases h3 : 192 ≤ q ∧ q < 192 + (k + 1)
      · dsimp only
        rw [if_pos h3, if_pos (by omega)]
      · dsimp only
        rw [if_neg h3, if_neg h1, if_neg (by omega), if_neg h1]
section MODEL5
variable {G : jG} {X : Bool} {h : jH} {Q : jQ_} {ch th ln tp he cm n K : Nat} {ea fa an : Int32} {sv : Bool} {s w F D : Nat → Nat}
theorem c_X11_tours (x y : Int32) (hI : Inv K s) (hM : h[116]? = some (hMo ch th ea fa an sv ln tp he cm)) (hS : h[117]? = some (ia 204 s)) (hF : h[121]? = some (ia 12 F))
    (hQ : ∀ D, Q (.inl (some (.int (nI (if T3 s x y = 0 then rLS s (nP x) (nP y) + 1 else 0))))) (((h.set 116 (hMo ch (T3 s x y) ea fa an sv ln tp he cm)).set 117 (ia 204 (if T3 s x y = 0 then N3 s x y else s))).set 121 (ia 12 D))) : jCT G M_X11_tours 3 0 0 X [.ref 116, .int x, .int y] h Q := by
  refine jCT_of [some (.ref 116), some (.int x), some (.int y), none] 1 rfl (by decide +kernel) rfl rfl ?_
  have hn := hI.n12
  have h1 := hI.s1
  have hF_id : ∀ c d, (((h.set 116 c).set 117 (ia 204 s)).set 121 d) = (h.set 116 c).set 121 d := fun c d => by rw [hS_id hS]
  have hF_id2 : ∀ c, ((h.set 116 c).set 121 (ia 12 F)) = h.set 116 c := fun c => hset_id (by rw [List.getElem?_set_ne (by decide)]; exact hF)
  refine J_aload_n (by rfl) (by rfl) dX11_tours_0 ?_
  refine J_aload_n (by rfl) (by rfl) dX11_tours_1 ?_
  refine J_iload_n (by rfl) dX11_tours_2 ?_
  refine J_V1v (ci := 11) dX11_tours_3 s_X11_78 m_X11_isPoint rfl (by repeat (first | assumption | exact jget_same2 (by (try simp only [List.length_set]); exact jlt (by assumption)) | refine jget_ne (by first | decide | assumption | omega) ?_)) rfl (c_X11_isPoint x hn hM hS (jKv_i ?_))
  refine J_if_eq_b 17 dX11_tours_6 (by decide) (fun c6 => ?_) (fun c6 => ?_)
  · have hQ := hQ F
    rw [show T3 s x y = 1 by simp [T3, both, c6], if_neg (by decide), if_neg (by decide), hF_id, hF_id2] at hQ
    refine J_iconst (nI 1) (by decide) dX11_tours_17 ?_
    refine J_goto 22 dX11_tours_18 (by decide) ?_
    refine J_iconst (nI 1) (by decide) dX11_tours_22 ?_
    refine J_V2v (ci := 11) dX11_tours_23 s_X11_63 m_X11_isThrown rfl (by repeat (first | assumption | exact jget_same2 (by (try simp only [List.length_set]); exact jlt (by assumption)) | refine jget_ne (by first | decide | assumption | omega) ?_)) rfl (c_X11_isThrown true hM (jKv_i ?_))
    refine J_if_ne_b 59 dX11_tours_26 (by decide) (fun c26 => ?_) (fun c26 => ?_)
    · refine J_iconst (nI 0) (by decide) dX11_tours_59 ?_
      exact J_ireturn dX11_tours_60 rfl (hQ) (by decide) (by decide) (fun _ => rfl)
    · exact absurd c26 (by decide)
  · refine J_aload_n (by rfl) (by rfl) dX11_tours_9 ?_
    refine J_iload_n (by rfl) dX11_tours_10 ?_
    refine J_V1v (ci := 11) dX11_tours_11 s_X11_78 m_X11_isPoint rfl (by repeat (first | assumption | exact jget_same2 (by (try simp only [List.length_set]); exact jlt (by assumption)) | refine jget_ne (by first | decide | assumption | omega) ?_)) rfl (c_X11_isPoint y hn hM hS (jKv_i ?_))
    refine J_if_ne_b 21 dX11_tours_14 (by decide) (fun c14 => ?_) (fun c14 => ?_)
    · obtain ⟨i, j, rfl, rfl, hi, hj, e1, e2⟩ := both_t hn c6 c14
      refine J_iconst (nI 0) (by decide) dX11_tours_21 ?_
      refine J_iconst (nI 1) (by decide) dX11_tours_22 ?_
      refine J_V2v (ci := 11) dX11_tours_23 s_X11_63 m_X11_isThrown rfl (by repeat (first | assumption | exact jget_same2 (by (try simp only [List.length_set]); exact jlt (by assumption)) | refine jget_ne (by first | decide | assumption | omega) ?_)) rfl (c_X11_isThrown false hM (jKv_i ?_))
      refine J_if_ne_b 59 dX11_tours_26 (by decide) (fun c26 => ?_) (fun c26 => ?_)
      · exact absurd c26 (by decide)
      · refine J_aload_n (by rfl) (by rfl) dX11_tours_29 ?_
        refine J_iload_n (by rfl) dX11_tours_30 ?_
        refine J_iload_n (by rfl) dX11_tours_31 ?_
        refine J_icmp_ne_n 39 dX11_tours_32 (by decide) (fun c32 => ?_) (fun c32 => ?_)
        · have hne : ¬ nI i = nI j := fun q => c32 ((nI_eq (by omega) (by omega)).mp q)
          refine J_iconst (nI 0) (by decide) dX11_tours_39 ?_
          refine J_iconst (nI 2) (by decide) dX11_tours_40 ?_
          refine J_V2v (ci := 11) dX11_tours_41 s_X11_63 m_X11_isThrown rfl (by repeat (first | assumption | exact jget_same2 (by (try simp only [List.length_set]); exact jlt (by assumption)) | refine jget_ne (by first | decide | assumption | omega) ?_)) rfl (c_X11_isThrown false (by repeat (first | assumption | exact jget_same2 (by (try simp only [List.length_set]); exact jlt (by assumption)) | refine jget_ne (by first | decide | assumption | omega) ?_)) (jKv_i ?_))
          refine J_if_ne_b 59 dX11_tours_44 (by decide) (fun c44 => ?_) (fun c44 => ?_)
          · exact absurd c44 (by decide)
          · refine J_aload_n (by rfl) (by rfl) dX11_tours_47 ?_
            refine J_aload_n (by rfl) (by rfl) dX11_tours_48 ?_
            refine J_V0v (ci := 11) dX11_tours_49 s_X11_97 m_X11_isOnTour rfl (by repeat (first | assumption | exact jget_same2 (by (try simp only [List.length_set]); exact jlt (by assumption)) | refine jget_ne (by first | decide | assumption | omega) ?_)) rfl (c_X11_isOnTour h1 (by repeat (first | assumption | exact jget_same2 (by (try simp only [List.length_set]); exact jlt (by assumption)) | refine jget_ne (by first | decide | assumption | omega) ?_)) (by repeat (first | assumption | exact jget_same2 (by (try simp only [List.length_set]); exact jlt (by assumption)) | refine jget_ne (by first | decide | assumption | omega) ?_)) (jKv_i ?_))
            refine J_iconst (nI 3) (by decide) dX11_tours_52 ?_
            refine J_V2v (ci := 11) dX11_tours_53 s_X11_63 m_X11_isThrown rfl (by repeat (first | assumption | exact jget_same2 (by (try simp only [List.length_set]); exact jlt (by assumption)) | refine jget_ne (by first | decide | assumption | omega) ?_)) rfl (c_X11_isThrown (decide (0 < s 1)) (by repeat (first | assumption | exact jget_same2 (by (try simp only [List.length_set]); exact jlt (by assumption)) | refine jget_ne (by first | decide | assumption | omega) ?_)) (jKv_i ?_))
            refine J_if_eq_b 61 dX11_tours_56 (by decide) (fun c56 => ?_) (fun c56 => ?_)
            · have c56 : ¬ 0 < s 1 := by simpa using c56
              refine J_aload_n (by rfl) (by rfl) dX11_tours_61 ?_
              refine J_iload_n (by rfl) dX11_tours_62 ?_
              refine J_V10 (ci := 11) dX11_tours_63 s_X11_101 m_X11_finds rfl (by repeat (first | assumption | exact jget_same2 (by (try simp only [List.length_set]); exact jlt (by assumption)) | refine jget_ne (by first | decide | assumption | omega) ?_)) rfl (c_X11_finds (a := j) (w := wS s) (F := F) hI.g (fun _ _ => rfl) (by omega) (by repeat (first | assumption | exact jget_same2 (by (try simp only [List.length_set]); exact jlt (by assumption)) | refine jget_ne (by first | decide | assumption | omega) ?_)) (by repeat (first | assumption | exact jget_same2 (by (try simp only [List.length_set]); exact jlt (by assumption)) | refine jget_ne (by first | decide | assumption | omega) ?_)) (by repeat (first | assumption | exact jget_same2 (by (try simp only [List.length_set]); exact jlt (by assumption)) | refine jget_ne (by first | decide | assumption | omega) ?_)) (fun D hD => (jK0_i ?_)))
              refine J_aload_n (by rfl) (by rfl) dX11_tours_66 ?_
              refine J_aload_n (by rfl) (by rfl) dX11_tours_67 ?_
              refine J_get dX11_tours_68 f_X11_22 (by repeat (first | assumption | exact jget_same2 (by (try simp only [List.length_set]); exact jlt (by assumption)) | refine jget_ne (by first | decide | assumption | omega) ?_)) (by rfl) ?_
              refine J_iload_n (by rfl) dX11_tours_71 ?_
              have hDi := hD.dst hI.g (v := i) (by omega)
              have hDm := hD.m i (by omega)
              have hDi2 : D i < 99999 ↔ dst (wS s) j i < 99999 := by rw [hDi]
              refine J_iald_n (i) dX11_tours_72 (by repeat (first | assumption | exact jget_same2 (by (try simp only [List.length_set]); exact jlt (by assumption)) | refine jget_ne (by first | decide | assumption | omega) ?_)) (by first | rfl | (simp only [pk_mul, nI_add]; done) | (simp only [pk_mul, nI_add]; congr 1; omega) | (congr 1; omega)) (by omega) ?_
              refine J_ldcI dX11_tours_73 k_X11_96 ?_
              refine J_topi (nI 99999) (by rfl) ?_
              refine J_icmp_lt_n 82 dX11_tours_75 (by decide) (fun c75 => ?_) (fun c75 => ?_)
              · have hf := hDi2.mp c75
                have hT : T3 s (nI i) (nI j) = 0 := by simp only [T3, both, c6, c14, Bool.and_self, if_true, e1, e2]; rw [if_neg hne, if_neg c56, if_pos hf]
                have hQ := hQ D
                rw [hT, if_pos rfl, if_pos rfl] at hQ
                unfold N3 at hQ
                rw [e1, e2] at hQ
                obtain ⟨q1, q2, q3, q4⟩ := rL_spec (a := j) (c := i) hI.g hi c32 hf
                refine J_iconst (nI 0) (by decide) dX11_tours_82 ?_
                refine J_iconst (nI 4) (by decide) dX11_tours_83 ?_
                refine J_V2v (ci := 11) dX11_tours_84 s_X11_63 m_X11_isThrown rfl (by repeat (first | assumption | exact jget_same2 (by (try simp only [List.length_set]); exact jlt (by assumption)) | refine jget_ne (by first | decide | assumption | omega) ?_)) rfl (c_X11_isThrown false (by repeat (first | assumption | exact jget_same2 (by (try simp only [List.length_set]); exact jlt (by assumption)) | refine jget_ne (by first | decide | assumption | omega) ?_)) (jKv_i ?_))
                refine J_if_eq_b 92 dX11_tours_87 (by decide) (fun c87 => ?_) (fun c87 => ?_)
                · refine J_iload_n (by rfl) dX11_tours_92 ?_
                  refine J_istore_3 dX11_tours_93 ?_
                  refine J_aload_n (by rfl) (by rfl) dX11_tours_94 ?_
                  refine J_get dX11_tours_95 f_X11_9 (by repeat (first | assumption | exact jget_same2 (by (try simp only [List.length_set]); exact jlt (by assumption)) | refine jget_ne (by first | decide | assumption | omega) ?_)) (by rfl) ?_
                  refine J_sipush (nI 192) (by decide) dX11_tours_98 ?_
                  refine J_iload_n (by rfl) dX11_tours_101 ?_
                  refine J_iast_n (192) dX11_tours_102 (by repeat (first | assumption | exact jget_same2 (by (try simp only [List.length_set]); exact jlt (by assumption)) | refine jget_ne (by first | decide | assumption | omega) ?_)) (by first | rfl | (simp only [pk_mul, nI_add]; done) | (simp only [pk_mul, nI_add]; congr 1; omega) | (congr 1; omega)) (by omega) ?_
                  refine J_aload_n (by rfl) (by rfl) dX11_tours_103 ?_
                  refine J_get dX11_tours_104 f_X11_9 (by repeat (first | assumption | exact jget_same2 (by (try simp only [List.length_set]); exact jlt (by assumption)) | refine jget_ne (by first | decide | assumption | omega) ?_)) (by rfl) ?_
                  refine J_iconst (nI 1) (by decide) dX11_tours_107 ?_
                  refine J_iconst (nI 1) (by decide) dX11_tours_108 ?_
                  refine J_iast_n (1) dX11_tours_109 (by repeat (first | assumption | exact jget_same2 (by (try simp only [List.length_set]); exact jlt (by assumption)) | refine jget_ne (by first | decide | assumption | omega) ?_)) (by first | rfl | (simp only [pk_mul, nI_add]; done) | (simp only [pk_mul, nI_add]; congr 1; omega) | (congr 1; omega)) (by omega) ?_
                  have e0 : updN (updN s 192 i) 1 1 = setR s (roS s i j) 0 := setR_0 (r := roS s i j)
                  simp only [List.set_set, jsw (i := 116) (j := 117) (by decide), jsw (i := 116) (j := 118) (by decide), jsw (i := 116) (j := 120) (by decide), jsw (i := 116) (j := 121) (by decide), jsw (i := 117) (j := 118) (by decide), jsw (i := 117) (j := 120) (by decide), jsw (i := 117) (j := 121) (by decide), jsw (i := 118) (j := 120) (by decide), jsw (i := 118) (j := 121) (by decide), jsw (i := 120) (j := 121) (by decide)]
                  rw [e0]
                  suffices loop : ∀ k, k ≤ rLS s i j → J G (jR 3 0 0) (jFin G Q X 0 0) M_X11_tours X 0 0 110 [some (.ref 116), some (.int (nI i)), some (.int (nI j)), some (.int (nI (roS s i j k)))] [] (((h.set 116 (hMo ch 0 ea fa an sv ln tp he cm)).set 117 (ia 204 (setR s (roS s i j) k))).set 121 (ia 12 D)) by
                    exact loop 0 (by omega)
                  refine up_ind _ (fun k hk ih => ?_)
                  have hro := ro_spec (a := j) (c := i) hI.g hi hf k (fun z hz => q2 z (by unfold rLS at hk; omega))
                  have hro1 : roS s i j k < 12 := by have := hro.1; unfold roS; omega
                  by_cases hkL : k < rLS s i j
                  · have hne2 : roS s i j k ≠ j := q2 k hkL
                    have hk11 : k < 11 := by unfold rLS at hkL; omega
                    refine J_iload_n (by rfl) dX11_tours_110 ?_
                    refine J_iload_n (by rfl) dX11_tours_111 ?_
                    refine J_icmp_eq_n 150 dX11_tours_112 (by decide) (fun c112 => ?_) (fun c112 => ?_)
                    · exact absurd c112 hne2
                    · refine J_aload_n (by rfl) (by rfl) dX11_tours_115 ?_
                      refine J_iload_n (by rfl) dX11_tours_116 ?_
                      refine J_V1v (ci := 11) dX11_tours_117 s_X11_105 m_X11_following rfl (by repeat (first | assumption | exact jget_same2 (by (try simp only [List.length_set]); exact jlt (by assumption)) | refine jget_ne (by first | decide | assumption | omega) ?_)) rfl (c_X11_following (a := j) (c := roS s i j k) (n := s 0) (w := wS s) (s := setR s (roS s i j) k) (D := D) hI.g (setR_o (by omega) (by omega)) (fun z hz => setR_o (by omega) (by omega)) hro1 hne2 hro.2.1 hD (by repeat (first | assumption | exact jget_same2 (by (try simp only [List.length_set]); exact jlt (by assumption)) | refine jget_ne (by first | decide | assumption | omega) ?_)) (by repeat (first | assumption | exact jget_same2 (by (try simp only [List.length_set]); exact jlt (by assumption)) | refine jget_ne (by first | decide | assumption | omega) ?_)) (by repeat (first | assumption | exact jget_same2 (by (try simp only [List.length_set]); exact jlt (by assumption)) | refine jget_ne (by first | decide | assumption | omega) ?_)) (jKv_i ?_))
                      refine J_topi (nI (roS s i j (k + 1))) rfl ?_
                      refine J_istore_3 dX11_tours_120 ?_
                      refine J_aload_n (by rfl) (by rfl) dX11_tours_121 ?_
                      refine J_get dX11_tours_122 f_X11_9 (by repeat (first | assumption | exact jget_same2 (by (try simp only [List.length_set]); exact jlt (by assumption)) | refine jget_ne (by first | decide | assumption | omega) ?_)) (by rfl) ?_
                      refine J_sipush (nI 192) (by decide) dX11_tours_125 ?_
                      refine J_aload_n (by rfl) (by rfl) dX11_tours_128 ?_
                      refine J_get dX11_tours_129 f_X11_9 (by repeat (first | assumption | exact jget_same2 (by (try simp only [List.length_set]); exact jlt (by assumption)) | refine jget_ne (by first | decide | assumption | omega) ?_)) (by rfl) ?_
                      refine J_iconst (nI 1) (by decide) dX11_tours_132 ?_
                      refine J_iald_n (1) dX11_tours_133 (by repeat (first | assumption | exact jget_same2 (by (try simp only [List.length_set]); exact jlt (by assumption)) | refine jget_ne (by first | decide | assumption | omega) ?_)) (by first | rfl | (simp only [pk_mul, nI_add]; done) | (simp only [pk_mul, nI_add]; congr 1; omega) | (congr 1; omega)) (by omega) ?_
                      refine J_topi (nI (k + 1)) (by rw [setR_1]) ?_
                      refine J_iadd dX11_tours_134 ?_
                      try rw [nI_add]
                      refine J_iload_n (by rfl) dX11_tours_135 ?_
                      refine J_iast_n (192 + (k + 1)) dX11_tours_136 (by repeat (first | assumption | exact jget_same2 (by (try simp only [List.length_set]); exact jlt (by assumption)) | refine jget_ne (by first | decide | assumption | omega) ?_)) (by first | rfl | (simp only [pk_mul, nI_add]; done) | (simp only [pk_mul, nI_add]; congr 1; omega) | (congr 1; omega)) (by omega) ?_
                      refine J_aload_n (by rfl) (by rfl) dX11_tours_137 ?_
                      refine J_get dX11_tours_138 f_X11_9 (by repeat (first | assumption | exact jget_same2 (by (try simp only [List.length_set]); exact jlt (by assumption)) | refine jget_ne (by first | decide | assumption | omega) ?_)) (by rfl) ?_
                      refine J_iconst (nI 1) (by decide) dX11_tours_141 ?_
                      refine J_dup2 (by rfl) (by rfl) dX11_tours_142 ?_
                      refine J_iald_n (1) dX11_tours_143 (by repeat (first | assumption | exact jget_same2 (by (try simp only [List.length_set]); exact jlt (by assumption)) | refine jget_ne (by first | decide | assumption | omega) ?_)) (by first | rfl | (simp only [pk_mul, nI_add]; done) | (simp only [pk_mul, nI_add]; congr 1; omega) | (congr 1; omega)) (by omega) ?_
                      refine J_topi (nI (k + 1)) (by rw [updN_n (by omega), setR_1]) ?_
                      refine J_iconst (nI 1) (by decide) dX11_tours_144 ?_
                      refine J_iadd dX11_tours_145 ?_
                      try rw [nI_add]
                      refine J_iast_n (1) dX11_tours_146 (by repeat (first | assumption | exact jget_same2 (by (try simp only [List.length_set]); exact jlt (by assumption)) | refine jget_ne (by first | decide | assumption | omega) ?_)) (by first | rfl | (simp only [pk_mul, nI_add]; done) | (simp only [pk_mul, nI_add]; congr 1; omega) | (congr 1; omega)) (by omega) ?_
                      refine J_goto 110 dX11_tours_147 (by decide) ?_
                      simp only [List.set_set, jsw (i := 116) (j := 117) (by decide), jsw (i := 116) (j := 118) (by decide), jsw (i := 116) (j := 120) (by decide), jsw (i := 116) (j := 121) (by decide), jsw (i := 117) (j := 118) (by decide), jsw (i := 117) (j := 120) (by decide), jsw (i := 117) (j := 121) (by decide), jsw (i := 118) (j := 120) (by decide), jsw (i := 118) (j := 121) (by decide), jsw (i := 120) (j := 121) (by decide)]
                      rw [setR_s]
                      exact ih hkL
                  · have hkL : k = rLS s i j := by omega
                    subst hkL
                    refine J_iload_n (by rfl) dX11_tours_110 ?_
                    refine J_iload_n (by rfl) dX11_tours_111 ?_
                    refine J_icmp_eq_n 150 dX11_tours_112 (by decide) (fun c112 => ?_) (fun c112 => ?_)
                    · refine J_aload_n (by rfl) (by rfl) dX11_tours_150 ?_
                      refine J_get dX11_tours_151 f_X11_9 (by repeat (first | assumption | exact jget_same2 (by (try simp only [List.length_set]); exact jlt (by assumption)) | refine jget_ne (by first | decide | assumption | omega) ?_)) (by rfl) ?_
                      refine J_iconst (nI 2) (by decide) dX11_tours_154 ?_
                      refine J_iconst (nI 1) (by decide) dX11_tours_155 ?_
                      refine J_iast_n (2) dX11_tours_156 (by repeat (first | assumption | exact jget_same2 (by (try simp only [List.length_set]); exact jlt (by assumption)) | refine jget_ne (by first | decide | assumption | omega) ?_)) (by first | rfl | (simp only [pk_mul, nI_add]; done) | (simp only [pk_mul, nI_add]; congr 1; omega) | (congr 1; omega)) (by omega) ?_
                      refine J_aload_n (by rfl) (by rfl) dX11_tours_157 ?_
                      refine J_get dX11_tours_158 f_X11_9 (by repeat (first | assumption | exact jget_same2 (by (try simp only [List.length_set]); exact jlt (by assumption)) | refine jget_ne (by first | decide | assumption | omega) ?_)) (by rfl) ?_
                      refine J_iconst (nI 3) (by decide) dX11_tours_161 ?_
                      refine J_aload_n (by rfl) (by rfl) dX11_tours_162 ?_
                      refine J_iload_n (by rfl) dX11_tours_163 ?_
                      refine J_iconst (nI 0) (by decide) dX11_tours_164 ?_
                      refine J_V2v (ci := 11) dX11_tours_165 s_X11_108 m_X11_of rfl (by repeat (first | assumption | exact jget_same2 (by (try simp only [List.length_set]); exact jlt (by assumption)) | refine jget_ne (by first | decide | assumption | omega) ?_)) rfl (c_X11_of (i := i) (k := 0) (by omega) (by repeat (first | assumption | exact jget_same2 (by (try simp only [List.length_set]); exact jlt (by assumption)) | refine jget_ne (by first | decide | assumption | omega) ?_)) (by repeat (first | assumption | exact jget_same2 (by (try simp only [List.length_set]); exact jlt (by assumption)) | refine jget_ne (by first | decide | assumption | omega) ?_)) (jKv_i ?_))
                      refine J_topi (nI (s (12 + 3 * i))) (by rw [updN_n (by omega), setR_o (by omega) (by omega)]; rfl) ?_
                      refine J_iast_n (3) dX11_tours_168 (by repeat (first | assumption | exact jget_same2 (by (try simp only [List.length_set]); exact jlt (by assumption)) | refine jget_ne (by first | decide | assumption | omega) ?_)) (by first | rfl | (simp only [pk_mul, nI_add]; done) | (simp only [pk_mul, nI_add]; congr 1; omega) | (congr 1; omega)) (by omega) ?_
                      refine J_aload_n (by rfl) (by rfl) dX11_tours_169 ?_
                      refine J_get dX11_tours_170 f_X11_9 (by repeat (first | assumption | exact jget_same2 (by (try simp only [List.length_set]); exact jlt (by assumption)) | refine jget_ne (by first | decide | assumption | omega) ?_)) (by rfl) ?_
                      refine J_iconst (nI 4) (by decide) dX11_tours_173 ?_
                      refine J_aload_n (by rfl) (by rfl) dX11_tours_174 ?_
                      refine J_iload_n (by rfl) dX11_tours_175 ?_
                      refine J_iconst (nI 1) (by decide) dX11_tours_176 ?_
                      refine J_V2v (ci := 11) dX11_tours_177 s_X11_108 m_X11_of rfl (by repeat (first | assumption | exact jget_same2 (by (try simp only [List.length_set]); exact jlt (by assumption)) | refine jget_ne (by first | decide | assumption | omega) ?_)) rfl (c_X11_of (i := i) (k := 1) (by omega) (by repeat (first | assumption | exact jget_same2 (by (try simp only [List.length_set]); exact jlt (by assumption)) | refine jget_ne (by first | decide | assumption | omega) ?_)) (by repeat (first | assumption | exact jget_same2 (by (try simp only [List.length_set]); exact jlt (by assumption)) | refine jget_ne (by first | decide | assumption | omega) ?_)) (jKv_i ?_))
                      refine J_topi (nI (s (12 + 3 * i + 1))) (by rw [updN_n (by omega), updN_n (by omega), setR_o (by omega) (by omega)]) ?_
                      refine J_iast_n (4) dX11_tours_180 (by repeat (first | assumption | exact jget_same2 (by (try simp only [List.length_set]); exact jlt (by assumption)) | refine jget_ne (by first | decide | assumption | omega) ?_)) (by first | rfl | (simp only [pk_mul, nI_add]; done) | (simp only [pk_mul, nI_add]; congr 1; omega) | (congr 1; omega)) (by omega) ?_
                      refine J_aload_n (by rfl) (by rfl) dX11_tours_181 ?_
                      refine J_get dX11_tours_182 f_X11_9 (by repeat (first | assumption | exact jget_same2 (by (try simp only [List.length_set]); exact jlt (by assumption)) | refine jget_ne (by first | decide | assumption | omega) ?_)) (by rfl) ?_
                      refine J_iconst (nI 5) (by decide) dX11_tours_185 ?_
                      refine J_iconst (nI 0) (by decide) dX11_tours_186 ?_
                      refine J_iast_n (5) dX11_tours_187 (by repeat (first | assumption | exact jget_same2 (by (try simp only [List.length_set]); exact jlt (by assumption)) | refine jget_ne (by first | decide | assumption | omega) ?_)) (by first | rfl | (simp only [pk_mul, nI_add]; done) | (simp only [pk_mul, nI_add]; congr 1; omega) | (congr 1; omega)) (by omega) ?_
                      refine J_aload_n (by rfl) (by rfl) dX11_tours_188 ?_
                      refine J_get dX11_tours_189 f_X11_9 (by repeat (first | assumption | exact jget_same2 (by (try simp only [List.length_set]); exact jlt (by assumption)) | refine jget_ne (by first | decide | assumption | omega) ?_)) (by rfl) ?_
                      refine J_iconst (nI 1) (by decide) dX11_tours_192 ?_
                      refine J_iald_n (1) dX11_tours_193 (by repeat (first | assumption | exact jget_same2 (by (try simp only [List.length_set]); exact jlt (by assumption)) | refine jget_ne (by first | decide | assumption | omega) ?_)) (by first | rfl | (simp only [pk_mul, nI_add]; done) | (simp only [pk_mul, nI_add]; congr 1; omega) | (congr 1; omega)) (by omega) ?_
                      refine J_topi (nI (rLS s i j + 1)) (by rw [updN_n (by omega), updN_n (by omega), updN_n (by omega), updN_n (by omega), setR_1]) ?_
                      exact J_ireturn dX11_tours_194 rfl (by simp only [List.set_set, jsw (i := 116) (j := 117) (by decide), jsw (i := 116) (j := 118) (by decide), jsw (i := 116) (j := 120) (by decide), jsw (i := 116) (j := 121) (by decide), jsw (i := 117) (j := 118) (by decide), jsw (i := 117) (j := 120) (by decide), jsw (i := 117) (j := 121) (by decide), jsw (i := 118) (j := 120) (by decide), jsw (i := 118) (j := 121) (by decide), jsw (i := 120) (j := 121) (by decide)]; exact hQ) (by decide) (by decide) (fun _ => rfl)
                    · exact absurd q1 c112
                · exact absurd c87 (by decide)
              · have hf : ¬ dst (wS s) j i < 99999 := fun z => by have := hDi2.mpr z; omega
                have hT : T3 s (nI i) (nI j) = 4 := by simp only [T3, both, c6, c14, Bool.and_self, if_true, e1, e2]; rw [if_neg hne, if_neg c56, if_neg hf]
                have hQ := hQ D
                rw [hT, if_neg (by decide), if_neg (by decide), hF_id] at hQ
                refine J_iconst (nI 1) (by decide) dX11_tours_78 ?_
                refine J_goto 83 dX11_tours_79 (by decide) ?_
                refine J_iconst (nI 4) (by decide) dX11_tours_83 ?_
                refine J_V2v (ci := 11) dX11_tours_84 s_X11_63 m_X11_isThrown rfl (by repeat (first | assumption | exact jget_same2 (by (try simp only [List.length_set]); exact jlt (by assumption)) | refine jget_ne (by first | decide | assumption | omega) ?_)) rfl (c_X11_isThrown true (by repeat (first | assumption | exact jget_same2 (by (try simp only [List.length_set]); exact jlt (by assumption)) | refine jget_ne (by first | decide | assumption | omega) ?_)) (jKv_i ?_))
                refine J_if_eq_b 92 dX11_tours_87 (by decide) (fun c87 => ?_) (fun c87 => ?_)
                · exact absurd c87 (by decide)
                · refine J_iconst (nI 0) (by decide) dX11_tours_90 ?_
                  exact J_ireturn dX11_tours_91 rfl (by simp only [List.set_set, jsw (i := 116) (j := 117) (by decide), jsw (i := 116) (j := 118) (by decide), jsw (i := 116) (j := 120) (by decide), jsw (i := 116) (j := 121) (by decide), jsw (i := 117) (j := 118) (by decide), jsw (i := 117) (j := 120) (by decide), jsw (i := 117) (j := 121) (by decide), jsw (i := 118) (j := 120) (by decide), jsw (i := 118) (j := 121) (by decide), jsw (i := 120) (j := 121) (by decide)]; exact hQ) (by decide) (by decide) (fun _ => rfl)
            · have c56 : 0 < s 1 := by simpa using c56
              have hT : T3 s (nI i) (nI j) = 3 := by simp only [T3, both, c6, c14, Bool.and_self, if_true, e1, e2]; rw [if_neg hne, if_pos c56]
              have hQ := hQ F
              rw [hT, if_neg (by decide), if_neg (by decide), hF_id, hF_id2] at hQ
              rw [show decide (0 < s 1) = true by simpa using c56]
              refine J_iconst (nI 0) (by decide) dX11_tours_59 ?_
              exact J_ireturn dX11_tours_60 rfl (by simp only [List.set_set, jsw (i := 116) (j := 117) (by decide), jsw (i := 116) (j := 118) (by decide), jsw (i := 116) (j := 120) (by decide), jsw (i := 116) (j := 121) (by decide), jsw (i := 117) (j := 118) (by decide), jsw (i := 117) (j := 120) (by decide), jsw (i := 117) (j := 121) (by decide), jsw (i := 118) (j := 120) (by decide), jsw (i := 118) (j := 121) (by decide), jsw (i := 120) (j := 121) (by decide)]; exact hQ) (by decide) (by decide) (fun _ => rfl)
        · have hT : T3 s (nI i) (nI j) = 2 := by simp only [T3, both, c6, c14, Bool.and_self, if_true]; rw [if_pos (by rw [c32])]
          have hQ := hQ F
          rw [hT, if_neg (by decide), if_neg (by decide), hF_id, hF_id2] at hQ
          refine J_iconst (nI 1) (by decide) dX11_tours_35 ?_
          refine J_goto 40 dX11_tours_36 (by decide) ?_
          refine J_iconst (nI 2) (by decide) dX11_tours_40 ?_
          refine J_V2v (ci := 11) dX11_tours_41 s_X11_63 m_X11_isThrown rfl (by repeat (first | assumption | exact jget_same2 (by (try simp only [List.length_set]); exact jlt (by assumption)) | refine jget_ne (by first | decide | assumption | omega) ?_)) rfl (c_X11_isThrown true (by repeat (first | assumption | exact jget_same2 (by (try simp only [List.length_set]); exact jlt (by assumption)) | refine jget_ne (by first | decide | assumption | omega) ?_)) (jKv_i ?_))
          refine J_if_ne_b 59 dX11_tours_44 (by decide) (fun c44 => ?_) (fun c44 => ?_)
          · refine J_iconst (nI 0) (by decide) dX11_tours_59 ?_
            exact J_ireturn dX11_tours_60 rfl (by simp only [List.set_set, jsw (i := 116) (j := 117) (by decide), jsw (i := 116) (j := 118) (by decide), jsw (i := 116) (j := 120) (by decide), jsw (i := 116) (j := 121) (by decide), jsw (i := 117) (j := 118) (by decide), jsw (i := 117) (j := 120) (by decide), jsw (i := 117) (j := 121) (by decide), jsw (i := 118) (j := 120) (by decide), jsw (i := 118) (j := 121) (by decide), jsw (i := 120) (j := 121) (by decide)]; exact hQ) (by decide) (by decide) (fun _ => rfl)
          · exact absurd c44 (by decide)
    · have hQ := hQ F
      rw [show T3 s x y = 1 by simp [T3, both, c14], if_neg (by decide), if_neg (by decide), hF_id, hF_id2] at hQ
      refine J_iconst (nI 1) (by decide) dX11_tours_17 ?_
      refine J_goto 22 dX11_tours_18 (by decide) ?_
      refine J_iconst (nI 1) (by decide) dX11_tours_22 ?_
      refine J_V2v (ci := 11) dX11_tours_23 s_X11_63 m_X11_isThrown rfl (by repeat (first | assumption | exact jget_same2 (by (try simp only [List.length_set]); exact jlt (by assumption)) | refine jget_ne (by first | decide | assumption | omega) ?_)) rfl (c_X11_isThrown true hM (jKv_i ?_))
      refine J_if_ne_b 59 dX11_tours_26 (by decide) (fun c26 => ?_) (fun c26 => ?_)
      · refine J_iconst (nI 0) (by decide) dX11_tours_59 ?_
        exact J_ireturn dX11_tours_60 rfl (hQ) (by decide) (by decide) (fun _ => rfl)
      · exact absurd c26 (by decide)
end MODEL5
