/-! The law -/
abbrev M_L_law : jM := (⟨"TrailGuideLaw", "law", "([I)Z"⟩, cL_law, 5, ret, none)
theorem ne_9 {z : Int} (h1 : -900009 < z) (h2 : z ≤ 1000000) : ¬ iI z = -900009 := fun e => by
  rw [e9_9] at e
  have := (iI_eq (by omega) (by omega) (by omega) (by omega)).mp e
  omega
theorem gt_0 {z : Int} (h1 : -900000 < z) (h2 : z ≤ 1000000) : -900000 < iI z := by
  rw [e9_0]
  exact (iI_lt (by omega) (by omega) (by omega) (by omega)).mpr h1
theorem gt_0n {z : Int} (h1 : -900009 < z) (h2 : z ≤ -900001) : ¬ -900000 < iI z := fun e => by
  rw [e9_0] at e
  have := (iI_lt (by omega) (by omega) (by omega) (by omega)).mp e
  omega
theorem le_0 {z : Int} (h1 : -900009 < z) (h2 : z ≤ -900001) : iI z ≤ -900000 := by
  rw [e9_0]
  exact (iI_le (by omega) (by omega) (by omega) (by omega)).mpr (by omega)
theorem le_0n {z : Int} (h1 : -900000 < z) (h2 : z ≤ 1000000) : ¬ iI z ≤ -900000 := fun e => by
  rw [e9_0] at e
  have := (iI_le (by omega) (by omega) (by omega) (by omega)).mp e
  omega
theorem gEx.L {n : Nat} {G G' : jG} (e : gEx n G G') : g_L G' = g_L G := by
  obtain ⟨⟨P, rfl⟩, _⟩ := e
  rfl
theorem gEx.n {n : Nat} {G G' : jG} (e : gEx n G G') : g_n G' = g_n G := by
  obtain ⟨⟨P, rfl⟩, _⟩ := e
  rfl
theorem gEx.z {n : Nat} {G G' : jG} (e : gEx n G G') : gEx 0 G G' := ⟨e.1, fun i hi => absurd hi (Nat.not_lt_zero i)⟩
theorem lOk_cons {n : Nat} {a : Option Value} {r : List (Option Value)} (h1 : lOk n [a]) (h2 : lOk n r) : lOk n (a :: r) := by
  cases a with
  | none => exact h2
  | some v => exact ⟨h1.1, h2⟩
section LAW
variable {G G0 : jG} {F : jF} {h h' : jH} {Q : jQ_} {QA : jQG} {K ch i kc kn : Nat} {sv : Bool} {s sS P : Nat → Nat} {l2 l3 l4 : Option Value}
theorem LC.ok (g : LC h s sS P ch sv) (r : Rest h) : hOk h := by
  obtain ⟨ea, fa, lf, ln, tx, cp⟩ := g
  exact cp.hOk r
theorem LC.push {c : jC} (g : LC h s sS P ch sv) (hl : 116 ≤ h.length) : LC (h ++ [c]) s sS P ch sv := by
  obtain ⟨ea, fa, lf, ln, tx, cp⟩ := g
  exact ⟨ea, fa, lf, ln, tx, cp.grow (fun j hj => push_lo (by omega))⟩
theorem Rest.pushA {f : Nat → Nat} (r : Rest h) (hh : hOk h) : Rest (h ++ [ia 220 f]) := Rest.of (by rw [push_len]; have := r.1; omega) (hOk.push (c := ia 220 f) hh trivial)
theorem Rest.cl (r : Rest h) (hf : jFr clC h h') : Rest h' := r.frm hf (fun j hj => by show ¬ j ≤ 115; omega)
theorem cl_at (hf : jFr clC h h') {j : Nat} {c : jC} (hj : 116 ≤ j) (hc : h[j]? = some c) : h'[j]? = some c := hf.at (by show ¬ j ≤ 115; omega) hc
theorem law_it (hL : g_L G ≤ 260) (hi : i < 8) (I : Inv K s) (R : Rt s) (hK : K + 20 < 2 ^ 30) (h4 : 4 ≤ s 0) (hch : ch ≤ 8) (r : Rest h) (g : LC h s s00 P ch false) (hl3 : lOk h.length [l3]) (hl4 : lOk h.length [l4]) (hc : kc + 20000 ≤ room_1.cells) (hn : kn + 190000 ≤ room_1.slots)
    (next : ∀ (G' : jG) h' s' P' ch' l3 l4 kc' kn', gEx 0 G G' → Rest h' → Inv (K + 13) s' → Rt s' → 4 ≤ s' 0 → ch' ≤ 8 → LC h' s' s00 P' ch' false → lOk h'.length [l3] → lOk h'.length [l4] → kc' ≤ kc + 20000 → kn' ≤ kn + 190000 → J G' room_1 F M_L_law false kc' kn' 20 [some (.retAddr 0), some (.ref 0), some (.int (nI (i + 1))), l3, l4] [] h') :
    J G room_1 F M_L_law false kc kn 26 [some (.retAddr 0), some (.ref 0), some (.int (nI i)), l3, l4] [] h := by
  have hl := r.1
  have hh := g.ok r
  have h0 : 0 < h.length := by omega
  refine J_aload_n (by rfl) (by rfl) dL_law_26 ?_
  refine J_S1vA dL_law_27 s_L_273 m_L_seen rfl (by exact ⟨trivial, h0, trivial, lOk_cons hl3 hl4⟩) (by exact trivial) (l_seen I hh hl g (fun G2 e2 => (jKv_i fun _ => ?_))) (hf := jfit_k rfl rfl (by omega) (by omega))
  have r1 := Rest.pushA (f := SF s) r hh
  have g1 := g.push (c := ia 220 (SF s)) hl
  have hL2 : g_L G2 ≤ 260 := by rw [e2.L]; exact hL
  have b1 : (h ++ [ia 220 (SF s)])[h.length]? = some (ia 220 (SF s)) := push_at
  have n1 : (h ++ [ia 220 (SF s)]).length = h.length + 1 := push_len
  have p0 : 0 < (h ++ [ia 220 (SF s)]).length := by omega
  have p1 : h.length < (h ++ [ia 220 (SF s)]).length := by omega
  refine J_astore_3 dL_law_30 ?_
  refine J_aload_n (by rfl) (by rfl) dL_law_31 ?_
  refine J_aload_n (by rfl) (by rfl) dL_law_32 ?_
  refine J_bipush (nI 68) (by decide) dL_law_33 ?_
  refine J_iconst (nI 4) (by decide) dL_law_35 ?_
  refine J_iload_n (by rfl) dL_law_36 ?_
  refine J_imul dL_law_37 ?_
  try rw [pk_mul]
  refine J_iadd dL_law_38 ?_
  try rw [nI_add]
  refine J_S3vA dL_law_39 s_L_277 m_L_acts rfl ⟨trivial, p0, trivial, p1, lOk.mono (by omega) hl4⟩ trivial (l_acts (by omega) hL2 I R hK hch r1 g1 ⟨fun G3 h3 s3 v e3 kp I3 R3 h0 hv g3 => jKv_i fun _ => ?_, fun G3 h3 v e3 kp v1 v2 g3 => jKv_i fun _ => ?_⟩) (hf := jfit_k rfl rfl (by omega) (by omega))
  · rw [← iI_n v]
    have k1 := kp.1
    have r3 := kp.2.1
    have hL3 : g_L G3 ≤ 260 := by rw [e3.L]; exact hL2
    have b3 := (kp.2.2 h.length hl p1).trans b1
    refine J_istore_4 dL_law_42 ?_
    refine J_aload_n (by rfl) (by rfl) dL_law_44 ?_
    refine J_S1v dL_law_45 s_L_269 m_L_isWell rfl (l_isWell I3 R3 g3 (fun h5 f5 g5 => (jKv_i ?_))) (hf := jfit_k rfl rfl (by omega) (by omega))
    have r5 := r3.cl f5
    have b5 := cl_at f5 hl b3
    have n5 : h5.length = h3.length := f5.1
    have q0 : 0 < h5.length := by omega
    have q1 : h.length < h5.length := by omega
    refine J_if_eq_b 77 dL_law_48 (by decide) (fun c48 => ?_) (fun c48 => ?_)
    · cases c48
    · refine J_iload (by rfl) dL_law_51 ?_
      refine J_ldcI dL_law_53 k_L_101 ?_
      refine J_icmp_eq 77 dL_law_55 (by decide) (fun c55 => ?_) (fun c55 => ?_)
      · exact absurd c55 (ne_9 (by omega) (by omega))
      · refine J_iload (by rfl) dL_law_58 ?_
        refine J_ldcwI dL_law_60 k_L_281 ?_
        refine J_icmp_gt 79 dL_law_63 (by decide) (fun c63 => ?_) (fun c63 => ?_)
        · refine J_iload (by rfl) dL_law_79 ?_
          refine J_ldcwI dL_law_81 k_L_281 ?_
          refine J_icmp_le 119 dL_law_84 (by decide) (fun c84 => ?_) (fun c84 => ?_)
          · exact absurd c84 (le_0n (by omega) (by omega))
          · refine J_aload_n (by rfl) (by rfl) dL_law_87 ?_
            refine J_bipush (nI 101) (by decide) dL_law_88 ?_
            refine J_iload_n (by rfl) dL_law_90 ?_
            refine J_iadd dL_law_91 ?_
            try rw [nI_add]
            refine J_iconst (nI 5) (by decide) dL_law_92 ?_
            refine J_S3v dL_law_93 s_L_106 m_L_in rfl (l_in (by omega) hL3 (by decide) (by decide) (fun c hc5 => (jKv_i ?_))) (hf := jfit_k rfl rfl (by omega) (by omega))
            refine J_if_ne_n 119 dL_law_96 (by decide) (fun c96 => ?_) (fun c96 => ?_)
            · refine J_iinc_2 (nI 1) dL_law_119 (by decide) ?_
              try rw [nI_add]
              refine J_goto 20 dL_law_122 (by decide) ?_
              exact next G3 h5 s3 _ _ _ _ _ _ (e2.trans e3 (by omega)).z r5 I3 R3 (by omega) (by omega) g5 ⟨q1, trivial⟩ ⟨trivial, trivial⟩ (by omega) (by omega)
            · refine J_aload_n (by rfl) (by rfl) dL_law_99 ?_
              refine J_SX1v dL_law_100 s_L_286 m_L_undo rfl (l_undo I3 g5 (fun _ h6 f6 g6 => (jKv_i ?_)) (fun q => absurd q (by omega))) (hf := jfit_k rfl rfl (by omega) (by omega))
              rw [pastF_u hch] at g6
              have r6 := r5.cl f6
              have b6 := cl_at f6 hl b5
              have n6 : h6.length = h5.length := f6.1
              have u0 : 0 < h6.length := by omega
              have u1 : h.length < h6.length := by omega
              refine J_if_lt_n 117 dL_law_103 (by decide) ?_
              refine J_aload_n (by rfl) (by rfl) dL_law_106 ?_
              refine J_aload_n (by rfl) (by rfl) dL_law_107 ?_
              refine J_S1vA dL_law_108 s_L_273 m_L_seen rfl (by exact ⟨trivial, u0, trivial, u1, trivial, trivial⟩) (by exact ⟨u1, trivial⟩) (l_seen I (g6.ok r6) r6.1 g6 (fun G7 e7 => (jKv_i fun _ => ?_))) (hf := jfit_k rfl rfl (by omega) (by omega))
              have n7 : (h6 ++ [ia 220 (SF s)]).length = h6.length + 1 := push_len
              have w0 : 0 < (h6 ++ [ia 220 (SF s)]).length := by omega
              have w1 : h.length < (h6 ++ [ia 220 (SF s)]).length := by omega
              refine J_S2v dL_law_111 s_L_282 m_L_areAlike rfl (l_areAlike (push_lo2 b6) push_at (jKv_i ?_)) (hf := jfit_k rfl rfl (by omega) (by omega))
              refine J_if_ne_b 119 dL_law_114 (by decide) (fun c114 => ?_) (fun c114 => ?_)
              · refine J_iinc_2 (nI 1) dL_law_119 (by decide) ?_
                try rw [nI_add]
                refine J_goto 20 dL_law_122 (by decide) ?_
                exact next G7 _ s _ _ _ _ _ _ ((e2.trans e3 (by omega)).trans e7 (by omega)).z (r6.pushA (g6.ok r6)) (I.mono (by omega)) R h4 (by omega) (g6.push r6.1) ⟨w1, trivial⟩ ⟨trivial, trivial⟩ (by omega) (by omega)
              · cases c114
        · exact absurd (gt_0 (by omega) (by omega)) c63
  · have k1 := kp.1
    have r3 := kp.2.1
    have b3 := (kp.2.2 h.length hl p1).trans b1
    refine J_istore_4 dL_law_42 ?_
    refine J_aload_n (by rfl) (by rfl) dL_law_44 ?_
    refine J_S1v dL_law_45 s_L_269 m_L_isWell rfl (l_isWell I R g3 (fun h5 f5 g5 => (jKv_i ?_))) (hf := jfit_k rfl rfl (by omega) (by omega))
    have r5 := r3.cl f5
    have b5 := cl_at f5 hl b3
    have n5 : h5.length = h3.length := f5.1
    have q0 : 0 < h5.length := by omega
    have q1 : h.length < h5.length := by omega
    refine J_if_eq_b 77 dL_law_48 (by decide) (fun c48 => ?_) (fun c48 => ?_)
    · cases c48
    · refine J_iload (by rfl) dL_law_51 ?_
      refine J_ldcI dL_law_53 k_L_101 ?_
      refine J_icmp_eq 77 dL_law_55 (by decide) (fun c55 => ?_) (fun c55 => ?_)
      · exact absurd c55 (ne_9 (by omega) (by omega))
      · refine J_iload (by rfl) dL_law_58 ?_
        refine J_ldcwI dL_law_60 k_L_281 ?_
        refine J_icmp_gt 79 dL_law_63 (by decide) (fun c63 => ?_) (fun c63 => ?_)
        · exact absurd c63 (gt_0n v1 v2)
        · refine J_aload_n (by rfl) (by rfl) dL_law_66 ?_
          refine J_aload_n (by rfl) (by rfl) dL_law_67 ?_
          refine J_S1vA dL_law_68 s_L_273 m_L_seen rfl (by exact ⟨trivial, q0, trivial, q1, trivial, trivial⟩) (by exact ⟨q1, trivial⟩) (l_seen I (g5.ok r5) r5.1 g5 (fun G7 e7 => (jKv_i fun _ => ?_))) (hf := jfit_k rfl rfl (by omega) (by omega))
          have n7 : (h5 ++ [ia 220 (SF s)]).length = h5.length + 1 := push_len
          have w0 : 0 < (h5 ++ [ia 220 (SF s)]).length := by omega
          have w1 : h.length < (h5 ++ [ia 220 (SF s)]).length := by omega
          refine J_S2v dL_law_71 s_L_282 m_L_areAlike rfl (l_areAlike (push_lo2 b5) push_at (jKv_i ?_)) (hf := jfit_k rfl rfl (by omega) (by omega))
          refine J_if_ne_b 79 dL_law_74 (by decide) (fun c74 => ?_) (fun c74 => ?_)
          · refine J_iload (by rfl) dL_law_79 ?_
            refine J_ldcwI dL_law_81 k_L_281 ?_
            refine J_icmp_le 119 dL_law_84 (by decide) (fun c84 => ?_) (fun c84 => ?_)
            · refine J_iinc_2 (nI 1) dL_law_119 (by decide) ?_
              try rw [nI_add]
              refine J_goto 20 dL_law_122 (by decide) ?_
              exact next G7 _ s _ _ _ _ _ _ ((e2.trans e3 (by omega)).trans e7 (by omega)).z (r5.pushA (g5.ok r5)) (I.mono (by omega)) R h4 hch (g5.push r5.1) ⟨w1, trivial⟩ ⟨trivial, trivial⟩ (by omega) (by omega)
            · exact absurd (le_0 v1 v2) c84
          · cases c74
end LAW
