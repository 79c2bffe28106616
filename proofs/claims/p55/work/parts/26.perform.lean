/-! Guide: a tour begins, the hiker moves; every command -/
theorem N3_o {s : Nat → Nat} {x y : Int32} {k : Nat} (h : k = 0 ∨ 6 ≤ k ∧ k < 192) : N3 s x y k = s k := by
  unfold N3; rw [updN_n (by omega), updN_n (by omega), updN_n (by omega), updN_n (by omega), setR_o (by omega) (by omega)]
theorem N3_1 {s : Nat → Nat} {x y : Int32} : N3 s x y 1 = rLS s (nP x) (nP y) + 1 := by
  unfold N3; rw [updN_n (by omega), updN_n (by omega), updN_n (by omega), updN_n (by omega), setR_1]
theorem N3_2 {s : Nat → Nat} {x y : Int32} : N3 s x y 2 = 1 := by
  unfold N3; rw [updN_n (by omega), updN_n (by omega), updN_n (by omega), updN_s]
theorem N3_3 {s : Nat → Nat} {x y : Int32} : N3 s x y 3 = s (12 + 3 * nP x) := by
  unfold N3; rw [updN_n (by omega), updN_n (by omega), updN_s]
theorem N3_4 {s : Nat → Nat} {x y : Int32} : N3 s x y 4 = s (12 + 3 * nP x + 1) := by
  unfold N3; rw [updN_n (by omega), updN_s]
theorem N3_5 {s : Nat → Nat} {x y : Int32} : N3 s x y 5 = 0 := by
  unfold N3; rw [updN_s]
theorem N3_r {s : Nat → Nat} {x y : Int32} {i : Nat} (h : i ≤ rLS s (nP x) (nP y)) : N3 s x y (192 + i) = roS s (nP x) (nP y) i := by
  unfold N3; rw [updN_n (by omega), updN_n (by omega), updN_n (by omega), updN_n (by omega), setR_i h]
theorem T0_0 {s : Nat → Nat} {x y z : Int32} (h : T0 s x y z = 0) : isP x y = true ∧ inB z 1 9 = true ∧ ¬ s 0 = 12 := by
  unfold T0 at h
  by_cases h1 : (isP x y && inB z 1 9) = true
  · rw [if_pos h1] at h
    rw [Bool.and_eq_true] at h1
    by_cases h2 : s 0 = 12
    · rw [if_pos h2] at h; omega
    · exact ⟨h1.1, h1.2, h2⟩
  · rw [if_neg h1] at h; omega
theorem both_0 {s : Nat → Nat} {x y : Int32} (h : both s x y = true) (hn : s 0 ≤ 12) : ∃ i j : Nat, x = nI i ∧ y = nI j ∧ i < s 0 ∧ j < s 0 ∧ nP x = i ∧ nP y = j := by
  unfold both at h
  rw [Bool.and_eq_true] at h
  exact both_t hn h.1 h.2
theorem T1_0 {s : Nat → Nat} {x y z : Int32} (h : T1 s x y z = 0) : both s x y = true ∧ ¬ x = y ∧ inB z 1 99 = true ∧ wS s (nP x * 12 + nP y) = 0 := by
  unfold T1 at h
  by_cases h1 : both s x y = true
  · rw [if_pos h1] at h
    by_cases h2 : x = y ∨ inB z 1 99 = false
    · rw [if_pos h2] at h; omega
    · rw [if_neg h2] at h
      by_cases h3 : 0 < wS s (nP x * 12 + nP y)
      · rw [if_pos h3] at h; omega
      · refine ⟨h1, fun e => h2 (.inl e), ?_, by omega⟩
        cases hh : inB z 1 99
        · exact absurd (.inr hh) h2
        · rfl
  · rw [if_neg h1] at h; omega
theorem T2_0 {s : Nat → Nat} {x y : Int32} (h : T2 s x y = 0) : both s x y = true ∧ 0 < wS s (nP x * 12 + nP y) := by
  unfold T2 at h
  by_cases h1 : both s x y = true
  · rw [if_pos h1] at h
    by_cases h2 : wS s (nP x * 12 + nP y) = 0
    · rw [if_pos h2] at h; omega
    · exact ⟨h1, by omega⟩
  · rw [if_neg h1] at h; omega
theorem T3_0 {s : Nat → Nat} {x y : Int32} (h : T3 s x y = 0) : both s x y = true ∧ ¬ x = y ∧ s 1 = 0 ∧ dst (wS s) (nP y) (nP x) < 99999 := by
  unfold T3 at h
  by_cases h1 : both s x y = true
  · rw [if_pos h1] at h
    by_cases h2 : x = y
    · rw [if_pos h2] at h; omega
    · rw [if_neg h2] at h
      by_cases h3 : 0 < s 1
      · rw [if_pos h3] at h; omega
      · rw [if_neg h3] at h
        by_cases h4 : dst (wS s) (nP y) (nP x) < 99999
        · exact ⟨h1, h2, by omega, h4⟩
        · rw [if_neg h4] at h; omega
  · rw [if_neg h1] at h; omega
theorem T7_0 {s : Nat → Nat} {x y : Int32} (h : T7 s x y = 0) : isP x y = true ∧ 0 < s 1 ∧ 0 < s 6 := by
  unfold T7 at h
  by_cases h1 : isP x y = true
  · rw [if_pos h1] at h
    by_cases h2 : 0 < s 1
    · rw [if_pos h2] at h
      by_cases h3 : s 6 = 0
      · rw [if_pos h3] at h; omega
      · exact ⟨h1, h2, by omega⟩
    · rw [if_neg h2] at h; omega
  · rw [if_neg h1] at h; omega
theorem T8_0 {s : Nat → Nat} (h : T8 s = 0) : 0 < s 1 := by
  unfold T8 at h
  by_cases h1 : 0 < s 1
  · exact h1
  · rw [if_neg h1] at h; omega
theorem T456_0 {x : Int32} {a b : Nat} (h : (if inB x a b = true then 0 else 1) = 0) : inB x a b = true := by
  by_cases h1 : inB x a b = true
  · exact h1
  · rw [if_neg h1] at h; omega
section GUIDE3
variable {G : jG} {X : Bool} {h : jH} {Q : jQ_} {K : Nat} {s fx fy fr w rt : Nat → Nat} {ti x y : Nat} {D E L : Nat → Nat} {m : Nat → Bool} {num den : Nat}
theorem c_X1_beginTour {i j : Nat} (I : Inv K s) (h0 : s 1 = 0) (hi : i < s 0) (hj : j < s 0) (hne : i ≠ j) (hf : dst (wS s) j i < 99999) (g : GP h s fx fy fr w rt ti x y D E L m num den)
    (hQ : ∀ h', jFr gC h h' → GS h' (N3 s (nI i) (nI j)) → Q (.inl (some (.int (nI (rLS s i j + 1))))) h') : jCT G M_X1_beginTour 4 0 0 X [.ref 1, .int (nI i), .int (nI j)] h Q := by
  have g0 := g
  have hgr := g.gr I
  have hn := I.n12
  have h5 := I.a0 h0
  obtain ⟨g1, g2, g3, g4, g5, g6, g7, g8, g9, g10, g11, g12, g13, g14, g15, g16, e1, e2, e3⟩ := g
  refine jCT_of [some (.ref 1), some (.int (nI i)), some (.int (nI j)), none, none, none] 3 rfl (by decide +kernel) rfl rfl ?_
  obtain ⟨r1, r2, r3, r4⟩ := rL_spec (a := j) (c := i) I.g hi hne hf
  have hPi : nP (nI i) = i := nP_nI (by omega)
  have hPj : nP (nI j) = j := nP_nI (by omega)
  refine J_aload_n (by rfl) (by rfl) dX1_beginTour_0 ?_
  refine J_get dX1_beginTour_1 f_X1_12 (by repeat (first | assumption | exact jget_same2 (by (try simp only [List.length_set]); exact jlt (by assumption)) | refine jget_ne (by first | decide | assumption | omega) ?_)) (by rfl) ?_
  refine J_get dX1_beginTour_4 f_X1_53 (by repeat (first | assumption | exact jget_same2 (by (try simp only [List.length_set]); exact jlt (by assumption)) | refine jget_ne (by first | decide | assumption | omega) ?_)) (by rfl) ?_
  refine J_astore_3 dX1_beginTour_7 ?_
  refine J_aload_n (by rfl) (by rfl) dX1_beginTour_8 ?_
  refine J_V00 (ci := 8) dX1_beginTour_9 s_X1_130 m_X8_end rfl (by repeat (first | assumption | exact jget_same2 (by (try simp only [List.length_set]); exact jlt (by assumption)) | refine jget_ne (by first | decide | assumption | omega) ?_)) rfl (c_X8_end g8 (jK0_i ?_))
  simp only [List.set_set]
  have ge : GP (h.set 8 (hTour 0 0 x y false)) s fx fy fr w rt 0 x y D E L m num den := by
    have := g0.tour (s' := s) (ti' := 0) (x' := x) (y' := y) (fun _ _ => rfl) (fun z => by omega)
    rw [h0, h5] at this
    exact this
  have hfe : jFr gC h (h.set 8 (hTour 0 0 x y false)) := jFr.refl.set 8 _ (by decide)
  generalize h.set 8 (hTour 0 0 x y false) = he at ge hfe ⊢
  have ge0 := ge
  obtain ⟨k1, k2, k3, k4, k5, k6, k7, k8, k9, k10, k11, k12, k13, k14, k15, k16, _, _, _⟩ := ge
  refine J_aload_n (by rfl) (by rfl) dX1_beginTour_12 ?_
  refine J_get dX1_beginTour_13 f_X1_21 (by repeat (first | assumption | exact jget_same2 (by (try simp only [List.length_set]); exact jlt (by assumption)) | refine jget_ne (by first | decide | assumption | omega) ?_)) (by rfl) ?_
  refine J_aload_n (by rfl) (by rfl) dX1_beginTour_16 ?_
  refine J_get dX1_beginTour_17 f_X1_12 (by repeat (first | assumption | exact jget_same2 (by (try simp only [List.length_set]); exact jlt (by assumption)) | refine jget_ne (by first | decide | assumption | omega) ?_)) (by rfl) ?_
  refine J_get dX1_beginTour_20 f_X1_67 (by repeat (first | assumption | exact jget_same2 (by (try simp only [List.length_set]); exact jlt (by assumption)) | refine jget_ne (by first | decide | assumption | omega) ?_)) (by rfl) ?_
  refine J_iload_n (by rfl) dX1_beginTour_23 ?_
  refine J_V20 (ci := 5) dX1_beginTour_24 s_X1_83 m_X5_settleFrom rfl (by repeat (first | assumption | exact jget_same2 (by (try simp only [List.length_set]); exact jlt (by assumption)) | refine jget_ne (by first | decide | assumption | omega) ?_)) rfl (c_X5_settleFrom (D0 := D) (m0 := m) hgr hj k3 k7 k11 k12 k15 (fun D1 m1 hD1 => (jK0_i ?_)))
  have gs := ge0.settled (D' := D1) (m' := m1)
  have hfs : jFr gC h ((he.set 12 (ia 12 D1)).set 15 (za 12 m1)) := (hfe.set 12 _ (by decide)).set 15 _ (by decide)
  generalize (he.set 12 (ia 12 D1)).set 15 (za 12 m1) = hs at gs hfs ⊢
  have gs0 := gs
  obtain ⟨k1, k2, k3, k4, k5, k6, k7, k8, k9, k10, k11, k12, k13, k14, k15, k16, _, _, _⟩ := gs
  have k8 : hs[8]? = some (hTour 0 0 x y false) := by rw [k8, h0, h5]; rfl
  refine J_iload_n (by rfl) dX1_beginTour_27 ?_
  refine J_istore_4 dX1_beginTour_28 ?_
  refine J_aload_n (by rfl) (by rfl) dX1_beginTour_30 ?_
  refine J_iload (by rfl) dX1_beginTour_31 ?_
  refine J_V10 (ci := 8) dX1_beginTour_33 s_X1_133 m_X8_append rfl (by repeat (first | assumption | exact jget_same2 (by (try simp only [List.length_set]); exact jlt (by assumption)) | refine jget_ne (by first | decide | assumption | omega) ?_)) rfl (c_X8_append (by decide) k8 k9 (jK0_i ?_))
  refine J_iconst (nI 1) (by decide) dX1_beginTour_36 ?_
  refine J_istore_5 dX1_beginTour_37 ?_
  rw [jsw (i := 8) (j := 9) (by decide)]
  suffices loop : ∀ k, k ≤ rLS s i j → ∀ rk9, (∀ q, q ≤ k → rk9 q = roS s i j q) → J G (jR 4 0 0) (jFin G Q X 0 0) M_X1_beginTour X 0 0 39 [some (.ref 1), some (.int (nI i)), some (.int (nI j)), some (.ref 8), some (.int (nI (roS s i j k))), some (.int (nI (k + 1)))] [] ((hs.set 8 (hTour (k + 1) 0 x y false)).set 9 (ia 12 rk9)) by
    exact loop 0 (by omega) _ (fun q hq => by rw [show q = 0 by omega, updN_s]; rfl)
  refine up_ind _ (fun k hk ih rk9 hrk => ?_)
  have hk11 : k ≤ 11 := by unfold rLS at hk; omega
  have hro := ro_spec (a := j) (c := i) I.g hi hf k (fun z hz => r2 z (by unfold rLS at hk; omega))
  have hro1 : roS s i j k < s 0 := hro.1
  have fin : k = rLS s i j → J G (jR 4 0 0) (jFin G Q X 0 0) M_X1_beginTour X 0 0 82 [some (.ref 1), some (.int (nI i)), some (.int (nI j)), some (.ref 8), some (.int (nI (roS s i j k))), some (.int (nI (k + 1)))] [] ((hs.set 8 (hTour (k + 1) 0 x y false)).set 9 (ia 12 rk9)) := by
    intro hkL
    subst hkL
    have gr9 := gs0.route (rt' := rk9) h0
    have gt := gr9.tour (s' := N3 s (nI i) (nI j)) (ti' := 1) (x' := fx i) (y' := fy i) (fun k hk => N3_o hk) (fun _ => by
      obtain ⟨p1, p2, _⟩ := e1 i (by omega)
      rw [N3_1, N3_2, N3_3, N3_4, hPi, hPj]
      refine ⟨rfl, p1, p2, fun q hq => ?_⟩
      rw [N3_r (by rw [hPi, hPj]; omega), hPi, hPj]
      exact hrk q (by omega))
    rw [N3_1, N3_5, hPi, hPj, jsw (i := 8) (j := 9) (by decide)] at gt
    refine J_aload_n (by rfl) (by rfl) dX1_beginTour_82 ?_
    refine J_iconst (nI 1) (by decide) dX1_beginTour_83 ?_
    refine J_put_2 dX1_beginTour_84 p_X1_140 (by repeat (first | assumption | exact jget_same2 (by (try simp only [List.length_set]); exact jlt (by assumption)) | refine jget_ne (by first | decide | assumption | omega) ?_)) ?_
    refine J_aload_n (by rfl) (by rfl) dX1_beginTour_87 ?_
    refine J_aload_n (by rfl) (by rfl) dX1_beginTour_88 ?_
    refine J_get dX1_beginTour_89 f_X1_12 (by repeat (first | assumption | exact jget_same2 (by (try simp only [List.length_set]); exact jlt (by assumption)) | refine jget_ne (by first | decide | assumption | omega) ?_)) (by rfl) ?_
    refine J_get dX1_beginTour_92 f_X1_67 (by repeat (first | assumption | exact jget_same2 (by (try simp only [List.length_set]); exact jlt (by assumption)) | refine jget_ne (by first | decide | assumption | omega) ?_)) (by rfl) ?_
    refine J_iload_n (by rfl) dX1_beginTour_95 ?_
    refine J_V1v (ci := 9) dX1_beginTour_96 s_X1_143 m_X9_xOf rfl (by repeat (first | assumption | exact jget_same2 (by (try simp only [List.length_set]); exact jlt (by assumption)) | refine jget_ne (by first | decide | assumption | omega) ?_)) rfl (c_X9_xOf (by omega) (by repeat (first | assumption | exact jget_same2 (by (try simp only [List.length_set]); exact jlt (by assumption)) | refine jget_ne (by first | decide | assumption | omega) ?_)) (by repeat (first | assumption | exact jget_same2 (by (try simp only [List.length_set]); exact jlt (by assumption)) | refine jget_ne (by first | decide | assumption | omega) ?_)) (jKv_i ?_))
    refine J_put_3 dX1_beginTour_99 p_X1_146 (by repeat (first | assumption | exact jget_same2 (by (try simp only [List.length_set]); exact jlt (by assumption)) | refine jget_ne (by first | decide | assumption | omega) ?_)) ?_
    refine J_aload_n (by rfl) (by rfl) dX1_beginTour_102 ?_
    refine J_aload_n (by rfl) (by rfl) dX1_beginTour_103 ?_
    refine J_get dX1_beginTour_104 f_X1_12 (by repeat (first | assumption | exact jget_same2 (by (try simp only [List.length_set]); exact jlt (by assumption)) | refine jget_ne (by first | decide | assumption | omega) ?_)) (by rfl) ?_
    refine J_get dX1_beginTour_107 f_X1_67 (by repeat (first | assumption | exact jget_same2 (by (try simp only [List.length_set]); exact jlt (by assumption)) | refine jget_ne (by first | decide | assumption | omega) ?_)) (by rfl) ?_
    refine J_iload_n (by rfl) dX1_beginTour_110 ?_
    refine J_V1v (ci := 9) dX1_beginTour_111 s_X1_149 m_X9_yOf rfl (by repeat (first | assumption | exact jget_same2 (by (try simp only [List.length_set]); exact jlt (by assumption)) | refine jget_ne (by first | decide | assumption | omega) ?_)) rfl (c_X9_yOf (by omega) (by repeat (first | assumption | exact jget_same2 (by (try simp only [List.length_set]); exact jlt (by assumption)) | refine jget_ne (by first | decide | assumption | omega) ?_)) (by repeat (first | assumption | exact jget_same2 (by (try simp only [List.length_set]); exact jlt (by assumption)) | refine jget_ne (by first | decide | assumption | omega) ?_)) (jKv_i ?_))
    refine J_put_4 dX1_beginTour_114 p_X1_152 (by repeat (first | assumption | exact jget_same2 (by (try simp only [List.length_set]); exact jlt (by assumption)) | refine jget_ne (by first | decide | assumption | omega) ?_)) ?_
    refine J_aload_n (by rfl) (by rfl) dX1_beginTour_117 ?_
    refine J_get dX1_beginTour_118 f_X1_155 (by repeat (first | assumption | exact jget_same2 (by (try simp only [List.length_set]); exact jlt (by assumption)) | refine jget_ne (by first | decide | assumption | omega) ?_)) (by rfl) ?_
    exact J_ireturn dX1_beginTour_121 rfl (by
      simp only [List.set_set, jsw (i := 8) (j := 9) (by decide)]
      exact hQ _ ((hfs.set 8 _ (by decide)).set 9 _ (by decide)) (GS.mk gt)) (by decide) (by decide) (fun _ => rfl)
  refine J_iload (by rfl) dX1_beginTour_39 ?_
  refine J_bipush (nI 12) (by decide) dX1_beginTour_41 ?_
  refine J_icmp_ge_n 82 dX1_beginTour_43 (by decide) (fun c43 => ?_) (fun c43 => ?_)
  · refine fin ?_
    unfold rLS at hk ⊢
    omega
  · refine J_iload (by rfl) dX1_beginTour_46 ?_
    refine J_iload_n (by rfl) dX1_beginTour_48 ?_
    refine J_icmp_eq_n 82 dX1_beginTour_49 (by decide) (fun c49 => ?_) (fun c49 => ?_)
    · refine fin ?_
      rcases Nat.lt_or_ge k (rLS s i j) with q | q
      · exact absurd c49 (r2 k q)
      · omega
    · have hkL : k < rLS s i j := by
        rcases Nat.lt_or_ge k (rLS s i j) with q | q
        · exact q
        · have : k = rLS s i j := by omega
          subst this
          exact absurd r1 c49
      have hnx := nxt_spec I.g (by omega) (r2 k hkL) hro.2.1
      have hDv : ∀ v, v < 12 → D1 v = if dst (wS s) j v < 99999 then dst (wS s) j v else 1000000 := fun v hv => by rw [hD1.eq hgr (by omega) hv, dst_congr e2]
      have hDc2 : dst (wS s) j (roS s i j k) < 99999 := hro.2.1
      have hDc : D1 (roS s i j k) = dst (wS s) j (roS s i j k) := by rw [hDv _ (by omega), if_pos hDc2]
      have hiff : ∀ v, v < s 0 → (0 < w (roS s i j k * 12 + v) ∧ D1 v + w (roS s i j k * 12 + v) = D1 (roS s i j k) ↔ 0 < wS s (roS s i j k * 12 + v) ∧ dst (wS s) j v + wS s (roS s i j k * 12 + v) = dst (wS s) j (roS s i j k)) := fun v hv => by
        rw [e2 _ (by omega), hDc, hDv v (by omega)]
        split
        · exact Iff.rfl
        · omega
      refine J_aload_n (by rfl) (by rfl) dX1_beginTour_52 ?_
      refine J_get dX1_beginTour_53 f_X1_21 (by repeat (first | assumption | exact jget_same2 (by (try simp only [List.length_set]); exact jlt (by assumption)) | refine jget_ne (by first | decide | assumption | omega) ?_)) (by rfl) ?_
      refine J_aload_n (by rfl) (by rfl) dX1_beginTour_56 ?_
      refine J_get dX1_beginTour_57 f_X1_12 (by repeat (first | assumption | exact jget_same2 (by (try simp only [List.length_set]); exact jlt (by assumption)) | refine jget_ne (by first | decide | assumption | omega) ?_)) (by rfl) ?_
      refine J_get dX1_beginTour_60 f_X1_67 (by repeat (first | assumption | exact jget_same2 (by (try simp only [List.length_set]); exact jlt (by assumption)) | refine jget_ne (by first | decide | assumption | omega) ?_)) (by rfl) ?_
      refine J_iload (by rfl) dX1_beginTour_63 ?_
      refine J_V2v (ci := 5) dX1_beginTour_65 s_X1_136 m_X5_nextTowardsStart rfl (by repeat (first | assumption | exact jget_same2 (by (try simp only [List.length_set]); exact jlt (by assumption)) | refine jget_ne (by first | decide | assumption | omega) ?_)) rfl (c_X5_nextTowardsStart (D := D1) hgr (by omega) hD1.m ⟨nxt (wS s) (s 0) j (roS s i j k), hnx.1, (hiff _ hnx.1).mpr hnx.2⟩ (by repeat (first | assumption | exact jget_same2 (by (try simp only [List.length_set]); exact jlt (by assumption)) | refine jget_ne (by first | decide | assumption | omega) ?_)) (by repeat (first | assumption | exact jget_same2 (by (try simp only [List.length_set]); exact jlt (by assumption)) | refine jget_ne (by first | decide | assumption | omega) ?_)) (by repeat (first | assumption | exact jget_same2 (by (try simp only [List.length_set]); exact jlt (by assumption)) | refine jget_ne (by first | decide | assumption | omega) ?_)) (by repeat (first | assumption | exact jget_same2 (by (try simp only [List.length_set]); exact jlt (by assumption)) | refine jget_ne (by first | decide | assumption | omega) ?_)) (fun v hv hp hs9 hmin => (jKv_i ?_)))
      have hvn : v = roS s i j (k + 1) := (leastB_eq (P := fun v => 0 < wS s (roS s i j k * 12 + v) ∧ dst (wS s) j v + wS s (roS s i j k * 12 + v) = dst (wS s) j (roS s i j k)) hv ((hiff v hv).mp ⟨hp, hs9⟩) (fun q hq hh => by
        have := (hiff q (by omega)).mpr hh
        exact hmin q hq this.1 this.2)).symm
      refine J_istore_4 dX1_beginTour_68 ?_
      refine J_aload_n (by rfl) (by rfl) dX1_beginTour_70 ?_
      refine J_iload (by rfl) dX1_beginTour_71 ?_
      refine J_V10 (ci := 8) dX1_beginTour_73 s_X1_133 m_X8_append rfl (by repeat (first | assumption | exact jget_same2 (by (try simp only [List.length_set]); exact jlt (by assumption)) | refine jget_ne (by first | decide | assumption | omega) ?_)) rfl (c_X8_append (c := k + 1) (rt := rk9) (by unfold rLS at hkL; omega) (by repeat (first | assumption | exact jget_same2 (by (try simp only [List.length_set]); exact jlt (by assumption)) | refine jget_ne (by first | decide | assumption | omega) ?_)) (by repeat (first | assumption | exact jget_same2 (by (try simp only [List.length_set]); exact jlt (by assumption)) | refine jget_ne (by first | decide | assumption | omega) ?_)) (jK0_i ?_))
      refine J_iinc_5 (nI 1) dX1_beginTour_76 (by decide) ?_
      try rw [nI_add]
      refine J_goto 39 dX1_beginTour_79 (by decide) ?_
      simp only [List.set_set, jsw (i := 8) (j := 9) (by decide)]
      rw [hvn]
      refine ih hkL _ (fun q hq => ?_)
      by_cases e : q = k + 1
      · subst e; rw [updN_s]
      · rw [updN_n e]; exact hrk q (by omega)
theorem c_X1_moveHiker {a b : Nat} (I : Inv K s) (hK : K < 2 ^ 30) (h0 : 0 < s 1) (ha : a ≤ 99) (hb : b ≤ 99) (g : GP h s fx fy fr w rt ti x y D E L m num den)
    (hQ : ∀ h', jFr gC h h' → GS h' (N7 s (nI a) (nI b)) → Q (.inl (some (.int (jb (reachS (moveA s a b) a b))))) h') : jCT G M_X1_moveHiker 4 0 0 X [.ref 1, .int (nI a), .int (nI b)] h Q := by
  have g0 := g
  obtain ⟨g1, g2, g3, g4, g5, g6, g7, g8, g9, g10, g11, g12, g13, g14, g15, g16, e1, e2, e3⟩ := g
  obtain ⟨rfl, rfl, rfl, hr⟩ := e3 h0
  refine jCT_of [some (.ref 1), some (.int (nI a)), some (.int (nI b)), none, none, none] 3 rfl (by decide +kernel) rfl rfl ?_
  obtain ⟨t1, t2, t3, t4, t5, t6, t7⟩ := I.t h0
  have hLg := moveA_leg (a := a) (b := b) (legOk_of I h0)
  have hn := I.n12
  have hbat := I.b
  have hco := costN_pos (s 7)
  have hPa : nP (nI a) = a := nP_nI (by omega)
  have hPb : nP (nI b) = b := nP_nI (by omega)
  have m1 : moveA s a b 1 = s 1 := moveA_e (by decide) (by decide) (by decide) (by decide)
  have m2 : moveA s a b 2 = s 2 := moveA_e (by decide) (by decide) (by decide) (by decide)
  have m3 : moveA s a b 3 = a := by unfold moveA drainS; rw [updN_n (by decide), updN_n (by decide), updN_n (by decide), updN_s]
  have m4 : moveA s a b 4 = b := by unfold moveA drainS; rw [updN_n (by decide), updN_n (by decide), updN_s]
  have m5 : moveA s a b 5 = s 5 := moveA_e (by decide) (by decide) (by decide) (by decide)
  have m7 : moveA s a b 7 = s 7 := moveA_e (by decide) (by decide) (by decide) (by decide)
  have m8 : moveA s a b 8 = s 8 := moveA_e (by decide) (by decide) (by decide) (by decide)
  have m6 : moveA s a b 6 ≤ 1000 := by unfold moveA drainS; rw [updN_s, updN_n (by decide), updN_n (by decide), updN_n (by decide)]; omega
  have m10 : moveA s a b 10 = s 10 := moveA_e (by decide) (by decide) (by decide) (by decide)
  have m11 : moveA s a b 11 = s 11 := moveA_e (by decide) (by decide) (by decide) (by decide)
  have u1 := I.u
  have mr : ∀ i, moveA s a b (192 + i) = s (192 + i) := fun i => moveA_e (by omega) (by omega) (by omega) (by omega)
  unfold N7 at hQ
  rw [hPa, hPb] at hQ
  refine J_aload_n (by rfl) (by rfl) dX1_moveHiker_0 ?_
  refine J_get dX1_moveHiker_1 f_X1_12 (by repeat (first | assumption | exact jget_same2 (by (try simp only [List.length_set]); exact jlt (by assumption)) | refine jget_ne (by first | decide | assumption | omega) ?_)) (by rfl) ?_
  refine J_get dX1_moveHiker_4 f_X1_53 (by repeat (first | assumption | exact jget_same2 (by (try simp only [List.length_set]); exact jlt (by assumption)) | refine jget_ne (by first | decide | assumption | omega) ?_)) (by rfl) ?_
  refine J_astore_3 dX1_moveHiker_7 ?_
  refine J_aload_n (by rfl) (by rfl) dX1_moveHiker_8 ?_
  refine J_get dX1_moveHiker_9 f_X1_12 (by repeat (first | assumption | exact jget_same2 (by (try simp only [List.length_set]); exact jlt (by assumption)) | refine jget_ne (by first | decide | assumption | omega) ?_)) (by rfl) ?_
  refine J_get dX1_moveHiker_12 f_X1_92 (by repeat (first | assumption | exact jget_same2 (by (try simp only [List.length_set]); exact jlt (by assumption)) | refine jget_ne (by first | decide | assumption | omega) ?_)) (by rfl) ?_
  refine J_astore_4 dX1_moveHiker_15 ?_
  refine J_aload_n (by rfl) (by rfl) dX1_moveHiker_17 ?_
  refine J_iload_n (by rfl) dX1_moveHiker_18 ?_
  refine J_put_3 dX1_moveHiker_19 p_X1_146 (by repeat (first | assumption | exact jget_same2 (by (try simp only [List.length_set]); exact jlt (by assumption)) | refine jget_ne (by first | decide | assumption | omega) ?_)) ?_
  refine J_aload_n (by rfl) (by rfl) dX1_moveHiker_22 ?_
  refine J_iload_n (by rfl) dX1_moveHiker_23 ?_
  refine J_put_4 dX1_moveHiker_24 p_X1_152 (by repeat (first | assumption | exact jget_same2 (by (try simp only [List.length_set]); exact jlt (by assumption)) | refine jget_ne (by first | decide | assumption | omega) ?_)) ?_
  refine J_aload (by rfl) (by rfl) dX1_moveHiker_27 ?_
  refine J_dup (by rfl) dX1_moveHiker_29 ?_
  refine J_get dX1_moveHiker_30 f_X1_158 (by repeat (first | assumption | exact jget_same2 (by (try simp only [List.length_set]); exact jlt (by assumption)) | refine jget_ne (by first | decide | assumption | omega) ?_)) (by rfl) ?_
  refine J_iconst (nI 1) (by decide) dX1_moveHiker_33 ?_
  refine J_iadd dX1_moveHiker_34 ?_
  try rw [nI_add]
  refine J_put_3 dX1_moveHiker_35 p_X1_158 (by repeat (first | assumption | exact jget_same2 (by (try simp only [List.length_set]); exact jlt (by assumption)) | refine jget_ne (by first | decide | assumption | omega) ?_)) ?_
  refine J_aload (by rfl) (by rfl) dX1_moveHiker_38 ?_
  refine J_aload (by rfl) (by rfl) dX1_moveHiker_40 ?_
  refine J_V0v (ci := 4) dX1_moveHiker_42 s_X1_161 m_X4_cost rfl (by repeat (first | assumption | exact jget_same2 (by (try simp only [List.length_set]); exact jlt (by assumption)) | refine jget_ne (by first | decide | assumption | omega) ?_)) rfl (c_X4_cost I.mo (by repeat (first | assumption | exact jget_same2 (by (try simp only [List.length_set]); exact jlt (by assumption)) | refine jget_ne (by first | decide | assumption | omega) ?_)) (jKv_i ?_))
  refine J_V10 (ci := 4) dX1_moveHiker_45 s_X1_164 m_X4_spend rfl (by repeat (first | assumption | exact jget_same2 (by (try simp only [List.length_set]); exact jlt (by assumption)) | refine jget_ne (by first | decide | assumption | omega) ?_)) rfl (c_X4_spend (b := s 6) (m := s 7) (t := s 8) (u := s 9 + 1) (a := s 10) (r := s 11) (v := costN (s 7)) hbat (by omega) (by repeat (first | assumption | exact jget_same2 (by (try simp only [List.length_set]); exact jlt (by assumption)) | refine jget_ne (by first | decide | assumption | omega) ?_)) (jK0_i ?_))
  simp only [List.set_set]
  have gA : GP ((h.set 8 (hTour (s 1) (s 2) a b (decide (s 5 = 1)))).set 10 (hMeter (s 6 - costN (s 7)) (s 7) (s 8) (s 9 + 1) (s 10) (s 11))) (moveA s a b) fx fy fr w rt (s 2) a b D E L m num den :=
    (g0.tour (s' := updN (updN s 3 a) 4 b) (ti' := s 2) (x' := a) (y' := b) (fun k hk => by rw [updN_n (by omega), updN_n (by omega)]) (fun _ => ⟨rfl, rfl, rfl, fun i hi => by rw [updN_n (by omega), updN_n (by omega)]; exact hr i hi⟩)).meter (s' := moveA s a b) (fun k hk => by unfold moveA drainS; rw [updN_n (by omega), updN_n (by omega)])
  have hfA : jFr gC h ((h.set 8 (hTour (s 1) (s 2) a b (decide (s 5 = 1)))).set 10 (hMeter (s 6 - costN (s 7)) (s 7) (s 8) (s 9 + 1) (s 10) (s 11))) := (jFr.refl.set 8 _ (by decide)).set 10 _ (by decide)
  generalize (h.set 8 (hTour (s 1) (s 2) a b (decide (s 5 = 1)))).set 10 (hMeter (s 6 - costN (s 7)) (s 7) (s 8) (s 9 + 1) (s 10) (s 11)) = hA at gA hfA ⊢
  generalize moveA s a b = sA at *
  have gA0 := gA
  obtain ⟨k1, k2, k3, k4, k5, k6, k7, k8, k9, k10, k11, k12, k13, k14, k15, k16, f1, f2, f3⟩ := gA
  have tail : ∀ (sB : Nat → Nat) (hB : jH) (tB : Nat), jFr gC h hB → GP hB sB fx fy fr w rt tB a b D E L m num den → sB 1 ≤ 12 → sB 5 ≤ 1 → sB 6 ≤ 1000 → sB 8 ≤ 30 → (0 < sB 1 → sB 2 < sB 1 ∧ legOk sB ∧ sB 3 = a ∧ sB 4 = b) → (∀ h', jFr gC h h' → GS h' (if 0 < sB 1 then watchS sB else sB) → Q (.inl (some (.int (jb (reachS sA a b))))) h') → J G (jR 4 0 0) (jFin G Q X 0 0) M_X1_moveHiker X 0 0 82 [some (.ref 1), some (.int (nI a)), some (.int (nI b)), some (.ref 8), some (.ref 10), some (.int (jb (reachS sA a b)))] [] hB := by
    intro sB hB tB hfB gB z1 z5 z6 z8 zl hQB
    have gB0 := gB
    obtain ⟨k1, k2, k3, k4, k5, k6, k7, k8, k9, k10, k11, k12, k13, k14, k15, k16, f1, f2, f3⟩ := gB
    refine J_aload_n (by rfl) (by rfl) dX1_moveHiker_82 ?_
    refine J_V0v (ci := 8) dX1_moveHiker_83 s_X1_57 m_X8_isOn rfl (by repeat (first | assumption | exact jget_same2 (by (try simp only [List.length_set]); exact jlt (by assumption)) | refine jget_ne (by first | decide | assumption | omega) ?_)) rfl (c_X8_isOn k8 z1 (jKv_i ?_))
    refine J_if_eq_b 111 dX1_moveHiker_86 (by decide) (fun c86 => ?_) (fun c86 => ?_)
    · have c86 : ¬ 0 < sB 1 := by simpa using c86
      rw [if_neg c86] at hQB
      refine J_iload (by rfl) dX1_moveHiker_111 ?_
      exact J_zreturn dX1_moveHiker_113 rfl (jb_n _) (hQB hB hfB (GS.mk gB0)) (by decide) (by decide) (fun _ => rfl)
    · have c86 : 0 < sB 1 := by simpa using c86
      rw [if_pos c86] at hQB
      obtain ⟨zl1, zl2, z3, z4⟩ := zl c86
      obtain ⟨b1, b2, b3⟩ := num_b zl2 ha hb
      refine J_aload_n (by rfl) (by rfl) dX1_moveHiker_89 ?_
      refine J_iload_n (by rfl) dX1_moveHiker_90 ?_
      refine J_iload_n (by rfl) dX1_moveHiker_91 ?_
      refine J_V20 (ci := 1) dX1_moveHiker_92 s_X1_176 m_X1_measureDrift rfl (by repeat (first | assumption | exact jget_same2 (by (try simp only [List.length_set]); exact jlt (by assumption)) | refine jget_ne (by first | decide | assumption | omega) ?_)) rfl (c_X1_measureDrift ha hb c86 z1 zl1 zl2 gB0 (fun h2 hf2 g2 => (jK0_i ?_)))
      have g20 := g2
      obtain ⟨j1, j2, j3, j4, j5, j6, j7, j8, j9, j10, j11, j12, j13, j14, j15, j16, _, _, _⟩ := g2
      refine J_aload_n (by rfl) (by rfl) dX1_moveHiker_95 ?_
      refine J_aload_n (by rfl) (by rfl) dX1_moveHiker_96 ?_
      refine J_get dX1_moveHiker_97 f_X1_28 (by repeat (first | assumption | exact jget_same2 (by (try simp only [List.length_set]); exact jlt (by assumption)) | refine jget_ne (by first | decide | assumption | omega) ?_)) (by rfl) ?_
      refine J_aload (by rfl) (by rfl) dX1_moveHiker_100 ?_
      refine J_get dX1_moveHiker_102 f_X1_180 (by repeat (first | assumption | exact jget_same2 (by (try simp only [List.length_set]); exact jlt (by assumption)) | refine jget_ne (by first | decide | assumption | omega) ?_)) (by rfl) ?_
      refine J_V1v (ci := 0) dX1_moveHiker_105 s_X1_183 m_X0_isAbove rfl (by repeat (first | assumption | exact jget_same2 (by (try simp only [List.length_set]); exact jlt (by assumption)) | refine jget_ne (by first | decide | assumption | omega) ?_)) rfl (c_X0_isAbove (num := numS sB a b) (den := denS sB a b) (by omega) (by omega) (by omega) j16 (jKv_i ?_))
      refine J_topi (jb (farS sB a b (sB 8))) rfl ?_
      refine J_V10 (ci := 1) dX1_moveHiker_108 s_X1_186 m_X1_setAlarm rfl (by repeat (first | assumption | exact jget_same2 (by (try simp only [List.length_set]); exact jlt (by assumption)) | refine jget_ne (by first | decide | assumption | omega) ?_)) rfl (c_X1_setAlarm (farS sB a b (sB 8)) z6 z5 g20 (fun h3 hf3 g3 => (jK0_i ?_)))
      refine J_iload (by rfl) dX1_moveHiker_111 ?_
      exact J_zreturn dX1_moveHiker_113 rfl (jb_n _) (hQB h3 (hfB.trans (hf2.trans hf3)) (by rw [watchS_eq, z3, z4]; exact g3)) (by decide) (by decide) (fun _ => rfl)
  refine J_aload_n (by rfl) (by rfl) dX1_moveHiker_48 ?_
  refine J_iload_n (by rfl) dX1_moveHiker_49 ?_
  refine J_iload_n (by rfl) dX1_moveHiker_50 ?_
  refine J_V2v (ci := 1) dX1_moveHiker_51 s_X1_167 m_X1_reachesTarget rfl (by repeat (first | assumption | exact jget_same2 (by (try simp only [List.length_set]); exact jlt (by assumption)) | refine jget_ne (by first | decide | assumption | omega) ?_)) rfl (c_X1_reachesTarget ha hb (by omega) (by omega) (by omega) hLg.2.2.1 hLg.2.2.2.2 gA0 (jKv_i ?_))
  refine J_istore_5 dX1_moveHiker_54 ?_
  cases hre : reachS sA a b with
  | false =>
    rw [hre] at hQ tail
    rw [if_neg (by decide)] at hQ
    unfold moveC at hQ
    rw [if_neg (by omega)] at hQ
    refine J_iload (by rfl) dX1_moveHiker_56 ?_
    refine J_if_eq_b 82 dX1_moveHiker_58 (by decide) (fun c58 => ?_) (fun c58 => ?_)
    · exact tail sA hA _ hfA gA0 (by omega) (by have := I.a1; omega) m6 (by have := I.tl.2; omega) (fun _ => ⟨by omega, hLg, m3, m4⟩) (fun h' hf hs => hQ h' hf (by rw [if_pos (by omega)] at hs; exact hs))
    · exact absurd c58 (by decide)
  | true =>
    rw [hre] at hQ tail
    rw [if_pos rfl] at hQ
    have n1 : moveB sA 1 = s 1 := by rw [moveB_e (by decide) (by decide) (by decide), m1]
    have n2 : moveB sA 2 = s 2 + 1 := by unfold moveB; rw [updN_s, m2]
    have n3 : moveB sA 3 = a := by rw [moveB_e (by decide) (by decide) (by decide), m3]
    have n4 : moveB sA 4 = b := by rw [moveB_e (by decide) (by decide) (by decide), m4]
    have n5 : moveB sA 5 = s 5 := by rw [moveB_e (by decide) (by decide) (by decide), m5]
    have n8 : moveB sA 8 = s 8 := by rw [moveB_e (by decide) (by decide) (by decide), m8]
    have n6 : moveB sA 6 ≤ 1000 := by unfold moveB; rw [updN_n (by decide)]; unfold drainS; rw [updN_s, updN_n (by decide)]; omega
    have gM : GP (hA.set 10 (hMeter (sA 6 - 3) (sA 7) (sA 8) (sA 9) (sA 10) (sA 11 + 1))) (drainS (updN sA 11 (sA 11 + 1)) 3) fx fy fr w rt (s 2) a b D E L m num den := gA0.meter (s' := drainS (updN sA 11 (sA 11 + 1)) 3) (fun k hk => by unfold drainS; rw [updN_n (by omega), updN_n (by omega)])
    have hfM : jFr gC h (hA.set 10 (hMeter (sA 6 - 3) (sA 7) (sA 8) (sA 9) (sA 10) (sA 11 + 1))) := hfA.set 10 _ (by decide)
    refine J_iload (by rfl) dX1_moveHiker_56 ?_
    refine J_if_eq_b 82 dX1_moveHiker_58 (by decide) (fun c58 => ?_) (fun c58 => ?_)
    · exact absurd c58 (by decide)
    · refine J_aload (by rfl) (by rfl) dX1_moveHiker_61 ?_
      refine J_dup (by rfl) dX1_moveHiker_63 ?_
      refine J_get dX1_moveHiker_64 f_X1_170 (by repeat (first | assumption | exact jget_same2 (by (try simp only [List.length_set]); exact jlt (by assumption)) | refine jget_ne (by first | decide | assumption | omega) ?_)) (by rfl) ?_
      refine J_iconst (nI 1) (by decide) dX1_moveHiker_67 ?_
      refine J_iadd dX1_moveHiker_68 ?_
      try rw [nI_add]
      refine J_put_5 dX1_moveHiker_69 p_X1_170 (by repeat (first | assumption | exact jget_same2 (by (try simp only [List.length_set]); exact jlt (by assumption)) | refine jget_ne (by first | decide | assumption | omega) ?_)) ?_
      refine J_aload (by rfl) (by rfl) dX1_moveHiker_72 ?_
      refine J_iconst (nI 3) (by decide) dX1_moveHiker_74 ?_
      refine J_V10 (ci := 4) dX1_moveHiker_75 s_X1_164 m_X4_spend rfl (by repeat (first | assumption | exact jget_same2 (by (try simp only [List.length_set]); exact jlt (by assumption)) | refine jget_ne (by first | decide | assumption | omega) ?_)) rfl (c_X4_spend (b := sA 6) (m := sA 7) (t := sA 8) (u := sA 9) (a := sA 10) (r := sA 11 + 1) (v := 3) m6 (by decide) (by repeat (first | assumption | exact jget_same2 (by (try simp only [List.length_set]); exact jlt (by assumption)) | refine jget_ne (by first | decide | assumption | omega) ?_)) (jK0_i ?_))
      rw [List.set_set]
      generalize hA.set 10 (hMeter (sA 6 - 3) (sA 7) (sA 8) (sA 9) (sA 10) (sA 11 + 1)) = hM at gM hfM ⊢
      have gM0 := gM
      obtain ⟨k1, k2, k3, k4, k5, k6, k7, k8, k9, k10, k11, k12, k13, k14, k15, k16, f1, f2, f3⟩ := gM
      have q1 : drainS (updN sA 11 (sA 11 + 1)) 3 1 = s 1 := by unfold drainS; rw [updN_n (by decide), updN_n (by decide), m1]
      have q5 : drainS (updN sA 11 (sA 11 + 1)) 3 5 = s 5 := by unfold drainS; rw [updN_n (by decide), updN_n (by decide), m5]
      rw [q1, q5] at k8
      have hBt : moveB sA = updN (drainS (updN sA 11 (sA 11 + 1)) 3) 2 (s 2 + 1) := by unfold moveB; rw [m2]
      refine J_aload_n (by rfl) (by rfl) dX1_moveHiker_78 ?_
      refine J_V00 (ci := 8) dX1_moveHiker_79 s_X1_173 m_X8_advance rfl (by repeat (first | assumption | exact jget_same2 (by (try simp only [List.length_set]); exact jlt (by assumption)) | refine jget_ne (by first | decide | assumption | omega) ?_)) rfl (c_X8_advance (c := s 1) (ti := s 2) (x := a) (y := b) (al := decide (s 5 = 1)) t4 t2 k8 (jK0_i ?_))
      by_cases hlast : s 2 + 1 < s 1
      · rw [if_pos hlast]
        unfold moveC at hQ
        rw [if_neg (by omega)] at hQ
        have hLg2 := moveB_leg hLg (by omega) (by
          rw [m2, mr]
          have := t7 (s 2 + 1) hlast
          omega)
        have gB := gM0.tour (s' := moveB sA) (ti' := s 2 + 1) (x' := a) (y' := b) (fun k hk => by rw [hBt, updN_n (by omega)]) (fun _ => ⟨n2.symm, n3.symm, n4.symm, fun i hi => by rw [moveB_e (by omega) (by omega) (by omega), mr]; exact hr i (by omega)⟩)
        rw [n1, n5] at gB
        exact tail (moveB sA) _ _ (hfM.set 8 _ (by decide)) gB (by omega) (by have := I.a1; omega) n6 (by have := I.tl.2; omega) (fun _ => ⟨by omega, hLg2, n3, n4⟩) (fun h' hf hs => hQ h' hf (by rw [if_pos (by omega)] at hs; exact hs))
      · rw [if_neg hlast]
        unfold moveC at hQ
        rw [if_pos (by omega)] at hQ
        simp only [List.set_set]
        have gB := gM0.tour (s' := overS (moveB sA)) (ti' := 0) (x' := a) (y' := b) (fun k hk => by unfold overS; rw [if_neg (by omega), hBt, updN_n (by omega)]) (fun z => absurd z (show ¬ 0 < 0 by decide))
        exact tail (overS (moveB sA)) _ _ (hfM.set 8 _ (by decide)) gB (show 0 ≤ 12 by decide) (show 0 ≤ 1 by decide) (show moveB sA 6 ≤ 1000 from n6) (show moveB sA 8 ≤ 30 by have := I.tl.2; omega) (fun z => absurd z (show ¬ 0 < 0 by decide)) (fun h' hf hs => hQ h' hf (by rw [show overS (moveB sA) 1 = 0 from rfl, if_neg (by decide)] at hs; exact hs))
theorem c_X1_perform {k : Nat} (x9 y9 z9 : Int32) (hk : k ≤ 8) (I : Inv K s) (hK : K < 2 ^ 30) (gs : GS h s) (hT : opT s k x9 y9 z9 = 0) (hQ : ∀ h', jFr gC h h' → GS h' (opN s k x9 y9 z9) → Q (.inl (some (.int (nI (opA s k x9 y9 z9))))) h') : jCT G M_X1_perform 5 0 0 X [.ref 1, .int (nI k), .int x9, .int y9, .int z9] h Q := by
  obtain ⟨fx, fy, fr, w, rt, ti, x, y, D, E, L, m, num, den, g⟩ := gs
  have g0 := g
  have hgr := g.gr I
  have hn := I.n12
  obtain ⟨g1, g2, g3, g4, g5, g6, g7, g8, g9, g10, g11, g12, g13, g14, g15, g16, e1, e2, e3⟩ := g
  refine jCT_of [some (.ref 1), some (.int (nI k)), some (.int x9), some (.int y9), some (.int z9)] 0 rfl (by decide +kernel) rfl rfl ?_
  refine J_iload_n (by rfl) dX1_perform_0 ?_
  rcases (show k = 0 ∨ k = 1 ∨ k = 2 ∨ k = 3 ∨ k = 4 ∨ k = 5 ∨ k = 6 ∨ k = 7 ∨ k = 8 by omega) with rfl | rfl | rfl | rfl | rfl | rfl | rfl | rfl | rfl
  · refine J_tableIn (off := 47) 48 dX1_perform_1 (by decide) (by decide) (by decide) (by decide) ?_
    obtain ⟨q1, q2, q3⟩ := T0_0 hT
    obtain ⟨a, b, rfl, rfl, ha, hb, p1, p2⟩ := isP_t q1
    obtain ⟨c, rfl, _, hc, p3⟩ := inB_t q2 (by decide) (by decide)
    have hN : opN s 0 (nI a) (nI b) (nI c) = N0 s (nI a) (nI b) (nI c) := by unfold opN; rw [if_pos hT]; rfl
    have hA : opA s 0 (nI a) (nI b) (nI c) = s 0 := by unfold opA; rw [if_pos hT]; rfl
    rw [hN, hA] at hQ
    unfold N0 at hQ
    rw [p1, p2, p3] at hQ
    refine J_aload_n (by rfl) (by rfl) dX1_perform_48 ?_
    refine J_get dX1_perform_49 f_X1_12 (by repeat (first | assumption | exact jget_same2 (by (try simp only [List.length_set]); exact jlt (by assumption)) | refine jget_ne (by first | decide | assumption | omega) ?_)) (by rfl) ?_
    refine J_get dX1_perform_52 f_X1_67 (by repeat (first | assumption | exact jget_same2 (by (try simp only [List.length_set]); exact jlt (by assumption)) | refine jget_ne (by first | decide | assumption | omega) ?_)) (by rfl) ?_
    refine J_iload_n (by rfl) dX1_perform_55 ?_
    refine J_iload_n (by rfl) dX1_perform_56 ?_
    refine J_iload (by rfl) dX1_perform_57 ?_
    refine J_V3v (ci := 9) dX1_perform_59 s_X1_102 m_X9_append rfl (by repeat (first | assumption | exact jget_same2 (by (try simp only [List.length_set]); exact jlt (by assumption)) | refine jget_ne (by first | decide | assumption | omega) ?_)) rfl (c_X9_append (by omega) g3 g4 g5 g6 (jKv_i ?_))
    exact J_ireturn dX1_perform_62 rfl (hQ _ ((((jFr.refl.set 4 _ (by decide)).set 5 _ (by decide)).set 6 _ (by decide)).set 3 _ (by decide)) (GS.mk (g0.point (by omega)))) (by decide) (by decide) (fun _ => rfl)
  · refine J_tableIn (off := 62) 63 dX1_perform_1 (by decide) (by decide) (by decide) (by decide) ?_
    obtain ⟨q1, q2, q3, q4⟩ := T1_0 hT
    obtain ⟨i, j, rfl, rfl, hi, hj, p1, p2⟩ := both_0 q1 hn
    obtain ⟨c, rfl, hc1, hc, p3⟩ := inB_t q3 (by decide) (by decide)
    have hN : opN s 1 (nI i) (nI j) (nI c) = N1 s (nI i) (nI j) (nI c) := by unfold opN; rw [if_pos hT]; rfl
    have hA : opA s 1 (nI i) (nI j) (nI c) = mT (wS (N1 s (nI i) (nI j) (nI c))) := by unfold opA; rw [if_pos hT]; rfl
    rw [hN, hA] at hQ
    unfold N1 at hQ
    rw [p1, p2, p3] at hQ
    rw [p1, p2] at q4
    have hm := (mT_setT (v := c) I.g (i := i) (j := j) (by omega) (by omega) (fun e => q2 (by rw [e]))).1 q4 (by omega)
    rw [hm] at hQ
    refine J_aload_n (by rfl) (by rfl) dX1_perform_63 ?_
    refine J_get dX1_perform_64 f_X1_12 (by repeat (first | assumption | exact jget_same2 (by (try simp only [List.length_set]); exact jlt (by assumption)) | refine jget_ne (by first | decide | assumption | omega) ?_)) (by rfl) ?_
    refine J_get dX1_perform_67 f_X1_67 (by repeat (first | assumption | exact jget_same2 (by (try simp only [List.length_set]); exact jlt (by assumption)) | refine jget_ne (by first | decide | assumption | omega) ?_)) (by rfl) ?_
    refine J_iload_n (by rfl) dX1_perform_70 ?_
    refine J_iload_n (by rfl) dX1_perform_71 ?_
    refine J_iload (by rfl) dX1_perform_72 ?_
    refine J_V3v (ci := 9) dX1_perform_74 s_X1_105 m_X9_join rfl (by repeat (first | assumption | exact jget_same2 (by (try simp only [List.length_set]); exact jlt (by assumption)) | refine jget_ne (by first | decide | assumption | omega) ?_)) rfl (c_X9_join (by omega) (by omega) g3 g7 (jKv_i ?_))
    exact J_ireturn dX1_perform_77 rfl (by
      rw [List.set_set]
      exact hQ _ ((jFr.refl.set 7 _ (by decide)).set 3 _ (by decide)) (GS.mk (g0.trail (by omega) (by omega) hm.symm))) (by decide) (by decide) (fun _ => rfl)
  · refine J_tableIn (off := 77) 78 dX1_perform_1 (by decide) (by decide) (by decide) (by decide) ?_
    obtain ⟨q1, q4⟩ := T2_0 hT
    obtain ⟨i, j, rfl, rfl, hi, hj, p1, p2⟩ := both_0 q1 hn
    have hN : opN s 2 (nI i) (nI j) z9 = N2 s (nI i) (nI j) := by unfold opN; rw [if_pos hT]; rfl
    have hA : opA s 2 (nI i) (nI j) z9 = wS s (nP (nI i) * 12 + nP (nI j)) := by unfold opA; rw [if_pos hT]; rfl
    rw [hN, hA] at hQ
    unfold N2 at hQ
    rw [p1, p2] at hQ
    rw [p1, p2] at q4
    have hne : i ≠ j := fun e => by
      subst e
      have := I.nl i (by omega)
      omega
    have hm := (mT_setT (v := 0) I.g (i := i) (j := j) (by omega) (by omega) hne).2 q4 rfl
    refine J_aload_n (by rfl) (by rfl) dX1_perform_78 ?_
    refine J_get dX1_perform_79 f_X1_12 (by repeat (first | assumption | exact jget_same2 (by (try simp only [List.length_set]); exact jlt (by assumption)) | refine jget_ne (by first | decide | assumption | omega) ?_)) (by rfl) ?_
    refine J_get dX1_perform_82 f_X1_67 (by repeat (first | assumption | exact jget_same2 (by (try simp only [List.length_set]); exact jlt (by assumption)) | refine jget_ne (by first | decide | assumption | omega) ?_)) (by rfl) ?_
    refine J_iload_n (by rfl) dX1_perform_85 ?_
    refine J_iload_n (by rfl) dX1_perform_86 ?_
    refine J_V2v (ci := 9) dX1_perform_87 s_X1_108 m_X9_cut rfl (by repeat (first | assumption | exact jget_same2 (by (try simp only [List.length_set]); exact jlt (by assumption)) | refine jget_ne (by first | decide | assumption | omega) ?_)) rfl (c_X9_cut (by omega) (by omega) (by omega) g3 g7 (jKv_i ?_))
    exact J_ireturn dX1_perform_90 rfl (by
      rw [List.set_set, e2 _ (by omega)]
      exact hQ _ ((jFr.refl.set 7 _ (by decide)).set 3 _ (by decide)) (GS.mk (g0.trail (by omega) (by omega) (by omega)))) (by decide) (by decide) (fun _ => rfl)
  · refine J_tableIn (off := 90) 91 dX1_perform_1 (by decide) (by decide) (by decide) (by decide) ?_
    obtain ⟨q1, q2, q3, q4⟩ := T3_0 hT
    obtain ⟨i, j, rfl, rfl, hi, hj, p1, p2⟩ := both_0 q1 hn
    rw [p1, p2] at q4
    have hN : opN s 3 (nI i) (nI j) z9 = N3 s (nI i) (nI j) := by unfold opN; rw [if_pos hT]; rfl
    have hA : opA s 3 (nI i) (nI j) z9 = rLS s (nP (nI i)) (nP (nI j)) + 1 := by unfold opA; rw [if_pos hT]; rfl
    rw [hN, hA, p1, p2] at hQ
    refine J_aload_n (by rfl) (by rfl) dX1_perform_91 ?_
    refine J_iload_n (by rfl) dX1_perform_92 ?_
    refine J_iload_n (by rfl) dX1_perform_93 ?_
    refine J_V2v (ci := 1) dX1_perform_94 s_X1_111 m_X1_beginTour rfl (by repeat (first | assumption | exact jget_same2 (by (try simp only [List.length_set]); exact jlt (by assumption)) | refine jget_ne (by first | decide | assumption | omega) ?_)) rfl (c_X1_beginTour I q3 hi hj (fun e => q2 (by rw [e])) q4 g0 (fun h' hf hs => (jKv_i ?_)))
    exact J_ireturn dX1_perform_97 rfl (hQ h' hf hs) (by decide) (by decide) (fun _ => rfl)
  · refine J_tableIn (off := 97) 98 dX1_perform_1 (by decide) (by decide) (by decide) (by decide) ?_
    obtain ⟨c, rfl, _, hc, p3⟩ := inB_t (T456_0 (x := x9) (a := 0) (b := 2) hT) (by decide) (by decide)
    have hN : opN s 4 (nI c) y9 z9 = N4 s (nI c) := by unfold opN; rw [if_pos hT]; rfl
    have hA : opA s 4 (nI c) y9 z9 = s 7 := by unfold opA; rw [if_pos hT]; rfl
    rw [hN, hA] at hQ
    unfold N4 at hQ
    rw [p3] at hQ
    refine J_aload_n (by rfl) (by rfl) dX1_perform_98 ?_
    refine J_get dX1_perform_99 f_X1_12 (by repeat (first | assumption | exact jget_same2 (by (try simp only [List.length_set]); exact jlt (by assumption)) | refine jget_ne (by first | decide | assumption | omega) ?_)) (by rfl) ?_
    refine J_get dX1_perform_102 f_X1_92 (by repeat (first | assumption | exact jget_same2 (by (try simp only [List.length_set]); exact jlt (by assumption)) | refine jget_ne (by first | decide | assumption | omega) ?_)) (by rfl) ?_
    refine J_iload_n (by rfl) dX1_perform_105 ?_
    refine J_V1v (ci := 4) dX1_perform_106 s_X1_114 m_X4_exchangeMode rfl (by repeat (first | assumption | exact jget_same2 (by (try simp only [List.length_set]); exact jlt (by assumption)) | refine jget_ne (by first | decide | assumption | omega) ?_)) rfl (c_X4_exchangeMode g10 (jKv_i ?_))
    exact J_ireturn dX1_perform_109 rfl (hQ _ (jFr.refl.set 10 _ (by decide)) (GS.mk (g0.meter (s' := updN s 7 c) (fun k hk => updN_n (by omega))))) (by decide) (by decide) (fun _ => rfl)
  · refine J_tableIn (off := 109) 110 dX1_perform_1 (by decide) (by decide) (by decide) (by decide) ?_
    obtain ⟨c, rfl, _, hc, p3⟩ := inB_t (T456_0 (x := x9) (a := 1) (b := 30) hT) (by decide) (by decide)
    have hN : opN s 5 (nI c) y9 z9 = N5 s (nI c) := by unfold opN; rw [if_pos hT]; rfl
    have hA : opA s 5 (nI c) y9 z9 = s 8 := by unfold opA; rw [if_pos hT]; rfl
    rw [hN, hA] at hQ
    unfold N5 at hQ
    rw [p3] at hQ
    refine J_aload_n (by rfl) (by rfl) dX1_perform_110 ?_
    refine J_get dX1_perform_111 f_X1_12 (by repeat (first | assumption | exact jget_same2 (by (try simp only [List.length_set]); exact jlt (by assumption)) | refine jget_ne (by first | decide | assumption | omega) ?_)) (by rfl) ?_
    refine J_get dX1_perform_114 f_X1_92 (by repeat (first | assumption | exact jget_same2 (by (try simp only [List.length_set]); exact jlt (by assumption)) | refine jget_ne (by first | decide | assumption | omega) ?_)) (by rfl) ?_
    refine J_iload_n (by rfl) dX1_perform_117 ?_
    refine J_V1v (ci := 4) dX1_perform_118 s_X1_117 m_X4_exchangeTolerance rfl (by repeat (first | assumption | exact jget_same2 (by (try simp only [List.length_set]); exact jlt (by assumption)) | refine jget_ne (by first | decide | assumption | omega) ?_)) rfl (c_X4_exchangeTolerance g10 (jKv_i ?_))
    exact J_ireturn dX1_perform_121 rfl (hQ _ (jFr.refl.set 10 _ (by decide)) (GS.mk (g0.meter (s' := updN s 8 c) (fun k hk => updN_n (by omega))))) (by decide) (by decide) (fun _ => rfl)
  · refine J_tableIn (off := 121) 122 dX1_perform_1 (by decide) (by decide) (by decide) (by decide) ?_
    obtain ⟨c, rfl, _, hc, p3⟩ := inB_t (T456_0 (x := x9) (a := 1) (b := 999) hT) (by decide) (by decide)
    have hN : opN s 6 (nI c) y9 z9 = N6 s (nI c) := by unfold opN; rw [if_pos hT]; rfl
    have hA : opA s 6 (nI c) y9 z9 = min (s 6 + nP (nI c)) 1000 := by unfold opA; rw [if_pos hT]; rfl
    rw [hN, hA] at hQ
    unfold N6 at hQ
    rw [p3] at hQ
    refine J_aload_n (by rfl) (by rfl) dX1_perform_122 ?_
    refine J_get dX1_perform_123 f_X1_12 (by repeat (first | assumption | exact jget_same2 (by (try simp only [List.length_set]); exact jlt (by assumption)) | refine jget_ne (by first | decide | assumption | omega) ?_)) (by rfl) ?_
    refine J_get dX1_perform_126 f_X1_92 (by repeat (first | assumption | exact jget_same2 (by (try simp only [List.length_set]); exact jlt (by assumption)) | refine jget_ne (by first | decide | assumption | omega) ?_)) (by rfl) ?_
    refine J_iload_n (by rfl) dX1_perform_129 ?_
    refine J_V1v (ci := 4) dX1_perform_130 s_X1_120 m_X4_refill rfl (by repeat (first | assumption | exact jget_same2 (by (try simp only [List.length_set]); exact jlt (by assumption)) | refine jget_ne (by first | decide | assumption | omega) ?_)) rfl (c_X4_refill I.b (by omega) g10 (jKv_i ?_))
    exact J_ireturn dX1_perform_133 rfl (hQ _ (jFr.refl.set 10 _ (by decide)) (GS.mk (g0.meter (s' := updN s 6 (min (s 6 + c) 1000)) (fun k hk => updN_n (by omega))))) (by decide) (by decide) (fun _ => rfl)
  · refine J_tableIn (off := 133) 134 dX1_perform_1 (by decide) (by decide) (by decide) (by decide) ?_
    obtain ⟨q1, q2, q3⟩ := T7_0 hT
    obtain ⟨a, b, rfl, rfl, ha, hb, p1, p2⟩ := isP_t q1
    have hN : opN s 7 (nI a) (nI b) z9 = N7 s (nI a) (nI b) := by unfold opN; rw [if_pos hT]; rfl
    have hA : opA s 7 (nI a) (nI b) z9 = A7 s (nI a) (nI b) := by unfold opA; rw [if_pos hT]; rfl
    rw [hN, hA] at hQ
    unfold A7 at hQ
    rw [p1, p2] at hQ
    refine J_aload_n (by rfl) (by rfl) dX1_perform_134 ?_
    refine J_iload_n (by rfl) dX1_perform_135 ?_
    refine J_iload_n (by rfl) dX1_perform_136 ?_
    refine J_V2v (ci := 1) dX1_perform_137 s_X1_123 m_X1_moveHiker rfl (by repeat (first | assumption | exact jget_same2 (by (try simp only [List.length_set]); exact jlt (by assumption)) | refine jget_ne (by first | decide | assumption | omega) ?_)) rfl (c_X1_moveHiker I hK q2 ha hb g0 (fun h' hf hs => (jKv_i ?_)))
    refine J_if_eq_b 147 dX1_perform_140 (by decide) (fun c140 => ?_) (fun c140 => ?_)
    · have hQ := hQ h' hf hs
      rw [if_neg (by rw [c140]; decide)] at hQ
      refine J_iconst (nI 0) (by decide) dX1_perform_147 ?_
      exact J_ireturn dX1_perform_148 rfl (hQ) (by decide) (by decide) (fun _ => rfl)
    · have hQ := hQ h' hf hs
      rw [if_pos c140] at hQ
      refine J_iconst (nI 1) (by decide) dX1_perform_143 ?_
      refine J_goto 148 dX1_perform_144 (by decide) ?_
      exact J_ireturn dX1_perform_148 rfl (hQ) (by decide) (by decide) (fun _ => rfl)
  · refine J_tableOut 149 dX1_perform_1 (by decide) (by decide) ?_
    have h0 := T8_0 hT
    have hN : opN s 8 x9 y9 z9 = overS s := by unfold opN; rw [if_pos hT]; rfl
    have hA : opA s 8 x9 y9 z9 = s 1 - s 2 := by unfold opA; rw [if_pos hT]; rfl
    rw [hN, hA] at hQ
    refine J_aload_n (by rfl) (by rfl) dX1_perform_149 ?_
    refine J_V0v (ci := 1) dX1_perform_150 s_X1_126 m_X1_endTour rfl (by repeat (first | assumption | exact jget_same2 (by (try simp only [List.length_set]); exact jlt (by assumption)) | refine jget_ne (by first | decide | assumption | omega) ?_)) rfl (c_X1_endTour I h0 g0 (fun h' hf hs => (jKv_i ?_)))
    exact J_ireturn dX1_perform_153 rfl (hQ h' hf hs) (by decide) (by decide) (fun _ => rfl)
end GUIDE3
