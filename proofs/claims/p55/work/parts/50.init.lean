/-! The constructors of the history, the class, the reference -/
def s00 : Nat → Nat := fun k => if k = 6 then 1000 else if k = 7 then 1 else if k = 8 then 5 else 0
theorem s00_0 {k : Nat} (h6 : k ≠ 6) (h7 : k ≠ 7) (h8 : k ≠ 8) : s00 k = 0 := by unfold s00; rw [if_neg h6, if_neg h7, if_neg h8]
theorem mT_s00 : mT (wS s00) = 0 := (mT_congr (v := fun _ => 0) (fun k _ => s00_0 (by omega) (by omega) (by omega))).trans (by decide)
theorem PS_new {p : Nat} {h : jH} (q0 : h[p]? = some (.inr (7, [.ref (p + 1), .ref (p + 6), .ref (p + 8)]))) (q1 : h[p + 1]? = some (.inr (9, [.ref (p + 2), .ref (p + 3), .ref (p + 4), .ref (p + 5), .int 0, .int 0]))) (q2 : h[p + 2]? = some (ia 12 (fun _ => 0))) (q3 : h[p + 3]? = some (ia 12 (fun _ => 0))) (q4 : h[p + 4]? = some (ia 12 (fun _ => 0))) (q5 : h[p + 5]? = some (ia 144 (fun _ => 0))) (q6 : h[p + 6]? = some (.inr (8, [.ref (p + 7), .int 0, .int 0, .int 0, .int 0, .int 0]))) (q7 : h[p + 7]? = some (ia 12 (fun _ => 0))) (q8 : h[p + 8]? = some (.inr (4, [.int 1000, .int 1, .int 5, .int 0, .int 0, .int 0]))) : PS p h s00 := by
  refine ⟨fun _ => 0, fun _ => 0, fun _ => 0, fun _ => 0, fun _ => 0, 0, 0, 0, q0, ?_, q2, q3, q4, q5, q6, q7, q8, ?_, ?_, ?_⟩
  · rw [mT_s00]; exact q1
  · intro i hi
    unfold pX pY pR
    rw [s00_0 (by omega) (by omega) (by omega), s00_0 (by omega) (by omega) (by omega), s00_0 (by omega) (by omega) (by omega)]
    exact ⟨rfl, rfl, rfl⟩
  · intro k hk
    exact (s00_0 (by omega) (by omega) (by omega)).symm
  · intro h0
    exact absurd h0 (by decide)
theorem PS.eqv {p : Nat} {h h' : jH} {s : Nat → Nat} (g : PS p h s) (he : ∀ j, p ≤ j → j ≤ p + 8 → h'[j]? = h[j]?) : PS p h' s := by
  obtain ⟨fx, fy, fr, w, rt, ti, x, y, q0, q1, q2, q3, q4, q5, q6, q7, q8, e1, e2, e3⟩ := g
  refine ⟨fx, fy, fr, w, rt, ti, x, y, ?_, ?_, ?_, ?_, ?_, ?_, ?_, ?_, ?_, e1, e2, e3⟩
  all_goals (rw [he _ (by omega) (by omega)]; assumption)
theorem HS.eqv {h h' : jH} {P : Nat → Nat} {ch : Nat} (g : HS h P ch) (he : ∀ j, 17 ≤ j → j ≤ 90 → h'[j]? = h[j]?) : HS h' P ch := by
  obtain ⟨nx, f, o, r, n8, c8, f8, a, p⟩ := g
  refine ⟨nx, f, (he _ (by omega) (by omega)).trans o, (he _ (by omega) (by omega)).trans r, n8, c8, f8, fun j hj => ?_, fun i hi => ⟨(p i hi).1.eqv (fun j h1 h2 => he j (by omega) (by omega)), (p i hi).2⟩⟩
  obtain ⟨s, hs⟩ := a j hj
  exact ⟨s, hs.eqv (fun j h1 h2 => he j (by omega) (by omega))⟩
section INIT2
variable {G : jG} {h : jH} {Q : jQ_}
theorem c_X2_init (hl : h.length = 18) (f0_0 : h[17]? = some (.inr (2, [.null, .int 0, .int 0])))
    (hQ : ∀ h', h'.length = 91 → (∀ j, j < 17 → h'[j]? = h[j]?) → (∀ P, HS h' P 0) → Q (.inl none) h') : jCT G M_X2_init 3 73 1712 true [.ref 17] h Q := by
  refine jCT_of [some (.ref 17), none] 1 rfl (by decide +kernel) rfl rfl ?_
  refine J_aload_n (by rfl) (by rfl) dX2_init_0 ?_
  refine J_objInit dX2_init_1 o_X2_3 ow_1 ow_2 (by decide) (by exact Nat.le_of_ble_eq_true rfl) ?_
  refine J_aload_n (by rfl) (by rfl) dX2_init_4 ?_
  refine J_bipush (nI 8) (by decide) dX2_init_5 ?_
  refine J_newQ 8 dX2_init_7 c_X2_9 (by decide) (by decide) (by decide) (by decide) ?_
  refine J_ext (fun h1 l1 g1 o1 => ?_)
  rw [hl] at l1 g1 o1 ⊢
  have f0_1 := (o1 17 (by omega)).trans f0_0
  refine J_putF_0 dX2_init_10 p_X2_11 rfl (by repeat (first | assumption | exact jget_same2 (by (try simp only [List.length_set]); exact jlt (by assumption)) | refine jget_ne (by first | decide | assumption | omega) ?_)) ?_
  refine J_setx (i := 17) (by omega) (fun h2 l2 g2 o2 => ?_)
  have l2 : h2.length = 19 := by omega
  have g18 := (o2 18 (by omega)).trans g1
  have fr2 : ∀ j, j < 17 → h2[j]? = h[j]? := fun j hj => (o2 j (by omega)).trans (o1 j (by omega))
  refine J_iconst (nI 0) (by decide) dX2_init_13 ?_
  refine J_istore_1 dX2_init_14 ?_
  suffices loop : ∀ i, i ≤ 8 → ∀ h3 : jH, h3.length = 19 + 9 * i → (∀ j, j < 17 → h3[j]? = h[j]?) → h3[17]? = some (.inr (2, [.ref 18, .int 0, .int 0])) → (∃ f : Nat → Option Nat, h3[18]? = some (hRing f) ∧ ∀ j, j < i → f j = some (19 + 9 * j)) → (∀ j, j < i → PS (19 + 9 * j) h3 s00) → J G (jR 3 73 1712) (jFin G Q true 73 1712) M_X2_init true (1 + 9 * i) (8 + 213 * i) 15 [some (.ref 17), some (.int (nI i))] [] h3 by
    exact loop 0 (by omega) h2 l2 fr2 g2 ⟨_, g18, fun j hj => by omega⟩ (fun j hj => by omega)
  refine up_ind 8 (fun i hi ih h3 l3 fr3 f17 ⟨f, f18, hf⟩ hps => ?_)
  refine J_iload_n (by rfl) dX2_init_15 ?_
  refine J_bipush (nI 8) (by decide) dX2_init_16 ?_
  refine J_icmp_ge_n 40 dX2_init_18 (by decide) (fun c18 => ?_) (fun c18 => ?_)
  · have hi8 : i = 8 := by omega
    subst hi8
    exact J_return dX2_init_40 rfl (hQ h3 l3 fr3 (fun P => ⟨0, f, f17, f18, by omega, by omega, hf, fun j hj => ⟨_, hps j hj⟩, fun j hj => by omega⟩)) (by decide) (by decide) (fun _ => rfl)
  · refine J_aload_n (by rfl) (by rfl) dX2_init_21 ?_
    refine J_get dX2_init_22 f_X2_11 (by repeat (first | assumption | exact jget_same2 (by (try simp only [List.length_set]); exact jlt (by assumption)) | refine jget_ne (by first | decide | assumption | omega) ?_)) (by rfl) ?_
    refine J_iload_n (by rfl) dX2_init_25 ?_
    refine J_new dX2_init_26 n_X2_9 (by show 1 + 9 * i + 1 ≤ 73; omega) (by show 8 + 213 * i + 3 ≤ 1712; omega) ?_
    refine J_ext (fun h4 l4 g4 o4 => ?_)
    rw [l3] at l4 g4 o4 ⊢
    have f17_4 := (o4 17 (by omega)).trans f17
    have f18_4 := (o4 18 (by omega)).trans f18
    have hfit : jfit (jR 3 73 1712) (m_n M_X7_init) 2 8 210 (1 + 9 * i + 1) (8 + 213 * i + 3) = true := by
      simp only [jfit, Bool.and_eq_true]
      exact ⟨by rfl, by rfl, Nat.ble_eq_true_of_le (by show 1 + 9 * i + 1 + 8 ≤ 73; omega), Nat.ble_eq_true_of_le (by show 8 + 213 * i + 3 + 210 ≤ 1712; omega)⟩
    refine J_dup (by rfl) dX2_init_29 ?_
    refine J_IN00 dX2_init_30 s_X2_17 m_X7_init rfl (c_X7_init (p := 19 + 9 * i) l4 g4 (fun h5 l5 o5 a0 a1 a2 a3 a4 a5 a6 a7 a8 => (jK0_i ?_))) hfit
    have hp5 : PS (19 + 9 * i) h5 s00 := PS_new a0 a1 a2 a3 a4 a5 a6 a7 a8
    have f17_5 := (o5 17 (by omega)).trans f17_4
    have f18_5 := (o5 18 (by omega)).trans f18_4
    refine J_aast (i) dX2_init_33 (by repeat (first | assumption | exact jget_same2 (by (try simp only [List.length_set]); exact jlt (by assumption)) | refine jget_ne (by first | decide | assumption | omega) ?_)) (by repeat (first | assumption | exact jget_same2 (by (try simp only [List.length_set]); exact jlt (by assumption)) | refine jget_ne (by first | decide | assumption | omega) ?_)) (by first | rfl | (simp only [pk_mul, nI_add]; done) | (simp only [pk_mul, nI_add]; congr 1; omega) | (congr 1; omega)) (by omega) ?_
    refine J_setx (i := 18) (by omega) (fun h6 l6 g6 o6 => ?_)
    refine J_iinc_1 (nI 1) dX2_init_34 (by decide) ?_
    try rw [nI_add]
    refine J_goto 15 dX2_init_37 (by decide) ?_
    have := ih (by omega) h6 (by omega) (fun j hj => (o6 j (by omega)).trans ((o5 j (by omega)).trans ((o4 j (by omega)).trans (fr3 j hj)))) ((o6 17 (by omega)).trans f17_5) ⟨_, g6, fun j hj => by
      by_cases e : j = i
      · subst e; simp [va_up]
      · exact (show va_up f i (some (19 + 9 * i)) j = f j by simp [va_up, e]).trans (hf j (by omega))⟩ (fun j hj => by
      by_cases e : j = i
      · subst e; exact hp5.eqv (fun k h1 h2 => o6 k (by omega))
      · exact (hps j (by omega)).eqv (fun k h1 h2 => (o6 k (by omega)).trans ((o5 k (by omega)).trans (o4 k (by omega)))))
    rw [show 1 + 9 * (i + 1) = 1 + 9 * i + 1 + 8 by omega, show 8 + 213 * (i + 1) = 8 + 213 * i + 3 + 210 by omega] at this
    exact this
theorem c_X10_init (hl : h.length = 1) (f0_0 : h[0]? = some (.inr (10, [.null, .null, .null, .null, .null, .null, .int 0, .int 0, .int 0])))
    (hQ : ∀ h', h'.length = 116 → (∀ P lf, CPc h' s00 s00 P 0 (-1) (-1) false lf 0 (fun _ => 0) 0) → Q (.inl none) h') : jCT G M_X10_init 5 115 2616 true [.ref 0] h Q := by
  refine jCT_of [some (.ref 0)] 0 rfl (by decide +kernel) rfl rfl ?_
  have l0 := hl
  refine J_aload_n (by rfl) (by rfl) dX10_init_0 ?_
  refine J_objInit dX10_init_1 o_X10_3 ow_1 ow_2 (by decide) (by exact Nat.le_of_ble_eq_true rfl) ?_
  refine J_aload_n (by rfl) (by rfl) dX10_init_4 ?_
  refine J_new dX10_init_5 n_X10_9 (by decide) (by decide) ?_
  refine J_ext (fun h1 l1 g1 o1 => ?_)
  rw [l0] at l1 g1 o1 ⊢
  have l1 : h1.length = 2 := l1
  have f0_1 := (o1 0 (by omega)).trans f0_0
  refine J_dup (by rfl) dX10_init_8 ?_
  refine J_IN00 dX10_init_9 s_X10_11 m_X1_init rfl (c_X1_init (p := 1) l1 g1 (fun h2 l2 o2 a2_1 a2_2 a2_3 a2_4 a2_5 a2_6 a2_7 a2_8 a2_9 a2_10 a2_11 a2_12 a2_13 a2_14 a2_15 a2_16 => (jK0_i ?_)))
  have l2 : h2.length = 17 := l2
  have f0_2 := (o2 0 (by omega)).trans f0_1
  refine J_putF_0 dX10_init_12 p_X10_12 rfl (by repeat (first | assumption | exact jget_same2 (by (try simp only [List.length_set]); exact jlt (by assumption)) | refine jget_ne (by first | decide | assumption | omega) ?_)) ?_
  refine J_setx (i := 0) (by omega) (fun h3 l3 g3 o3 => ?_)
  rw [l2] at l3
  have f0_3 : h3[0]? = some (.inr (10, [.ref 1, .null, .null, .null, .null, .null, .int 0, .int 0, .int 0])) := g3
  refine J_aload_n (by rfl) (by rfl) dX10_init_15 ?_
  refine J_new dX10_init_16 n_X10_16 (by decide) (by decide) ?_
  refine J_ext (fun h4 l4 g4 o4 => ?_)
  rw [l3] at l4 g4 o4 ⊢
  have l4 : h4.length = 18 := l4
  have f0_4 := (o4 0 (by omega)).trans f0_3
  refine J_dup (by rfl) dX10_init_19 ?_
  refine J_I00 dX10_init_20 s_X10_18 m_X2_init rfl (c_X2_init l4 g4 (fun h5 l5 o5 hs5 => (jK0_i ?_)))
  have l5 : h5.length = 91 := l5
  have f0_5 := (o5 0 (by omega)).trans f0_4
  refine J_putF_1 dX10_init_23 p_X10_19 rfl (by repeat (first | assumption | exact jget_same2 (by (try simp only [List.length_set]); exact jlt (by assumption)) | refine jget_ne (by first | decide | assumption | omega) ?_)) ?_
  refine J_setx (i := 0) (by omega) (fun h6 l6 g6 o6 => ?_)
  rw [l5] at l6
  have f0_6 : h6[0]? = some (.inr (10, [.ref 1, .ref 17, .null, .null, .null, .null, .int 0, .int 0, .int 0])) := g6
  refine J_aload_n (by rfl) (by rfl) dX10_init_26 ?_
  refine J_new dX10_init_27 n_X10_23 (by decide) (by decide) ?_
  refine J_ext (fun h7 l7 g7 o7 => ?_)
  rw [l6] at l7 g7 o7 ⊢
  have l7 : h7.length = 92 := l7
  have f0_7 := (o7 0 (by omega)).trans f0_6
  refine J_dup (by rfl) dX10_init_30 ?_
  refine J_IN00 dX10_init_31 s_X10_25 m_X7_init rfl (c_X7_init (p := 91) l7 g7 (fun h8 l8 o8 a8_91 a8_92 a8_93 a8_94 a8_95 a8_96 a8_97 a8_98 a8_99 => (jK0_i ?_)))
  have hs8 : PS 91 h8 s00 := PS_new a8_91 a8_92 a8_93 a8_94 a8_95 a8_96 a8_97 a8_98 a8_99
  have l8 : h8.length = 100 := l8
  have f0_8 := (o8 0 (by omega)).trans f0_7
  refine J_putF_2 dX10_init_34 p_X10_26 rfl (by repeat (first | assumption | exact jget_same2 (by (try simp only [List.length_set]); exact jlt (by assumption)) | refine jget_ne (by first | decide | assumption | omega) ?_)) ?_
  refine J_setx (i := 0) (by omega) (fun h9 l9 g9 o9 => ?_)
  rw [l8] at l9
  have f0_9 : h9[0]? = some (.inr (10, [.ref 1, .ref 17, .ref 91, .null, .null, .null, .int 0, .int 0, .int 0])) := g9
  refine J_aload_n (by rfl) (by rfl) dX10_init_37 ?_
  refine J_new dX10_init_38 n_X10_23 (by decide) (by decide) ?_
  refine J_ext (fun h10 l10 g10 o10 => ?_)
  rw [l9] at l10 g10 o10 ⊢
  have l10 : h10.length = 101 := l10
  have f0_10 := (o10 0 (by omega)).trans f0_9
  refine J_dup (by rfl) dX10_init_41 ?_
  refine J_IN00 dX10_init_42 s_X10_25 m_X7_init rfl (c_X7_init (p := 100) l10 g10 (fun h11 l11 o11 a11_100 a11_101 a11_102 a11_103 a11_104 a11_105 a11_106 a11_107 a11_108 => (jK0_i ?_)))
  have hs11 : PS 100 h11 s00 := PS_new a11_100 a11_101 a11_102 a11_103 a11_104 a11_105 a11_106 a11_107 a11_108
  have l11 : h11.length = 109 := l11
  have f0_11 := (o11 0 (by omega)).trans f0_10
  refine J_putF_3 dX10_init_45 p_X10_30 rfl (by repeat (first | assumption | exact jget_same2 (by (try simp only [List.length_set]); exact jlt (by assumption)) | refine jget_ne (by first | decide | assumption | omega) ?_)) ?_
  refine J_setx (i := 0) (by omega) (fun h12 l12 g12 o12 => ?_)
  rw [l11] at l12
  have f0_12 : h12[0]? = some (.inr (10, [.ref 1, .ref 17, .ref 91, .ref 100, .null, .null, .int 0, .int 0, .int 0])) := g12
  refine J_aload_n (by rfl) (by rfl) dX10_init_48 ?_
  refine J_new dX10_init_49 n_X10_33 (by decide) (by decide) ?_
  refine J_ext (fun h13 l13 g13 o13 => ?_)
  rw [l12] at l13 g13 o13 ⊢
  have l13 : h13.length = 110 := l13
  have f0_13 := (o13 0 (by omega)).trans f0_12
  refine J_dup (by rfl) dX10_init_52 ?_
  refine J_IN00 dX10_init_53 s_X10_35 m_X6_init rfl (c_X6_init (p := 109) l13 g13 (fun h14 l14 o14 a14_109 a14_110 a14_111 a14_112 a14_113 => (jK0_i ?_)))
  have l14 : h14.length = 114 := l14
  have f0_14 := (o14 0 (by omega)).trans f0_13
  refine J_putF_4 dX10_init_56 p_X10_36 rfl (by repeat (first | assumption | exact jget_same2 (by (try simp only [List.length_set]); exact jlt (by assumption)) | refine jget_ne (by first | decide | assumption | omega) ?_)) ?_
  refine J_setx (i := 0) (by omega) (fun h15 l15 g15 o15 => ?_)
  rw [l14] at l15
  have f0_15 : h15[0]? = some (.inr (10, [.ref 1, .ref 17, .ref 91, .ref 100, .ref 109, .null, .int 0, .int 0, .int 0])) := g15
  refine J_aload_n (by rfl) (by rfl) dX10_init_59 ?_
  refine J_new dX10_init_60 n_X10_40 (by decide) (by decide) ?_
  refine J_ext (fun h16 l16 g16 o16 => ?_)
  rw [l15] at l16 g16 o16 ⊢
  have l16 : h16.length = 115 := l16
  have f0_16 := (o16 0 (by omega)).trans f0_15
  refine J_dup (by rfl) dX10_init_63 ?_
  refine J_IN00 dX10_init_64 s_X10_42 m_X3_init rfl (c_X3_init (p := 114) l16 g16 (fun h17 l17 o17 a17_114 a17_115 => (jK0_i ?_)))
  have l17 : h17.length = 116 := l17
  have f0_17 := (o17 0 (by omega)).trans f0_16
  refine J_putF_5 dX10_init_67 p_X10_43 rfl (by repeat (first | assumption | exact jget_same2 (by (try simp only [List.length_set]); exact jlt (by assumption)) | refine jget_ne (by first | decide | assumption | omega) ?_)) ?_
  refine J_setx (i := 0) (by omega) (fun h18 l18 g18 o18 => ?_)
  rw [l17] at l18
  have f0_18 : h18[0]? = some (.inr (10, [.ref 1, .ref 17, .ref 91, .ref 100, .ref 109, .ref 114, .int 0, .int 0, .int 0])) := g18
  refine J_aload_n (by rfl) (by rfl) dX10_init_70 ?_
  refine J_iconst (nI 0) (by decide) dX10_init_71 ?_
  refine J_put_6 dX10_init_72 p_X10_47 (by repeat (first | assumption | exact jget_same2 (by (try simp only [List.length_set]); exact jlt (by assumption)) | refine jget_ne (by first | decide | assumption | omega) ?_)) ?_
  refine J_setx (i := 0) (by omega) (fun h19 l19 g19 o19 => ?_)
  rw [l18] at l19
  have f0_19 : h19[0]? = some (.inr (10, [.ref 1, .ref 17, .ref 91, .ref 100, .ref 109, .ref 114, .int 0, .int 0, .int 0])) := g19
  refine J_aload_n (by rfl) (by rfl) dX10_init_75 ?_
  refine J_iconst (-1) (by decide) dX10_init_76 ?_
  refine J_put_7 dX10_init_77 p_X10_51 (by repeat (first | assumption | exact jget_same2 (by (try simp only [List.length_set]); exact jlt (by assumption)) | refine jget_ne (by first | decide | assumption | omega) ?_)) ?_
  refine J_setx (i := 0) (by omega) (fun h20 l20 g20 o20 => ?_)
  rw [l19] at l20
  have f0_20 : h20[0]? = some (.inr (10, [.ref 1, .ref 17, .ref 91, .ref 100, .ref 109, .ref 114, .int 0, .int (-1), .int 0])) := g20
  refine J_aload_n (by rfl) (by rfl) dX10_init_80 ?_
  refine J_iconst (-1) (by decide) dX10_init_81 ?_
  refine J_put_8 dX10_init_82 p_X10_55 (by repeat (first | assumption | exact jget_same2 (by (try simp only [List.length_set]); exact jlt (by assumption)) | refine jget_ne (by first | decide | assumption | omega) ?_)) ?_
  refine J_setx (i := 0) (by omega) (fun h21 l21 g21 o21 => ?_)
  rw [l20] at l21
  have f0_21 : h21[0]? = some (.inr (10, [.ref 1, .ref 17, .ref 91, .ref 100, .ref 109, .ref 114, .int 0, .int (-1), .int (-1)])) := g21
  have k21 : ∀ j, 0 < j → j < 116 → h21[j]? = h21[j]? := fun j _ _ => rfl
  have k20 : ∀ j, 0 < j → j < 116 → h21[j]? = h20[j]? := fun j h1 h2 => (k21 j h1 (by omega)).trans (o21 j (by omega))
  have k19 : ∀ j, 0 < j → j < 116 → h21[j]? = h19[j]? := fun j h1 h2 => (k20 j h1 (by omega)).trans (o20 j (by omega))
  have k18 : ∀ j, 0 < j → j < 116 → h21[j]? = h18[j]? := fun j h1 h2 => (k19 j h1 (by omega)).trans (o19 j (by omega))
  have k17 : ∀ j, 0 < j → j < 116 → h21[j]? = h17[j]? := fun j h1 h2 => (k18 j h1 (by omega)).trans (o18 j (by omega))
  have k16 : ∀ j, 0 < j → j < 114 → h21[j]? = h16[j]? := fun j h1 h2 => (k17 j h1 (by omega)).trans (o17 j (by omega))
  have k15 : ∀ j, 0 < j → j < 114 → h21[j]? = h15[j]? := fun j h1 h2 => (k16 j h1 (by omega)).trans (o16 j (by omega))
  have k14 : ∀ j, 0 < j → j < 114 → h21[j]? = h14[j]? := fun j h1 h2 => (k15 j h1 (by omega)).trans (o15 j (by omega))
  have k13 : ∀ j, 0 < j → j < 109 → h21[j]? = h13[j]? := fun j h1 h2 => (k14 j h1 (by omega)).trans (o14 j (by omega))
  have k12 : ∀ j, 0 < j → j < 109 → h21[j]? = h12[j]? := fun j h1 h2 => (k13 j h1 (by omega)).trans (o13 j (by omega))
  have k11 : ∀ j, 0 < j → j < 109 → h21[j]? = h11[j]? := fun j h1 h2 => (k12 j h1 (by omega)).trans (o12 j (by omega))
  have k10 : ∀ j, 0 < j → j < 100 → h21[j]? = h10[j]? := fun j h1 h2 => (k11 j h1 (by omega)).trans (o11 j (by omega))
  have k9 : ∀ j, 0 < j → j < 100 → h21[j]? = h9[j]? := fun j h1 h2 => (k10 j h1 (by omega)).trans (o10 j (by omega))
  have k8 : ∀ j, 0 < j → j < 100 → h21[j]? = h8[j]? := fun j h1 h2 => (k9 j h1 (by omega)).trans (o9 j (by omega))
  have k7 : ∀ j, 0 < j → j < 91 → h21[j]? = h7[j]? := fun j h1 h2 => (k8 j h1 (by omega)).trans (o8 j (by omega))
  have k6 : ∀ j, 0 < j → j < 91 → h21[j]? = h6[j]? := fun j h1 h2 => (k7 j h1 (by omega)).trans (o7 j (by omega))
  have k5 : ∀ j, 0 < j → j < 91 → h21[j]? = h5[j]? := fun j h1 h2 => (k6 j h1 (by omega)).trans (o6 j (by omega))
  have k4 : ∀ j, 0 < j → j < 17 → h21[j]? = h4[j]? := fun j h1 h2 => (k5 j h1 (by omega)).trans (o5 j (by omega))
  have k3 : ∀ j, 0 < j → j < 17 → h21[j]? = h3[j]? := fun j h1 h2 => (k4 j h1 (by omega)).trans (o4 j (by omega))
  have k2 : ∀ j, 0 < j → j < 17 → h21[j]? = h2[j]? := fun j h1 h2 => (k3 j h1 (by omega)).trans (o3 j (by omega))
  have k1 : ∀ j, 0 < j → j < 1 → h21[j]? = h1[j]? := fun j h1 h2 => (k2 j h1 (by omega)).trans (o2 j (by omega))
  have hps : PS 2 h21 s00 := PS_new ((k2 2 (by omega) (by omega)).trans a2_2) ((k2 3 (by omega) (by omega)).trans a2_3) ((k2 4 (by omega) (by omega)).trans a2_4) ((k2 5 (by omega) (by omega)).trans a2_5) ((k2 6 (by omega) (by omega)).trans a2_6) ((k2 7 (by omega) (by omega)).trans a2_7) ((k2 8 (by omega) (by omega)).trans a2_8) ((k2 9 (by omega) (by omega)).trans a2_9) ((k2 10 (by omega) (by omega)).trans a2_10)
  have hgs : GS h21 s00 := by
    obtain ⟨fx, fy, fr, w, rt, ti, x, y, q0, q1, q2, q3, q4, q5, q6, q7, q8, e1, e2, e3⟩ := hps
    exact ⟨fx, fy, fr, w, rt, ti, x, y, fun _ => 0, fun _ => 0, fun _ => 0, fun _ => false, 0, 1, ((k2 1 (by omega) (by omega)).trans a2_1), q0, q1, q2, q3, q4, q5, q6, q7, q8, ((k2 11 (by omega) (by omega)).trans a2_11), ((k2 12 (by omega) (by omega)).trans a2_12), ((k2 13 (by omega) (by omega)).trans a2_13), ((k2 14 (by omega) (by omega)).trans a2_14), ((k2 15 (by omega) (by omega)).trans a2_15), ((k2 16 (by omega) (by omega)).trans a2_16), e1, e2, e3⟩
  exact J_return dX10_init_85 rfl (by
    refine hQ h21 l21 (fun P lf => ⟨f0_21, hgs, (hs5 P).eqv (fun j h1 h2 => k5 j (by omega) (by omega)), ⟨hs8.eqv (fun j h1 h2 => k8 j (by omega) (by omega)), fun z => by cases z⟩, ⟨s00, hs11.eqv (fun j h1 h2 => k11 j (by omega) (by omega))⟩, ⟨0, 0, 0, fun _ => 0, fun _ => 0, fun _ => 0, ((k14 109 (by omega) (by omega)).trans a14_109), ((k14 110 (by omega) (by omega)).trans a14_110), ((k14 111 (by omega) (by omega)).trans a14_111), ((k14 112 (by omega) (by omega)).trans a14_112), ((k14 113 (by omega) (by omega)).trans a14_113)⟩, ⟨fun _ => 0, ((k17 114 (by omega) (by omega)).trans a17_114), ((k17 115 (by omega) (by omega)).trans a17_115), fun i hi => by omega⟩⟩)) (by decide) (by decide) (fun _ => rfl)
end INIT2
