/-! The constructors -/
theorem J_ext {G : jG} {R : Room} {F : jF} {M : jM} {X : Bool} {kc kn pc : Nat} {lo : List (Option Value)} {st : List Value} {h : jH} {c : jC} (k : ∀ h' : jH, h'.length = h.length + 1 → h'[h.length]? = some c → (∀ j, j < h.length → h'[j]? = h[j]?) → J G R F M X kc kn pc lo st h') : J G R F M X kc kn pc lo st (h ++ [c]) :=
  k _ (by simp) (by simp) (fun j hj => List.getElem?_append_left hj)
theorem J_setx {G : jG} {R : Room} {F : jF} {M : jM} {X : Bool} {kc kn pc : Nat} {lo : List (Option Value)} {st : List Value} {h : jH} {i : Nat} {c : jC} (hi : i < h.length) (k : ∀ h' : jH, h'.length = h.length → h'[i]? = some c → (∀ j, j ≠ i → h'[j]? = h[j]?) → J G R F M X kc kn pc lo st h') : J G R F M X kc kn pc lo st (h.set i c) :=
  k _ (by simp) (by simp [hi]) (fun j hj => List.getElem?_set_ne (fun e => hj e.symm))
section INIT
variable {G : jG} {h : jH} {Q : jQ_}
theorem c_X9_init {p : Nat} (hl : h.length = p + 1) (f0_0 : h[p]? = some (.inr (9, [.null, .null, .null, .null, .int 0, .int 0])))
    (hQ : ∀ h', h'.length = p + 5 → (∀ j, j < p → h'[j]? = h[j]?) → h'[p]? = some (.inr (9, [.ref (p + 1), .ref (p + 2), .ref (p + 3), .ref (p + 4), .int 0, .int 0])) → h'[p + 1]? = some (ia 12 (fun _ => 0)) → h'[p + 2]? = some (ia 12 (fun _ => 0)) → h'[p + 3]? = some (ia 12 (fun _ => 0)) → h'[p + 4]? = some (ia 144 (fun _ => 0)) → Q (.inl none) h') : jCT G M_X9_init 1 4 180 true [.ref p] h Q := by
  refine jCT_of [some (.ref p)] 0 rfl (by decide +kernel) rfl rfl ?_
  have l0 := hl
  have fr0 : ∀ j, j < p → h[j]? = h[j]? := fun j hj => rfl
  refine J_aload_n (by rfl) (by rfl) dX9_init_0 ?_
  refine J_objInit dX9_init_1 o_X9_3 ow_1 ow_2 (by decide) (by exact Nat.le_of_ble_eq_true rfl) ?_
  refine J_aload_n (by rfl) (by rfl) dX9_init_4 ?_
  refine J_bipush (nI 12) (by decide) dX9_init_5 ?_
  refine J_newI 12 dX9_init_7 aw_int (by decide) (by decide) (by decide) (by decide) ?_
  refine J_ext (fun h1 l1 g1 o1 => ?_)
  rw [l0] at l1 g1 o1 ⊢
  have l1 : h1.length = p + 2 := l1
  have f0_1 := (o1 (p) (by omega)).trans f0_0
  have fr1 : ∀ j, j < p → h1[j]? = h[j]? := fun j hj => (o1 j (by omega)).trans (fr0 j hj)
  have f1_1 : h1[p + 1]? = some (ia 12 (fun _ => 0)) := g1
  refine J_putF_0 dX9_init_9 p_X9_9 rfl (by repeat (first | assumption | exact jget_same2 (by (try simp only [List.length_set]); exact jlt (by assumption)) | refine jget_ne (by first | decide | assumption | omega) ?_)) ?_
  refine J_setx (i := p) (by omega) (fun h2 l2 g2 o2 => ?_)
  rw [l1] at l2
  have f1_2 := (o2 (p + 1) (by omega)).trans f1_1
  have fr2 : ∀ j, j < p → h2[j]? = h[j]? := fun j hj => (o2 j (by omega)).trans (fr1 j hj)
  have f0_2 : h2[p]? = some (.inr (9, [.ref (p + 1), .null, .null, .null, .int 0, .int 0])) := g2
  refine J_aload_n (by rfl) (by rfl) dX9_init_12 ?_
  refine J_bipush (nI 12) (by decide) dX9_init_13 ?_
  refine J_newI 12 dX9_init_15 aw_int (by decide) (by decide) (by decide) (by decide) ?_
  refine J_ext (fun h3 l3 g3 o3 => ?_)
  rw [l2] at l3 g3 o3 ⊢
  have l3 : h3.length = p + 3 := l3
  have f0_3 := (o3 (p) (by omega)).trans f0_2
  have f1_3 := (o3 (p + 1) (by omega)).trans f1_2
  have fr3 : ∀ j, j < p → h3[j]? = h[j]? := fun j hj => (o3 j (by omega)).trans (fr2 j hj)
  have f2_3 : h3[p + 2]? = some (ia 12 (fun _ => 0)) := g3
  refine J_putF_1 dX9_init_17 p_X9_15 rfl (by repeat (first | assumption | exact jget_same2 (by (try simp only [List.length_set]); exact jlt (by assumption)) | refine jget_ne (by first | decide | assumption | omega) ?_)) ?_
  refine J_setx (i := p) (by omega) (fun h4 l4 g4 o4 => ?_)
  rw [l3] at l4
  have f1_4 := (o4 (p + 1) (by omega)).trans f1_3
  have f2_4 := (o4 (p + 2) (by omega)).trans f2_3
  have fr4 : ∀ j, j < p → h4[j]? = h[j]? := fun j hj => (o4 j (by omega)).trans (fr3 j hj)
  have f0_4 : h4[p]? = some (.inr (9, [.ref (p + 1), .ref (p + 2), .null, .null, .int 0, .int 0])) := g4
  refine J_aload_n (by rfl) (by rfl) dX9_init_20 ?_
  refine J_bipush (nI 12) (by decide) dX9_init_21 ?_
  refine J_newI 12 dX9_init_23 aw_int (by decide) (by decide) (by decide) (by decide) ?_
  refine J_ext (fun h5 l5 g5 o5 => ?_)
  rw [l4] at l5 g5 o5 ⊢
  have l5 : h5.length = p + 4 := l5
  have f0_5 := (o5 (p) (by omega)).trans f0_4
  have f1_5 := (o5 (p + 1) (by omega)).trans f1_4
  have f2_5 := (o5 (p + 2) (by omega)).trans f2_4
  have fr5 : ∀ j, j < p → h5[j]? = h[j]? := fun j hj => (o5 j (by omega)).trans (fr4 j hj)
  have f3_5 : h5[p + 3]? = some (ia 12 (fun _ => 0)) := g5
  refine J_putF_2 dX9_init_25 p_X9_18 rfl (by repeat (first | assumption | exact jget_same2 (by (try simp only [List.length_set]); exact jlt (by assumption)) | refine jget_ne (by first | decide | assumption | omega) ?_)) ?_
  refine J_setx (i := p) (by omega) (fun h6 l6 g6 o6 => ?_)
  rw [l5] at l6
  have f1_6 := (o6 (p + 1) (by omega)).trans f1_5
  have f2_6 := (o6 (p + 2) (by omega)).trans f2_5
  have f3_6 := (o6 (p + 3) (by omega)).trans f3_5
  have fr6 : ∀ j, j < p → h6[j]? = h[j]? := fun j hj => (o6 j (by omega)).trans (fr5 j hj)
  have f0_6 : h6[p]? = some (.inr (9, [.ref (p + 1), .ref (p + 2), .ref (p + 3), .null, .int 0, .int 0])) := g6
  refine J_aload_n (by rfl) (by rfl) dX9_init_28 ?_
  refine J_sipush (nI 144) (by decide) dX9_init_29 ?_
  refine J_newI 144 dX9_init_32 aw_int (by decide) (by decide) (by decide) (by decide) ?_
  refine J_ext (fun h7 l7 g7 o7 => ?_)
  rw [l6] at l7 g7 o7 ⊢
  have l7 : h7.length = p + 5 := l7
  have f0_7 := (o7 (p) (by omega)).trans f0_6
  have f1_7 := (o7 (p + 1) (by omega)).trans f1_6
  have f2_7 := (o7 (p + 2) (by omega)).trans f2_6
  have f3_7 := (o7 (p + 3) (by omega)).trans f3_6
  have fr7 : ∀ j, j < p → h7[j]? = h[j]? := fun j hj => (o7 j (by omega)).trans (fr6 j hj)
  have f4_7 : h7[p + 4]? = some (ia 144 (fun _ => 0)) := g7
  refine J_putF_3 dX9_init_34 p_X9_21 rfl (by repeat (first | assumption | exact jget_same2 (by (try simp only [List.length_set]); exact jlt (by assumption)) | refine jget_ne (by first | decide | assumption | omega) ?_)) ?_
  refine J_setx (i := p) (by omega) (fun h8 l8 g8 o8 => ?_)
  rw [l7] at l8
  have f1_8 := (o8 (p + 1) (by omega)).trans f1_7
  have f2_8 := (o8 (p + 2) (by omega)).trans f2_7
  have f3_8 := (o8 (p + 3) (by omega)).trans f3_7
  have f4_8 := (o8 (p + 4) (by omega)).trans f4_7
  have fr8 : ∀ j, j < p → h8[j]? = h[j]? := fun j hj => (o8 j (by omega)).trans (fr7 j hj)
  have f0_8 : h8[p]? = some (.inr (9, [.ref (p + 1), .ref (p + 2), .ref (p + 3), .ref (p + 4), .int 0, .int 0])) := g8
  exact J_return dX9_init_37 rfl (hQ _ l8 fr8 f0_8 f1_8 f2_8 f3_8 f4_8) (by decide) (by decide) (fun _ => rfl)
theorem c_X8_init {p : Nat} (hl : h.length = p + 1) (f0_0 : h[p]? = some (.inr (8, [.null, .int 0, .int 0, .int 0, .int 0, .int 0])))
    (hQ : ∀ h', h'.length = p + 2 → (∀ j, j < p → h'[j]? = h[j]?) → h'[p]? = some (.inr (8, [.ref (p + 1), .int 0, .int 0, .int 0, .int 0, .int 0])) → h'[p + 1]? = some (ia 12 (fun _ => 0)) → Q (.inl none) h') : jCT G M_X8_init 1 1 12 true [.ref p] h Q := by
  refine jCT_of [some (.ref p)] 0 rfl (by decide +kernel) rfl rfl ?_
  have l0 := hl
  have fr0 : ∀ j, j < p → h[j]? = h[j]? := fun j hj => rfl
  refine J_aload_n (by rfl) (by rfl) dX8_init_0 ?_
  refine J_objInit dX8_init_1 o_X8_3 ow_1 ow_2 (by decide) (by exact Nat.le_of_ble_eq_true rfl) ?_
  refine J_aload_n (by rfl) (by rfl) dX8_init_4 ?_
  refine J_bipush (nI 12) (by decide) dX8_init_5 ?_
  refine J_newI 12 dX8_init_7 aw_int (by decide) (by decide) (by decide) (by decide) ?_
  refine J_ext (fun h1 l1 g1 o1 => ?_)
  rw [l0] at l1 g1 o1 ⊢
  have l1 : h1.length = p + 2 := l1
  have f0_1 := (o1 (p) (by omega)).trans f0_0
  have fr1 : ∀ j, j < p → h1[j]? = h[j]? := fun j hj => (o1 j (by omega)).trans (fr0 j hj)
  have f1_1 : h1[p + 1]? = some (ia 12 (fun _ => 0)) := g1
  refine J_putF_0 dX8_init_9 p_X8_9 rfl (by repeat (first | assumption | exact jget_same2 (by (try simp only [List.length_set]); exact jlt (by assumption)) | refine jget_ne (by first | decide | assumption | omega) ?_)) ?_
  refine J_setx (i := p) (by omega) (fun h2 l2 g2 o2 => ?_)
  rw [l1] at l2
  have f1_2 := (o2 (p + 1) (by omega)).trans f1_1
  have fr2 : ∀ j, j < p → h2[j]? = h[j]? := fun j hj => (o2 j (by omega)).trans (fr1 j hj)
  have f0_2 : h2[p]? = some (.inr (8, [.ref (p + 1), .int 0, .int 0, .int 0, .int 0, .int 0])) := g2
  exact J_return dX8_init_12 rfl (hQ _ l2 fr2 f0_2 f1_2) (by decide) (by decide) (fun _ => rfl)
theorem c_X4_init {p : Nat} (hl : h.length = p + 1) (f0_0 : h[p]? = some (.inr (4, [.int 0, .int 0, .int 0, .int 0, .int 0, .int 0])))
    (hQ : ∀ h', h'.length = p + 1 → (∀ j, j < p → h'[j]? = h[j]?) → h'[p]? = some (.inr (4, [.int 1000, .int 1, .int 5, .int 0, .int 0, .int 0])) → Q (.inl none) h') : jCT G M_X4_init 1 0 0 true [.ref p] h Q := by
  refine jCT_of [some (.ref p)] 0 rfl (by decide +kernel) rfl rfl ?_
  have l0 := hl
  have fr0 : ∀ j, j < p → h[j]? = h[j]? := fun j hj => rfl
  refine J_aload_n (by rfl) (by rfl) dX4_init_0 ?_
  refine J_objInit dX4_init_1 o_X4_3 ow_1 ow_2 (by decide) (by exact Nat.le_of_ble_eq_true rfl) ?_
  refine J_aload_n (by rfl) (by rfl) dX4_init_4 ?_
  refine J_sipush (nI 1000) (by decide) dX4_init_5 ?_
  refine J_put_0 dX4_init_8 p_X4_9 (by repeat (first | assumption | exact jget_same2 (by (try simp only [List.length_set]); exact jlt (by assumption)) | refine jget_ne (by first | decide | assumption | omega) ?_)) ?_
  refine J_setx (i := p) (by omega) (fun h1 l1 g1 o1 => ?_)
  rw [l0] at l1
  have fr1 : ∀ j, j < p → h1[j]? = h[j]? := fun j hj => (o1 j (by omega)).trans (fr0 j hj)
  have f0_1 : h1[p]? = some (.inr (4, [.int 1000, .int 0, .int 0, .int 0, .int 0, .int 0])) := g1
  refine J_aload_n (by rfl) (by rfl) dX4_init_11 ?_
  refine J_iconst (nI 1) (by decide) dX4_init_12 ?_
  refine J_put_1 dX4_init_13 p_X4_15 (by repeat (first | assumption | exact jget_same2 (by (try simp only [List.length_set]); exact jlt (by assumption)) | refine jget_ne (by first | decide | assumption | omega) ?_)) ?_
  refine J_setx (i := p) (by omega) (fun h2 l2 g2 o2 => ?_)
  rw [l1] at l2
  have fr2 : ∀ j, j < p → h2[j]? = h[j]? := fun j hj => (o2 j (by omega)).trans (fr1 j hj)
  have f0_2 : h2[p]? = some (.inr (4, [.int 1000, .int 1, .int 0, .int 0, .int 0, .int 0])) := g2
  refine J_aload_n (by rfl) (by rfl) dX4_init_16 ?_
  refine J_iconst (nI 5) (by decide) dX4_init_17 ?_
  refine J_put_2 dX4_init_18 p_X4_18 (by repeat (first | assumption | exact jget_same2 (by (try simp only [List.length_set]); exact jlt (by assumption)) | refine jget_ne (by first | decide | assumption | omega) ?_)) ?_
  refine J_setx (i := p) (by omega) (fun h3 l3 g3 o3 => ?_)
  rw [l2] at l3
  have fr3 : ∀ j, j < p → h3[j]? = h[j]? := fun j hj => (o3 j (by omega)).trans (fr2 j hj)
  have f0_3 : h3[p]? = some (.inr (4, [.int 1000, .int 1, .int 5, .int 0, .int 0, .int 0])) := g3
  exact J_return dX4_init_21 rfl (hQ _ l3 fr3 f0_3) (by decide) (by decide) (fun _ => rfl)
theorem c_X7_init {p : Nat} (hl : h.length = p + 1) (f0_0 : h[p]? = some (.inr (7, [.null, .null, .null])))
    (hQ : ∀ h', h'.length = p + 9 → (∀ j, j < p → h'[j]? = h[j]?) → h'[p]? = some (.inr (7, [.ref (p + 1), .ref (p + 6), .ref (p + 8)])) → h'[p + 1]? = some (.inr (9, [.ref (p + 2), .ref (p + 3), .ref (p + 4), .ref (p + 5), .int 0, .int 0])) → h'[p + 2]? = some (ia 12 (fun _ => 0)) → h'[p + 3]? = some (ia 12 (fun _ => 0)) → h'[p + 4]? = some (ia 12 (fun _ => 0)) → h'[p + 5]? = some (ia 144 (fun _ => 0)) → h'[p + 6]? = some (.inr (8, [.ref (p + 7), .int 0, .int 0, .int 0, .int 0, .int 0])) → h'[p + 7]? = some (ia 12 (fun _ => 0)) → h'[p + 8]? = some (.inr (4, [.int 1000, .int 1, .int 5, .int 0, .int 0, .int 0])) → Q (.inl none) h') : jCT G M_X7_init 2 8 210 true [.ref p] h Q := by
  refine jCT_of [some (.ref p)] 0 rfl (by decide +kernel) rfl rfl ?_
  have l0 := hl
  have fr0 : ∀ j, j < p → h[j]? = h[j]? := fun j hj => rfl
  refine J_aload_n (by rfl) (by rfl) dX7_init_0 ?_
  refine J_objInit dX7_init_1 o_X7_1 ow_1 ow_2 (by decide) (by exact Nat.le_of_ble_eq_true rfl) ?_
  refine J_aload_n (by rfl) (by rfl) dX7_init_4 ?_
  refine J_new dX7_init_5 n_X7_7 (by decide) (by decide) ?_
  refine J_ext (fun h1 l1 g1 o1 => ?_)
  rw [l0] at l1 g1 o1 ⊢
  have l1 : h1.length = p + 2 := l1
  have f0_1 := (o1 (p) (by omega)).trans f0_0
  have fr1 : ∀ j, j < p → h1[j]? = h[j]? := fun j hj => (o1 j (by omega)).trans (fr0 j hj)
  have f1_1 : h1[p + 1]? = some (.inr (9, [.null, .null, .null, .null, .int 0, .int 0])) := g1
  refine J_dup (by rfl) dX7_init_8 ?_
  refine J_IN00 dX7_init_9 s_X7_9 m_X9_init rfl (c_X9_init (p := p + 1) l1 f1_1 (fun h2 l2 o2 g2_0 g2_1 g2_2 g2_3 g2_4 => (jK0_i ?_)))
  have l2 : h2.length = p + 6 := l2
  have f0_2 := (o2 (p) (by omega)).trans f0_1
  have fr2 : ∀ j, j < p → h2[j]? = h[j]? := fun j hj => (o2 j (by omega)).trans (fr1 j hj)
  have f1_2 : h2[p + 1]? = some (.inr (9, [.ref (p + 2), .ref (p + 3), .ref (p + 4), .ref (p + 5), .int 0, .int 0])) := g2_0
  have f2_2 : h2[p + 2]? = some (ia 12 (fun _ => 0)) := g2_1
  have f3_2 : h2[p + 3]? = some (ia 12 (fun _ => 0)) := g2_2
  have f4_2 : h2[p + 4]? = some (ia 12 (fun _ => 0)) := g2_3
  have f5_2 : h2[p + 5]? = some (ia 144 (fun _ => 0)) := g2_4
  refine J_putF_0 dX7_init_12 p_X7_10 rfl (by repeat (first | assumption | exact jget_same2 (by (try simp only [List.length_set]); exact jlt (by assumption)) | refine jget_ne (by first | decide | assumption | omega) ?_)) ?_
  refine J_setx (i := p) (by omega) (fun h3 l3 g3 o3 => ?_)
  rw [l2] at l3
  have f1_3 := (o3 (p + 1) (by omega)).trans f1_2
  have f2_3 := (o3 (p + 2) (by omega)).trans f2_2
  have f3_3 := (o3 (p + 3) (by omega)).trans f3_2
  have f4_3 := (o3 (p + 4) (by omega)).trans f4_2
  have f5_3 := (o3 (p + 5) (by omega)).trans f5_2
  have fr3 : ∀ j, j < p → h3[j]? = h[j]? := fun j hj => (o3 j (by omega)).trans (fr2 j hj)
  have f0_3 : h3[p]? = some (.inr (7, [.ref (p + 1), .null, .null])) := g3
  refine J_aload_n (by rfl) (by rfl) dX7_init_15 ?_
  refine J_new dX7_init_16 n_X7_16 (by decide) (by decide) ?_
  refine J_ext (fun h4 l4 g4 o4 => ?_)
  rw [l3] at l4 g4 o4 ⊢
  have l4 : h4.length = p + 7 := l4
  have f0_4 := (o4 (p) (by omega)).trans f0_3
  have f1_4 := (o4 (p + 1) (by omega)).trans f1_3
  have f2_4 := (o4 (p + 2) (by omega)).trans f2_3
  have f3_4 := (o4 (p + 3) (by omega)).trans f3_3
  have f4_4 := (o4 (p + 4) (by omega)).trans f4_3
  have f5_4 := (o4 (p + 5) (by omega)).trans f5_3
  have fr4 : ∀ j, j < p → h4[j]? = h[j]? := fun j hj => (o4 j (by omega)).trans (fr3 j hj)
  have f6_4 : h4[p + 6]? = some (.inr (8, [.null, .int 0, .int 0, .int 0, .int 0, .int 0])) := g4
  refine J_dup (by rfl) dX7_init_19 ?_
  refine J_IN00 dX7_init_20 s_X7_18 m_X8_init rfl (c_X8_init (p := p + 6) l4 f6_4 (fun h5 l5 o5 g5_0 g5_1 => (jK0_i ?_)))
  have l5 : h5.length = p + 8 := l5
  have f0_5 := (o5 (p) (by omega)).trans f0_4
  have f1_5 := (o5 (p + 1) (by omega)).trans f1_4
  have f2_5 := (o5 (p + 2) (by omega)).trans f2_4
  have f3_5 := (o5 (p + 3) (by omega)).trans f3_4
  have f4_5 := (o5 (p + 4) (by omega)).trans f4_4
  have f5_5 := (o5 (p + 5) (by omega)).trans f5_4
  have fr5 : ∀ j, j < p → h5[j]? = h[j]? := fun j hj => (o5 j (by omega)).trans (fr4 j hj)
  have f6_5 : h5[p + 6]? = some (.inr (8, [.ref (p + 7), .int 0, .int 0, .int 0, .int 0, .int 0])) := g5_0
  have f7_5 : h5[p + 7]? = some (ia 12 (fun _ => 0)) := g5_1
  refine J_putF_1 dX7_init_23 p_X7_19 rfl (by repeat (first | assumption | exact jget_same2 (by (try simp only [List.length_set]); exact jlt (by assumption)) | refine jget_ne (by first | decide | assumption | omega) ?_)) ?_
  refine J_setx (i := p) (by omega) (fun h6 l6 g6 o6 => ?_)
  rw [l5] at l6
  have f1_6 := (o6 (p + 1) (by omega)).trans f1_5
  have f2_6 := (o6 (p + 2) (by omega)).trans f2_5
  have f3_6 := (o6 (p + 3) (by omega)).trans f3_5
  have f4_6 := (o6 (p + 4) (by omega)).trans f4_5
  have f5_6 := (o6 (p + 5) (by omega)).trans f5_5
  have f6_6 := (o6 (p + 6) (by omega)).trans f6_5
  have f7_6 := (o6 (p + 7) (by omega)).trans f7_5
  have fr6 : ∀ j, j < p → h6[j]? = h[j]? := fun j hj => (o6 j (by omega)).trans (fr5 j hj)
  have f0_6 : h6[p]? = some (.inr (7, [.ref (p + 1), .ref (p + 6), .null])) := g6
  refine J_aload_n (by rfl) (by rfl) dX7_init_26 ?_
  refine J_new dX7_init_27 n_X7_23 (by decide) (by decide) ?_
  refine J_ext (fun h7 l7 g7 o7 => ?_)
  rw [l6] at l7 g7 o7 ⊢
  have l7 : h7.length = p + 9 := l7
  have f0_7 := (o7 (p) (by omega)).trans f0_6
  have f1_7 := (o7 (p + 1) (by omega)).trans f1_6
  have f2_7 := (o7 (p + 2) (by omega)).trans f2_6
  have f3_7 := (o7 (p + 3) (by omega)).trans f3_6
  have f4_7 := (o7 (p + 4) (by omega)).trans f4_6
  have f5_7 := (o7 (p + 5) (by omega)).trans f5_6
  have f6_7 := (o7 (p + 6) (by omega)).trans f6_6
  have f7_7 := (o7 (p + 7) (by omega)).trans f7_6
  have fr7 : ∀ j, j < p → h7[j]? = h[j]? := fun j hj => (o7 j (by omega)).trans (fr6 j hj)
  have f8_7 : h7[p + 8]? = some (.inr (4, [.int 0, .int 0, .int 0, .int 0, .int 0, .int 0])) := g7
  refine J_dup (by rfl) dX7_init_30 ?_
  refine J_IN00 dX7_init_31 s_X7_25 m_X4_init rfl (c_X4_init (p := p + 8) l7 f8_7 (fun h8 l8 o8 g8_0 => (jK0_i ?_)))
  have l8 : h8.length = p + 9 := l8
  have f0_8 := (o8 (p) (by omega)).trans f0_7
  have f1_8 := (o8 (p + 1) (by omega)).trans f1_7
  have f2_8 := (o8 (p + 2) (by omega)).trans f2_7
  have f3_8 := (o8 (p + 3) (by omega)).trans f3_7
  have f4_8 := (o8 (p + 4) (by omega)).trans f4_7
  have f5_8 := (o8 (p + 5) (by omega)).trans f5_7
  have f6_8 := (o8 (p + 6) (by omega)).trans f6_7
  have f7_8 := (o8 (p + 7) (by omega)).trans f7_7
  have fr8 : ∀ j, j < p → h8[j]? = h[j]? := fun j hj => (o8 j (by omega)).trans (fr7 j hj)
  have f8_8 : h8[p + 8]? = some (.inr (4, [.int 1000, .int 1, .int 5, .int 0, .int 0, .int 0])) := g8_0
  refine J_putF_2 dX7_init_34 p_X7_26 rfl (by repeat (first | assumption | exact jget_same2 (by (try simp only [List.length_set]); exact jlt (by assumption)) | refine jget_ne (by first | decide | assumption | omega) ?_)) ?_
  refine J_setx (i := p) (by omega) (fun h9 l9 g9 o9 => ?_)
  rw [l8] at l9
  have f1_9 := (o9 (p + 1) (by omega)).trans f1_8
  have f2_9 := (o9 (p + 2) (by omega)).trans f2_8
  have f3_9 := (o9 (p + 3) (by omega)).trans f3_8
  have f4_9 := (o9 (p + 4) (by omega)).trans f4_8
  have f5_9 := (o9 (p + 5) (by omega)).trans f5_8
  have f6_9 := (o9 (p + 6) (by omega)).trans f6_8
  have f7_9 := (o9 (p + 7) (by omega)).trans f7_8
  have f8_9 := (o9 (p + 8) (by omega)).trans f8_8
  have fr9 : ∀ j, j < p → h9[j]? = h[j]? := fun j hj => (o9 j (by omega)).trans (fr8 j hj)
  have f0_9 : h9[p]? = some (.inr (7, [.ref (p + 1), .ref (p + 6), .ref (p + 8)])) := g9
  exact J_return dX7_init_37 rfl (hQ _ l9 fr9 f0_9 f1_9 f2_9 f3_9 f4_9 f5_9 f6_9 f7_9 f8_9) (by decide) (by decide) (fun _ => rfl)
theorem c_X5_init {p : Nat} (hl : h.length = p + 1) (f0_0 : h[p]? = some (.inr (5, [.null, .null, .null, .null])))
    (hQ : ∀ h', h'.length = p + 5 → (∀ j, j < p → h'[j]? = h[j]?) → h'[p]? = some (.inr (5, [.ref (p + 1), .ref (p + 2), .ref (p + 3), .ref (p + 4)])) → h'[p + 1]? = some (ia 12 (fun _ => 0)) → h'[p + 2]? = some (ia 12 (fun _ => 0)) → h'[p + 3]? = some (ia 12 (fun _ => 0)) → h'[p + 4]? = some (za 12 (fun _ => false)) → Q (.inl none) h') : jCT G M_X5_init 1 4 48 true [.ref p] h Q := by
  refine jCT_of [some (.ref p)] 0 rfl (by decide +kernel) rfl rfl ?_
  have l0 := hl
  have fr0 : ∀ j, j < p → h[j]? = h[j]? := fun j hj => rfl
  refine J_aload_n (by rfl) (by rfl) dX5_init_0 ?_
  refine J_objInit dX5_init_1 o_X5_3 ow_1 ow_2 (by decide) (by exact Nat.le_of_ble_eq_true rfl) ?_
  refine J_aload_n (by rfl) (by rfl) dX5_init_4 ?_
  refine J_bipush (nI 12) (by decide) dX5_init_5 ?_
  refine J_newI 12 dX5_init_7 aw_int (by decide) (by decide) (by decide) (by decide) ?_
  refine J_ext (fun h1 l1 g1 o1 => ?_)
  rw [l0] at l1 g1 o1 ⊢
  have l1 : h1.length = p + 2 := l1
  have f0_1 := (o1 (p) (by omega)).trans f0_0
  have fr1 : ∀ j, j < p → h1[j]? = h[j]? := fun j hj => (o1 j (by omega)).trans (fr0 j hj)
  have f1_1 : h1[p + 1]? = some (ia 12 (fun _ => 0)) := g1
  refine J_putF_0 dX5_init_9 p_X5_9 rfl (by repeat (first | assumption | exact jget_same2 (by (try simp only [List.length_set]); exact jlt (by assumption)) | refine jget_ne (by first | decide | assumption | omega) ?_)) ?_
  refine J_setx (i := p) (by omega) (fun h2 l2 g2 o2 => ?_)
  rw [l1] at l2
  have f1_2 := (o2 (p + 1) (by omega)).trans f1_1
  have fr2 : ∀ j, j < p → h2[j]? = h[j]? := fun j hj => (o2 j (by omega)).trans (fr1 j hj)
  have f0_2 : h2[p]? = some (.inr (5, [.ref (p + 1), .null, .null, .null])) := g2
  refine J_aload_n (by rfl) (by rfl) dX5_init_12 ?_
  refine J_bipush (nI 12) (by decide) dX5_init_13 ?_
  refine J_newI 12 dX5_init_15 aw_int (by decide) (by decide) (by decide) (by decide) ?_
  refine J_ext (fun h3 l3 g3 o3 => ?_)
  rw [l2] at l3 g3 o3 ⊢
  have l3 : h3.length = p + 3 := l3
  have f0_3 := (o3 (p) (by omega)).trans f0_2
  have f1_3 := (o3 (p + 1) (by omega)).trans f1_2
  have fr3 : ∀ j, j < p → h3[j]? = h[j]? := fun j hj => (o3 j (by omega)).trans (fr2 j hj)
  have f2_3 : h3[p + 2]? = some (ia 12 (fun _ => 0)) := g3
  refine J_putF_1 dX5_init_17 p_X5_15 rfl (by repeat (first | assumption | exact jget_same2 (by (try simp only [List.length_set]); exact jlt (by assumption)) | refine jget_ne (by first | decide | assumption | omega) ?_)) ?_
  refine J_setx (i := p) (by omega) (fun h4 l4 g4 o4 => ?_)
  rw [l3] at l4
  have f1_4 := (o4 (p + 1) (by omega)).trans f1_3
  have f2_4 := (o4 (p + 2) (by omega)).trans f2_3
  have fr4 : ∀ j, j < p → h4[j]? = h[j]? := fun j hj => (o4 j (by omega)).trans (fr3 j hj)
  have f0_4 : h4[p]? = some (.inr (5, [.ref (p + 1), .ref (p + 2), .null, .null])) := g4
  refine J_aload_n (by rfl) (by rfl) dX5_init_20 ?_
  refine J_bipush (nI 12) (by decide) dX5_init_21 ?_
  refine J_newI 12 dX5_init_23 aw_int (by decide) (by decide) (by decide) (by decide) ?_
  refine J_ext (fun h5 l5 g5 o5 => ?_)
  rw [l4] at l5 g5 o5 ⊢
  have l5 : h5.length = p + 4 := l5
  have f0_5 := (o5 (p) (by omega)).trans f0_4
  have f1_5 := (o5 (p + 1) (by omega)).trans f1_4
  have f2_5 := (o5 (p + 2) (by omega)).trans f2_4
  have fr5 : ∀ j, j < p → h5[j]? = h[j]? := fun j hj => (o5 j (by omega)).trans (fr4 j hj)
  have f3_5 : h5[p + 3]? = some (ia 12 (fun _ => 0)) := g5
  refine J_putF_2 dX5_init_25 p_X5_18 rfl (by repeat (first | assumption | exact jget_same2 (by (try simp only [List.length_set]); exact jlt (by assumption)) | refine jget_ne (by first | decide | assumption | omega) ?_)) ?_
  refine J_setx (i := p) (by omega) (fun h6 l6 g6 o6 => ?_)
  rw [l5] at l6
  have f1_6 := (o6 (p + 1) (by omega)).trans f1_5
  have f2_6 := (o6 (p + 2) (by omega)).trans f2_5
  have f3_6 := (o6 (p + 3) (by omega)).trans f3_5
  have fr6 : ∀ j, j < p → h6[j]? = h[j]? := fun j hj => (o6 j (by omega)).trans (fr5 j hj)
  have f0_6 : h6[p]? = some (.inr (5, [.ref (p + 1), .ref (p + 2), .ref (p + 3), .null])) := g6
  refine J_aload_n (by rfl) (by rfl) dX5_init_28 ?_
  refine J_bipush (nI 12) (by decide) dX5_init_29 ?_
  refine J_newZ 12 dX5_init_31 aw_boolean (by decide) (by decide) (by decide) (by decide) ?_
  refine J_ext (fun h7 l7 g7 o7 => ?_)
  rw [l6] at l7 g7 o7 ⊢
  have l7 : h7.length = p + 5 := l7
  have f0_7 := (o7 (p) (by omega)).trans f0_6
  have f1_7 := (o7 (p + 1) (by omega)).trans f1_6
  have f2_7 := (o7 (p + 2) (by omega)).trans f2_6
  have f3_7 := (o7 (p + 3) (by omega)).trans f3_6
  have fr7 : ∀ j, j < p → h7[j]? = h[j]? := fun j hj => (o7 j (by omega)).trans (fr6 j hj)
  have f4_7 : h7[p + 4]? = some (za 12 (fun _ => false)) := g7
  refine J_putF_3 dX5_init_33 p_X5_21 rfl (by repeat (first | assumption | exact jget_same2 (by (try simp only [List.length_set]); exact jlt (by assumption)) | refine jget_ne (by first | decide | assumption | omega) ?_)) ?_
  refine J_setx (i := p) (by omega) (fun h8 l8 g8 o8 => ?_)
  rw [l7] at l8
  have f1_8 := (o8 (p + 1) (by omega)).trans f1_7
  have f2_8 := (o8 (p + 2) (by omega)).trans f2_7
  have f3_8 := (o8 (p + 3) (by omega)).trans f3_7
  have f4_8 := (o8 (p + 4) (by omega)).trans f4_7
  have fr8 : ∀ j, j < p → h8[j]? = h[j]? := fun j hj => (o8 j (by omega)).trans (fr7 j hj)
  have f0_8 : h8[p]? = some (.inr (5, [.ref (p + 1), .ref (p + 2), .ref (p + 3), .ref (p + 4)])) := g8
  exact J_return dX5_init_36 rfl (hQ _ l8 fr8 f0_8 f1_8 f2_8 f3_8 f4_8) (by decide) (by decide) (fun _ => rfl)
theorem c_X0_init {p : Nat} (hl : h.length = p + 1) (f0_0 : h[p]? = some (.inr (0, [.long 0, .long 0])))
    (hQ : ∀ h', h'.length = p + 1 → (∀ j, j < p → h'[j]? = h[j]?) → h'[p]? = some (.inr (0, [.long 0, .long (lN 1)])) → Q (.inl none) h') : jCT G M_X0_init 1 0 0 true [.ref p] h Q := by
  refine jCT_of [some (.ref p)] 0 rfl (by decide +kernel) rfl rfl ?_
  have l0 := hl
  have fr0 : ∀ j, j < p → h[j]? = h[j]? := fun j hj => rfl
  refine J_aload_n (by rfl) (by rfl) dX0_init_0 ?_
  refine J_objInit dX0_init_1 o_X0_3 ow_1 ow_2 (by decide) (by exact Nat.le_of_ble_eq_true rfl) ?_
  refine J_aload_n (by rfl) (by rfl) dX0_init_4 ?_
  refine J_lconst (lN 1) (by decide) dX0_init_5 ?_
  refine J_put_1 dX0_init_6 p_X0_9 (by repeat (first | assumption | exact jget_same2 (by (try simp only [List.length_set]); exact jlt (by assumption)) | refine jget_ne (by first | decide | assumption | omega) ?_)) ?_
  refine J_setx (i := p) (by omega) (fun h1 l1 g1 o1 => ?_)
  rw [l0] at l1
  have fr1 : ∀ j, j < p → h1[j]? = h[j]? := fun j hj => (o1 j (by omega)).trans (fr0 j hj)
  have f0_1 : h1[p]? = some (.inr (0, [.long 0, .long (lN 1)])) := g1
  exact J_return dX0_init_9 rfl (hQ _ l1 fr1 f0_1) (by decide) (by decide) (fun _ => rfl)
theorem c_X1_init {p : Nat} (hl : h.length = p + 1) (f0_0 : h[p]? = some (.inr (1, [.null, .null, .null])))
    (hQ : ∀ h', h'.length = p + 16 → (∀ j, j < p → h'[j]? = h[j]?) → h'[p]? = some (.inr (1, [.ref (p + 1), .ref (p + 10), .ref (p + 15)])) → h'[p + 1]? = some (.inr (7, [.ref (p + 2), .ref (p + 7), .ref (p + 9)])) → h'[p + 2]? = some (.inr (9, [.ref (p + 3), .ref (p + 4), .ref (p + 5), .ref (p + 6), .int 0, .int 0])) → h'[p + 3]? = some (ia 12 (fun _ => 0)) → h'[p + 4]? = some (ia 12 (fun _ => 0)) → h'[p + 5]? = some (ia 12 (fun _ => 0)) → h'[p + 6]? = some (ia 144 (fun _ => 0)) → h'[p + 7]? = some (.inr (8, [.ref (p + 8), .int 0, .int 0, .int 0, .int 0, .int 0])) → h'[p + 8]? = some (ia 12 (fun _ => 0)) → h'[p + 9]? = some (.inr (4, [.int 1000, .int 1, .int 5, .int 0, .int 0, .int 0])) → h'[p + 10]? = some (.inr (5, [.ref (p + 11), .ref (p + 12), .ref (p + 13), .ref (p + 14)])) → h'[p + 11]? = some (ia 12 (fun _ => 0)) → h'[p + 12]? = some (ia 12 (fun _ => 0)) → h'[p + 13]? = some (ia 12 (fun _ => 0)) → h'[p + 14]? = some (za 12 (fun _ => false)) → h'[p + 15]? = some (.inr (0, [.long 0, .long (lN 1)])) → Q (.inl none) h') : jCT G M_X1_init 3 15 267 true [.ref p] h Q := by
  refine jCT_of [some (.ref p)] 0 rfl (by decide +kernel) rfl rfl ?_
  have l0 := hl
  have fr0 : ∀ j, j < p → h[j]? = h[j]? := fun j hj => rfl
  refine J_aload_n (by rfl) (by rfl) dX1_init_0 ?_
  refine J_objInit dX1_init_1 o_X1_3 ow_1 ow_2 (by decide) (by exact Nat.le_of_ble_eq_true rfl) ?_
  refine J_aload_n (by rfl) (by rfl) dX1_init_4 ?_
  refine J_new dX1_init_5 n_X1_9 (by decide) (by decide) ?_
  refine J_ext (fun h1 l1 g1 o1 => ?_)
  rw [l0] at l1 g1 o1 ⊢
  have l1 : h1.length = p + 2 := l1
  have f0_1 := (o1 (p) (by omega)).trans f0_0
  have fr1 : ∀ j, j < p → h1[j]? = h[j]? := fun j hj => (o1 j (by omega)).trans (fr0 j hj)
  have f1_1 : h1[p + 1]? = some (.inr (7, [.null, .null, .null])) := g1
  refine J_dup (by rfl) dX1_init_8 ?_
  refine J_IN00 dX1_init_9 s_X1_11 m_X7_init rfl (c_X7_init (p := p + 1) l1 f1_1 (fun h2 l2 o2 g2_0 g2_1 g2_2 g2_3 g2_4 g2_5 g2_6 g2_7 g2_8 => (jK0_i ?_)))
  have l2 : h2.length = p + 10 := l2
  have f0_2 := (o2 (p) (by omega)).trans f0_1
  have fr2 : ∀ j, j < p → h2[j]? = h[j]? := fun j hj => (o2 j (by omega)).trans (fr1 j hj)
  have f1_2 : h2[p + 1]? = some (.inr (7, [.ref (p + 2), .ref (p + 7), .ref (p + 9)])) := g2_0
  have f2_2 : h2[p + 2]? = some (.inr (9, [.ref (p + 3), .ref (p + 4), .ref (p + 5), .ref (p + 6), .int 0, .int 0])) := g2_1
  have f3_2 : h2[p + 3]? = some (ia 12 (fun _ => 0)) := g2_2
  have f4_2 : h2[p + 4]? = some (ia 12 (fun _ => 0)) := g2_3
  have f5_2 : h2[p + 5]? = some (ia 12 (fun _ => 0)) := g2_4
  have f6_2 : h2[p + 6]? = some (ia 144 (fun _ => 0)) := g2_5
  have f7_2 : h2[p + 7]? = some (.inr (8, [.ref (p + 8), .int 0, .int 0, .int 0, .int 0, .int 0])) := g2_6
  have f8_2 : h2[p + 8]? = some (ia 12 (fun _ => 0)) := g2_7
  have f9_2 : h2[p + 9]? = some (.inr (4, [.int 1000, .int 1, .int 5, .int 0, .int 0, .int 0])) := g2_8
  refine J_putF_0 dX1_init_12 p_X1_12 rfl (by repeat (first | assumption | exact jget_same2 (by (try simp only [List.length_set]); exact jlt (by assumption)) | refine jget_ne (by first | decide | assumption | omega) ?_)) ?_
  refine J_setx (i := p) (by omega) (fun h3 l3 g3 o3 => ?_)
  rw [l2] at l3
  have f1_3 := (o3 (p + 1) (by omega)).trans f1_2
  have f2_3 := (o3 (p + 2) (by omega)).trans f2_2
  have f3_3 := (o3 (p + 3) (by omega)).trans f3_2
  have f4_3 := (o3 (p + 4) (by omega)).trans f4_2
  have f5_3 := (o3 (p + 5) (by omega)).trans f5_2
  have f6_3 := (o3 (p + 6) (by omega)).trans f6_2
  have f7_3 := (o3 (p + 7) (by omega)).trans f7_2
  have f8_3 := (o3 (p + 8) (by omega)).trans f8_2
  have f9_3 := (o3 (p + 9) (by omega)).trans f9_2
  have fr3 : ∀ j, j < p → h3[j]? = h[j]? := fun j hj => (o3 j (by omega)).trans (fr2 j hj)
  have f0_3 : h3[p]? = some (.inr (1, [.ref (p + 1), .null, .null])) := g3
  refine J_aload_n (by rfl) (by rfl) dX1_init_15 ?_
  refine J_new dX1_init_16 n_X1_18 (by decide) (by decide) ?_
  refine J_ext (fun h4 l4 g4 o4 => ?_)
  rw [l3] at l4 g4 o4 ⊢
  have l4 : h4.length = p + 11 := l4
  have f0_4 := (o4 (p) (by omega)).trans f0_3
  have f1_4 := (o4 (p + 1) (by omega)).trans f1_3
  have f2_4 := (o4 (p + 2) (by omega)).trans f2_3
  have f3_4 := (o4 (p + 3) (by omega)).trans f3_3
  have f4_4 := (o4 (p + 4) (by omega)).trans f4_3
  have f5_4 := (o4 (p + 5) (by omega)).trans f5_3
  have f6_4 := (o4 (p + 6) (by omega)).trans f6_3
  have f7_4 := (o4 (p + 7) (by omega)).trans f7_3
  have f8_4 := (o4 (p + 8) (by omega)).trans f8_3
  have f9_4 := (o4 (p + 9) (by omega)).trans f9_3
  have fr4 : ∀ j, j < p → h4[j]? = h[j]? := fun j hj => (o4 j (by omega)).trans (fr3 j hj)
  have f10_4 : h4[p + 10]? = some (.inr (5, [.null, .null, .null, .null])) := g4
  refine J_dup (by rfl) dX1_init_19 ?_
  refine J_IN00 dX1_init_20 s_X1_20 m_X5_init rfl (c_X5_init (p := p + 10) l4 f10_4 (fun h5 l5 o5 g5_0 g5_1 g5_2 g5_3 g5_4 => (jK0_i ?_)))
  have l5 : h5.length = p + 15 := l5
  have f0_5 := (o5 (p) (by omega)).trans f0_4
  have f1_5 := (o5 (p + 1) (by omega)).trans f1_4
  have f2_5 := (o5 (p + 2) (by omega)).trans f2_4
  have f3_5 := (o5 (p + 3) (by omega)).trans f3_4
  have f4_5 := (o5 (p + 4) (by omega)).trans f4_4
  have f5_5 := (o5 (p + 5) (by omega)).trans f5_4
  have f6_5 := (o5 (p + 6) (by omega)).trans f6_4
  have f7_5 := (o5 (p + 7) (by omega)).trans f7_4
  have f8_5 := (o5 (p + 8) (by omega)).trans f8_4
  have f9_5 := (o5 (p + 9) (by omega)).trans f9_4
  have fr5 : ∀ j, j < p → h5[j]? = h[j]? := fun j hj => (o5 j (by omega)).trans (fr4 j hj)
  have f10_5 : h5[p + 10]? = some (.inr (5, [.ref (p + 11), .ref (p + 12), .ref (p + 13), .ref (p + 14)])) := g5_0
  have f11_5 : h5[p + 11]? = some (ia 12 (fun _ => 0)) := g5_1
  have f12_5 : h5[p + 12]? = some (ia 12 (fun _ => 0)) := g5_2
  have f13_5 : h5[p + 13]? = some (ia 12 (fun _ => 0)) := g5_3
  have f14_5 : h5[p + 14]? = some (za 12 (fun _ => false)) := g5_4
  refine J_putF_1 dX1_init_23 p_X1_21 rfl (by repeat (first | assumption | exact jget_same2 (by (try simp only [List.length_set]); exact jlt (by assumption)) | refine jget_ne (by first | decide | assumption | omega) ?_)) ?_
  refine J_setx (i := p) (by omega) (fun h6 l6 g6 o6 => ?_)
  rw [l5] at l6
  have f1_6 := (o6 (p + 1) (by omega)).trans f1_5
  have f2_6 := (o6 (p + 2) (by omega)).trans f2_5
  have f3_6 := (o6 (p + 3) (by omega)).trans f3_5
  have f4_6 := (o6 (p + 4) (by omega)).trans f4_5
  have f5_6 := (o6 (p + 5) (by omega)).trans f5_5
  have f6_6 := (o6 (p + 6) (by omega)).trans f6_5
  have f7_6 := (o6 (p + 7) (by omega)).trans f7_5
  have f8_6 := (o6 (p + 8) (by omega)).trans f8_5
  have f9_6 := (o6 (p + 9) (by omega)).trans f9_5
  have f10_6 := (o6 (p + 10) (by omega)).trans f10_5
  have f11_6 := (o6 (p + 11) (by omega)).trans f11_5
  have f12_6 := (o6 (p + 12) (by omega)).trans f12_5
  have f13_6 := (o6 (p + 13) (by omega)).trans f13_5
  have f14_6 := (o6 (p + 14) (by omega)).trans f14_5
  have fr6 : ∀ j, j < p → h6[j]? = h[j]? := fun j hj => (o6 j (by omega)).trans (fr5 j hj)
  have f0_6 : h6[p]? = some (.inr (1, [.ref (p + 1), .ref (p + 10), .null])) := g6
  refine J_aload_n (by rfl) (by rfl) dX1_init_26 ?_
  refine J_new dX1_init_27 n_X1_25 (by decide) (by decide) ?_
  refine J_ext (fun h7 l7 g7 o7 => ?_)
  rw [l6] at l7 g7 o7 ⊢
  have l7 : h7.length = p + 16 := l7
  have f0_7 := (o7 (p) (by omega)).trans f0_6
  have f1_7 := (o7 (p + 1) (by omega)).trans f1_6
  have f2_7 := (o7 (p + 2) (by omega)).trans f2_6
  have f3_7 := (o7 (p + 3) (by omega)).trans f3_6
  have f4_7 := (o7 (p + 4) (by omega)).trans f4_6
  have f5_7 := (o7 (p + 5) (by omega)).trans f5_6
  have f6_7 := (o7 (p + 6) (by omega)).trans f6_6
  have f7_7 := (o7 (p + 7) (by omega)).trans f7_6
  have f8_7 := (o7 (p + 8) (by omega)).trans f8_6
  have f9_7 := (o7 (p + 9) (by omega)).trans f9_6
  have f10_7 := (o7 (p + 10) (by omega)).trans f10_6
  have f11_7 := (o7 (p + 11) (by omega)).trans f11_6
  have f12_7 := (o7 (p + 12) (by omega)).trans f12_6
  have f13_7 := (o7 (p + 13) (by omega)).trans f13_6
  have f14_7 := (o7 (p + 14) (by omega)).trans f14_6
  have fr7 : ∀ j, j < p → h7[j]? = h[j]? := fun j hj => (o7 j (by omega)).trans (fr6 j hj)
  have f15_7 : h7[p + 15]? = some (.inr (0, [.long 0, .long 0])) := g7
  refine J_dup (by rfl) dX1_init_30 ?_
  refine J_IN00 dX1_init_31 s_X1_27 m_X0_init rfl (c_X0_init (p := p + 15) l7 f15_7 (fun h8 l8 o8 g8_0 => (jK0_i ?_)))
  have l8 : h8.length = p + 16 := l8
  have f0_8 := (o8 (p) (by omega)).trans f0_7
  have f1_8 := (o8 (p + 1) (by omega)).trans f1_7
  have f2_8 := (o8 (p + 2) (by omega)).trans f2_7
  have f3_8 := (o8 (p + 3) (by omega)).trans f3_7
  have f4_8 := (o8 (p + 4) (by omega)).trans f4_7
  have f5_8 := (o8 (p + 5) (by omega)).trans f5_7
  have f6_8 := (o8 (p + 6) (by omega)).trans f6_7
  have f7_8 := (o8 (p + 7) (by omega)).trans f7_7
  have f8_8 := (o8 (p + 8) (by omega)).trans f8_7
  have f9_8 := (o8 (p + 9) (by omega)).trans f9_7
  have f10_8 := (o8 (p + 10) (by omega)).trans f10_7
  have f11_8 := (o8 (p + 11) (by omega)).trans f11_7
  have f12_8 := (o8 (p + 12) (by omega)).trans f12_7
  have f13_8 := (o8 (p + 13) (by omega)).trans f13_7
  have f14_8 := (o8 (p + 14) (by omega)).trans f14_7
  have fr8 : ∀ j, j < p → h8[j]? = h[j]? := fun j hj => (o8 j (by omega)).trans (fr7 j hj)
  have f15_8 : h8[p + 15]? = some (.inr (0, [.long 0, .long (lN 1)])) := g8_0
  refine J_putF_2 dX1_init_34 p_X1_28 rfl (by repeat (first | assumption | exact jget_same2 (by (try simp only [List.length_set]); exact jlt (by assumption)) | refine jget_ne (by first | decide | assumption | omega) ?_)) ?_
  refine J_setx (i := p) (by omega) (fun h9 l9 g9 o9 => ?_)
  rw [l8] at l9
  have f1_9 := (o9 (p + 1) (by omega)).trans f1_8
  have f2_9 := (o9 (p + 2) (by omega)).trans f2_8
  have f3_9 := (o9 (p + 3) (by omega)).trans f3_8
  have f4_9 := (o9 (p + 4) (by omega)).trans f4_8
  have f5_9 := (o9 (p + 5) (by omega)).trans f5_8
  have f6_9 := (o9 (p + 6) (by omega)).trans f6_8
  have f7_9 := (o9 (p + 7) (by omega)).trans f7_8
  have f8_9 := (o9 (p + 8) (by omega)).trans f8_8
  have f9_9 := (o9 (p + 9) (by omega)).trans f9_8
  have f10_9 := (o9 (p + 10) (by omega)).trans f10_8
  have f11_9 := (o9 (p + 11) (by omega)).trans f11_8
  have f12_9 := (o9 (p + 12) (by omega)).trans f12_8
  have f13_9 := (o9 (p + 13) (by omega)).trans f13_8
  have f14_9 := (o9 (p + 14) (by omega)).trans f14_8
  have f15_9 := (o9 (p + 15) (by omega)).trans f15_8
  have fr9 : ∀ j, j < p → h9[j]? = h[j]? := fun j hj => (o9 j (by omega)).trans (fr8 j hj)
  have f0_9 : h9[p]? = some (.inr (1, [.ref (p + 1), .ref (p + 10), .ref (p + 15)])) := g9
  exact J_return dX1_init_37 rfl (hQ _ l9 fr9 f0_9 f1_9 f2_9 f3_9 f4_9 f5_9 f6_9 f7_9 f8_9 f9_9 f10_9 f11_9 f12_9 f13_9 f14_9 f15_9) (by decide) (by decide) (fun _ => rfl)
theorem c_X6_init {p : Nat} (hl : h.length = p + 1) (f0_0 : h[p]? = some (.inr (6, [.null, .null, .null, .null, .int 0, .int 0, .int 0, .int 0])))
    (hQ : ∀ h', h'.length = p + 5 → (∀ j, j < p → h'[j]? = h[j]?) → h'[p]? = some (.inr (6, [.ref (p + 1), .ref (p + 2), .ref (p + 3), .ref (p + 4), .int 0, .int 0, .int 0, .int 0])) → h'[p + 1]? = some (ca 60 (fun _ => 0)) → h'[p + 2]? = some (ia 13 (fun _ => 0)) → h'[p + 3]? = some (ia 39 (fun _ => 0)) → h'[p + 4]? = some (ia 3 (fun _ => 0)) → Q (.inl none) h') : jCT G M_X6_init 1 4 115 true [.ref p] h Q := by
  refine jCT_of [some (.ref p)] 0 rfl (by decide +kernel) rfl rfl ?_
  have l0 := hl
  have fr0 : ∀ j, j < p → h[j]? = h[j]? := fun j hj => rfl
  refine J_aload_n (by rfl) (by rfl) dX6_init_0 ?_
  refine J_objInit dX6_init_1 o_X6_3 ow_1 ow_2 (by decide) (by exact Nat.le_of_ble_eq_true rfl) ?_
  refine J_aload_n (by rfl) (by rfl) dX6_init_4 ?_
  refine J_bipush (nI 60) (by decide) dX6_init_5 ?_
  refine J_newC 60 dX6_init_7 aw_char (by decide) (by decide) (by decide) (by decide) ?_
  refine J_ext (fun h1 l1 g1 o1 => ?_)
  rw [l0] at l1 g1 o1 ⊢
  have l1 : h1.length = p + 2 := l1
  have f0_1 := (o1 (p) (by omega)).trans f0_0
  have fr1 : ∀ j, j < p → h1[j]? = h[j]? := fun j hj => (o1 j (by omega)).trans (fr0 j hj)
  have f1_1 : h1[p + 1]? = some (ca 60 (fun _ => 0)) := g1
  refine J_putF_0 dX6_init_9 p_X6_9 rfl (by repeat (first | assumption | exact jget_same2 (by (try simp only [List.length_set]); exact jlt (by assumption)) | refine jget_ne (by first | decide | assumption | omega) ?_)) ?_
  refine J_setx (i := p) (by omega) (fun h2 l2 g2 o2 => ?_)
  rw [l1] at l2
  have f1_2 := (o2 (p + 1) (by omega)).trans f1_1
  have fr2 : ∀ j, j < p → h2[j]? = h[j]? := fun j hj => (o2 j (by omega)).trans (fr1 j hj)
  have f0_2 : h2[p]? = some (.inr (6, [.ref (p + 1), .null, .null, .null, .int 0, .int 0, .int 0, .int 0])) := g2
  refine J_aload_n (by rfl) (by rfl) dX6_init_12 ?_
  refine J_bipush (nI 13) (by decide) dX6_init_13 ?_
  refine J_newI 13 dX6_init_15 aw_int (by decide) (by decide) (by decide) (by decide) ?_
  refine J_ext (fun h3 l3 g3 o3 => ?_)
  rw [l2] at l3 g3 o3 ⊢
  have l3 : h3.length = p + 3 := l3
  have f0_3 := (o3 (p) (by omega)).trans f0_2
  have f1_3 := (o3 (p + 1) (by omega)).trans f1_2
  have fr3 : ∀ j, j < p → h3[j]? = h[j]? := fun j hj => (o3 j (by omega)).trans (fr2 j hj)
  have f2_3 : h3[p + 2]? = some (ia 13 (fun _ => 0)) := g3
  refine J_putF_1 dX6_init_17 p_X6_15 rfl (by repeat (first | assumption | exact jget_same2 (by (try simp only [List.length_set]); exact jlt (by assumption)) | refine jget_ne (by first | decide | assumption | omega) ?_)) ?_
  refine J_setx (i := p) (by omega) (fun h4 l4 g4 o4 => ?_)
  rw [l3] at l4
  have f1_4 := (o4 (p + 1) (by omega)).trans f1_3
  have f2_4 := (o4 (p + 2) (by omega)).trans f2_3
  have fr4 : ∀ j, j < p → h4[j]? = h[j]? := fun j hj => (o4 j (by omega)).trans (fr3 j hj)
  have f0_4 : h4[p]? = some (.inr (6, [.ref (p + 1), .ref (p + 2), .null, .null, .int 0, .int 0, .int 0, .int 0])) := g4
  refine J_aload_n (by rfl) (by rfl) dX6_init_20 ?_
  refine J_bipush (nI 39) (by decide) dX6_init_21 ?_
  refine J_newI 39 dX6_init_23 aw_int (by decide) (by decide) (by decide) (by decide) ?_
  refine J_ext (fun h5 l5 g5 o5 => ?_)
  rw [l4] at l5 g5 o5 ⊢
  have l5 : h5.length = p + 4 := l5
  have f0_5 := (o5 (p) (by omega)).trans f0_4
  have f1_5 := (o5 (p + 1) (by omega)).trans f1_4
  have f2_5 := (o5 (p + 2) (by omega)).trans f2_4
  have fr5 : ∀ j, j < p → h5[j]? = h[j]? := fun j hj => (o5 j (by omega)).trans (fr4 j hj)
  have f3_5 : h5[p + 3]? = some (ia 39 (fun _ => 0)) := g5
  refine J_putF_2 dX6_init_25 p_X6_19 rfl (by repeat (first | assumption | exact jget_same2 (by (try simp only [List.length_set]); exact jlt (by assumption)) | refine jget_ne (by first | decide | assumption | omega) ?_)) ?_
  refine J_setx (i := p) (by omega) (fun h6 l6 g6 o6 => ?_)
  rw [l5] at l6
  have f1_6 := (o6 (p + 1) (by omega)).trans f1_5
  have f2_6 := (o6 (p + 2) (by omega)).trans f2_5
  have f3_6 := (o6 (p + 3) (by omega)).trans f3_5
  have fr6 : ∀ j, j < p → h6[j]? = h[j]? := fun j hj => (o6 j (by omega)).trans (fr5 j hj)
  have f0_6 : h6[p]? = some (.inr (6, [.ref (p + 1), .ref (p + 2), .ref (p + 3), .null, .int 0, .int 0, .int 0, .int 0])) := g6
  refine J_aload_n (by rfl) (by rfl) dX6_init_28 ?_
  refine J_iconst (nI 3) (by decide) dX6_init_29 ?_
  refine J_newI 3 dX6_init_30 aw_int (by decide) (by decide) (by decide) (by decide) ?_
  refine J_ext (fun h7 l7 g7 o7 => ?_)
  rw [l6] at l7 g7 o7 ⊢
  have l7 : h7.length = p + 5 := l7
  have f0_7 := (o7 (p) (by omega)).trans f0_6
  have f1_7 := (o7 (p + 1) (by omega)).trans f1_6
  have f2_7 := (o7 (p + 2) (by omega)).trans f2_6
  have f3_7 := (o7 (p + 3) (by omega)).trans f3_6
  have fr7 : ∀ j, j < p → h7[j]? = h[j]? := fun j hj => (o7 j (by omega)).trans (fr6 j hj)
  have f4_7 : h7[p + 4]? = some (ia 3 (fun _ => 0)) := g7
  refine J_putF_3 dX6_init_32 p_X6_22 rfl (by repeat (first | assumption | exact jget_same2 (by (try simp only [List.length_set]); exact jlt (by assumption)) | refine jget_ne (by first | decide | assumption | omega) ?_)) ?_
  refine J_setx (i := p) (by omega) (fun h8 l8 g8 o8 => ?_)
  rw [l7] at l8
  have f1_8 := (o8 (p + 1) (by omega)).trans f1_7
  have f2_8 := (o8 (p + 2) (by omega)).trans f2_7
  have f3_8 := (o8 (p + 3) (by omega)).trans f3_7
  have f4_8 := (o8 (p + 4) (by omega)).trans f4_7
  have fr8 : ∀ j, j < p → h8[j]? = h[j]? := fun j hj => (o8 j (by omega)).trans (fr7 j hj)
  have f0_8 : h8[p]? = some (.inr (6, [.ref (p + 1), .ref (p + 2), .ref (p + 3), .ref (p + 4), .int 0, .int 0, .int 0, .int 0])) := g8
  exact J_return dX6_init_35 rfl (hQ _ l8 fr8 f0_8 f1_8 f2_8 f3_8 f4_8) (by decide) (by decide) (fun _ => rfl)
theorem c_X3_init {p : Nat} (hl : h.length = p + 1) (f0_0 : h[p]? = some (.inr (3, [.null, .int 0])))
    (hQ : ∀ h', h'.length = p + 2 → (∀ j, j < p → h'[j]? = h[j]?) → h'[p]? = some (.inr (3, [.ref (p + 1), .int 0])) → h'[p + 1]? = some (ca 80 (fun _ => 0)) → Q (.inl none) h') : jCT G M_X3_init 1 1 80 true [.ref p] h Q := by
  refine jCT_of [some (.ref p)] 0 rfl (by decide +kernel) rfl rfl ?_
  have l0 := hl
  have fr0 : ∀ j, j < p → h[j]? = h[j]? := fun j hj => rfl
  refine J_aload_n (by rfl) (by rfl) dX3_init_0 ?_
  refine J_objInit dX3_init_1 o_X3_3 ow_1 ow_2 (by decide) (by exact Nat.le_of_ble_eq_true rfl) ?_
  refine J_aload_n (by rfl) (by rfl) dX3_init_4 ?_
  refine J_bipush (nI 80) (by decide) dX3_init_5 ?_
  refine J_newC 80 dX3_init_7 aw_char (by decide) (by decide) (by decide) (by decide) ?_
  refine J_ext (fun h1 l1 g1 o1 => ?_)
  rw [l0] at l1 g1 o1 ⊢
  have l1 : h1.length = p + 2 := l1
  have f0_1 := (o1 (p) (by omega)).trans f0_0
  have fr1 : ∀ j, j < p → h1[j]? = h[j]? := fun j hj => (o1 j (by omega)).trans (fr0 j hj)
  have f1_1 : h1[p + 1]? = some (ca 80 (fun _ => 0)) := g1
  refine J_putF_0 dX3_init_9 p_X3_9 rfl (by repeat (first | assumption | exact jget_same2 (by (try simp only [List.length_set]); exact jlt (by assumption)) | refine jget_ne (by first | decide | assumption | omega) ?_)) ?_
  refine J_setx (i := p) (by omega) (fun h2 l2 g2 o2 => ?_)
  rw [l1] at l2
  have f1_2 := (o2 (p + 1) (by omega)).trans f1_1
  have fr2 : ∀ j, j < p → h2[j]? = h[j]? := fun j hj => (o2 j (by omega)).trans (fr1 j hj)
  have f0_2 : h2[p]? = some (.inr (3, [.ref (p + 1), .int 0])) := g2
  exact J_return dX3_init_12 rfl (hQ _ l2 fr2 f0_2 f1_2) (by decide) (by decide) (fun _ => rfl)
end INIT
