/-! States in the heap: taken over, kept, taken back -/
theorem cpy_n {f g : Nat → Nat} {n : Nat} : va_cpy (fun k => nI (f k)) (fun k => nI (g k)) 0 0 n = fun k => nI (cpN g 0 f 0 n k) := by
  funext k
  unfold va_cpy cpN
  by_cases h : k < n
  · simp [h]
  · simp [h]
abbrev hRing (f : Nat → Option Nat) : jC := .inl (5, 8, .inr (.inr (.inr (.inr f))))
abbrev PQ (p : Nat) (h : jH) (s fx fy fr w rt : Nat → Nat) (ti x y : Nat) : Prop :=
  (h[p]? = some (.inr (7, [.ref (p + 1), .ref (p + 6), .ref (p + 8)]))) ∧
  (h[p + 1]? = some (.inr (9, [.ref (p + 2), .ref (p + 3), .ref (p + 4), .ref (p + 5), .int (nI (s 0)), .int (nI (mT (wS s)))]))) ∧
  (h[p + 2]? = some (ia 12 fx)) ∧
  (h[p + 3]? = some (ia 12 fy)) ∧
  (h[p + 4]? = some (ia 12 fr)) ∧
  (h[p + 5]? = some (ia 144 w)) ∧
  (h[p + 6]? = some (.inr (8, [.ref (p + 7), .int (nI (s 1)), .int (nI ti), .int (nI x), .int (nI y), .int (jb (decide (s 5 = 1)))]))) ∧
  (h[p + 7]? = some (ia 12 rt)) ∧
  (h[p + 8]? = some (hMeter (s 6) (s 7) (s 8) (s 9) (s 10) (s 11))) ∧
  (∀ i, i < 12 → fx i = pX s i ∧ fy i = pY s i ∧ fr i = pR s i) ∧
  (∀ k, k < 144 → w k = wS s k) ∧
  (0 < s 1 → ti = s 2 ∧ x = s 3 ∧ y = s 4 ∧ ∀ i, i < s 1 → rt i = s (192 + i))
theorem PQ.q0 {p : Nat} {h : jH} {s fx fy fr w rt : Nat → Nat} {ti x y : Nat} (I : PQ p h s fx fy fr w rt ti x y) : h[p]? = some (.inr (7, [.ref (p + 1), .ref (p + 6), .ref (p + 8)])) := I.1
theorem PQ.q1 {p : Nat} {h : jH} {s fx fy fr w rt : Nat → Nat} {ti x y : Nat} (I : PQ p h s fx fy fr w rt ti x y) : h[p + 1]? = some (.inr (9, [.ref (p + 2), .ref (p + 3), .ref (p + 4), .ref (p + 5), .int (nI (s 0)), .int (nI (mT (wS s)))])) := I.2.1
theorem PQ.q2 {p : Nat} {h : jH} {s fx fy fr w rt : Nat → Nat} {ti x y : Nat} (I : PQ p h s fx fy fr w rt ti x y) : h[p + 2]? = some (ia 12 fx) := I.2.2.1
theorem PQ.q3 {p : Nat} {h : jH} {s fx fy fr w rt : Nat → Nat} {ti x y : Nat} (I : PQ p h s fx fy fr w rt ti x y) : h[p + 3]? = some (ia 12 fy) := I.2.2.2.1
theorem PQ.q4 {p : Nat} {h : jH} {s fx fy fr w rt : Nat → Nat} {ti x y : Nat} (I : PQ p h s fx fy fr w rt ti x y) : h[p + 4]? = some (ia 12 fr) := I.2.2.2.2.1
theorem PQ.q5 {p : Nat} {h : jH} {s fx fy fr w rt : Nat → Nat} {ti x y : Nat} (I : PQ p h s fx fy fr w rt ti x y) : h[p + 5]? = some (ia 144 w) := I.2.2.2.2.2.1
theorem PQ.q6 {p : Nat} {h : jH} {s fx fy fr w rt : Nat → Nat} {ti x y : Nat} (I : PQ p h s fx fy fr w rt ti x y) : h[p + 6]? = some (.inr (8, [.ref (p + 7), .int (nI (s 1)), .int (nI ti), .int (nI x), .int (nI y), .int (jb (decide (s 5 = 1)))])) := I.2.2.2.2.2.2.1
theorem PQ.q7 {p : Nat} {h : jH} {s fx fy fr w rt : Nat → Nat} {ti x y : Nat} (I : PQ p h s fx fy fr w rt ti x y) : h[p + 7]? = some (ia 12 rt) := I.2.2.2.2.2.2.2.1
theorem PQ.q8 {p : Nat} {h : jH} {s fx fy fr w rt : Nat → Nat} {ti x y : Nat} (I : PQ p h s fx fy fr w rt ti x y) : h[p + 8]? = some (hMeter (s 6) (s 7) (s 8) (s 9) (s 10) (s 11)) := I.2.2.2.2.2.2.2.2.1
theorem PQ.e1 {p : Nat} {h : jH} {s fx fy fr w rt : Nat → Nat} {ti x y : Nat} (I : PQ p h s fx fy fr w rt ti x y) : ∀ i, i < 12 → fx i = pX s i ∧ fy i = pY s i ∧ fr i = pR s i := I.2.2.2.2.2.2.2.2.2.1
theorem PQ.e2 {p : Nat} {h : jH} {s fx fy fr w rt : Nat → Nat} {ti x y : Nat} (I : PQ p h s fx fy fr w rt ti x y) : ∀ k, k < 144 → w k = wS s k := I.2.2.2.2.2.2.2.2.2.2.1
theorem PQ.e3 {p : Nat} {h : jH} {s fx fy fr w rt : Nat → Nat} {ti x y : Nat} (I : PQ p h s fx fy fr w rt ti x y) : 0 < s 1 → ti = s 2 ∧ x = s 3 ∧ y = s 4 ∧ ∀ i, i < s 1 → rt i = s (192 + i) := I.2.2.2.2.2.2.2.2.2.2.2
/-- a state stands at p .. p + 8 -/
def PS (p : Nat) (h : jH) (s : Nat → Nat) : Prop := ∃ (fx fy fr w rt : Nat → Nat) (ti x y : Nat), PQ p h s fx fy fr w rt ti x y
abbrev sC (p j : Nat) : Prop := p ≤ j ∧ j ≤ p + 8
theorem PS.frm {p : Nat} {C : Nat → Prop} {h h' : jH} {s : Nat → Nat} (g : PS p h s) (hf : jFr C h h') (hc : ∀ j, p ≤ j → j ≤ p + 8 → ¬ C j) : PS p h' s := by
  obtain ⟨fx, fy, fr, w, rt, ti, x, y, q0, q1, q2, q3, q4, q5, q6, q7, q8, e1, e2, e3⟩ := g
  refine ⟨fx, fy, fr, w, rt, ti, x, y, ?_, ?_, ?_, ?_, ?_, ?_, ?_, ?_, ?_, e1, e2, e3⟩
  all_goals (rw [hf.2 _ (hc _ (by omega) (by omega))]; assumption)
theorem PS.ext {p : Nat} {h : jH} {s s' : Nat → Nat} (g : PS p h s) (h1 : s 1 ≤ 12) (he : ∀ k, k < 204 → s' k = s k) : PS p h s' := by
  obtain ⟨fx, fy, fr, w, rt, ti, x, y, q0, q1, q2, q3, q4, q5, q6, q7, q8, e1, e2, e3⟩ := g
  have hw : ∀ k, k < 144 → wS s' k = wS s k := fun k hk => he _ (by omega)
  refine ⟨fx, fy, fr, w, rt, ti, x, y, q0, ?_, q2, q3, q4, q5, ?_, q7, ?_, ?_, ?_, ?_⟩
  · rw [he 0 (by omega), mT_congr hw]; exact q1
  · rw [he 1 (by omega), he 5 (by omega)]; exact q6
  · rw [he 6 (by omega), he 7 (by omega), he 8 (by omega), he 9 (by omega), he 10 (by omega), he 11 (by omega)]; exact q8
  · intro i hi
    unfold pX pY pR
    rw [he _ (by omega), he _ (by omega), he _ (by omega)]
    exact e1 i hi
  · intro k hk; rw [hw k hk]; exact e2 k hk
  · rw [he 1 (by omega), he 2 (by omega), he 3 (by omega), he 4 (by omega)]
    intro h0
    obtain ⟨a, b, c, d⟩ := e3 h0
    exact ⟨a, b, c, fun i hi => by rw [he _ (by omega)]; exact d i hi⟩
theorem GS.ps {h : jH} {s : Nat → Nat} (g : GS h s) : PS 2 h s := by
  obtain ⟨fx, fy, fr, w, rt, ti, x, y, D, E, L, m, num, den, g1, g2, g3, g4, g5, g6, g7, g8, g9, g10, g11, g12, g13, g14, g15, g16, e1, e2, e3⟩ := g
  exact ⟨fx, fy, fr, w, rt, ti, x, y, g2, g3, g4, g5, g6, g7, g8, g9, g10, e1, e2, e3⟩
/-- another state is put in the guide's state's place -/
theorem GS.put {h h' : jH} {s s' : Nat → Nat} (g : GS h s) (hf : jFr (sC 2) h h') (hp : PS 2 h' s') : GS h' s' := by
  obtain ⟨_, _, _, _, _, _, _, _, D, E, L, m, num, den, g1, g2, g3, g4, g5, g6, g7, g8, g9, g10, g11, g12, g13, g14, g15, g16, _, _, _⟩ := g
  obtain ⟨fx, fy, fr, w, rt, ti, x, y, q0, q1, q2, q3, q4, q5, q6, q7, q8, e1, e2, e3⟩ := hp
  exact ⟨fx, fy, fr, w, rt, ti, x, y, D, E, L, m, num, den, hf.at (by omega) g1, q0, q1, q2, q3, q4, q5, q6, q7, q8, hf.at (by omega) g11, hf.at (by omega) g12, hf.at (by omega) g13, hf.at (by omega) g14, hf.at (by omega) g15, hf.at (by omega) g16, e1, e2, e3⟩
section STATES
variable {G : jG} {X : Bool} {h : jH} {Q : jQ_} {p q n t n0 t0 : Nat} {fx fy fr w fx0 fy0 fr0 w0 rt rt0 : Nat → Nat}
theorem c_X9_takeFrom (hpq : p + 9 ≤ q ∨ q + 9 ≤ p) (a1 : h[p + 1]? = some (.inr (9, [.ref (p + 2), .ref (p + 3), .ref (p + 4), .ref (p + 5), .int (nI n0), .int (nI t0)]))) (a2 : h[p + 2]? = some (ia 12 fx0)) (a3 : h[p + 3]? = some (ia 12 fy0)) (a4 : h[p + 4]? = some (ia 12 fr0)) (a5 : h[p + 5]? = some (ia 144 w0))
    (b1 : h[q + 1]? = some (.inr (9, [.ref (q + 2), .ref (q + 3), .ref (q + 4), .ref (q + 5), .int (nI n), .int (nI t)]))) (b2 : h[q + 2]? = some (ia 12 fx)) (b3 : h[q + 3]? = some (ia 12 fy)) (b4 : h[q + 4]? = some (ia 12 fr)) (b5 : h[q + 5]? = some (ia 144 w))
    (hQ : Q (.inl none) (((((h.set (p + 2) (ia 12 (cpN fx0 0 fx 0 12))).set (p + 3) (ia 12 (cpN fy0 0 fy 0 12))).set (p + 4) (ia 12 (cpN fr0 0 fr 0 12))).set (p + 5) (ia 144 (cpN w0 0 w 0 144))).set (p + 1) (.inr (9, [.ref (p + 2), .ref (p + 3), .ref (p + 4), .ref (p + 5), .int (nI n), .int (nI t)])))) : jCT G M_X9_takeFrom 2 0 0 X [.ref (p + 1), .ref (q + 1)] h Q := by
  refine jCT_of [some (.ref (p + 1)), some (.ref (q + 1))] 0 rfl (by decide +kernel) rfl rfl ?_
  refine J_aload_n (by rfl) (by rfl) dX9_takeFrom_0 ?_
  refine J_get dX9_takeFrom_1 f_X9_9 (by repeat (first | assumption | exact jget_same2 (by (try simp only [List.length_set]); exact jlt (by assumption)) | refine jget_ne (by first | decide | assumption | omega) ?_)) (by rfl) ?_
  refine J_iconst (nI 0) (by decide) dX9_takeFrom_4 ?_
  refine J_aload_n (by rfl) (by rfl) dX9_takeFrom_5 ?_
  refine J_get dX9_takeFrom_6 f_X9_9 (by repeat (first | assumption | exact jget_same2 (by (try simp only [List.length_set]); exact jlt (by assumption)) | refine jget_ne (by first | decide | assumption | omega) ?_)) (by rfl) ?_
  refine J_iconst (nI 0) (by decide) dX9_takeFrom_9 ?_
  refine J_bipush (nI 12) (by decide) dX9_takeFrom_10 ?_
  refine J_copy 0 0 12 dX9_takeFrom_12 ac_X9_24 aw_1 aw_2 ini_RJ10 (by repeat (first | assumption | exact jget_same2 (by (try simp only [List.length_set]); exact jlt (by assumption)) | refine jget_ne (by first | decide | assumption | omega) ?_)) (by repeat (first | assumption | exact jget_same2 (by (try simp only [List.length_set]); exact jlt (by assumption)) | refine jget_ne (by first | decide | assumption | omega) ?_)) (by rfl) (by rfl) (by rfl) (by decide) (by decide) (by decide) (by decide) (by decide) (by exact Nat.le_of_ble_eq_true rfl) ?_
  rw [cpy_n]
  refine J_aload_n (by rfl) (by rfl) dX9_takeFrom_15 ?_
  refine J_get dX9_takeFrom_16 f_X9_15 (by repeat (first | assumption | exact jget_same2 (by (try simp only [List.length_set]); exact jlt (by assumption)) | refine jget_ne (by first | decide | assumption | omega) ?_)) (by rfl) ?_
  refine J_iconst (nI 0) (by decide) dX9_takeFrom_19 ?_
  refine J_aload_n (by rfl) (by rfl) dX9_takeFrom_20 ?_
  refine J_get dX9_takeFrom_21 f_X9_15 (by repeat (first | assumption | exact jget_same2 (by (try simp only [List.length_set]); exact jlt (by assumption)) | refine jget_ne (by first | decide | assumption | omega) ?_)) (by rfl) ?_
  refine J_iconst (nI 0) (by decide) dX9_takeFrom_24 ?_
  refine J_bipush (nI 12) (by decide) dX9_takeFrom_25 ?_
  refine J_copy 0 0 12 dX9_takeFrom_27 ac_X9_24 aw_1 aw_2 ini_RJ10 (by repeat (first | assumption | exact jget_same2 (by (try simp only [List.length_set]); exact jlt (by assumption)) | refine jget_ne (by first | decide | assumption | omega) ?_)) (by repeat (first | assumption | exact jget_same2 (by (try simp only [List.length_set]); exact jlt (by assumption)) | refine jget_ne (by first | decide | assumption | omega) ?_)) (by rfl) (by rfl) (by rfl) (by decide) (by decide) (by decide) (by decide) (by decide) (by exact Nat.le_of_ble_eq_true rfl) ?_
  rw [cpy_n]
  refine J_aload_n (by rfl) (by rfl) dX9_takeFrom_30 ?_
  refine J_get dX9_takeFrom_31 f_X9_18 (by repeat (first | assumption | exact jget_same2 (by (try simp only [List.length_set]); exact jlt (by assumption)) | refine jget_ne (by first | decide | assumption | omega) ?_)) (by rfl) ?_
  refine J_iconst (nI 0) (by decide) dX9_takeFrom_34 ?_
  refine J_aload_n (by rfl) (by rfl) dX9_takeFrom_35 ?_
  refine J_get dX9_takeFrom_36 f_X9_18 (by repeat (first | assumption | exact jget_same2 (by (try simp only [List.length_set]); exact jlt (by assumption)) | refine jget_ne (by first | decide | assumption | omega) ?_)) (by rfl) ?_
  refine J_iconst (nI 0) (by decide) dX9_takeFrom_39 ?_
  refine J_bipush (nI 12) (by decide) dX9_takeFrom_40 ?_
  refine J_copy 0 0 12 dX9_takeFrom_42 ac_X9_24 aw_1 aw_2 ini_RJ10 (by repeat (first | assumption | exact jget_same2 (by (try simp only [List.length_set]); exact jlt (by assumption)) | refine jget_ne (by first | decide | assumption | omega) ?_)) (by repeat (first | assumption | exact jget_same2 (by (try simp only [List.length_set]); exact jlt (by assumption)) | refine jget_ne (by first | decide | assumption | omega) ?_)) (by rfl) (by rfl) (by rfl) (by decide) (by decide) (by decide) (by decide) (by decide) (by exact Nat.le_of_ble_eq_true rfl) ?_
  rw [cpy_n]
  refine J_aload_n (by rfl) (by rfl) dX9_takeFrom_45 ?_
  refine J_get dX9_takeFrom_46 f_X9_21 (by repeat (first | assumption | exact jget_same2 (by (try simp only [List.length_set]); exact jlt (by assumption)) | refine jget_ne (by first | decide | assumption | omega) ?_)) (by rfl) ?_
  refine J_iconst (nI 0) (by decide) dX9_takeFrom_49 ?_
  refine J_aload_n (by rfl) (by rfl) dX9_takeFrom_50 ?_
  refine J_get dX9_takeFrom_51 f_X9_21 (by repeat (first | assumption | exact jget_same2 (by (try simp only [List.length_set]); exact jlt (by assumption)) | refine jget_ne (by first | decide | assumption | omega) ?_)) (by rfl) ?_
  refine J_iconst (nI 0) (by decide) dX9_takeFrom_54 ?_
  refine J_sipush (nI 144) (by decide) dX9_takeFrom_55 ?_
  refine J_copy 0 0 144 dX9_takeFrom_58 ac_X9_24 aw_1 aw_2 ini_RJ10 (by repeat (first | assumption | exact jget_same2 (by (try simp only [List.length_set]); exact jlt (by assumption)) | refine jget_ne (by first | decide | assumption | omega) ?_)) (by repeat (first | assumption | exact jget_same2 (by (try simp only [List.length_set]); exact jlt (by assumption)) | refine jget_ne (by first | decide | assumption | omega) ?_)) (by rfl) (by rfl) (by rfl) (by decide) (by decide) (by decide) (by decide) (by decide) (by exact Nat.le_of_ble_eq_true rfl) ?_
  rw [cpy_n]
  refine J_aload_n (by rfl) (by rfl) dX9_takeFrom_61 ?_
  refine J_aload_n (by rfl) (by rfl) dX9_takeFrom_62 ?_
  refine J_get dX9_takeFrom_63 f_X9_30 (by repeat (first | assumption | exact jget_same2 (by (try simp only [List.length_set]); exact jlt (by assumption)) | refine jget_ne (by first | decide | assumption | omega) ?_)) (by rfl) ?_
  refine J_put_4 dX9_takeFrom_66 p_X9_30 (by repeat (first | assumption | exact jget_same2 (by (try simp only [List.length_set]); exact jlt (by assumption)) | refine jget_ne (by first | decide | assumption | omega) ?_)) ?_
  refine J_aload_n (by rfl) (by rfl) dX9_takeFrom_69 ?_
  refine J_aload_n (by rfl) (by rfl) dX9_takeFrom_70 ?_
  refine J_get dX9_takeFrom_71 f_X9_34 (by repeat (first | assumption | exact jget_same2 (by (try simp only [List.length_set]); exact jlt (by assumption)) | refine jget_ne (by first | decide | assumption | omega) ?_)) (by rfl) ?_
  refine J_put_5 dX9_takeFrom_74 p_X9_34 (by repeat (first | assumption | exact jget_same2 (by (try simp only [List.length_set]); exact jlt (by assumption)) | refine jget_ne (by first | decide | assumption | omega) ?_)) ?_
  exact J_return dX9_takeFrom_77 rfl (by simp only [List.set_set]; exact hQ) (by decide) (by decide) (fun _ => rfl)
theorem c_X8_takeFrom {c ti x y c0 ti0 x0 y0 : Nat} {al al0 : Bool} (hpq : p + 9 ≤ q ∨ q + 9 ≤ p) (a1 : h[p + 6]? = some (.inr (8, [.ref (p + 7), .int (nI c0), .int (nI ti0), .int (nI x0), .int (nI y0), .int (jb al0)]))) (a2 : h[p + 7]? = some (ia 12 rt0))
    (b1 : h[q + 6]? = some (.inr (8, [.ref (q + 7), .int (nI c), .int (nI ti), .int (nI x), .int (nI y), .int (jb al)]))) (b2 : h[q + 7]? = some (ia 12 rt))
    (hQ : Q (.inl none) ((h.set (p + 7) (ia 12 (cpN rt0 0 rt 0 12))).set (p + 6) (.inr (8, [.ref (p + 7), .int (nI c), .int (nI ti), .int (nI x), .int (nI y), .int (jb al)])))) : jCT G M_X8_takeFrom 2 0 0 X [.ref (p + 6), .ref (q + 6)] h Q := by
  refine jCT_of [some (.ref (p + 6)), some (.ref (q + 6))] 0 rfl (by decide +kernel) rfl rfl ?_
  refine J_aload_n (by rfl) (by rfl) dX8_takeFrom_0 ?_
  refine J_get dX8_takeFrom_1 f_X8_9 (by repeat (first | assumption | exact jget_same2 (by (try simp only [List.length_set]); exact jlt (by assumption)) | refine jget_ne (by first | decide | assumption | omega) ?_)) (by rfl) ?_
  refine J_iconst (nI 0) (by decide) dX8_takeFrom_4 ?_
  refine J_aload_n (by rfl) (by rfl) dX8_takeFrom_5 ?_
  refine J_get dX8_takeFrom_6 f_X8_9 (by repeat (first | assumption | exact jget_same2 (by (try simp only [List.length_set]); exact jlt (by assumption)) | refine jget_ne (by first | decide | assumption | omega) ?_)) (by rfl) ?_
  refine J_iconst (nI 0) (by decide) dX8_takeFrom_9 ?_
  refine J_bipush (nI 12) (by decide) dX8_takeFrom_10 ?_
  refine J_copy 0 0 12 dX8_takeFrom_12 ac_X8_15 aw_1 aw_2 ini_RJ10 (by repeat (first | assumption | exact jget_same2 (by (try simp only [List.length_set]); exact jlt (by assumption)) | refine jget_ne (by first | decide | assumption | omega) ?_)) (by repeat (first | assumption | exact jget_same2 (by (try simp only [List.length_set]); exact jlt (by assumption)) | refine jget_ne (by first | decide | assumption | omega) ?_)) (by rfl) (by rfl) (by rfl) (by decide) (by decide) (by decide) (by decide) (by decide) (by exact Nat.le_of_ble_eq_true rfl) ?_
  rw [cpy_n]
  refine J_aload_n (by rfl) (by rfl) dX8_takeFrom_15 ?_
  refine J_aload_n (by rfl) (by rfl) dX8_takeFrom_16 ?_
  refine J_get dX8_takeFrom_17 f_X8_21 (by repeat (first | assumption | exact jget_same2 (by (try simp only [List.length_set]); exact jlt (by assumption)) | refine jget_ne (by first | decide | assumption | omega) ?_)) (by rfl) ?_
  refine J_put_1 dX8_takeFrom_20 p_X8_21 (by repeat (first | assumption | exact jget_same2 (by (try simp only [List.length_set]); exact jlt (by assumption)) | refine jget_ne (by first | decide | assumption | omega) ?_)) ?_
  refine J_aload_n (by rfl) (by rfl) dX8_takeFrom_23 ?_
  refine J_aload_n (by rfl) (by rfl) dX8_takeFrom_24 ?_
  refine J_get dX8_takeFrom_25 f_X8_25 (by repeat (first | assumption | exact jget_same2 (by (try simp only [List.length_set]); exact jlt (by assumption)) | refine jget_ne (by first | decide | assumption | omega) ?_)) (by rfl) ?_
  refine J_put_2 dX8_takeFrom_28 p_X8_25 (by repeat (first | assumption | exact jget_same2 (by (try simp only [List.length_set]); exact jlt (by assumption)) | refine jget_ne (by first | decide | assumption | omega) ?_)) ?_
  refine J_aload_n (by rfl) (by rfl) dX8_takeFrom_31 ?_
  refine J_aload_n (by rfl) (by rfl) dX8_takeFrom_32 ?_
  refine J_get dX8_takeFrom_33 f_X8_28 (by repeat (first | assumption | exact jget_same2 (by (try simp only [List.length_set]); exact jlt (by assumption)) | refine jget_ne (by first | decide | assumption | omega) ?_)) (by rfl) ?_
  refine J_put_3 dX8_takeFrom_36 p_X8_28 (by repeat (first | assumption | exact jget_same2 (by (try simp only [List.length_set]); exact jlt (by assumption)) | refine jget_ne (by first | decide | assumption | omega) ?_)) ?_
  refine J_aload_n (by rfl) (by rfl) dX8_takeFrom_39 ?_
  refine J_aload_n (by rfl) (by rfl) dX8_takeFrom_40 ?_
  refine J_get dX8_takeFrom_41 f_X8_31 (by repeat (first | assumption | exact jget_same2 (by (try simp only [List.length_set]); exact jlt (by assumption)) | refine jget_ne (by first | decide | assumption | omega) ?_)) (by rfl) ?_
  refine J_put_4 dX8_takeFrom_44 p_X8_31 (by repeat (first | assumption | exact jget_same2 (by (try simp only [List.length_set]); exact jlt (by assumption)) | refine jget_ne (by first | decide | assumption | omega) ?_)) ?_
  refine J_aload_n (by rfl) (by rfl) dX8_takeFrom_47 ?_
  refine J_aload_n (by rfl) (by rfl) dX8_takeFrom_48 ?_
  refine J_get dX8_takeFrom_49 f_X8_34 (by repeat (first | assumption | exact jget_same2 (by (try simp only [List.length_set]); exact jlt (by assumption)) | refine jget_ne (by first | decide | assumption | omega) ?_)) (by rfl) ?_
  refine J_put_5 dX8_takeFrom_52 p_X8_34 (by repeat (first | assumption | exact jget_same2 (by (try simp only [List.length_set]); exact jlt (by assumption)) | refine jget_ne (by first | decide | assumption | omega) ?_)) ?_ (jb_n al) (jb_f al)
  exact J_return dX8_takeFrom_55 rfl (by simp only [List.set_set]; exact hQ) (by decide) (by decide) (fun _ => rfl)
theorem c_X4_takeFrom {b m t u a r b0 m0 t0 u0 a0 r0 : Nat} (hpq : p + 9 ≤ q ∨ q + 9 ≤ p) (a1 : h[p + 8]? = some (hMeter b0 m0 t0 u0 a0 r0)) (b1 : h[q + 8]? = some (hMeter b m t u a r))
    (hQ : Q (.inl none) (h.set (p + 8) (hMeter b m t u a r))) : jCT G M_X4_takeFrom 2 0 0 X [.ref (p + 8), .ref (q + 8)] h Q := by
  refine jCT_of [some (.ref (p + 8)), some (.ref (q + 8))] 0 rfl (by decide +kernel) rfl rfl ?_
  refine J_aload_n (by rfl) (by rfl) dX4_takeFrom_0 ?_
  refine J_aload_n (by rfl) (by rfl) dX4_takeFrom_1 ?_
  refine J_get dX4_takeFrom_2 f_X4_9 (by repeat (first | assumption | exact jget_same2 (by (try simp only [List.length_set]); exact jlt (by assumption)) | refine jget_ne (by first | decide | assumption | omega) ?_)) (by rfl) ?_
  refine J_put_0 dX4_takeFrom_5 p_X4_9 (by repeat (first | assumption | exact jget_same2 (by (try simp only [List.length_set]); exact jlt (by assumption)) | refine jget_ne (by first | decide | assumption | omega) ?_)) ?_
  refine J_aload_n (by rfl) (by rfl) dX4_takeFrom_8 ?_
  refine J_aload_n (by rfl) (by rfl) dX4_takeFrom_9 ?_
  refine J_get dX4_takeFrom_10 f_X4_15 (by repeat (first | assumption | exact jget_same2 (by (try simp only [List.length_set]); exact jlt (by assumption)) | refine jget_ne (by first | decide | assumption | omega) ?_)) (by rfl) ?_
  refine J_put_1 dX4_takeFrom_13 p_X4_15 (by repeat (first | assumption | exact jget_same2 (by (try simp only [List.length_set]); exact jlt (by assumption)) | refine jget_ne (by first | decide | assumption | omega) ?_)) ?_
  refine J_aload_n (by rfl) (by rfl) dX4_takeFrom_16 ?_
  refine J_aload_n (by rfl) (by rfl) dX4_takeFrom_17 ?_
  refine J_get dX4_takeFrom_18 f_X4_18 (by repeat (first | assumption | exact jget_same2 (by (try simp only [List.length_set]); exact jlt (by assumption)) | refine jget_ne (by first | decide | assumption | omega) ?_)) (by rfl) ?_
  refine J_put_2 dX4_takeFrom_21 p_X4_18 (by repeat (first | assumption | exact jget_same2 (by (try simp only [List.length_set]); exact jlt (by assumption)) | refine jget_ne (by first | decide | assumption | omega) ?_)) ?_
  refine J_aload_n (by rfl) (by rfl) dX4_takeFrom_24 ?_
  refine J_aload_n (by rfl) (by rfl) dX4_takeFrom_25 ?_
  refine J_get dX4_takeFrom_26 f_X4_21 (by repeat (first | assumption | exact jget_same2 (by (try simp only [List.length_set]); exact jlt (by assumption)) | refine jget_ne (by first | decide | assumption | omega) ?_)) (by rfl) ?_
  refine J_put_3 dX4_takeFrom_29 p_X4_21 (by repeat (first | assumption | exact jget_same2 (by (try simp only [List.length_set]); exact jlt (by assumption)) | refine jget_ne (by first | decide | assumption | omega) ?_)) ?_
  refine J_aload_n (by rfl) (by rfl) dX4_takeFrom_32 ?_
  refine J_aload_n (by rfl) (by rfl) dX4_takeFrom_33 ?_
  refine J_get dX4_takeFrom_34 f_X4_24 (by repeat (first | assumption | exact jget_same2 (by (try simp only [List.length_set]); exact jlt (by assumption)) | refine jget_ne (by first | decide | assumption | omega) ?_)) (by rfl) ?_
  refine J_put_4 dX4_takeFrom_37 p_X4_24 (by repeat (first | assumption | exact jget_same2 (by (try simp only [List.length_set]); exact jlt (by assumption)) | refine jget_ne (by first | decide | assumption | omega) ?_)) ?_
  refine J_aload_n (by rfl) (by rfl) dX4_takeFrom_40 ?_
  refine J_aload_n (by rfl) (by rfl) dX4_takeFrom_41 ?_
  refine J_get dX4_takeFrom_42 f_X4_27 (by repeat (first | assumption | exact jget_same2 (by (try simp only [List.length_set]); exact jlt (by assumption)) | refine jget_ne (by first | decide | assumption | omega) ?_)) (by rfl) ?_
  refine J_put_5 dX4_takeFrom_45 p_X4_27 (by repeat (first | assumption | exact jget_same2 (by (try simp only [List.length_set]); exact jlt (by assumption)) | refine jget_ne (by first | decide | assumption | omega) ?_)) ?_
  exact J_return dX4_takeFrom_48 rfl (by simp only [List.set_set]; exact hQ) (by decide) (by decide) (fun _ => rfl)
theorem c_X7_takeFrom {s s0 : Nat → Nat} (hs : s 1 ≤ 12) (hpq : p + 9 ≤ q ∨ q + 9 ≤ p) (a : PS p h s0) (b : PS q h s)
    (hQ : ∀ h', jFr (sC p) h h' → PS p h' s → Q (.inl none) h') : jCT G M_X7_takeFrom 3 0 0 X [.ref p, .ref q] h Q := by
  obtain ⟨fx0, fy0, fr0, w0, rt0, ti0, x0, y0, a0, a1, a2, a3, a4, a5, a6, a7, a8, d1, d2, d3⟩ := a
  obtain ⟨fx, fy, fr, w, rt, ti, x, y, b0, b1, b2, b3, b4, b5, b6, b7, b8, e1, e2, e3⟩ := b
  refine jCT_of [some (.ref p), some (.ref q)] 0 rfl (by decide +kernel) rfl rfl ?_
  have cp : ∀ (g0 g : Nat → Nat) (n i : Nat), i < n → cpN g0 0 g 0 n i = g i := fun g0 g n i hi => by
    have := cpN_in (g := g0) (q := 0) (f := g) (p := 0) hi
    rwa [Nat.zero_add] at this
  refine J_aload_n (by rfl) (by rfl) dX7_takeFrom_0 ?_
  refine J_get dX7_takeFrom_1 f_X7_10 (by repeat (first | assumption | exact jget_same2 (by (try simp only [List.length_set]); exact jlt (by assumption)) | refine jget_ne (by first | decide | assumption | omega) ?_)) (by rfl) ?_
  refine J_aload_n (by rfl) (by rfl) dX7_takeFrom_4 ?_
  refine J_get dX7_takeFrom_5 f_X7_10 (by repeat (first | assumption | exact jget_same2 (by (try simp only [List.length_set]); exact jlt (by assumption)) | refine jget_ne (by first | decide | assumption | omega) ?_)) (by rfl) ?_
  refine J_V10 (ci := 9) dX7_takeFrom_8 s_X7_30 m_X9_takeFrom rfl (by repeat (first | assumption | exact jget_same2 (by (try simp only [List.length_set]); exact jlt (by assumption)) | refine jget_ne (by first | decide | assumption | omega) ?_)) rfl (c_X9_takeFrom hpq a1 a2 a3 a4 a5 b1 b2 b3 b4 b5 (jK0_i ?_))
  refine J_aload_n (by rfl) (by rfl) dX7_takeFrom_11 ?_
  refine J_get dX7_takeFrom_12 f_X7_19 (by repeat (first | assumption | exact jget_same2 (by (try simp only [List.length_set]); exact jlt (by assumption)) | refine jget_ne (by first | decide | assumption | omega) ?_)) (by rfl) ?_
  refine J_aload_n (by rfl) (by rfl) dX7_takeFrom_15 ?_
  refine J_get dX7_takeFrom_16 f_X7_19 (by repeat (first | assumption | exact jget_same2 (by (try simp only [List.length_set]); exact jlt (by assumption)) | refine jget_ne (by first | decide | assumption | omega) ?_)) (by rfl) ?_
  refine J_V10 (ci := 8) dX7_takeFrom_19 s_X7_34 m_X8_takeFrom rfl (by repeat (first | assumption | exact jget_same2 (by (try simp only [List.length_set]); exact jlt (by assumption)) | refine jget_ne (by first | decide | assumption | omega) ?_)) rfl (c_X8_takeFrom (rt := rt) (rt0 := rt0) hpq (by repeat (first | assumption | exact jget_same2 (by (try simp only [List.length_set]); exact jlt (by assumption)) | refine jget_ne (by first | decide | assumption | omega) ?_)) (by repeat (first | assumption | exact jget_same2 (by (try simp only [List.length_set]); exact jlt (by assumption)) | refine jget_ne (by first | decide | assumption | omega) ?_)) (by repeat (first | assumption | exact jget_same2 (by (try simp only [List.length_set]); exact jlt (by assumption)) | refine jget_ne (by first | decide | assumption | omega) ?_)) (by repeat (first | assumption | exact jget_same2 (by (try simp only [List.length_set]); exact jlt (by assumption)) | refine jget_ne (by first | decide | assumption | omega) ?_)) (jK0_i ?_))
  refine J_aload_n (by rfl) (by rfl) dX7_takeFrom_22 ?_
  refine J_get dX7_takeFrom_23 f_X7_26 (by repeat (first | assumption | exact jget_same2 (by (try simp only [List.length_set]); exact jlt (by assumption)) | refine jget_ne (by first | decide | assumption | omega) ?_)) (by rfl) ?_
  refine J_aload_n (by rfl) (by rfl) dX7_takeFrom_26 ?_
  refine J_get dX7_takeFrom_27 f_X7_26 (by repeat (first | assumption | exact jget_same2 (by (try simp only [List.length_set]); exact jlt (by assumption)) | refine jget_ne (by first | decide | assumption | omega) ?_)) (by rfl) ?_
  refine J_V10 (ci := 4) dX7_takeFrom_30 s_X7_37 m_X4_takeFrom rfl (by repeat (first | assumption | exact jget_same2 (by (try simp only [List.length_set]); exact jlt (by assumption)) | refine jget_ne (by first | decide | assumption | omega) ?_)) rfl (c_X4_takeFrom hpq (by repeat (first | assumption | exact jget_same2 (by (try simp only [List.length_set]); exact jlt (by assumption)) | refine jget_ne (by first | decide | assumption | omega) ?_)) (by repeat (first | assumption | exact jget_same2 (by (try simp only [List.length_set]); exact jlt (by assumption)) | refine jget_ne (by first | decide | assumption | omega) ?_)) (jK0_i ?_))
  exact J_return dX7_takeFrom_33 rfl (by
    refine hQ _ ?_ ⟨cpN fx0 0 fx 0 12, cpN fy0 0 fy 0 12, cpN fr0 0 fr 0 12, cpN w0 0 w 0 144, cpN rt0 0 rt 0 12, ti, x, y, (by repeat (first | assumption | exact jget_same2 (by (try simp only [List.length_set]); exact jlt (by assumption)) | refine jget_ne (by first | decide | assumption | omega) ?_)), (by repeat (first | assumption | exact jget_same2 (by (try simp only [List.length_set]); exact jlt (by assumption)) | refine jget_ne (by first | decide | assumption | omega) ?_)), (by repeat (first | assumption | exact jget_same2 (by (try simp only [List.length_set]); exact jlt (by assumption)) | refine jget_ne (by first | decide | assumption | omega) ?_)), (by repeat (first | assumption | exact jget_same2 (by (try simp only [List.length_set]); exact jlt (by assumption)) | refine jget_ne (by first | decide | assumption | omega) ?_)), (by repeat (first | assumption | exact jget_same2 (by (try simp only [List.length_set]); exact jlt (by assumption)) | refine jget_ne (by first | decide | assumption | omega) ?_)), (by repeat (first | assumption | exact jget_same2 (by (try simp only [List.length_set]); exact jlt (by assumption)) | refine jget_ne (by first | decide | assumption | omega) ?_)), (by repeat (first | assumption | exact jget_same2 (by (try simp only [List.length_set]); exact jlt (by assumption)) | refine jget_ne (by first | decide | assumption | omega) ?_)), (by repeat (first | assumption | exact jget_same2 (by (try simp only [List.length_set]); exact jlt (by assumption)) | refine jget_ne (by first | decide | assumption | omega) ?_)), (by repeat (first | assumption | exact jget_same2 (by (try simp only [List.length_set]); exact jlt (by assumption)) | refine jget_ne (by first | decide | assumption | omega) ?_)), ?_, ?_, ?_⟩
    · exact (((((((jFr.refl.set _ _ (by omega)).set _ _ (by omega)).set _ _ (by omega)).set _ _ (by omega)).set _ _ (by omega)).set _ _ (by omega)).set _ _ (by omega)).set _ _ (by omega)
    · intro i hi; rw [cp _ _ _ _ hi, cp _ _ _ _ hi, cp _ _ _ _ hi]; exact e1 i hi
    · intro k hk; rw [cp _ _ _ _ hk]; exact e2 k hk
    · intro h0
      obtain ⟨r1, r2, r3, r4⟩ := e3 h0
      exact ⟨r1, r2, r3, fun i hi => by rw [cp _ _ _ _ (by omega)]; exact r4 i hi⟩) (by decide) (by decide) (fun _ => rfl)
end STATES
