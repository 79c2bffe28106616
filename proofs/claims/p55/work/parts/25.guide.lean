/-! Guide: what each command does -/
theorem sumR_one {f g : Nat → Nat} {p a : Nat} : ∀ k, a ≤ p → p < a + k → (∀ i, i < k → a + i ≠ p → f (a + i) = g (a + i)) → f p = g p + 1 → sumR f a k = sumR g a k + 1
  | 0, h1, h2, _, _ => by omega
  | k + 1, h1, h2, h, hp => by
    unfold sumR
    by_cases e : a + k = p
    · rw [sumR_congr (f := f) (g := g) a k (fun i hi => h i (by omega) (by omega)), e, hp]; omega
    · rw [sumR_one k h1 (by omega) (fun i hi => h i (by omega)) hp, h k (by omega) e]; omega
theorem mT_add {w v : Nat → Nat} {p q : Nat} (hqp : q < p) (hp : p < 12) (h0 : w (p * 12 + q) = 0) (h1 : 0 < v (p * 12 + q)) (hs : ∀ i j, j < i → i < 12 → i ≠ p ∨ j ≠ q → v (i * 12 + j) = w (i * 12 + j)) : mT v = mT w + 1 := by
  unfold mT
  refine sumR_one (p := p) 12 (by omega) (by omega) (fun i hi hne => ?_) ?_
  · rw [Nat.zero_add] at hne ⊢
    exact cnt_congr i fun j hj => by rw [hs i j hj hi (.inl hne)]
  · refine (cnt_rm (m := q) p hqp (by simpa using h1) (fun j hj => ?_)).symm
    by_cases e : j = q
    · subst e; simp [h0]
    · rw [hs p j hj hp (.inr e)]; simp [e]
theorem wS_setT {s : Nat → Nat} {i j v a b : Nat} (hi : i < 12) (hj : j < 12) (ha : a < 12) (hb : b < 12) : wS (setT s i j v) (a * 12 + b) = if (a = i ∧ b = j) ∨ (a = j ∧ b = i) then v else wS s (a * 12 + b) := by
  unfold wS setT updN
  by_cases h1 : 48 + (a * 12 + b) = 48 + (j * 12 + i)
  · rw [if_pos h1, if_pos (.inr (by omega))]
  · rw [if_neg h1]
    by_cases h2 : 48 + (a * 12 + b) = 48 + (i * 12 + j)
    · rw [if_pos h2, if_pos (.inl (by omega))]
    · rw [if_neg h2, if_neg (by omega)]
theorem mT_setT {n : Nat} {s : Nat → Nat} {i j v : Nat} (g : Gr n (wS s)) (hi : i < 12) (hj : j < 12) (hne : i ≠ j) : (wS s (i * 12 + j) = 0 → 0 < v → mT (wS (setT s i j v)) = mT (wS s) + 1) ∧ (0 < wS s (i * 12 + j) → v = 0 → mT (wS s) = mT (wS (setT s i j v)) + 1) := by
  have hsym := g.sym i j hi hj
  have key : ∀ a b, b < a → a < 12 → a ≠ max i j ∨ b ≠ min i j → wS (setT s i j v) (a * 12 + b) = wS s (a * 12 + b) := fun a b hba ha hne2 => by
    rw [wS_setT hi hj ha (by omega), if_neg (by omega)]
  have kv : wS (setT s i j v) (max i j * 12 + min i j) = v := by rw [wS_setT hi hj (by omega) (by omega), if_pos (by omega)]
  have ko : wS s (max i j * 12 + min i j) = wS s (i * 12 + j) := by
    rcases Nat.le_total i j with q | q
    · rw [Nat.max_eq_right q, Nat.min_eq_left q]; exact hsym.symm
    · rw [Nat.max_eq_left q, Nat.min_eq_right q]
  refine ⟨fun h0 h1 => mT_add (p := max i j) (q := min i j) (by omega) (by omega) (by rw [ko]; exact h0) (by rw [kv]; exact h1) key, fun h0 h1 => mT_add (p := max i j) (q := min i j) (by omega) (by omega) (by rw [kv]; exact h1) (by rw [ko]; exact h0) (fun a b hba ha hne2 => (key a b hba ha hne2).symm)⟩
/-- the alarm, when the hiker is so far or not -/
def alarmS (s : Nat → Nat) (far : Bool) : Nat → Nat := updN (if far = true ∧ s 5 = 0 then drainS (updN s 10 (s 10 + 1)) 5 else s) 5 (if far = true then 1 else 0)
theorem watchS_eq (s : Nat → Nat) : watchS s = alarmS s (farS s (s 3) (s 4) (s 8)) := rfl
section GUIDE2
variable {G : jG} {X : Bool} {h : jH} {Q : jQ_} {K : Nat} {s fx fy fr w rt : Nat → Nat} {ti x y : Nat} {D E L : Nat → Nat} {m : Nat → Bool} {num den : Nat}
theorem GP.point {a b c : Nat} (g : GP h s fx fy fr w rt ti x y D E L m num den) (hn : s 0 < 12) : GP ((((h.set 4 (ia 12 (updN fx (s 0) a))).set 5 (ia 12 (updN fy (s 0) b))).set 6 (ia 12 (updN fr (s 0) c))).set 3 (hMap (s 0 + 1) (mT (wS s)))) (updN (updN (updN (updN s (12 + 3 * s 0) a) (12 + 3 * s 0 + 1) b) (12 + 3 * s 0 + 2) c) 0 (s 0 + 1)) (updN fx (s 0) a) (updN fy (s 0) b) (updN fr (s 0) c) w rt ti x y D E L m num den := by
  obtain ⟨g1, g2, g3, g4, g5, g6, g7, g8, g9, g10, g11, g12, g13, g14, g15, g16, e1, e2, e3⟩ := g
  have hs : ∀ k, k ≠ 0 → (k < 12 ∨ 48 ≤ k) → (updN (updN (updN (updN s (12 + 3 * s 0) a) (12 + 3 * s 0 + 1) b) (12 + 3 * s 0 + 2) c) 0 (s 0 + 1)) k = s k := fun k h1 h2 => by
    rw [updN_n h1, updN_n (by omega), updN_n (by omega), updN_n (by omega)]
  have hw : ∀ k, k < 144 → wS (updN (updN (updN (updN s (12 + 3 * s 0) a) (12 + 3 * s 0 + 1) b) (12 + 3 * s 0 + 2) c) 0 (s 0 + 1)) k = wS s k := fun k hk => hs _ (by omega) (by omega)
  refine ⟨(by repeat (first | assumption | exact jget_same2 (by (try simp only [List.length_set]); exact jlt (by assumption)) | refine jget_ne (by first | decide | assumption | omega) ?_)), (by repeat (first | assumption | exact jget_same2 (by (try simp only [List.length_set]); exact jlt (by assumption)) | refine jget_ne (by first | decide | assumption | omega) ?_)), ?_, (by repeat (first | assumption | exact jget_same2 (by (try simp only [List.length_set]); exact jlt (by assumption)) | refine jget_ne (by first | decide | assumption | omega) ?_)), (by repeat (first | assumption | exact jget_same2 (by (try simp only [List.length_set]); exact jlt (by assumption)) | refine jget_ne (by first | decide | assumption | omega) ?_)), (by repeat (first | assumption | exact jget_same2 (by (try simp only [List.length_set]); exact jlt (by assumption)) | refine jget_ne (by first | decide | assumption | omega) ?_)), (by repeat (first | assumption | exact jget_same2 (by (try simp only [List.length_set]); exact jlt (by assumption)) | refine jget_ne (by first | decide | assumption | omega) ?_)), ?_, (by repeat (first | assumption | exact jget_same2 (by (try simp only [List.length_set]); exact jlt (by assumption)) | refine jget_ne (by first | decide | assumption | omega) ?_)), ?_, (by repeat (first | assumption | exact jget_same2 (by (try simp only [List.length_set]); exact jlt (by assumption)) | refine jget_ne (by first | decide | assumption | omega) ?_)), (by repeat (first | assumption | exact jget_same2 (by (try simp only [List.length_set]); exact jlt (by assumption)) | refine jget_ne (by first | decide | assumption | omega) ?_)), (by repeat (first | assumption | exact jget_same2 (by (try simp only [List.length_set]); exact jlt (by assumption)) | refine jget_ne (by first | decide | assumption | omega) ?_)), (by repeat (first | assumption | exact jget_same2 (by (try simp only [List.length_set]); exact jlt (by assumption)) | refine jget_ne (by first | decide | assumption | omega) ?_)), (by repeat (first | assumption | exact jget_same2 (by (try simp only [List.length_set]); exact jlt (by assumption)) | refine jget_ne (by first | decide | assumption | omega) ?_)), (by repeat (first | assumption | exact jget_same2 (by (try simp only [List.length_set]); exact jlt (by assumption)) | refine jget_ne (by first | decide | assumption | omega) ?_)), ?_, ?_, ?_⟩
  · rw [updN_s, mT_congr hw]; exact (by repeat (first | assumption | exact jget_same2 (by (try simp only [List.length_set]); exact jlt (by assumption)) | refine jget_ne (by first | decide | assumption | omega) ?_))
  · rw [hs 1 (by omega) (by omega), hs 5 (by omega) (by omega)]; exact (by repeat (first | assumption | exact jget_same2 (by (try simp only [List.length_set]); exact jlt (by assumption)) | refine jget_ne (by first | decide | assumption | omega) ?_))
  · rw [hs 6 (by omega) (by omega), hs 7 (by omega) (by omega), hs 8 (by omega) (by omega), hs 9 (by omega) (by omega), hs 10 (by omega) (by omega), hs 11 (by omega) (by omega)]; exact (by repeat (first | assumption | exact jget_same2 (by (try simp only [List.length_set]); exact jlt (by assumption)) | refine jget_ne (by first | decide | assumption | omega) ?_))
  · intro i hi
    obtain ⟨q1, q2, q3⟩ := e1 i hi
    unfold pX pY pR at *
    by_cases e : i = s 0
    · subst e
      rw [updN_s, updN_s, updN_s, updN_n (by omega), updN_n (by omega), updN_n (by omega), updN_s, updN_n (by omega), updN_n (by omega), updN_s, updN_n (by omega), updN_s]
      exact ⟨rfl, rfl, rfl⟩
    · rw [updN_n e, updN_n e, updN_n e, updN_n (by omega), updN_n (by omega), updN_n (by omega), updN_n (by omega), updN_n (by omega), updN_n (by omega), updN_n (by omega), updN_n (by omega), updN_n (by omega), updN_n (by omega), updN_n (by omega), updN_n (by omega)]
      exact ⟨q1, q2, q3⟩
  · intro k hk; rw [hw k hk]; exact e2 k hk
  · rw [hs 1 (by omega) (by omega), hs 2 (by omega) (by omega), hs 3 (by omega) (by omega), hs 4 (by omega) (by omega)]
    intro h0
    obtain ⟨q1, q2, q3, q4⟩ := e3 h0
    exact ⟨q1, q2, q3, fun i hi => by rw [hs _ (by omega) (by omega)]; exact q4 i hi⟩
theorem GP.trail {i j v t : Nat} (g : GP h s fx fy fr w rt ti x y D E L m num den) (hi : i < 12) (hj : j < 12) (ht : t = mT (wS (setT s i j v))) : GP ((h.set 7 (ia 144 (updN (updN w (i * 12 + j) v) (j * 12 + i) v))).set 3 (hMap (s 0) t)) (setT s i j v) fx fy fr (updN (updN w (i * 12 + j) v) (j * 12 + i) v) rt ti x y D E L m num den := by
  obtain ⟨g1, g2, g3, g4, g5, g6, g7, g8, g9, g10, g11, g12, g13, g14, g15, g16, e1, e2, e3⟩ := g
  have hs : ∀ k, (k < 48 ∨ 192 ≤ k) → setT s i j v k = s k := fun k h1 => by unfold setT; rw [updN_n (by omega), updN_n (by omega)]
  refine ⟨(by repeat (first | assumption | exact jget_same2 (by (try simp only [List.length_set]); exact jlt (by assumption)) | refine jget_ne (by first | decide | assumption | omega) ?_)), (by repeat (first | assumption | exact jget_same2 (by (try simp only [List.length_set]); exact jlt (by assumption)) | refine jget_ne (by first | decide | assumption | omega) ?_)), ?_, (by repeat (first | assumption | exact jget_same2 (by (try simp only [List.length_set]); exact jlt (by assumption)) | refine jget_ne (by first | decide | assumption | omega) ?_)), (by repeat (first | assumption | exact jget_same2 (by (try simp only [List.length_set]); exact jlt (by assumption)) | refine jget_ne (by first | decide | assumption | omega) ?_)), (by repeat (first | assumption | exact jget_same2 (by (try simp only [List.length_set]); exact jlt (by assumption)) | refine jget_ne (by first | decide | assumption | omega) ?_)), (by repeat (first | assumption | exact jget_same2 (by (try simp only [List.length_set]); exact jlt (by assumption)) | refine jget_ne (by first | decide | assumption | omega) ?_)), ?_, (by repeat (first | assumption | exact jget_same2 (by (try simp only [List.length_set]); exact jlt (by assumption)) | refine jget_ne (by first | decide | assumption | omega) ?_)), ?_, (by repeat (first | assumption | exact jget_same2 (by (try simp only [List.length_set]); exact jlt (by assumption)) | refine jget_ne (by first | decide | assumption | omega) ?_)), (by repeat (first | assumption | exact jget_same2 (by (try simp only [List.length_set]); exact jlt (by assumption)) | refine jget_ne (by first | decide | assumption | omega) ?_)), (by repeat (first | assumption | exact jget_same2 (by (try simp only [List.length_set]); exact jlt (by assumption)) | refine jget_ne (by first | decide | assumption | omega) ?_)), (by repeat (first | assumption | exact jget_same2 (by (try simp only [List.length_set]); exact jlt (by assumption)) | refine jget_ne (by first | decide | assumption | omega) ?_)), (by repeat (first | assumption | exact jget_same2 (by (try simp only [List.length_set]); exact jlt (by assumption)) | refine jget_ne (by first | decide | assumption | omega) ?_)), (by repeat (first | assumption | exact jget_same2 (by (try simp only [List.length_set]); exact jlt (by assumption)) | refine jget_ne (by first | decide | assumption | omega) ?_)), ?_, ?_, ?_⟩
  · rw [hs 0 (by omega), ← ht]; exact (by repeat (first | assumption | exact jget_same2 (by (try simp only [List.length_set]); exact jlt (by assumption)) | refine jget_ne (by first | decide | assumption | omega) ?_))
  · rw [hs 1 (by omega), hs 5 (by omega)]; exact (by repeat (first | assumption | exact jget_same2 (by (try simp only [List.length_set]); exact jlt (by assumption)) | refine jget_ne (by first | decide | assumption | omega) ?_))
  · rw [hs 6 (by omega), hs 7 (by omega), hs 8 (by omega), hs 9 (by omega), hs 10 (by omega), hs 11 (by omega)]; exact (by repeat (first | assumption | exact jget_same2 (by (try simp only [List.length_set]); exact jlt (by assumption)) | refine jget_ne (by first | decide | assumption | omega) ?_))
  · intro i hi
    unfold pX pY pR
    rw [hs _ (by omega), hs _ (by omega), hs _ (by omega)]
    exact e1 i hi
  · intro k hk
    have hq := e2 k hk
    show updN (updN w (i * 12 + j) v) (j * 12 + i) v k = updN (updN s (48 + (i * 12 + j)) v) (48 + (j * 12 + i)) v (48 + k)
    by_cases h1 : k = j * 12 + i
    · rw [h1, updN_s, updN_s]
    · rw [updN_n h1, updN_n (f := updN s (48 + (i * 12 + j)) v) (j := 48 + (j * 12 + i)) (by omega)]
      by_cases h2 : k = i * 12 + j
      · rw [h2, updN_s, updN_s]
      · rw [updN_n h2, updN_n (by omega)]; exact hq
  · rw [hs 1 (by omega), hs 2 (by omega), hs 3 (by omega), hs 4 (by omega)]
    intro h0
    obtain ⟨q1, q2, q3, q4⟩ := e3 h0
    exact ⟨q1, q2, q3, fun i hi => by rw [hs _ (by omega)]; exact q4 i hi⟩
theorem c_X1_reachesTarget {a b : Nat} (ha : a ≤ 99) (hb : b ≤ 99) (h0 : 0 < s 1) (h1 : s 1 ≤ 12) (h2 : s 2 < s 1) (hA : aimS s < 12) (hP : ∀ i, i < 12 → pX s i ≤ 99 ∧ pY s i ≤ 99 ∧ pR s i ≤ 9) (g : GP h s fx fy fr w rt ti x y D E L m num den)
    (hQ : Q (.inl (some (.int (jb (reachS s a b))))) h) : jCT G M_X1_reachesTarget 3 0 0 X [.ref 1, .int (nI a), .int (nI b)] h Q := by
  obtain ⟨g1, g2, g3, g4, g5, g6, g7, g8, g9, g10, g11, g12, g13, g14, g15, g16, e1, e2, e3⟩ := g
  refine jCT_of [some (.ref 1), some (.int (nI a)), some (.int (nI b)), none, none] 2 rfl (by decide +kernel) rfl rfl ?_
  obtain ⟨rfl, rfl, rfl, hr⟩ := e3 h0
  have hrt := hr (s 2) h2
  have hAP := hP _ hA
  obtain ⟨q1, q2, q3⟩ := e1 _ hA
  have s1 := sq2_le ha hAP.1
  have s2 := sq2_le hb hAP.2.1
  have s3 : pR s (aimS s) * pR s (aimS s) ≤ 9 * 9 := Nat.mul_le_mul hAP.2.2 hAP.2.2
  unfold reachS at hQ
  refine J_aload_n (by rfl) (by rfl) dX1_reachesTarget_0 ?_
  refine J_get dX1_reachesTarget_1 f_X1_12 (by repeat (first | assumption | exact jget_same2 (by (try simp only [List.length_set]); exact jlt (by assumption)) | refine jget_ne (by first | decide | assumption | omega) ?_)) (by rfl) ?_
  refine J_get dX1_reachesTarget_4 f_X1_53 (by repeat (first | assumption | exact jget_same2 (by (try simp only [List.length_set]); exact jlt (by assumption)) | refine jget_ne (by first | decide | assumption | omega) ?_)) (by rfl) ?_
  refine J_V0v (ci := 8) dX1_reachesTarget_7 s_X1_197 m_X8_targetWaypoint rfl (by repeat (first | assumption | exact jget_same2 (by (try simp only [List.length_set]); exact jlt (by assumption)) | refine jget_ne (by first | decide | assumption | omega) ?_)) rfl (c_X8_targetWaypoint (rt := rt) h2 h1 g8 g9 (jKv_i ?_))
  refine J_topi (nI (aimS s)) (by rw [hrt]; rfl) ?_
  refine J_istore_3 dX1_reachesTarget_10 ?_
  refine J_aload_n (by rfl) (by rfl) dX1_reachesTarget_11 ?_
  refine J_get dX1_reachesTarget_12 f_X1_12 (by repeat (first | assumption | exact jget_same2 (by (try simp only [List.length_set]); exact jlt (by assumption)) | refine jget_ne (by first | decide | assumption | omega) ?_)) (by rfl) ?_
  refine J_get dX1_reachesTarget_15 f_X1_67 (by repeat (first | assumption | exact jget_same2 (by (try simp only [List.length_set]); exact jlt (by assumption)) | refine jget_ne (by first | decide | assumption | omega) ?_)) (by rfl) ?_
  refine J_iload_n (by rfl) dX1_reachesTarget_18 ?_
  refine J_V1v (ci := 9) dX1_reachesTarget_19 s_X1_200 m_X9_radiusOf rfl (by repeat (first | assumption | exact jget_same2 (by (try simp only [List.length_set]); exact jlt (by assumption)) | refine jget_ne (by first | decide | assumption | omega) ?_)) rfl (c_X9_radiusOf hA g3 g6 (jKv_i ?_))
  refine J_topi (nI (pR s (aimS s))) (by rw [q3]) ?_
  refine J_istore_4 dX1_reachesTarget_22 ?_
  refine J_aload_n (by rfl) (by rfl) dX1_reachesTarget_24 ?_
  refine J_get dX1_reachesTarget_25 f_X1_12 (by repeat (first | assumption | exact jget_same2 (by (try simp only [List.length_set]); exact jlt (by assumption)) | refine jget_ne (by first | decide | assumption | omega) ?_)) (by rfl) ?_
  refine J_get dX1_reachesTarget_28 f_X1_67 (by repeat (first | assumption | exact jget_same2 (by (try simp only [List.length_set]); exact jlt (by assumption)) | refine jget_ne (by first | decide | assumption | omega) ?_)) (by rfl) ?_
  refine J_iload_n (by rfl) dX1_reachesTarget_31 ?_
  refine J_iload_n (by rfl) dX1_reachesTarget_32 ?_
  refine J_iload_n (by rfl) dX1_reachesTarget_33 ?_
  refine J_V3v (ci := 9) dX1_reachesTarget_34 s_X1_203 m_X9_squareTo rfl (by repeat (first | assumption | exact jget_same2 (by (try simp only [List.length_set]); exact jlt (by assumption)) | refine jget_ne (by first | decide | assumption | omega) ?_)) rfl (c_X9_squareTo hA g3 g4 g5 (jKv_i ?_))
  refine J_topi (nI (sq2 a (pX s (aimS s)) + sq2 b (pY s (aimS s)))) (by unfold sqd; rw [q1, q2]) ?_
  refine J_iload (by rfl) dX1_reachesTarget_37 ?_
  refine J_iload (by rfl) dX1_reachesTarget_39 ?_
  refine J_imul dX1_reachesTarget_41 ?_
  try rw [pk_mul]
  refine J_icmp_gt_n 49 dX1_reachesTarget_42 (by decide) (fun c42 => ?_) (fun c42 => ?_)
  · refine J_iconst (nI 0) (by decide) dX1_reachesTarget_49 ?_
    exact J_zreturn dX1_reachesTarget_50 rfl (by first | rfl | exact jb_n _) (by rw [show decide (sq2 a (pX s (aimS s)) + sq2 b (pY s (aimS s)) ≤ pR s (aimS s) * pR s (aimS s)) = false by simp; omega] at hQ; exact hQ) (by decide) (by decide) (fun _ => rfl)
  · refine J_iconst (nI 1) (by decide) dX1_reachesTarget_45 ?_
    refine J_goto 50 dX1_reachesTarget_46 (by decide) ?_
    exact J_zreturn dX1_reachesTarget_50 rfl (by first | rfl | exact jb_n _) (by rw [show decide (sq2 a (pX s (aimS s)) + sq2 b (pY s (aimS s)) ≤ pR s (aimS s) * pR s (aimS s)) = true by simp; omega] at hQ; exact hQ) (by decide) (by decide) (fun _ => rfl)
theorem c_X1_measureDrift {a b : Nat} (ha : a ≤ 99) (hb : b ≤ 99) (h0 : 0 < s 1) (h1 : s 1 ≤ 12) (h2 : s 2 < s 1) (hL : legOk s) (g : GP h s fx fy fr w rt ti x y D E L m num den)
    (hQ : ∀ h', jFr gC h h' → GP h' s fx fy fr w rt ti x y D E L m (numS s a b) (denS s a b) → Q (.inl none) h') : jCT G M_X1_measureDrift 2 0 0 X [.ref 1, .int (nI a), .int (nI b)] h Q := by
  have g0 := g
  obtain ⟨g1, g2, g3, g4, g5, g6, g7, g8, g9, g10, g11, g12, g13, g14, g15, g16, e1, e2, e3⟩ := g
  refine jCT_of [some (.ref 1), some (.int (nI a)), some (.int (nI b)), none, none, none, none, none] 5 rfl (by decide +kernel) rfl rfl ?_
  obtain ⟨rfl, rfl, rfl, hr⟩ := e3 h0
  obtain ⟨l1, l2, l3, l4, l5⟩ := hL
  have hrt := hr (s 2) h2
  have hrb := hr (s 2 - 1) (by omega)
  obtain ⟨q1, q2, q3⟩ := e1 _ l3
  obtain ⟨q4, q5, q6⟩ := e1 _ l4
  have p1 := l5 _ l3
  have p2 := l5 _ l4
  refine J_aload_n (by rfl) (by rfl) dX1_measureDrift_0 ?_
  refine J_get dX1_measureDrift_1 f_X1_12 (by repeat (first | assumption | exact jget_same2 (by (try simp only [List.length_set]); exact jlt (by assumption)) | refine jget_ne (by first | decide | assumption | omega) ?_)) (by rfl) ?_
  refine J_get dX1_measureDrift_4 f_X1_67 (by repeat (first | assumption | exact jget_same2 (by (try simp only [List.length_set]); exact jlt (by assumption)) | refine jget_ne (by first | decide | assumption | omega) ?_)) (by rfl) ?_
  refine J_astore_3 dX1_measureDrift_7 ?_
  refine J_aload_n (by rfl) (by rfl) dX1_measureDrift_8 ?_
  refine J_get dX1_measureDrift_9 f_X1_12 (by repeat (first | assumption | exact jget_same2 (by (try simp only [List.length_set]); exact jlt (by assumption)) | refine jget_ne (by first | decide | assumption | omega) ?_)) (by rfl) ?_
  refine J_get dX1_measureDrift_12 f_X1_53 (by repeat (first | assumption | exact jget_same2 (by (try simp only [List.length_set]); exact jlt (by assumption)) | refine jget_ne (by first | decide | assumption | omega) ?_)) (by rfl) ?_
  refine J_aload_n (by rfl) (by rfl) dX1_measureDrift_15 ?_
  refine J_get dX1_measureDrift_16 f_X1_12 (by repeat (first | assumption | exact jget_same2 (by (try simp only [List.length_set]); exact jlt (by assumption)) | refine jget_ne (by first | decide | assumption | omega) ?_)) (by rfl) ?_
  refine J_get dX1_measureDrift_19 f_X1_53 (by repeat (first | assumption | exact jget_same2 (by (try simp only [List.length_set]); exact jlt (by assumption)) | refine jget_ne (by first | decide | assumption | omega) ?_)) (by rfl) ?_
  refine J_get dX1_measureDrift_22 f_X1_140 (by repeat (first | assumption | exact jget_same2 (by (try simp only [List.length_set]); exact jlt (by assumption)) | refine jget_ne (by first | decide | assumption | omega) ?_)) (by rfl) ?_
  refine J_iconst (nI 1) (by decide) dX1_measureDrift_25 ?_
  refine J_isub_n (by omega) dX1_measureDrift_26 ?_
  refine J_V1v (ci := 8) dX1_measureDrift_27 s_X1_206 m_X8_waypointAt rfl (by repeat (first | assumption | exact jget_same2 (by (try simp only [List.length_set]); exact jlt (by assumption)) | refine jget_ne (by first | decide | assumption | omega) ?_)) rfl (c_X8_waypointAt (rt := rt) (i := s 2 - 1) (by omega) h1 g8 g9 (jKv_i ?_))
  refine J_topi (nI (begS s)) (by rw [hrb]; rfl) ?_
  refine J_istore_4 dX1_measureDrift_30 ?_
  refine J_aload_n (by rfl) (by rfl) dX1_measureDrift_32 ?_
  refine J_get dX1_measureDrift_33 f_X1_12 (by repeat (first | assumption | exact jget_same2 (by (try simp only [List.length_set]); exact jlt (by assumption)) | refine jget_ne (by first | decide | assumption | omega) ?_)) (by rfl) ?_
  refine J_get dX1_measureDrift_36 f_X1_53 (by repeat (first | assumption | exact jget_same2 (by (try simp only [List.length_set]); exact jlt (by assumption)) | refine jget_ne (by first | decide | assumption | omega) ?_)) (by rfl) ?_
  refine J_aload_n (by rfl) (by rfl) dX1_measureDrift_39 ?_
  refine J_get dX1_measureDrift_40 f_X1_12 (by repeat (first | assumption | exact jget_same2 (by (try simp only [List.length_set]); exact jlt (by assumption)) | refine jget_ne (by first | decide | assumption | omega) ?_)) (by rfl) ?_
  refine J_get dX1_measureDrift_43 f_X1_53 (by repeat (first | assumption | exact jget_same2 (by (try simp only [List.length_set]); exact jlt (by assumption)) | refine jget_ne (by first | decide | assumption | omega) ?_)) (by rfl) ?_
  refine J_get dX1_measureDrift_46 f_X1_140 (by repeat (first | assumption | exact jget_same2 (by (try simp only [List.length_set]); exact jlt (by assumption)) | refine jget_ne (by first | decide | assumption | omega) ?_)) (by rfl) ?_
  refine J_V1v (ci := 8) dX1_measureDrift_49 s_X1_206 m_X8_waypointAt rfl (by repeat (first | assumption | exact jget_same2 (by (try simp only [List.length_set]); exact jlt (by assumption)) | refine jget_ne (by first | decide | assumption | omega) ?_)) rfl (c_X8_waypointAt (rt := rt) (i := s 2) h2 h1 g8 g9 (jKv_i ?_))
  refine J_topi (nI (aimS s)) (by rw [hrt]; rfl) ?_
  refine J_istore_5 dX1_measureDrift_52 ?_
  refine J_aload_n (by rfl) (by rfl) dX1_measureDrift_54 ?_
  refine J_iload (by rfl) dX1_measureDrift_55 ?_
  refine J_V1v (ci := 9) dX1_measureDrift_57 s_X1_143 m_X9_xOf rfl (by repeat (first | assumption | exact jget_same2 (by (try simp only [List.length_set]); exact jlt (by assumption)) | refine jget_ne (by first | decide | assumption | omega) ?_)) rfl (c_X9_xOf l4 g3 g4 (jKv_i ?_))
  refine J_topi (nI (pX s (begS s))) (by rw [q4]) ?_
  refine J_istore_6 dX1_measureDrift_60 ?_
  refine J_aload_n (by rfl) (by rfl) dX1_measureDrift_62 ?_
  refine J_iload (by rfl) dX1_measureDrift_63 ?_
  refine J_V1v (ci := 9) dX1_measureDrift_65 s_X1_149 m_X9_yOf rfl (by repeat (first | assumption | exact jget_same2 (by (try simp only [List.length_set]); exact jlt (by assumption)) | refine jget_ne (by first | decide | assumption | omega) ?_)) rfl (c_X9_yOf l4 g3 g5 (jKv_i ?_))
  refine J_topi (nI (pY s (begS s))) (by rw [q5]) ?_
  refine J_istore_7 dX1_measureDrift_68 ?_
  refine J_aload_n (by rfl) (by rfl) dX1_measureDrift_70 ?_
  refine J_get dX1_measureDrift_71 f_X1_28 (by repeat (first | assumption | exact jget_same2 (by (try simp only [List.length_set]); exact jlt (by assumption)) | refine jget_ne (by first | decide | assumption | omega) ?_)) (by rfl) ?_
  refine J_iload_n (by rfl) dX1_measureDrift_74 ?_
  refine J_iload (by rfl) dX1_measureDrift_75 ?_
  refine J_isub dX1_measureDrift_77 ?_
  refine J_topi (iI ((a : Int) - pX s (begS s))) (nI_sub _ _) ?_
  refine J_iload_n (by rfl) dX1_measureDrift_78 ?_
  refine J_iload (by rfl) dX1_measureDrift_79 ?_
  refine J_isub dX1_measureDrift_81 ?_
  refine J_topi (iI ((b : Int) - pY s (begS s))) (nI_sub _ _) ?_
  refine J_aload_n (by rfl) (by rfl) dX1_measureDrift_82 ?_
  refine J_iload (by rfl) dX1_measureDrift_83 ?_
  refine J_V1v (ci := 9) dX1_measureDrift_85 s_X1_143 m_X9_xOf rfl (by repeat (first | assumption | exact jget_same2 (by (try simp only [List.length_set]); exact jlt (by assumption)) | refine jget_ne (by first | decide | assumption | omega) ?_)) rfl (c_X9_xOf l3 g3 g4 (jKv_i ?_))
  refine J_topi (nI (pX s (aimS s))) (by rw [q1]) ?_
  refine J_iload (by rfl) dX1_measureDrift_88 ?_
  refine J_isub dX1_measureDrift_90 ?_
  refine J_topi (iI ((pX s (aimS s) : Int) - pX s (begS s))) (nI_sub _ _) ?_
  refine J_aload_n (by rfl) (by rfl) dX1_measureDrift_91 ?_
  refine J_iload (by rfl) dX1_measureDrift_92 ?_
  refine J_V1v (ci := 9) dX1_measureDrift_94 s_X1_149 m_X9_yOf rfl (by repeat (first | assumption | exact jget_same2 (by (try simp only [List.length_set]); exact jlt (by assumption)) | refine jget_ne (by first | decide | assumption | omega) ?_)) rfl (c_X9_yOf l3 g3 g5 (jKv_i ?_))
  refine J_topi (nI (pY s (aimS s))) (by rw [q2]) ?_
  refine J_iload (by rfl) dX1_measureDrift_97 ?_
  refine J_isub dX1_measureDrift_99 ?_
  refine J_topi (iI ((pY s (aimS s) : Int) - pY s (begS s))) (nI_sub _ _) ?_
  refine J_V40 (ci := 0) dX1_measureDrift_100 s_X1_209 m_X0_measure rfl (by repeat (first | assumption | exact jget_same2 (by (try simp only [List.length_set]); exact jlt (by assumption)) | refine jget_ne (by first | decide | assumption | omega) ?_)) rfl (c_X0_measure (by omega) (by omega) (by omega) (by omega) g16 (fun h' hf hd hl => (jK0_i ?_)))
  exact J_return dX1_measureDrift_103 rfl (hQ h' ⟨hl, fun j hj => hf j (fun e => hj (by subst e; decide))⟩ (g0.drift hf hd)) (by decide) (by decide) (fun _ => rfl)
theorem c_X1_setAlarm (far : Bool) (hb : s 6 ≤ 1000) (h5 : s 5 ≤ 1) (g : GP h s fx fy fr w rt ti x y D E L m num den)
    (hQ : ∀ h', jFr gC h h' → GS h' (alarmS s far) → Q (.inl none) h') : jCT G M_X1_setAlarm 2 0 0 X [.ref 1, .int (jb far)] h Q := by
  have g0 := g
  obtain ⟨g1, g2, g3, g4, g5, g6, g7, g8, g9, g10, g11, g12, g13, g14, g15, g16, e1, e2, e3⟩ := g
  refine jCT_of [some (.ref 1), some (.int (jb far))] 0 rfl (by decide +kernel) rfl rfl ?_
  have tt : ∀ (s9 : Nat → Nat) (h9 : jH), jFr gC h h9 → GP h9 s9 fx fy fr w rt ti x y D E L m num den → alarmS s far = updN s9 5 (if far = true then 1 else 0) → GS (h9.set 8 (hTour (s9 1) ti x y far)) (alarmS s far) := fun s9 h9 hf g9 he => by
    rw [he]
    have := g9.tour (s' := updN s9 5 (if far = true then 1 else 0)) (ti' := ti) (x' := x) (y' := y) (fun k hk => updN_n (by omega)) (by
      rw [updN_n (by decide), updN_n (by decide), updN_n (by decide), updN_n (by decide)]
      intro z
      obtain ⟨r1, r2, r3, r4⟩ := g9.e3 z
      exact ⟨r1, r2, r3, fun i hi => by rw [updN_n (by omega)]; exact r4 i hi⟩)
    rw [updN_n (by decide), updN_s, show decide ((if far = true then 1 else 0) = 1) = far by cases far <;> rfl] at this
    exact GS.mk this
  refine J_iload_n (by rfl) dX1_setAlarm_0 ?_
  refine J_if_eq_b 44 dX1_setAlarm_1 (by decide) (fun c1 => ?_) (fun c1 => ?_)
  · subst c1
    refine J_aload_n (by rfl) (by rfl) dX1_setAlarm_44 ?_
    refine J_get dX1_setAlarm_45 f_X1_12 (by repeat (first | assumption | exact jget_same2 (by (try simp only [List.length_set]); exact jlt (by assumption)) | refine jget_ne (by first | decide | assumption | omega) ?_)) (by rfl) ?_
    refine J_get dX1_setAlarm_48 f_X1_53 (by repeat (first | assumption | exact jget_same2 (by (try simp only [List.length_set]); exact jlt (by assumption)) | refine jget_ne (by first | decide | assumption | omega) ?_)) (by rfl) ?_
    refine J_iload_n (by rfl) dX1_setAlarm_51 ?_
    refine J_put_5 dX1_setAlarm_52 p_X1_190 (by repeat (first | assumption | exact jget_same2 (by (try simp only [List.length_set]); exact jlt (by assumption)) | refine jget_ne (by first | decide | assumption | omega) ?_)) ?_
    exact J_return dX1_setAlarm_55 rfl (hQ _ (jFr.refl.set 8 _ (by decide)) (tt s h jFr.refl g0 (by unfold alarmS; rw [if_neg (by simp)]))) (by decide) (by decide) (fun _ => rfl)
  · subst c1
    refine J_aload_n (by rfl) (by rfl) dX1_setAlarm_4 ?_
    refine J_get dX1_setAlarm_5 f_X1_12 (by repeat (first | assumption | exact jget_same2 (by (try simp only [List.length_set]); exact jlt (by assumption)) | refine jget_ne (by first | decide | assumption | omega) ?_)) (by rfl) ?_
    refine J_get dX1_setAlarm_8 f_X1_53 (by repeat (first | assumption | exact jget_same2 (by (try simp only [List.length_set]); exact jlt (by assumption)) | refine jget_ne (by first | decide | assumption | omega) ?_)) (by rfl) ?_
    refine J_get dX1_setAlarm_11 f_X1_190 (by repeat (first | assumption | exact jget_same2 (by (try simp only [List.length_set]); exact jlt (by assumption)) | refine jget_ne (by first | decide | assumption | omega) ?_)) (by rfl) ?_
    refine J_if_ne_b 44 dX1_setAlarm_14 (by decide) (fun c14 => ?_) (fun c14 => ?_)
    · have c14 : s 5 = 1 := by simpa using c14
      refine J_aload_n (by rfl) (by rfl) dX1_setAlarm_44 ?_
      refine J_get dX1_setAlarm_45 f_X1_12 (by repeat (first | assumption | exact jget_same2 (by (try simp only [List.length_set]); exact jlt (by assumption)) | refine jget_ne (by first | decide | assumption | omega) ?_)) (by rfl) ?_
      refine J_get dX1_setAlarm_48 f_X1_53 (by repeat (first | assumption | exact jget_same2 (by (try simp only [List.length_set]); exact jlt (by assumption)) | refine jget_ne (by first | decide | assumption | omega) ?_)) (by rfl) ?_
      refine J_iload_n (by rfl) dX1_setAlarm_51 ?_
      refine J_put_5 dX1_setAlarm_52 p_X1_190 (by repeat (first | assumption | exact jget_same2 (by (try simp only [List.length_set]); exact jlt (by assumption)) | refine jget_ne (by first | decide | assumption | omega) ?_)) ?_
      exact J_return dX1_setAlarm_55 rfl (hQ _ (jFr.refl.set 8 _ (by decide)) (tt s h jFr.refl g0 (by unfold alarmS; rw [if_neg (by omega)]))) (by decide) (by decide) (fun _ => rfl)
    · have c14 : ¬ s 5 = 1 := by simpa using c14
      refine J_aload_n (by rfl) (by rfl) dX1_setAlarm_17 ?_
      refine J_get dX1_setAlarm_18 f_X1_12 (by repeat (first | assumption | exact jget_same2 (by (try simp only [List.length_set]); exact jlt (by assumption)) | refine jget_ne (by first | decide | assumption | omega) ?_)) (by rfl) ?_
      refine J_get dX1_setAlarm_21 f_X1_92 (by repeat (first | assumption | exact jget_same2 (by (try simp only [List.length_set]); exact jlt (by assumption)) | refine jget_ne (by first | decide | assumption | omega) ?_)) (by rfl) ?_
      refine J_dup (by rfl) dX1_setAlarm_24 ?_
      refine J_get dX1_setAlarm_25 f_X1_194 (by repeat (first | assumption | exact jget_same2 (by (try simp only [List.length_set]); exact jlt (by assumption)) | refine jget_ne (by first | decide | assumption | omega) ?_)) (by rfl) ?_
      refine J_iconst (nI 1) (by decide) dX1_setAlarm_28 ?_
      refine J_iadd dX1_setAlarm_29 ?_
      try rw [nI_add]
      refine J_put_4 dX1_setAlarm_30 p_X1_194 (by repeat (first | assumption | exact jget_same2 (by (try simp only [List.length_set]); exact jlt (by assumption)) | refine jget_ne (by first | decide | assumption | omega) ?_)) ?_
      refine J_aload_n (by rfl) (by rfl) dX1_setAlarm_33 ?_
      refine J_get dX1_setAlarm_34 f_X1_12 (by repeat (first | assumption | exact jget_same2 (by (try simp only [List.length_set]); exact jlt (by assumption)) | refine jget_ne (by first | decide | assumption | omega) ?_)) (by rfl) ?_
      refine J_get dX1_setAlarm_37 f_X1_92 (by repeat (first | assumption | exact jget_same2 (by (try simp only [List.length_set]); exact jlt (by assumption)) | refine jget_ne (by first | decide | assumption | omega) ?_)) (by rfl) ?_
      refine J_iconst (nI 5) (by decide) dX1_setAlarm_40 ?_
      refine J_V10 (ci := 4) dX1_setAlarm_41 s_X1_164 m_X4_spend rfl (by repeat (first | assumption | exact jget_same2 (by (try simp only [List.length_set]); exact jlt (by assumption)) | refine jget_ne (by first | decide | assumption | omega) ?_)) rfl (c_X4_spend (b := s 6) (m := s 7) (t := s 8) (u := s 9) (a := s 10 + 1) (r := s 11) (v := 5) hb (by decide) (by repeat (first | assumption | exact jget_same2 (by (try simp only [List.length_set]); exact jlt (by assumption)) | refine jget_ne (by first | decide | assumption | omega) ?_)) (jK0_i ?_))
      rw [List.set_set]
      have gm : GP (h.set 10 (hMeter (s 6 - 5) (s 7) (s 8) (s 9) (s 10 + 1) (s 11))) (drainS (updN s 10 (s 10 + 1)) 5) fx fy fr w rt ti x y D E L m num den := g0.meter (s' := drainS (updN s 10 (s 10 + 1)) 5) (fun k hk => by unfold drainS; rw [updN_n (by omega), updN_n (by omega)])
      have hfr : jFr gC h (h.set 10 (hMeter (s 6 - 5) (s 7) (s 8) (s 9) (s 10 + 1) (s 11))) := jFr.refl.set 10 _ (by decide)
      generalize h.set 10 (hMeter (s 6 - 5) (s 7) (s 8) (s 9) (s 10 + 1) (s 11)) = h9 at gm hfr ⊢
      have k1 := gm.g1
      have k2 := gm.g2
      have k8 : h9[8]? = some (hTour (s 1) ti x y (decide (s 5 = 1))) := gm.g8
      refine J_aload_n (by rfl) (by rfl) dX1_setAlarm_44 ?_
      refine J_get dX1_setAlarm_45 f_X1_12 (by repeat (first | assumption | exact jget_same2 (by (try simp only [List.length_set]); exact jlt (by assumption)) | refine jget_ne (by first | decide | assumption | omega) ?_)) (by rfl) ?_
      refine J_get dX1_setAlarm_48 f_X1_53 (by repeat (first | assumption | exact jget_same2 (by (try simp only [List.length_set]); exact jlt (by assumption)) | refine jget_ne (by first | decide | assumption | omega) ?_)) (by rfl) ?_
      refine J_iload_n (by rfl) dX1_setAlarm_51 ?_
      refine J_put_5 dX1_setAlarm_52 p_X1_190 (by repeat (first | assumption | exact jget_same2 (by (try simp only [List.length_set]); exact jlt (by assumption)) | refine jget_ne (by first | decide | assumption | omega) ?_)) ?_
      exact J_return dX1_setAlarm_55 rfl (hQ _ (hfr.set 8 _ (by decide)) (tt (drainS (updN s 10 (s 10 + 1)) 5) h9 hfr gm (by unfold alarmS; rw [if_pos ⟨rfl, by omega⟩]))) (by decide) (by decide) (fun _ => rfl)
theorem c_X1_endTour (I : Inv K s) (h0 : 0 < s 1) (g : GP h s fx fy fr w rt ti x y D E L m num den)
    (hQ : ∀ h', jFr gC h h' → GS h' (overS s) → Q (.inl (some (.int (nI (s 1 - s 2))))) h') : jCT G M_X1_endTour 2 0 0 X [.ref 1] h Q := by
  have g0 := g
  obtain ⟨g1, g2, g3, g4, g5, g6, g7, g8, g9, g10, g11, g12, g13, g14, g15, g16, e1, e2, e3⟩ := g
  obtain ⟨rfl, rfl, rfl, hr⟩ := e3 h0
  have ht := (I.t h0).2.2.2.1
  refine jCT_of [some (.ref 1), none] 1 rfl (by decide +kernel) rfl rfl ?_
  refine J_aload_n (by rfl) (by rfl) dX1_endTour_0 ?_
  refine J_get dX1_endTour_1 f_X1_12 (by repeat (first | assumption | exact jget_same2 (by (try simp only [List.length_set]); exact jlt (by assumption)) | refine jget_ne (by first | decide | assumption | omega) ?_)) (by rfl) ?_
  refine J_get dX1_endTour_4 f_X1_53 (by repeat (first | assumption | exact jget_same2 (by (try simp only [List.length_set]); exact jlt (by assumption)) | refine jget_ne (by first | decide | assumption | omega) ?_)) (by rfl) ?_
  refine J_get dX1_endTour_7 f_X1_155 (by repeat (first | assumption | exact jget_same2 (by (try simp only [List.length_set]); exact jlt (by assumption)) | refine jget_ne (by first | decide | assumption | omega) ?_)) (by rfl) ?_
  refine J_aload_n (by rfl) (by rfl) dX1_endTour_10 ?_
  refine J_get dX1_endTour_11 f_X1_12 (by repeat (first | assumption | exact jget_same2 (by (try simp only [List.length_set]); exact jlt (by assumption)) | refine jget_ne (by first | decide | assumption | omega) ?_)) (by rfl) ?_
  refine J_get dX1_endTour_14 f_X1_53 (by repeat (first | assumption | exact jget_same2 (by (try simp only [List.length_set]); exact jlt (by assumption)) | refine jget_ne (by first | decide | assumption | omega) ?_)) (by rfl) ?_
  refine J_get dX1_endTour_17 f_X1_140 (by repeat (first | assumption | exact jget_same2 (by (try simp only [List.length_set]); exact jlt (by assumption)) | refine jget_ne (by first | decide | assumption | omega) ?_)) (by rfl) ?_
  refine J_isub_n (by omega) dX1_endTour_20 ?_
  refine J_istore_1 dX1_endTour_21 ?_
  refine J_aload_n (by rfl) (by rfl) dX1_endTour_22 ?_
  refine J_get dX1_endTour_23 f_X1_12 (by repeat (first | assumption | exact jget_same2 (by (try simp only [List.length_set]); exact jlt (by assumption)) | refine jget_ne (by first | decide | assumption | omega) ?_)) (by rfl) ?_
  refine J_get dX1_endTour_26 f_X1_53 (by repeat (first | assumption | exact jget_same2 (by (try simp only [List.length_set]); exact jlt (by assumption)) | refine jget_ne (by first | decide | assumption | omega) ?_)) (by rfl) ?_
  refine J_V00 (ci := 8) dX1_endTour_29 s_X1_130 m_X8_end rfl (by repeat (first | assumption | exact jget_same2 (by (try simp only [List.length_set]); exact jlt (by assumption)) | refine jget_ne (by first | decide | assumption | omega) ?_)) rfl (c_X8_end g8 (jK0_i ?_))
  refine J_iload_n (by rfl) dX1_endTour_32 ?_
  exact J_ireturn dX1_endTour_33 rfl (by
    simp only [List.set_set]
    exact hQ _ (jFr.refl.set 8 _ (by decide)) (GS.mk (g0.tour (s' := overS s) (ti' := 0) (x' := s 3) (y' := s 4) (fun k hk => by unfold overS; rw [if_neg (by omega)]) (fun z => absurd z (show ¬ 0 < 0 by decide))))) (by decide) (by decide) (fun _ => rfl)
end GUIDE2
