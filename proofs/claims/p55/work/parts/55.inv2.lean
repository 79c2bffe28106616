/-! What the law needs of every state beyond Inv: the route's waypoints differ, four waypoints stay -/
def Rt (s : Nat → Nat) : Prop := 0 < s 1 → ∀ i j, i < j → j < s 1 → s (192 + i) ≠ s (192 + j)
theorem Rt.upd {s s' : Nat → Nat} (R : Rt s) (h1 : s' 1 = s 1) (h : ∀ i, i < s 1 → s' (192 + i) = s (192 + i)) : Rt s' := by
  intro h0 i j hij hj
  rw [h1] at h0 hj
  rw [h i (by omega), h j hj]
  exact R h0 i j hij hj
theorem Rt.z {s : Nat → Nat} (h : s 1 = 0) : Rt s := fun h0 => by omega
/-- the route goes down -/
theorem ro_dec {n a c : Nat} {w : Nat → Nat} (g : Gr n w) (hc : c < n) (hf : dst w a c < 99999) {i : Nat} : ∀ j, i < j → (∀ q, q < j → ro w n a c q ≠ a) → dst w a (ro w n a c j) < dst w a (ro w n a c i)
  | 0, h, _ => by omega
  | j + 1, h, hq => by
    have h1 := ro_spec g hc hf j (fun q hq1 => hq q (by omega))
    have hn := g.n12
    obtain ⟨h4, h5, h6⟩ := nxt_spec g (c := ro w n a c j) (by omega) (hq j (by omega)) h1.2.1
    have h7 : dst w a (ro w n a c (j + 1)) < dst w a (ro w n a c j) := by show dst w a (nxt w n a (ro w n a c j)) < _; omega
    by_cases e : i = j
    · subst e; exact h7
    · have := ro_dec (i := i) g hc hf j (by omega) (fun q hq1 => hq q (by omega))
      omega
theorem watchS_o {s : Nat → Nat} {k : Nat} (h5 : k ≠ 5) (h6 : k ≠ 6) (h10 : k ≠ 10) : watchS s k = s k := by
  unfold watchS drainS
  rw [updN_n h5]
  split
  · rw [updN_n h6, updN_n h10]
  · rfl
theorem setT_o {s : Nat → Nat} {i j v k : Nat} (hi : i < 12) (hj : j < 12) (hk : k < 48 ∨ 192 ≤ k) : setT s i j v k = s k := by
  unfold setT
  rw [updN_n (by omega), updN_n (by omega)]
theorem Rt_move {K : Nat} {s : Nat → Nat} {x y : Int32} (I : Inv K s) (R : Rt s) : Rt (N7 s x y) ∧ N7 s x y 0 = s 0 := by
  have hs1 := I.s1
  have hA : ∀ k, k ≠ 3 → k ≠ 4 → k ≠ 6 → k ≠ 9 → moveA s (nP x) (nP y) k = s k := fun k a b c d => moveA_e a b c d
  have key : ∀ t : Nat → Nat, t 1 = s 1 → t 0 = s 0 → (∀ i, i < s 1 → t (192 + i) = s (192 + i)) → Rt (moveC t) ∧ moveC t 0 = s 0 := by
    intro t h1 h0 hr
    unfold moveC
    split
    · exact ⟨Rt.z rfl, by unfold overS; rw [if_neg (by omega)]; exact h0⟩
    · exact ⟨R.upd (by rw [watchS_o (by decide) (by decide) (by decide)]; exact h1) (fun i hi => by rw [watchS_o (by omega) (by omega) (by omega)]; exact hr i hi), by rw [watchS_o (by decide) (by decide) (by decide)]; exact h0⟩
  unfold N7
  split
  · exact key _ (by rw [moveB_e (by decide) (by decide) (by decide), hA 1 (by decide) (by decide) (by decide) (by decide)]) (by rw [moveB_e (by decide) (by decide) (by decide), hA 0 (by decide) (by decide) (by decide) (by decide)]) (fun i hi => by rw [moveB_e (by omega) (by omega) (by omega), hA _ (by omega) (by omega) (by omega) (by omega)])
  · exact key _ (hA 1 (by decide) (by decide) (by decide) (by decide)) (hA 0 (by decide) (by decide) (by decide) (by decide)) (fun i hi => hA _ (by omega) (by omega) (by omega) (by omega))
theorem Rt_op {K k : Nat} {s : Nat → Nat} {x y z : Int32} (I : Inv K s) (R : Rt s) (hk : k ≤ 8) : Rt (opN s k x y z) ∧ s 0 ≤ opN s k x y z 0 := by
  have hn := I.n12
  have hs1 := I.s1
  by_cases hT : opT s k x y z = 0
  · unfold opN
    rw [if_pos hT]
    rcases (show k = 0 ∨ k = 1 ∨ k = 2 ∨ k = 3 ∨ k = 4 ∨ k = 5 ∨ k = 6 ∨ k = 7 ∨ k = 8 by omega) with rfl | rfl | rfl | rfl | rfl | rfl | rfl | rfl | rfl
    · obtain ⟨q1, q2, q3⟩ := T0_0 hT
      rw [if_pos rfl]
      unfold N0
      refine ⟨R.upd (by rw [updN_n (by omega), updN_n (by omega), updN_n (by omega), updN_n (by omega)]) (fun i hi => by rw [updN_n (by omega), updN_n (by omega), updN_n (by omega), updN_n (by omega)]), ?_⟩
      rw [updN_s]
      omega
    · obtain ⟨q1, q2, q3, q4⟩ := T1_0 hT
      obtain ⟨i, j, rfl, rfl, hi, hj, p1, p2⟩ := both_0 q1 hn
      rw [if_neg (by decide), if_pos rfl]
      unfold N1
      rw [p1, p2]
      exact ⟨R.upd (setT_o (by omega) (by omega) (by omega)) (fun q hq => setT_o (by omega) (by omega) (by omega)), by rw [setT_o (by omega) (by omega) (by omega)]; exact Nat.le_refl _⟩
    · obtain ⟨q1, q4⟩ := T2_0 hT
      obtain ⟨i, j, rfl, rfl, hi, hj, p1, p2⟩ := both_0 q1 hn
      rw [if_neg (by decide), if_neg (by decide), if_pos rfl]
      unfold N2
      rw [p1, p2]
      exact ⟨R.upd (setT_o (by omega) (by omega) (by omega)) (fun q hq => setT_o (by omega) (by omega) (by omega)), by rw [setT_o (by omega) (by omega) (by omega)]; exact Nat.le_refl _⟩
    · obtain ⟨q1, q2, q3, q4⟩ := T3_0 hT
      obtain ⟨i, j, rfl, rfl, hi, hj, p1, p2⟩ := both_0 q1 hn
      rw [p1, p2] at q4
      rw [if_neg (by decide), if_neg (by decide), if_neg (by decide), if_pos rfl]
      obtain ⟨r1, r2, r3, r4⟩ := rL_spec (a := j) (c := i) I.g hi (fun e => q2 (by rw [e])) q4
      refine ⟨fun h0 a b hab hb => ?_, by rw [N3_o (by omega)]; exact Nat.le_refl _⟩
      rw [N3_1, p1, p2] at hb
      unfold rLS at hb
      rw [N3_r (by rw [p1, p2]; unfold rLS; omega), N3_r (by rw [p1, p2]; unfold rLS; omega), p1, p2]
      have h9 := ro_dec (a := j) (c := i) I.g hi q4 (i := a) b hab (fun q hq => r2 q (by omega))
      intro e
      unfold roS at e
      rw [e] at h9
      omega
    · rw [if_neg (by decide), if_neg (by decide), if_neg (by decide), if_neg (by decide), if_pos rfl]
      unfold N4
      exact ⟨R.upd (updN_n (by omega)) (fun q hq => updN_n (by omega)), by rw [updN_n (by omega)]; exact Nat.le_refl _⟩
    · rw [if_neg (by decide), if_neg (by decide), if_neg (by decide), if_neg (by decide), if_neg (by decide), if_pos rfl]
      unfold N5
      exact ⟨R.upd (updN_n (by omega)) (fun q hq => updN_n (by omega)), by rw [updN_n (by omega)]; exact Nat.le_refl _⟩
    · rw [if_neg (by decide), if_neg (by decide), if_neg (by decide), if_neg (by decide), if_neg (by decide), if_neg (by decide), if_pos rfl]
      unfold N6
      exact ⟨R.upd (updN_n (by omega)) (fun q hq => updN_n (by omega)), by rw [updN_n (by omega)]; exact Nat.le_refl _⟩
    · rw [if_neg (by decide), if_neg (by decide), if_neg (by decide), if_neg (by decide), if_neg (by decide), if_neg (by decide), if_neg (by decide), if_pos rfl]
      have := Rt_move (x := x) (y := y) I R
      exact ⟨this.1, by rw [this.2]; exact Nat.le_refl _⟩
    · rw [if_neg (by decide), if_neg (by decide), if_neg (by decide), if_neg (by decide), if_neg (by decide), if_neg (by decide), if_neg (by decide), if_neg (by decide)]
      exact ⟨Rt.z rfl, by unfold overS; rw [if_neg (by omega)]; exact Nat.le_refl _⟩
  · unfold opN
    rw [if_neg hT]
    exact ⟨R, Nat.le_refl _⟩
theorem op_8 {s : Nat → Nat} {k : Nat} {x y z : Int32} (hk : 8 ≤ k) : opN s k x y z = opN s 8 x y z := by
  unfold opN opT
  simp only [show k ≠ 0 by omega, show k ≠ 1 by omega, show k ≠ 2 by omega, show k ≠ 3 by omega, show k ≠ 4 by omega, show k ≠ 5 by omega, show k ≠ 6 by omega, show k ≠ 7 by omega, if_false, show (8 : Nat) ≠ 0 by decide, show (8 : Nat) ≠ 1 by decide, show (8 : Nat) ≠ 2 by decide, show (8 : Nat) ≠ 3 by decide, show (8 : Nat) ≠ 4 by decide, show (8 : Nat) ≠ 5 by decide, show (8 : Nat) ≠ 6 by decide, show (8 : Nat) ≠ 7 by decide]
theorem Rt_run : ∀ (L : List (Nat × List Nat)) {K : Nat} {s s' : Nat → Nat} {j : Nat}, Inv K s → Rt s → runS L s j = (none, s') → Rt s' ∧ s 0 ≤ s' 0
  | [], K, s, s', j, I, R, h => by
    have e : s = s' := congrArg Prod.snd h
    subst e
    exact ⟨R, Nat.le_refl _⟩
  | (k, V) :: r, K, s, s', j, I, R, h => by
    unfold runS at h
    split at h
    · by_cases hk : k ≤ 8
      · have h1 := Rt_op (x := ar1 V 0) (y := ar1 V 1) (z := ar1 V 2) I R hk
        have h2 := Rt_run r (Inv_op I hk) h1.1 h
        exact ⟨h2.1, by omega⟩
      · rw [op_8 (by omega)] at h
        have h1 := Rt_op (x := ar1 V 0) (y := ar1 V 1) (z := ar1 V 2) I R (k := 8) (by omega)
        have h2 := Rt_run r (Inv_op I (k := 8) (by omega)) h1.1 h
        exact ⟨h2.1, by omega⟩
    · cases h
