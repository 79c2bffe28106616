/-! What holds of every state stays -/
theorem Inv.upd {K K' : Nat} {s s' : Nat → Nat} (I : Inv K s) (h0 : ∀ k, k = 0 ∨ 12 ≤ k ∧ k < 192 → s' k = s k) (ht : 0 < s' 1 → 2 ≤ s' 1 ∧ s' 1 ≤ 12 ∧ 1 ≤ s' 2 ∧ s' 2 < s' 1 ∧ s' 3 ≤ 99 ∧ s' 4 ≤ 99 ∧ ∀ i, i < s' 1 → s' (192 + i) < s' 0)
    (a1 : s' 5 ≤ 1) (a0 : s' 1 = 0 → s' 5 = 0) (b : s' 6 ≤ 1000) (mo : s' 7 ≤ 2) (tl : 1 ≤ s' 8 ∧ s' 8 ≤ 30) (u : s' 9 ≤ K' ∧ s' 10 ≤ s' 9 ∧ s' 11 ≤ K') : Inv K' s' := by
  have hw : ∀ k, k < 144 → wS s k = wS s' k := fun k hk => (h0 _ (by omega)).symm
  refine ⟨?_, ?_, ?_, ht, a1, a0, b, mo, tl, u⟩
  · rw [h0 0 (by omega)]; exact I.g.congr hw
  · intro i hi; rw [← hw _ (by omega)]; exact I.nl i hi
  · intro i hi
    unfold pX pY pR
    rw [h0 _ (by omega), h0 _ (by omega), h0 _ (by omega)]
    exact I.p i hi
theorem Inv.tu {K j v : Nat} {s : Nat → Nat} (I : Inv K s) (hj : 6 ≤ j ∧ j < 12) : 0 < updN s j v 1 → 2 ≤ updN s j v 1 ∧ updN s j v 1 ≤ 12 ∧ 1 ≤ updN s j v 2 ∧ updN s j v 2 < updN s j v 1 ∧ updN s j v 3 ≤ 99 ∧ updN s j v 4 ≤ 99 ∧ ∀ i, i < updN s j v 1 → updN s j v (192 + i) < updN s j v 0 := by
  rw [updN_n (k := 0) (by omega), updN_n (k := 1) (by omega), updN_n (k := 2) (by omega), updN_n (k := 3) (by omega), updN_n (k := 4) (by omega)]
  intro h0
  obtain ⟨t1, t2, t3, t4, t5, t6, t7⟩ := I.t h0
  exact ⟨t1, t2, t3, t4, t5, t6, fun i hi => by rw [updN_n (by omega)]; exact t7 i hi⟩
theorem Inv.mono {K K' : Nat} {s : Nat → Nat} (I : Inv K s) (h : K ≤ K') : Inv K' s := I.upd (fun _ _ => rfl) I.t I.a1 I.a0 I.b I.mo I.tl ⟨Nat.le_trans I.u.1 h, I.u.2.1, Nat.le_trans I.u.2.2 h⟩
theorem Inv.ext {K : Nat} {s s' : Nat → Nat} (I : Inv K s) (h : ∀ k, k < 204 → s' k = s k) : Inv K s' := by
  refine I.upd (fun k hk => h k (by omega)) ?_ ?_ ?_ ?_ ?_ ?_ ?_
  · rw [h 0 (by omega), h 1 (by omega), h 2 (by omega), h 3 (by omega), h 4 (by omega)]
    intro h0
    obtain ⟨t1, t2, t3, t4, t5, t6, t7⟩ := I.t h0
    exact ⟨t1, t2, t3, t4, t5, t6, fun i hi => by rw [h _ (by omega)]; exact t7 i hi⟩
  · rw [h 5 (by omega)]; exact I.a1
  · rw [h 5 (by omega), h 1 (by omega)]; exact I.a0
  · rw [h 6 (by omega)]; exact I.b
  · rw [h 7 (by omega)]; exact I.mo
  · rw [h 8 (by omega)]; exact I.tl
  · rw [h 9 (by omega), h 10 (by omega), h 11 (by omega)]; exact I.u
theorem Inv.setT {K : Nat} {s : Nat → Nat} {i j c : Nat} (I : Inv K s) (hi : i < s 0) (hj : j < s 0) (hne : i ≠ j) (hc : c ≤ 99) : Inv K (setT s i j c) := by
  have hn := I.n12
  have hs : ∀ k, (k < 48 ∨ 192 ≤ k) → id (updN (updN s (48 + (i * 12 + j)) c) (48 + (j * 12 + i)) c) k = s k := fun k h1 => by show updN _ _ _ k = _; rw [updN_n (by omega), updN_n (by omega)]
  have hw : ∀ a b, a < 12 → b < 12 → wS (id (updN (updN s (48 + (i * 12 + j)) c) (48 + (j * 12 + i)) c)) (a * 12 + b) = if (a = i ∧ b = j) ∨ (a = j ∧ b = i) then c else wS s (a * 12 + b) := fun a b ha hb => wS_setT (by omega) (by omega) ha hb
  show Inv K (id (updN (updN s (48 + (i * 12 + j)) c) (48 + (j * 12 + i)) c))
  generalize id (updN (updN s (48 + (i * 12 + j)) c) (48 + (j * 12 + i)) c) = s' at *
  refine ⟨?_, ?_, ?_, ?_, ?_, ?_, ?_, ?_, ?_, ?_⟩
  · rw [hs 0 (by omega)]
    refine ⟨hn, fun a b ha hb => ?_, fun a b ha hb hp => ?_, fun a b ha hb => ?_⟩
    · rw [hw a b ha hb]; split
      · exact hc
      · exact I.g.le a b ha hb
    · rw [hw a b ha hb] at hp
      split at hp
      · omega
      · exact I.g.inn a b ha hb hp
    · rw [hw a b ha hb, hw b a hb ha]
      split
      · rw [if_pos (by omega)]
      · rw [if_neg (by omega)]; exact I.g.sym a b ha hb
  · intro a ha; rw [hw a a ha ha, if_neg (by omega)]; exact I.nl a ha
  · intro q hq
    unfold pX pY pR
    rw [hs _ (by omega), hs _ (by omega), hs _ (by omega)]
    exact I.p q hq
  · rw [hs 0 (by omega), hs 1 (by omega), hs 2 (by omega), hs 3 (by omega), hs 4 (by omega)]
    intro h0
    obtain ⟨t1, t2, t3, t4, t5, t6, t7⟩ := I.t h0
    exact ⟨t1, t2, t3, t4, t5, t6, fun q hq => by rw [hs _ (by omega)]; exact t7 q hq⟩
  · rw [hs 5 (by omega)]; exact I.a1
  · rw [hs 5 (by omega), hs 1 (by omega)]; exact I.a0
  · rw [hs 6 (by omega)]; exact I.b
  · rw [hs 7 (by omega)]; exact I.mo
  · rw [hs 8 (by omega)]; exact I.tl
  · rw [hs 9 (by omega), hs 10 (by omega), hs 11 (by omega)]; exact I.u
theorem Inv_alarm {K : Nat} {s : Nat → Nat} {far : Bool} (I : Inv K s) (h : s 10 + 1 ≤ s 9) (h1 : 0 < s 1) : Inv K (alarmS s far) := by
  have hb := I.b
  have hu := I.u
  have e5 : alarmS s far 5 = if far = true then 1 else 0 := by unfold alarmS; rw [updN_s]
  have ho : ∀ k, k ≠ 5 → k ≠ 6 → k ≠ 10 → alarmS s far k = s k := fun k q1 q2 q3 => by
    unfold alarmS; rw [updN_n q1]
    split
    · unfold drainS; rw [updN_n q2, updN_n q3]
    · rfl
  have e6 : alarmS s far 6 ≤ s 6 := by
    unfold alarmS; rw [updN_n (by decide)]
    split
    · unfold drainS; rw [updN_s, updN_n (by decide)]; omega
    · exact Nat.le_refl _
  have e10 : alarmS s far 10 ≤ s 10 + 1 := by
    unfold alarmS; rw [updN_n (by decide)]
    split
    · unfold drainS; rw [updN_n (by decide), updN_s]; exact Nat.le_refl _
    · omega
  have q1 := ho 1 (by decide) (by decide) (by decide)
  refine I.upd (fun k hk => ho k (by omega) (by omega) (by omega)) ?_ ?_ ?_ ?_ ?_ ?_ ?_
  · rw [q1, ho 0 (by decide) (by decide) (by decide), ho 2 (by decide) (by decide) (by decide), ho 3 (by decide) (by decide) (by decide), ho 4 (by decide) (by decide) (by decide)]
    intro h0
    obtain ⟨t1, t2, t3, t4, t5, t6, t7⟩ := I.t h0
    exact ⟨t1, t2, t3, t4, t5, t6, fun i hi => by rw [ho _ (by omega) (by omega) (by omega)]; exact t7 i hi⟩
  · rw [e5]; split <;> omega
  · rw [q1]; intro z; omega
  · omega
  · rw [ho 7 (by decide) (by decide) (by decide)]; exact I.mo
  · rw [ho 8 (by decide) (by decide) (by decide)]; exact I.tl
  · rw [ho 9 (by decide) (by decide) (by decide), ho 11 (by decide) (by decide) (by decide)]; omega
theorem Inv_over {K K' : Nat} {s s' : Nat → Nat} (I : Inv K s) (h0 : ∀ k, k = 0 ∨ 12 ≤ k ∧ k < 192 → s' k = s k) (b : s' 6 ≤ 1000) (mo : s' 7 ≤ 2) (tl : 1 ≤ s' 8 ∧ s' 8 ≤ 30) (u : s' 9 ≤ K' ∧ s' 10 ≤ s' 9 ∧ s' 11 ≤ K') : Inv K' (overS s') := by
  have e1 : overS s' 1 = 0 := rfl
  have e5 : overS s' 5 = 0 := rfl
  have ho : ∀ k, k = 0 ∨ 6 ≤ k ∧ k < 192 → overS s' k = s' k := fun k hk => by unfold overS; rw [if_neg (by omega)]
  refine I.upd (fun k hk => by rw [ho k (by omega)]; exact h0 k hk) ?_ ?_ ?_ ?_ ?_ ?_ ?_
  · intro z; omega
  · omega
  · intro _; exact e5
  · rw [ho 6 (by omega)]; exact b
  · rw [ho 7 (by omega)]; exact mo
  · rw [ho 8 (by omega)]; exact tl
  · rw [ho 9 (by omega), ho 10 (by omega), ho 11 (by omega)]; exact u
theorem Inv_move {K : Nat} {s : Nat → Nat} {a b : Nat} (I : Inv K s) (h0 : 0 < s 1) (ha : a ≤ 99) (hb : b ≤ 99) : Inv (K + 1) (N7 s (nI a) (nI b)) := by
  have hPa : nP (nI a) = a := nP_nI (by omega)
  have hPb : nP (nI b) = b := nP_nI (by omega)
  unfold N7
  rw [hPa, hPb]
  obtain ⟨t1, t2, t3, t4, t5, t6, t7⟩ := I.t h0
  obtain ⟨u1, u2, u3⟩ := I.u
  have hbt := I.b
  have mo : ∀ k, k ≠ 3 → k ≠ 4 → k ≠ 6 → k ≠ 9 → moveA s a b k = s k := fun k q1 q2 q3 q4 => moveA_e q1 q2 q3 q4
  have m3 : moveA s a b 3 = a := by unfold moveA drainS; rw [updN_n (by decide), updN_n (by decide), updN_n (by decide), updN_s]
  have m4 : moveA s a b 4 = b := by unfold moveA drainS; rw [updN_n (by decide), updN_n (by decide), updN_s]
  have m6 : moveA s a b 6 ≤ 1000 := by unfold moveA drainS; rw [updN_s, updN_n (by decide), updN_n (by decide), updN_n (by decide)]; omega
  have m9 : moveA s a b 9 = s 9 + 1 := by unfold moveA drainS; rw [updN_n (by decide), updN_s]
  have m1 := mo 1 (by decide) (by decide) (by decide) (by decide)
  have m2 := mo 2 (by decide) (by decide) (by decide) (by decide)
  have m5 := mo 5 (by decide) (by decide) (by decide) (by decide)
  have m7 := mo 7 (by decide) (by decide) (by decide) (by decide)
  have m8 := mo 8 (by decide) (by decide) (by decide) (by decide)
  have m10 := mo 10 (by decide) (by decide) (by decide) (by decide)
  have m11 := mo 11 (by decide) (by decide) (by decide) (by decide)
  have m0 := mo 0 (by decide) (by decide) (by decide) (by decide)
  generalize moveA s a b = sA at *
  have IA : Inv (K + 1) sA := by
    refine I.upd (fun k hk => mo k (by omega) (by omega) (by omega) (by omega)) ?_ ?_ ?_ m6 ?_ ?_ ?_
    · rw [m1, m2, m3, m4, m0]; intro _; exact ⟨t1, t2, t3, t4, ha, hb, fun i hi => by rw [mo _ (by omega) (by omega) (by omega) (by omega)]; exact t7 i hi⟩
    · rw [m5]; exact I.a1
    · rw [m1, m5]; exact I.a0
    · rw [m7]; exact I.mo
    · rw [m8]; exact I.tl
    · rw [m9, m10, m11]; omega
  by_cases hr : reachS sA a b = true
  · rw [if_pos hr]
    have no : ∀ k, k ≠ 2 → k ≠ 6 → k ≠ 11 → moveB sA k = sA k := fun k q1 q2 q3 => moveB_e q1 q2 q3
    have n2 : moveB sA 2 = s 2 + 1 := by unfold moveB; rw [updN_s, m2]
    have n6 : moveB sA 6 ≤ 1000 := by unfold moveB; rw [updN_n (by decide)]; unfold drainS; rw [updN_s, updN_n (by decide)]; omega
    have n11 : moveB sA 11 = s 11 + 1 := by unfold moveB drainS; rw [updN_n (by decide), updN_n (by decide), updN_s, m11]
    have n0 := no 0 (by decide) (by decide) (by decide)
    have n1 := no 1 (by decide) (by decide) (by decide)
    have n3 := no 3 (by decide) (by decide) (by decide)
    have n4 := no 4 (by decide) (by decide) (by decide)
    have n5 := no 5 (by decide) (by decide) (by decide)
    have n7 := no 7 (by decide) (by decide) (by decide)
    have n8 := no 8 (by decide) (by decide) (by decide)
    have n9 := no 9 (by decide) (by decide) (by decide)
    have n10 := no 10 (by decide) (by decide) (by decide)
    unfold moveC
    by_cases hl : moveB sA 2 = moveB sA 1
    · rw [if_pos hl]
      exact Inv_over IA (fun k hk => no k (by omega) (by omega) (by omega)) n6 (by rw [n7, m7]; exact I.mo) (by rw [n8, m8]; exact I.tl) (by rw [n9, n10, n11]; omega)
    · rw [if_neg hl, watchS_eq]
      refine Inv_alarm ?_ (by rw [n9, n10]; omega) (by omega)
      refine IA.upd (fun k hk => no k (by omega) (by omega) (by omega)) ?_ ?_ ?_ n6 ?_ ?_ ?_
      · rw [n0, n1, n2, n3, n4, m1, m3, m4, m0]; intro _; exact ⟨t1, t2, by omega, by omega, ha, hb, fun i hi => by rw [no _ (by omega) (by omega) (by omega), mo _ (by omega) (by omega) (by omega) (by omega)]; exact t7 i hi⟩
      · rw [n5, m5]; exact I.a1
      · rw [n1, n5, m1, m5]; exact I.a0
      · rw [n7, m7]; exact I.mo
      · rw [n8, m8]; exact I.tl
      · rw [n9, n10, n11]; omega
  · rw [if_neg hr]
    unfold moveC
    rw [if_neg (by omega), watchS_eq]
    exact Inv_alarm IA (by omega) (by omega)
theorem Inv_op {K k : Nat} {s : Nat → Nat} {x y z : Int32} (I : Inv K s) (hk : k ≤ 8) : Inv (K + 1) (opN s k x y z) := by
  have hn := I.n12
  by_cases hT : opT s k x y z = 0
  · unfold opN
    rw [if_pos hT]
    rcases (show k = 0 ∨ k = 1 ∨ k = 2 ∨ k = 3 ∨ k = 4 ∨ k = 5 ∨ k = 6 ∨ k = 7 ∨ k = 8 by omega) with rfl | rfl | rfl | rfl | rfl | rfl | rfl | rfl | rfl
    · obtain ⟨q1, q2, q3⟩ := T0_0 hT
      obtain ⟨a, b, rfl, rfl, ha, hb, p1, p2⟩ := isP_t q1
      obtain ⟨c, rfl, _, hc, p3⟩ := inB_t q2 (by decide) (by decide)
      rw [if_pos rfl]
      unfold N0
      rw [p1, p2, p3]
      refine Inv.mono (K := K) ?_ (by omega)
      have hs : ∀ k, k ≠ 0 → (k < 12 ∨ 48 ≤ k) → (updN (updN (updN (updN s (12 + 3 * s 0) a) (12 + 3 * s 0 + 1) b) (12 + 3 * s 0 + 2) c) 0 (s 0 + 1)) k = s k := fun k h1 h2 => by
        rw [updN_n h1, updN_n (by omega), updN_n (by omega), updN_n (by omega)]
      have hs0 : (updN (updN (updN (updN s (12 + 3 * s 0) a) (12 + 3 * s 0 + 1) b) (12 + 3 * s 0 + 2) c) 0 (s 0 + 1)) 0 = s 0 + 1 := updN_s
      have hp : ∀ i, i < 12 → pX (updN (updN (updN (updN s (12 + 3 * s 0) a) (12 + 3 * s 0 + 1) b) (12 + 3 * s 0 + 2) c) 0 (s 0 + 1)) i ≤ 99 ∧ pY (updN (updN (updN (updN s (12 + 3 * s 0) a) (12 + 3 * s 0 + 1) b) (12 + 3 * s 0 + 2) c) 0 (s 0 + 1)) i ≤ 99 ∧ pR (updN (updN (updN (updN s (12 + 3 * s 0) a) (12 + 3 * s 0 + 1) b) (12 + 3 * s 0 + 2) c) 0 (s 0 + 1)) i ≤ 9 := by
        intro i hi
        have hI := I.p i hi
        unfold pX pY pR at *
        by_cases e : i = s 0
        · subst e
          rw [updN_n (by omega), updN_n (by omega), updN_n (by omega), updN_s, updN_n (by omega), updN_n (by omega), updN_s, updN_n (by omega), updN_s]
          exact ⟨ha, hb, hc⟩
        · rw [updN_n (by omega), updN_n (by omega), updN_n (by omega), updN_n (by omega), updN_n (by omega), updN_n (by omega), updN_n (by omega), updN_n (by omega), updN_n (by omega), updN_n (by omega), updN_n (by omega), updN_n (by omega)]
          exact hI
      generalize (updN (updN (updN (updN s (12 + 3 * s 0) a) (12 + 3 * s 0 + 1) b) (12 + 3 * s 0 + 2) c) 0 (s 0 + 1)) = s' at *
      have hw : ∀ k, k < 144 → wS s k = wS s' k := fun k hk => (hs _ (by omega) (by omega)).symm
      refine ⟨?_, ?_, hp, ?_, ?_, ?_, ?_, ?_, ?_, ?_⟩
      · rw [hs0]
        have hg := I.g.congr hw
        exact ⟨by omega, hg.le, fun i j hi hj hp => by have := hg.inn i j hi hj hp; omega, hg.sym⟩
      · intro i hi; rw [← hw _ (by omega)]; exact I.nl i hi
      · rw [hs0, hs 1 (by omega) (by omega), hs 2 (by omega) (by omega), hs 3 (by omega) (by omega), hs 4 (by omega) (by omega)]
        intro h0
        obtain ⟨t1, t2, t3, t4, t5, t6, t7⟩ := I.t h0
        exact ⟨t1, t2, t3, t4, t5, t6, fun i hi => by rw [hs _ (by omega) (by omega)]; have := t7 i hi; omega⟩
      · rw [hs 5 (by omega) (by omega)]; exact I.a1
      · rw [hs 5 (by omega) (by omega), hs 1 (by omega) (by omega)]; exact I.a0
      · rw [hs 6 (by omega) (by omega)]; exact I.b
      · rw [hs 7 (by omega) (by omega)]; exact I.mo
      · rw [hs 8 (by omega) (by omega)]; exact I.tl
      · rw [hs 9 (by omega) (by omega), hs 10 (by omega) (by omega), hs 11 (by omega) (by omega)]; exact I.u
    · obtain ⟨q1, q2, q3, q4⟩ := T1_0 hT
      obtain ⟨i, j, rfl, rfl, hi, hj, p1, p2⟩ := both_0 q1 hn
      obtain ⟨c, rfl, hc1, hc, p3⟩ := inB_t q3 (by decide) (by decide)
      rw [if_neg (by decide), if_pos rfl]
      unfold N1
      rw [p1, p2, p3]
      exact (I.setT hi hj (fun e => q2 (by rw [e])) hc).mono (by omega)
    · obtain ⟨q1, q4⟩ := T2_0 hT
      obtain ⟨i, j, rfl, rfl, hi, hj, p1, p2⟩ := both_0 q1 hn
      rw [if_neg (by decide), if_neg (by decide), if_pos rfl]
      unfold N2
      rw [p1, p2] at q4 ⊢
      have hne : i ≠ j := fun e => by
        subst e
        have := I.nl i (by omega)
        omega
      exact (I.setT hi hj hne (by omega)).mono (by omega)
    · obtain ⟨q1, q2, q3, q4⟩ := T3_0 hT
      obtain ⟨i, j, rfl, rfl, hi, hj, p1, p2⟩ := both_0 q1 hn
      rw [p1, p2] at q4
      rw [if_neg (by decide), if_neg (by decide), if_neg (by decide), if_pos rfl]
      obtain ⟨r1, r2, r3, r4⟩ := rL_spec (a := j) (c := i) I.g hi (fun e => q2 (by rw [e])) q4
      have hp := I.p i (by omega)
      refine Inv.mono (K := K) (I.upd (fun k hk => N3_o (by omega)) ?_ ?_ ?_ ?_ ?_ ?_ ?_) (by omega)
      · rw [N3_1, N3_2, N3_3, N3_4, N3_o (k := 0) (by omega), p1, p2]
        intro _
        unfold rLS
        refine ⟨by omega, by omega, by omega, by omega, hp.1, hp.2.1, fun q hq => ?_⟩
        rw [N3_r (by rw [p1, p2]; unfold rLS; omega), p1, p2]
        exact (ro_spec (a := j) (c := i) I.g hi q4 q (fun z hz => r2 z (by omega))).1
      · rw [N3_5]; omega
      · rw [N3_5]; intro _; rfl
      · rw [N3_o (by omega)]; exact I.b
      · rw [N3_o (by omega)]; exact I.mo
      · rw [N3_o (by omega)]; exact I.tl
      · rw [N3_o (by omega), N3_o (by omega), N3_o (by omega)]; exact I.u
    · obtain ⟨c, rfl, _, hc, p3⟩ := inB_t (T456_0 (x := x) (a := 0) (b := 2) hT) (by decide) (by decide)
      rw [if_neg (by decide), if_neg (by decide), if_neg (by decide), if_neg (by decide), if_pos rfl]
      unfold N4
      rw [p3]
      exact Inv.mono (K := K) (I.upd (fun k hk => updN_n (by omega)) (I.tu (by omega)) I.a1 I.a0 I.b (show c ≤ 2 by omega) I.tl I.u) (by omega)
    · obtain ⟨c, rfl, hc1, hc, p3⟩ := inB_t (T456_0 (x := x) (a := 1) (b := 30) hT) (by decide) (by decide)
      rw [if_neg (by decide), if_neg (by decide), if_neg (by decide), if_neg (by decide), if_neg (by decide), if_pos rfl]
      unfold N5
      rw [p3]
      exact Inv.mono (K := K) (I.upd (fun k hk => updN_n (by omega)) (I.tu (by omega)) I.a1 I.a0 I.b I.mo (show 1 ≤ c ∧ c ≤ 30 by omega) I.u) (by omega)
    · rw [if_neg (by decide), if_neg (by decide), if_neg (by decide), if_neg (by decide), if_neg (by decide), if_neg (by decide), if_pos rfl]
      unfold N6
      exact Inv.mono (K := K) (I.upd (fun k hk => updN_n (by omega)) (I.tu (by omega)) I.a1 I.a0 (show min (s 6 + nP x) 1000 ≤ 1000 by omega) I.mo I.tl I.u) (by omega)
    · obtain ⟨q1, q2, q3⟩ := T7_0 hT
      obtain ⟨a, b, rfl, rfl, ha, hb, p1, p2⟩ := isP_t q1
      rw [if_neg (by decide), if_neg (by decide), if_neg (by decide), if_neg (by decide), if_neg (by decide), if_neg (by decide), if_neg (by decide), if_pos rfl]
      exact Inv_move I q2 ha hb
    · rw [if_neg (by decide), if_neg (by decide), if_neg (by decide), if_neg (by decide), if_neg (by decide), if_neg (by decide), if_neg (by decide), if_neg (by decide)]
      exact Inv.mono (K := K) (Inv_over I (fun _ _ => rfl) I.b I.mo I.tl I.u) (by omega)
  · unfold opN
    rw [if_neg hT]
    exact I.mono (by omega)
