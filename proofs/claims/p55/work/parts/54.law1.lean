/-! The law's small methods, over one picture of the class -/
theorem mT_66 (w : Nat → Nat) : mT w ≤ 144 := by
  unfold mT
  have : ∀ k, k ≤ 12 → sumR (fun i => cnt (fun j => decide (0 < w (i * 12 + j))) i) 0 k ≤ 12 * k := by
    intro k
    induction k with
    | zero => intro _; exact Nat.le_refl _
    | succ k ih =>
      intro hk
      have h1 := ih (by omega)
      have h2 := cnt_le (fun j => decide (0 < w (k * 12 + j))) k
      unfold sumR
      rw [Nat.zero_add]
      omega
  exact this 12 (Nat.le_refl _)
theorem e9_1 : ((-900001) : Int32) = iI (-900001) := by decide
theorem e9_2 : ((-900002) : Int32) = iI (-900002) := by decide
theorem e9_3 : ((-900003) : Int32) = iI (-900003) := by decide
theorem e9_4 : ((-900004) : Int32) = iI (-900004) := by decide
theorem e9_9 : ((-900009) : Int32) = iI (-900009) := by decide
theorem e9_0 : ((-900000) : Int32) = iI (-900000) := by decide
theorem e9_t : ((-90000000) : Int32) = iI (-90000000) := by decide
/-- the class, whatever its line and its records; no text is typed -/
abbrev LC (h : jH) (s sS P : Nat → Nat) (ch : Nat) (sv : Bool) : Prop := ∃ (ea fa : Int32) (lf : Nat → Nat) (ln : Nat) (tx : Nat → Nat), CPc h s sS P ch ea fa sv lf ln tx 0
theorem LC.frm {C : Nat → Prop} {h h' : jH} {s sS P : Nat → Nat} {ch : Nat} {sv : Bool} (g : LC h s sS P ch sv) (hf : jFr C h h') (hc : ∀ j, j ≤ 115 → ¬ C j) : LC h' s sS P ch sv := by
  obtain ⟨ea, fa, lf, ln, tx, cp⟩ := g
  exact ⟨ea, fa, lf, ln, tx, cp.frm hf hc⟩
/-- a deed ends so: done, or refused with nothing changed -/
abbrev dQ (Q : jQ_) (h : jH) (s sS P : Nat → Nat) (ch : Nat) (sv : Bool) (k : Nat) (x y z : Int32) : Prop :=
  (opT s k x y z = 0 → ∀ h', jFr clC h h' → (∀ P', pastN ch P s P' → LC h' (opN s k x y z) sS P' (min (ch + 1) 8) sv) → Q (.inl (some (.int (nI (opA s k x y z))))) h') ∧
  (opT s k x y z ≠ 0 → ∀ h' (v : Int), jFr clC h h' → LC h' s sS P ch sv → -900009 < v → v ≤ -900001 → Q (.inl (some (.int (iI v)))) h')
theorem opA_le {K k : Nat} {s : Nat → Nat} {x y z : Int32} (I : Inv K s) : opA s k x y z ≤ 1000 := by
  unfold opA
  have hn := I.n12
  have hm := I.mo
  have ht := I.tl
  have hs1 := I.s1
  by_cases hT : opT s k x y z = 0
  · rw [if_pos hT]
    unfold opT at hT
    repeat' split
    · omega
    · have := mT_66 (wS (N1 s x y z)); omega
    · rename_i h0 h1 h2
      rw [if_neg h0, if_neg h1, if_pos h2] at hT
      unfold T2 at hT
      by_cases hb : both s x y = true
      · simp only [both, Bool.and_eq_true] at hb
        obtain ⟨i, j, _, _, hi, hj, e1, e2⟩ := both_t hn hb.1 hb.2
        rw [e1, e2]
        have := I.le (i * 12 + j) (by omega)
        omega
      · rw [if_neg hb] at hT; omega
    · rename_i h0 h1 h2 h3
      rw [if_neg h0, if_neg h1, if_neg h2, if_pos h3] at hT
      unfold T3 at hT
      by_cases hb : both s x y = true
      · rw [if_pos hb] at hT
        simp only [both, Bool.and_eq_true] at hb
        obtain ⟨i, j, ex, ey, hi, hj, e1, e2⟩ := both_t hn hb.1 hb.2
        rw [e1, e2] at hT ⊢
        by_cases hxy : x = y
        · rw [if_pos hxy] at hT; omega
        · rw [if_neg hxy] at hT
          split at hT
          · omega
          · split at hT
            · rename_i hd
              have hne : i ≠ j := fun q => hxy (by rw [ex, ey, q])
              have := (rL_spec I.g (a := j) (c := i) hi hne hd).2.2.2
              unfold rLS
              omega
            · omega
      · rw [if_neg hb] at hT; omega
    · omega
    · omega
    · omega
    · unfold A7; split <;> omega
    · omega
  · rw [if_neg hT]; omega
theorem opA7_jb {s : Nat → Nat} {x y : Int32} (hT : opT s 7 x y 0 = 0) : nI (opA s 7 x y 0) = jb (decide (opA s 7 x y 0 = 1)) := by
  have h2 : opA s 7 x y 0 = 0 ∨ opA s 7 x y 0 = 1 := by
    show (if opT s 7 x y 0 = 0 then A7 s x y else 0) = 0 ∨ (if opT s 7 x y 0 = 0 then A7 s x y else 0) = 1
    rw [if_pos hT]
    unfold A7
    split
    · exact .inr rfl
    · exact .inl rfl
  rcases h2 with e | e <;> rw [e] <;> decide
theorem jfit_k {R : Room} {n d mc ms kc kn : Nat} (h1 : Nat.ble (d + 1) R.frames = true) (h2 : Nat.ble (8 + (n + 11) + 46 * d) R.locals = true) (h3 : kc + mc ≤ R.cells) (h4 : kn + ms ≤ R.slots) : jfit R n d mc ms kc kn = true := by
  simp only [jfit, Bool.and_eq_true]
  exact ⟨h1, h2, Nat.ble_eq_true_of_le h3, Nat.ble_eq_true_of_le h4⟩
theorem jfit_j {D A B n d mc ms kc kn : Nat} (h1 : Nat.ble (d + 1) D = true) (h2 : Nat.ble (8 + (n + 11) + 46 * d) (46 * D) = true) (h3 : kc + mc ≤ A) (h4 : kn + ms ≤ B) : jfit (jR D A B) n d mc ms kc kn = true := jfit_k h1 h2 h3 h4
section LAW1
variable {G : jG} {X : Bool} {h : jH} {Q : jQ_} {K ch : Nat} {sv : Bool} {s sS P : Nat → Nat}
theorem l_cell {i : Nat} (hi : i < 1000) (hL : g_L G ≤ 260) (hQ : ∀ c : Int32, Q (.inl (some (.int c))) h) : jCT G M_L_cell 0 0 0 X [.retAddr 0, .int (nI i)] h Q := by
  refine jCT_of [some (.retAddr 0), some (.int (nI i)), none] 1 rfl (by decide +kernel) rfl rfl ?_
  have cont : ∀ x : Int32, J G (jR 0 0 0) (jFin G Q X 0 0) M_L_cell X 0 0 15 [some (.retAddr 0), some (.int (nI i)), none] [.int x, .int (nI 69069)] h := by
    intro x
    refine J_sipush (nI 1009) (by decide) dL_cell_15 ?_
    refine J_iload_n (by rfl) dL_cell_18 ?_
    refine J_imul dL_cell_19 ?_
    try rw [pk_mul]
    refine J_iadd dL_cell_20 ?_
    try rw [nI_add]
    refine J_imul dL_cell_21 ?_
    try rw [pk_mul]
    refine J_sipush (nI 12345) (by decide) dL_cell_22 ?_
    refine J_iadd dL_cell_25 ?_
    try rw [nI_add]
    refine J_istore_2 dL_cell_26 ?_
    refine J_iload_n (by rfl) dL_cell_27 ?_
    refine J_iload_n (by rfl) dL_cell_28 ?_
    refine J_bipush (nI 13) (by decide) dL_cell_29 ?_
    refine J_iushr dL_cell_31 ?_
    refine J_ixor dL_cell_32 ?_
    refine J_ldcI dL_cell_33 k_L_8 ?_
    refine J_topi (nI 1103515245) (by rfl) ?_
    refine J_imul dL_cell_35 ?_
    try rw [pk_mul]
    refine J_istore_2 dL_cell_36 ?_
    refine J_iload_n (by rfl) dL_cell_37 ?_
    refine J_iload_n (by rfl) dL_cell_38 ?_
    refine J_bipush (nI 16) (by decide) dL_cell_39 ?_
    refine J_iushr dL_cell_41 ?_
    refine J_ixor dL_cell_42 ?_
    exact J_ireturn dL_cell_43 rfl (hQ _) (by decide) (by decide) (fun _ => rfl)
  refine J_ldcI dL_cell_0 k_L_7 ?_
  refine J_topi (nI 69069) (by rfl) ?_
  refine J_iload_n (by rfl) dL_cell_2 ?_
  refine J_aload_n (by rfl) (by rfl) dL_cell_3 ?_
  refine J_xlen dL_cell_4 ?_
  refine J_icmp_ge_n 14 dL_cell_5 (by decide) (fun c5 => ?_) (fun c5 => ?_)
  · refine J_iconst (nI 0) (by decide) dL_cell_14 ?_
    exact cont _
  · refine J_aload_n (by rfl) (by rfl) dL_cell_8 ?_
    refine J_iload_n (by rfl) dL_cell_9 ?_
    refine J_xald i dL_cell_10 rfl c5 (by omega) ?_
    refine J_goto 15 dL_cell_11 (by decide) ?_
    exact cont _
theorem l_in {i n : Nat} (hi : i < 1000) (hL : g_L G ≤ 260) (hn : 1 ≤ n) (hn2 : n < 1000) (hQ : ∀ c, c < n → Q (.inl (some (.int (nI c)))) h) : jCT G M_L_in 1 0 0 X [.retAddr 0, .int (nI i), .int (nI n)] h Q := by
  refine jCT_of [some (.retAddr 0), some (.int (nI i)), some (.int (nI n))] 0 rfl (by decide +kernel) rfl rfl ?_
  refine J_aload_n (by rfl) (by rfl) dL_in_0 ?_
  refine J_iload_n (by rfl) dL_in_1 ?_
  refine J_S2v dL_in_2 s_L_81 m_L_cell rfl (l_cell hi hL (fun c => (jKv_i ?_)))
  refine J_ldcI dL_in_5 k_L_87 ?_
  refine J_topi (nI 2147483647) (by rfl) ?_
  refine J_iand dL_in_7 ?_
  rw [pk_and c (m := nI 2147483647) 31 (by decide)]
  have hlt : c.toBitVec.toNat % 2 ^ 31 < 2 ^ 31 := Nat.mod_lt _ (by decide)
  refine J_iload_n (by rfl) dL_in_8 ?_
  refine J_irem_n (by omega) (by omega) (by omega) dL_in_9 ?_
  exact J_ireturn dL_in_10 rfl (hQ _ (Nat.mod_lt _ (by omega))) (by decide) (by decide) (fun _ => rfl)
theorem l_areAlike {p q : Nat} {f : Nat → Nat} (hp : h[p]? = some (ia 220 f)) (hq : h[q]? = some (ia 220 f)) (hQ : Q (.inl (some (.int (jb true)))) h) : jCT G M_L_areAlike 0 0 0 X [.ref p, .ref q] h Q := by
  refine jCT_of [some (.ref p), some (.ref q), none] 1 rfl (by decide +kernel) rfl rfl ?_
  refine J_iconst (nI 0) (by decide) dL_areAlike_0 ?_
  refine J_istore_2 dL_areAlike_1 ?_
  suffices loop : ∀ i, i ≤ 220 → J G (jR 0 0 0) (jFin G Q X 0 0) M_L_areAlike X 0 0 2 [some (.ref p), some (.ref q), some (.int (nI i))] [] h by
    exact loop 0 (by omega)
  refine up_ind 220 (fun i hi ih => ?_)
  refine J_iload_n (by rfl) dL_areAlike_2 ?_
  refine J_aload_n (by rfl) (by rfl) dL_areAlike_3 ?_
  refine J_alen (x := 0) dL_areAlike_4 (by repeat (first | assumption | exact jget_same2 (by (try simp only [List.length_set]); exact jlt (by assumption)) | refine jget_ne (by first | decide | assumption | omega) ?_)) (by decide) ?_
  refine J_icmp_ge_n 25 dL_areAlike_5 (by decide) (fun c5 => ?_) (fun c5 => ?_)
  · refine J_iconst (nI 1) (by decide) dL_areAlike_25 ?_
    exact J_zreturn dL_areAlike_26 rfl (by first | rfl | exact jb_n _) (hQ) (by decide) (by decide) (fun _ => rfl)
  · refine J_aload_n (by rfl) (by rfl) dL_areAlike_8 ?_
    refine J_iload_n (by rfl) dL_areAlike_9 ?_
    refine J_iald_n (i) dL_areAlike_10 (by repeat (first | assumption | exact jget_same2 (by (try simp only [List.length_set]); exact jlt (by assumption)) | refine jget_ne (by first | decide | assumption | omega) ?_)) (by first | rfl | (simp only [pk_mul, nI_add]; done) | (simp only [pk_mul, nI_add]; congr 1; omega) | (congr 1; omega)) (by omega) ?_
    refine J_aload_n (by rfl) (by rfl) dL_areAlike_11 ?_
    refine J_iload_n (by rfl) dL_areAlike_12 ?_
    refine J_iald_n (i) dL_areAlike_13 (by repeat (first | assumption | exact jget_same2 (by (try simp only [List.length_set]); exact jlt (by assumption)) | refine jget_ne (by first | decide | assumption | omega) ?_)) (by first | rfl | (simp only [pk_mul, nI_add]; done) | (simp only [pk_mul, nI_add]; congr 1; omega) | (congr 1; omega)) (by omega) ?_
    refine J_icmp_eq 19 dL_areAlike_14 (by decide) (fun c14 => ?_) (fun c14 => ?_)
    · refine J_iinc_2 (nI 1) dL_areAlike_19 (by decide) ?_
      try rw [nI_add]
      refine J_goto 2 dL_areAlike_22 (by decide) ?_
      exact ih c5
    · exact absurd rfl c14
-- ===== questions through the wrappers =====
theorem l_distance {i j : Nat} (hi : i < s 0) (hj : j < s 0) (I : Inv K s) (g : LC h s sS P ch sv) (hQ : ∀ h', jFr clC h h' → LC h' s sS P ch sv → Q (.inl (some (.int (iI (if dst (wS s) i j < 99999 then (dst (wS s) i j : Int) else -900002))))) h') : jCT G M_L_distance 8 3 18 false [.ref 0, .int (nI i), .int (nI j)] h Q := by
  have hn := I.n12
  obtain ⟨ea, fa, lf, ln, tx, cp⟩ := g
  have hb : both s (nI i) (nI j) = true := by unfold both; rw [isIx_n hi (by omega), isIx_n hj (by omega)]; rfl
  have ei : nP (nI i) = i := nP_nI (by omega)
  have ej : nP (nI j) = j := nP_nI (by omega)
  refine w_distance (nI i) (nI j) cp.c0 (fun Q' k1 k2 => c_X10_distance (nI i) (nI j) I cp (fun hT h' hf cp' => k1 _ _ ?_) (fun hT => ?_) (fun hT h' hf cp' => k2 _ _ (.inr ⟨rfl, ?_⟩)))
  · have h9 := hQ h' (hf.mono (fun j hj => by show j ≤ 115; have := hj.2; omega)) ⟨ea, fa, lf, ln, tx, cp'⟩
    unfold Td at hT
    rw [if_pos hb, ei, ej] at hT
    rw [ei, ej]
    by_cases hd : dst (wS s) i j < 99999
    · rw [if_pos hd, iI_n] at h9; exact h9
    · rw [if_neg hd] at hT; omega
  · unfold Td at hT
    rw [if_pos hb] at hT
    split at hT <;> omega
  · have h9 := hQ h' (hf.mono (fun j hj => by show j ≤ 115; have := hj.2; omega)) ⟨ea, fa, lf, ln, tx, cp'⟩
    unfold Td at hT
    rw [if_pos hb, ei, ej] at hT
    by_cases hd : dst (wS s) i j < 99999
    · rw [if_pos hd] at hT; omega
    · rw [if_neg hd] at h9; rw [e9_2]; exact h9
theorem l_relax {i j : Nat} (hi : i < s 0) (hj : j < s 0) (I : Inv K s) (g : LC h s sS P ch sv) (hQ : ∀ h', jFr clC h h' → LC h' s sS P ch sv → Q (.inl (some (.int (iI (if dst (wS s) i j < 99999 then (dst (wS s) i j : Int) else -900002))))) h') : jCT G M_L_distanceByRelaxation 8 3 18 false [.ref 0, .int (nI i), .int (nI j)] h Q := by
  have hn := I.n12
  obtain ⟨ea, fa, lf, ln, tx, cp⟩ := g
  have hb : both s (nI i) (nI j) = true := by unfold both; rw [isIx_n hi (by omega), isIx_n hj (by omega)]; rfl
  have ei : nP (nI i) = i := nP_nI (by omega)
  have ej : nP (nI j) = j := nP_nI (by omega)
  refine w_distanceByRelaxation (nI i) (nI j) cp.c0 (fun Q' k1 k2 => c_X10_distanceByRelaxation (nI i) (nI j) I cp (fun hT h' hf cp' => k1 _ _ ?_) (fun hT => ?_) (fun hT h' hf cp' => k2 _ _ (.inr ⟨rfl, ?_⟩)))
  · have h9 := hQ h' (hf.mono (fun j hj => by show j ≤ 115; have := hj.2; omega)) ⟨ea, fa, lf, ln, tx, cp'⟩
    unfold Td at hT
    rw [if_pos hb, ei, ej] at hT
    rw [ei, ej]
    by_cases hd : dst (wS s) i j < 99999
    · rw [if_pos hd, iI_n] at h9; exact h9
    · rw [if_neg hd] at hT; omega
  · unfold Td at hT
    rw [if_pos hb] at hT
    split at hT <;> omega
  · have h9 := hQ h' (hf.mono (fun j hj => by show j ≤ 115; have := hj.2; omega)) ⟨ea, fa, lf, ln, tx, cp'⟩
    unfold Td at hT
    rw [if_pos hb, ei, ej] at hT
    by_cases hd : dst (wS s) i j < 99999
    · rw [if_pos hd] at hT; omega
    · rw [if_neg hd] at h9; rw [e9_2]; exact h9
theorem l_drift (I : Inv K s) (g : LC h s sS P ch sv) (hQ1 : 0 < s 1 → ∀ h' r, jFr clC h h' → LC h' s sS P ch sv → r * r * denS s (s 3) (s 4) ≤ numS s (s 3) (s 4) → Q (.inl (some (.int (nI r)))) h') (hQ2 : ¬ 0 < s 1 → Q (.inl (some (.int (-900001)))) h) : jCT G M_L_drift 8 1 6 false [.ref 0] h Q := by
  obtain ⟨ea, fa, lf, ln, tx, cp⟩ := g
  exact w_drift cp.c0 (fun Q' k1 k2 => c_X10_drift I cp (fun hT h' r hf q1 q2 cp' => k1 _ _ (hQ1 hT h' r (hf.mono (fun j hj => by show j ≤ 115; have := hj.2; omega)) ⟨ea, fa, lf, ln, tx, cp'⟩ q1)) (fun hT => k2 _ _ ⟨rfl, hQ2 hT⟩))
theorem l_target (I : Inv K s) (g : LC h s sS P ch sv) (hQ1 : 0 < s 1 → Q (.inl (some (.int (nI (aimS s))))) h) (hQ2 : ¬ 0 < s 1 → Q (.inl (some (.int (-900001)))) h) : jCT G M_L_target 8 1 6 false [.ref 0] h Q := by
  obtain ⟨ea, fa, lf, ln, tx, cp⟩ := g
  exact w_target cp.c0 (fun Q' k1 k2 => c_X10_target I cp (fun hT => k1 _ _ (hQ1 hT)) (fun hT => k2 _ _ ⟨rfl, hQ2 hT⟩))
theorem l_nearest (I : Inv K s) (g : LC h s sS P ch sv) (hQ : ∀ v : Int, -900009 < v → v ≤ 1000 → Q (.inl (some (.int (iI v)))) h) : jCT G M_L_nearest 8 2 12 false [.ref 0, .int (nI 5), .int (nI 5)] h Q := by
  have hn := I.n12
  obtain ⟨ea, fa, lf, ln, tx, cp⟩ := g
  refine w_nearest (nI 5) (nI 5) cp.c0 (fun Q' k1 k2 => c_X10_nearest (nI 5) (nI 5) I cp (fun hT => k1 _ _ ?_) (fun hT => k2 _ _ (.inl ⟨rfl, ?_⟩)) (fun hT => k2 _ _ (.inr ⟨rfl, ?_⟩)))
  · rw [← iI_n]
    have := amin_le (sqd (pX s) (pY s) (nP (nI 5)) (nP (nI 5))) (s 0 - 1)
    exact hQ _ (by omega) (by omega)
  · rw [e9_1]; exact hQ _ (by decide) (by decide)
  · rw [e9_2]; exact hQ _ (by decide) (by decide)
theorem l_undo (I : Inv K s) (g : LC h s sS P ch sv) (hQ1 : 0 < ch → ∀ h', jFr clC h h' → LC h' (fun k => P (204 * (ch - 1) + k)) sS P (ch - 1) sv → Q (.inl (some (.int (nI (ch - 1))))) h') (hQ2 : ch = 0 → Q (.inl (some (.int (-900001)))) h) : jCT G M_L_undo 8 1 6 false [.ref 0] h Q := by
  obtain ⟨ea, fa, lf, ln, tx, cp⟩ := g
  exact w_undo cp.c0 (fun Q' k1 k2 => c_X10_undo I cp (fun hT h' hf cp' => k1 _ _ (hQ1 hT h' hf ⟨ea, fa, lf, ln, tx, cp'⟩)) (fun hT => k2 _ _ ⟨rfl, hQ2 hT⟩))
theorem l_restore (I : Inv K s) (g : LC h s sS P ch sv) (hv : sv = true) (hQ : ∀ h', jFr clC h h' → LC h' sS sS P 0 sv → Q (.inl (some (.int (nI (sS 0))))) h') : jCT G M_L_restore 8 1 6 false [.ref 0] h Q := by
  obtain ⟨ea, fa, lf, ln, tx, cp⟩ := g
  exact w_restore cp.c0 (fun Q' k1 k2 => c_X10_restore I cp (fun hT h' hf cp' => k1 _ _ (hQ h' hf ⟨ea, fa, lf, ln, tx, cp'⟩)) (fun hT => absurd hv (by rw [hT]; decide)))
-- ===== deeds through the wrappers =====
theorem l_addWaypoint (x y z : Int32) (I : Inv K s) (hK : K < 2 ^ 30) (g : LC h s sS P ch sv) (d : dQ Q h s sS P ch sv 0 x y z) : jCT G M_L_addWaypoint 9 1 6 false [.ref 0, .int x, .int y, .int z] h Q := by
  obtain ⟨ea, fa, lf, ln, tx, cp⟩ := g
  refine w_addWaypoint x y z cp.c0 (fun Q' k1 k2 => c_X10_addWaypoint x y z I hK cp (fun hT h' hf hP => k1 _ _ (d.1 hT h' hf (fun P' hp => ⟨ea, fa, lf, ln, tx, hP P' hp⟩))) (fun hT h' hf cp' => k2 _ _ ?_))
  have hq := fun z h1 h2 => d.2 hT h' z hf ⟨ea, fa, lf, ln, tx, cp'⟩ h1 h2
  have hT2 : opT s 0 x y z ≤ 2 := by
    show T0 s x y z ≤ 2
    unfold T0
    repeat' split
    all_goals omega
  clear k1 k2 d
  generalize opT s 0 x y z = T at hT hT2 ⊢
  rcases (show T = 1 ∨ T = 2 by omega) with rfl | rfl
  · exact .inl ⟨rfl, by rw [e9_1]; exact hq _ (by decide) (by decide)⟩
  · exact .inr (⟨rfl, by rw [e9_2]; exact hq _ (by decide) (by decide)⟩)
theorem l_addTrail (x y z : Int32) (I : Inv K s) (hK : K < 2 ^ 30) (g : LC h s sS P ch sv) (d : dQ Q h s sS P ch sv 1 x y z) : jCT G M_L_addTrail 9 1 6 false [.ref 0, .int x, .int y, .int z] h Q := by
  obtain ⟨ea, fa, lf, ln, tx, cp⟩ := g
  refine w_addTrail x y z cp.c0 (fun Q' k1 k2 => c_X10_addTrail x y z I hK cp (fun hT h' hf hP => k1 _ _ (d.1 hT h' hf (fun P' hp => ⟨ea, fa, lf, ln, tx, hP P' hp⟩))) (fun hT h' hf cp' => k2 _ _ ?_))
  have hq := fun z h1 h2 => d.2 hT h' z hf ⟨ea, fa, lf, ln, tx, cp'⟩ h1 h2
  have hT2 : opT s 1 x y z ≤ 3 := by
    show T1 s x y z ≤ 3
    unfold T1
    repeat' split
    all_goals omega
  clear k1 k2 d
  generalize opT s 1 x y z = T at hT hT2 ⊢
  rcases (show T = 1 ∨ T = 2 ∨ T = 3 by omega) with rfl | rfl | rfl
  · exact .inl ⟨rfl, by rw [e9_1]; exact hq _ (by decide) (by decide)⟩
  · exact .inr (.inl ⟨rfl, by rw [e9_2]; exact hq _ (by decide) (by decide)⟩)
  · exact .inr (.inr (⟨rfl, by rw [e9_3]; exact hq _ (by decide) (by decide)⟩))
theorem l_removeTrail (x y : Int32) (I : Inv K s) (hK : K < 2 ^ 30) (g : LC h s sS P ch sv) (d : dQ Q h s sS P ch sv 2 x y 0) : jCT G M_L_removeTrail 9 1 6 false [.ref 0, .int x, .int y] h Q := by
  obtain ⟨ea, fa, lf, ln, tx, cp⟩ := g
  refine w_removeTrail x y cp.c0 (fun Q' k1 k2 => c_X10_removeTrail x y I hK cp (fun hT h' hf hP => k1 _ _ (d.1 hT h' hf (fun P' hp => ⟨ea, fa, lf, ln, tx, hP P' hp⟩))) (fun hT h' hf cp' => k2 _ _ ?_))
  have hq := fun z h1 h2 => d.2 hT h' z hf ⟨ea, fa, lf, ln, tx, cp'⟩ h1 h2
  have hT2 : opT s 2 x y 0 ≤ 2 := by
    show T2 s x y ≤ 2
    unfold T2
    repeat' split
    all_goals omega
  clear k1 k2 d
  generalize opT s 2 x y 0 = T at hT hT2 ⊢
  rcases (show T = 1 ∨ T = 2 by omega) with rfl | rfl
  · exact .inl ⟨rfl, by rw [e9_1]; exact hq _ (by decide) (by decide)⟩
  · exact .inr (⟨rfl, by rw [e9_2]; exact hq _ (by decide) (by decide)⟩)
theorem l_startTour (x y : Int32) (I : Inv K s) (hK : K < 2 ^ 30) (g : LC h s sS P ch sv) (d : dQ Q h s sS P ch sv 3 x y 0) : jCT G M_L_startTour 9 1 6 false [.ref 0, .int x, .int y] h Q := by
  obtain ⟨ea, fa, lf, ln, tx, cp⟩ := g
  refine w_startTour x y cp.c0 (fun Q' k1 k2 => c_X10_startTour x y I hK cp (fun hT h' hf hP => k1 _ _ (d.1 hT h' hf (fun P' hp => ⟨ea, fa, lf, ln, tx, hP P' hp⟩))) (fun hT h' hf cp' => k2 _ _ ?_))
  have hq := fun z h1 h2 => d.2 hT h' z hf ⟨ea, fa, lf, ln, tx, cp'⟩ h1 h2
  have hT2 : opT s 3 x y 0 ≤ 4 := by
    show T3 s x y ≤ 4
    unfold T3
    repeat' split
    all_goals omega
  clear k1 k2 d
  generalize opT s 3 x y 0 = T at hT hT2 ⊢
  rcases (show T = 1 ∨ T = 2 ∨ T = 3 ∨ T = 4 by omega) with rfl | rfl | rfl | rfl
  · exact .inl ⟨rfl, by rw [e9_1]; exact hq _ (by decide) (by decide)⟩
  · exact .inr (.inl ⟨rfl, by rw [e9_2]; exact hq _ (by decide) (by decide)⟩)
  · exact .inr (.inr (.inl ⟨rfl, by rw [e9_3]; exact hq _ (by decide) (by decide)⟩))
  · exact .inr (.inr (.inr (⟨rfl, by rw [e9_4]; exact hq _ (by decide) (by decide)⟩)))
theorem l_setMode (x : Int32) (I : Inv K s) (hK : K < 2 ^ 30) (g : LC h s sS P ch sv) (d : dQ Q h s sS P ch sv 4 x 0 0) : jCT G M_L_setMode 9 1 6 false [.ref 0, .int x] h Q := by
  obtain ⟨ea, fa, lf, ln, tx, cp⟩ := g
  refine w_setMode x cp.c0 (fun Q' k1 k2 => c_X10_setMode x I hK cp (fun hT h' hf hP => k1 _ _ (d.1 hT h' hf (fun P' hp => ⟨ea, fa, lf, ln, tx, hP P' hp⟩))) (fun hT h' hf cp' => k2 _ _ ?_))
  have hq := fun z h1 h2 => d.2 hT h' z hf ⟨ea, fa, lf, ln, tx, cp'⟩ h1 h2
  have hT2 : opT s 4 x 0 0 ≤ 1 := by
    show T4 x ≤ 1
    unfold T4
    repeat' split
    all_goals omega
  clear k1 k2 d
  generalize opT s 4 x 0 0 = T at hT hT2 ⊢
  obtain rfl : T = 1 := by omega
  exact ⟨rfl, by rw [e9_1]; exact hq _ (by decide) (by decide)⟩
theorem l_setTolerance (x : Int32) (I : Inv K s) (hK : K < 2 ^ 30) (g : LC h s sS P ch sv) (d : dQ Q h s sS P ch sv 5 x 0 0) : jCT G M_L_setTolerance 9 1 6 false [.ref 0, .int x] h Q := by
  obtain ⟨ea, fa, lf, ln, tx, cp⟩ := g
  refine w_setTolerance x cp.c0 (fun Q' k1 k2 => c_X10_setTolerance x I hK cp (fun hT h' hf hP => k1 _ _ (d.1 hT h' hf (fun P' hp => ⟨ea, fa, lf, ln, tx, hP P' hp⟩))) (fun hT h' hf cp' => k2 _ _ ?_))
  have hq := fun z h1 h2 => d.2 hT h' z hf ⟨ea, fa, lf, ln, tx, cp'⟩ h1 h2
  have hT2 : opT s 5 x 0 0 ≤ 1 := by
    show T5 x ≤ 1
    unfold T5
    repeat' split
    all_goals omega
  clear k1 k2 d
  generalize opT s 5 x 0 0 = T at hT hT2 ⊢
  obtain rfl : T = 1 := by omega
  exact ⟨rfl, by rw [e9_1]; exact hq _ (by decide) (by decide)⟩
theorem l_charge (x : Int32) (I : Inv K s) (hK : K < 2 ^ 30) (g : LC h s sS P ch sv) (d : dQ Q h s sS P ch sv 6 x 0 0) : jCT G M_L_charge 9 1 6 false [.ref 0, .int x] h Q := by
  obtain ⟨ea, fa, lf, ln, tx, cp⟩ := g
  refine w_charge x cp.c0 (fun Q' k1 k2 => c_X10_charge x I hK cp (fun hT h' hf hP => k1 _ _ (d.1 hT h' hf (fun P' hp => ⟨ea, fa, lf, ln, tx, hP P' hp⟩))) (fun hT h' hf cp' => k2 _ _ ?_))
  have hq := fun z h1 h2 => d.2 hT h' z hf ⟨ea, fa, lf, ln, tx, cp'⟩ h1 h2
  have hT2 : opT s 6 x 0 0 ≤ 1 := by
    show T6 x ≤ 1
    unfold T6
    repeat' split
    all_goals omega
  clear k1 k2 d
  generalize opT s 6 x 0 0 = T at hT hT2 ⊢
  obtain rfl : T = 1 := by omega
  exact ⟨rfl, by rw [e9_1]; exact hq _ (by decide) (by decide)⟩
theorem l_update (x y : Int32) (I : Inv K s) (hK : K < 2 ^ 30) (g : LC h s sS P ch sv) (d : dQ Q h s sS P ch sv 7 x y 0) : jCT G M_L_update 9 1 6 false [.ref 0, .int x, .int y] h Q := by
  obtain ⟨ea, fa, lf, ln, tx, cp⟩ := g
  refine w_update x y cp.c0 (fun Q' k1 k2 => c_X10_update x y I hK cp (fun hT h' hf hP => k1 _ _ (by rw [← opA7_jb hT]; exact d.1 hT h' hf (fun P' hp => ⟨ea, fa, lf, ln, tx, hP P' hp⟩))) (fun hT h' hf cp' => k2 _ _ ?_))
  have hq := fun z h1 h2 => d.2 hT h' z hf ⟨ea, fa, lf, ln, tx, cp'⟩ h1 h2
  have hT2 : opT s 7 x y 0 ≤ 3 := by
    show T7 s x y ≤ 3
    unfold T7
    repeat' split
    all_goals omega
  clear k1 k2 d
  generalize opT s 7 x y 0 = T at hT hT2 ⊢
  rcases (show T = 1 ∨ T = 2 ∨ T = 3 by omega) with rfl | rfl | rfl
  · exact .inl ⟨rfl, by rw [e9_1]; exact hq _ (by decide) (by decide)⟩
  · exact .inr (.inl ⟨rfl, by rw [e9_2]; exact hq _ (by decide) (by decide)⟩)
  · exact .inr (.inr (⟨rfl, by rw [e9_3]; exact hq _ (by decide) (by decide)⟩))
theorem l_stopTour (I : Inv K s) (hK : K < 2 ^ 30) (g : LC h s sS P ch sv) (d : dQ Q h s sS P ch sv 8 0 0 0) : jCT G M_L_stopTour 9 1 6 false [.ref 0] h Q := by
  obtain ⟨ea, fa, lf, ln, tx, cp⟩ := g
  refine w_stopTour  cp.c0 (fun Q' k1 k2 => c_X10_stopTour  I hK cp (fun hT h' hf hP => k1 _ _ (d.1 hT h' hf (fun P' hp => ⟨ea, fa, lf, ln, tx, hP P' hp⟩))) (fun hT h' hf cp' => k2 _ _ ?_))
  have hq := fun z h1 h2 => d.2 hT h' z hf ⟨ea, fa, lf, ln, tx, cp'⟩ h1 h2
  have hT2 : opT s 8 0 0 0 ≤ 1 := by
    show T8 s ≤ 1
    unfold T8
    repeat' split
    all_goals omega
  clear k1 k2 d
  generalize opT s 8 0 0 0 = T at hT hT2 ⊢
  obtain rfl : T = 1 := by omega
  exact ⟨rfl, by rw [e9_1]; exact hq _ (by decide) (by decide)⟩
end LAW1
