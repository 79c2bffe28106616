/-! Paths: shortest paths and components (places 11..15) -/
abbrev hPaths : jC := .inr (5, [.ref 12, .ref 13, .ref 14, .ref 15])
theorem jsw {h : jH} {i j : Nat} {a b : jC} (hij : i < j) : (h.set j b).set i a = (h.set i a).set j b := List.set_comm _ _ (by omega)
theorem hset_id {h : jH} {i : Nat} {c : jC} (hc : h[i]? = some c) : h.set i c = h := by
  apply List.ext_getElem?
  intro k
  rw [List.getElem?_set]
  split
  · rename_i e; subst e; rw [hc]; split
    · rfl
    · rename_i hn; exact absurd (jlt hc) hn
  · rfl
theorem up_ind {P : Nat → Prop} (n : Nat) (st : ∀ i, i ≤ n → (i < n → P (i + 1)) → P i) : ∀ i, i ≤ n → P i := by
  have key : ∀ k i, i ≤ n → n - i ≤ k → P i := by
    intro k
    induction k with
    | zero => intro i hi hk; exact st i hi (fun hl => absurd hl (by omega))
    | succ k ih => intro i hi hk; exact st i hi (fun hl => ih (i + 1) hl (by omega))
  exact fun i hi => key n i hi (by omega)
section PATHS
variable {G : jG} {X : Bool} {h : jH} {Q : jQ_} {n t : Nat} {w D E L : Nat → Nat} {m : Nat → Bool}
theorem c_X10_isWithin (x a b : Int32) (hQ : Q (.inl (some (.int (jb (decide (¬ x < a ∧ ¬ b < x)))))) h) : jCT G M_X10_isWithin 1 0 0 X [.int x, .int a, .int b] h Q := by
  refine jCT_of [some (.int x), some (.int a), some (.int b)] 0 rfl (by decide +kernel) rfl rfl ?_
  refine J_iload_n (by rfl) dX10_isWithin_0 ?_
  refine J_iload_n (by rfl) dX10_isWithin_1 ?_
  refine J_icmp_lt 14 dX10_isWithin_2 (by decide) (fun c2 => ?_) (fun c2 => ?_)
  · refine J_iconst (nI 0) (by decide) dX10_isWithin_14 ?_
    exact J_zreturn dX10_isWithin_15 rfl (by first | rfl | exact jb_n _) (by rw [show decide (¬ x < a ∧ ¬ b < x) = false by simp [c2]] at hQ; exact hQ) (by decide) (by decide) (fun _ => rfl)
  · refine J_iload_n (by rfl) dX10_isWithin_5 ?_
    refine J_iload_n (by rfl) dX10_isWithin_6 ?_
    refine J_icmp_gt 14 dX10_isWithin_7 (by decide) (fun c7 => ?_) (fun c7 => ?_)
    · refine J_iconst (nI 0) (by decide) dX10_isWithin_14 ?_
      exact J_zreturn dX10_isWithin_15 rfl (by first | rfl | exact jb_n _) (by rw [show decide (¬ x < a ∧ ¬ b < x) = false by simp only [decide_eq_false_iff_not]; intro z; exact z.2 c7] at hQ; exact hQ) (by decide) (by decide) (fun _ => rfl)
    · refine J_iconst (nI 1) (by decide) dX10_isWithin_10 ?_
      refine J_goto 15 dX10_isWithin_11 (by decide) ?_
      exact J_zreturn dX10_isWithin_15 rfl (by first | rfl | exact jb_n _) (by rw [show decide (¬ x < a ∧ ¬ b < x) = true by simp only [decide_eq_true_eq]; exact ⟨c2, c7⟩] at hQ; exact hQ) (by decide) (by decide) (fun _ => rfl)
theorem c_X10_isWithin_n {x b : Nat} (hx : x < 2 ^ 31) (hb : b < 2 ^ 31) (hQ : Q (.inl (some (.int (jb (decide (x ≤ b)))))) h) : jCT G M_X10_isWithin 1 0 0 X [.int (nI x), .int (nI 0), .int (nI b)] h Q := by
  refine c_X10_isWithin _ _ _ ?_
  rw [show decide (¬ nI x < nI 0 ∧ ¬ nI b < nI x) = decide (x ≤ b) by
    have h1 : ¬ nI x < nI 0 := by rw [nI_0]; exact nI_pos hx
    have h2 : nI b < nI x ↔ b < x := nI_ltI hb hx
    have h3 : (¬ nI x < nI 0 ∧ ¬ nI b < nI x) ↔ x ≤ b := by rw [h2]; exact ⟨fun z => Nat.le_of_not_lt z.2, fun z => ⟨h1, Nat.not_lt.mpr z⟩⟩
    simp only [h3]]
  exact hQ
theorem c_X5_settledDistance {v : Nat} (hv : v < 12) (hP : h[11]? = some hPaths) (hA : h[12]? = some (ia 12 D)) (hQ : Q (.inl (some (.int (nI (D v))))) h) : jCT G M_X5_settledDistance 2 0 0 X [.ref 11, .int (nI v)] h Q := by
  refine jCT_of [some (.ref 11), some (.int (nI v))] 0 rfl (by decide +kernel) rfl rfl ?_
  refine J_iload_n (by rfl) dX5_settledDistance_0 ?_
  refine J_iconst (nI 0) (by decide) dX5_settledDistance_1 ?_
  refine J_bipush (nI 11) (by decide) dX5_settledDistance_2 ?_
  refine J_SN3v dX5_settledDistance_4 s_X5_25 m_X10_isWithin rfl (c_X10_isWithin_n (by omega) (by omega) (jKv_i ?_))
  refine J_if_eq_b 19 dX5_settledDistance_7 (by decide) (fun c7 => ?_) (fun c7 => ?_)
  · simp only [decide_eq_false_iff_not] at c7; omega
  · refine J_aload_n (by rfl) (by rfl) dX5_settledDistance_10 ?_
    refine J_get dX5_settledDistance_11 f_X5_9 (by repeat (first | assumption | exact jget_same2 (by (try simp only [List.length_set]); exact jlt (by assumption)) | refine jget_ne (by first | decide | assumption | omega) ?_)) (by rfl) ?_
    refine J_iload_n (by rfl) dX5_settledDistance_14 ?_
    refine J_iald_n (v) dX5_settledDistance_15 (by repeat (first | assumption | exact jget_same2 (by (try simp only [List.length_set]); exact jlt (by assumption)) | refine jget_ne (by first | decide | assumption | omega) ?_)) (by first | rfl | (simp only [pk_mul, nI_add]; done) | (simp only [pk_mul, nI_add]; congr 1; omega) | (congr 1; omega)) (by omega) ?_
    refine J_goto 21 dX5_settledDistance_16 (by decide) ?_
    exact J_ireturn dX5_settledDistance_21 rfl (hQ) (by decide) (by decide) (fun _ => rfl)
theorem c_X5_relaxedDistance {v : Nat} (hv : v < 12) (hP : h[11]? = some hPaths) (hA : h[13]? = some (ia 12 D)) (hQ : Q (.inl (some (.int (nI (D v))))) h) : jCT G M_X5_relaxedDistance 2 0 0 X [.ref 11, .int (nI v)] h Q := by
  refine jCT_of [some (.ref 11), some (.int (nI v))] 0 rfl (by decide +kernel) rfl rfl ?_
  refine J_iload_n (by rfl) dX5_relaxedDistance_0 ?_
  refine J_iconst (nI 0) (by decide) dX5_relaxedDistance_1 ?_
  refine J_bipush (nI 11) (by decide) dX5_relaxedDistance_2 ?_
  refine J_SN3v dX5_relaxedDistance_4 s_X5_25 m_X10_isWithin rfl (c_X10_isWithin_n (by omega) (by omega) (jKv_i ?_))
  refine J_if_eq_b 19 dX5_relaxedDistance_7 (by decide) (fun c7 => ?_) (fun c7 => ?_)
  · simp only [decide_eq_false_iff_not] at c7; omega
  · refine J_aload_n (by rfl) (by rfl) dX5_relaxedDistance_10 ?_
    refine J_get dX5_relaxedDistance_11 f_X5_15 (by repeat (first | assumption | exact jget_same2 (by (try simp only [List.length_set]); exact jlt (by assumption)) | refine jget_ne (by first | decide | assumption | omega) ?_)) (by rfl) ?_
    refine J_iload_n (by rfl) dX5_relaxedDistance_14 ?_
    refine J_iald_n (v) dX5_relaxedDistance_15 (by repeat (first | assumption | exact jget_same2 (by (try simp only [List.length_set]); exact jlt (by assumption)) | refine jget_ne (by first | decide | assumption | omega) ?_)) (by first | rfl | (simp only [pk_mul, nI_add]; done) | (simp only [pk_mul, nI_add]; congr 1; omega) | (congr 1; omega)) (by omega) ?_
    refine J_goto 21 dX5_relaxedDistance_16 (by decide) ?_
    exact J_ireturn dX5_relaxedDistance_21 rfl (hQ) (by decide) (by decide) (fun _ => rfl)
theorem c_X5_clearMarks (hP : h[11]? = some hPaths) (hK : h[15]? = some (za 12 m)) (hQ : ∀ m', (∀ k, k < 12 → m' k = false) → Q (.inl none) (h.set 15 (za 12 m'))) : jCT G M_X5_clearMarks 1 0 0 X [.ref 11] h Q := by
  refine jCT_of [some (.ref 11), none] 1 rfl (by decide +kernel) rfl rfl ?_
  refine J_iconst (nI 0) (by decide) dX5_clearMarks_0 ?_
  refine J_istore_1 dX5_clearMarks_1 ?_
  suffices loop : ∀ i, i ≤ 12 → ∀ m', (∀ k, k < i → m' k = false) → J G (jR 1 0 0) (jFin G Q X 0 0) M_X5_clearMarks X 0 0 2 [some (.ref 11), some (.int (nI i))] [] (h.set 15 (za 12 m')) by
    have := loop 0 (by omega) m (fun k hk => by omega)
    rw [hset_id hK] at this
    exact this
  refine up_ind 12 (fun i hi ih m' hm => ?_)
  refine J_iload_n (by rfl) dX5_clearMarks_2 ?_
  refine J_bipush (nI 12) (by decide) dX5_clearMarks_3 ?_
  refine J_icmp_ge_n 21 dX5_clearMarks_5 (by decide) (fun c5 => ?_) (fun c5 => ?_)
  · exact J_return dX5_clearMarks_21 rfl (hQ m' (fun k hk => hm k (by omega))) (by decide) (by decide) (fun _ => rfl)
  · refine J_aload_n (by rfl) (by rfl) dX5_clearMarks_8 ?_
    refine J_get dX5_clearMarks_9 f_X5_21 (by repeat (first | assumption | exact jget_same2 (by (try simp only [List.length_set]); exact jlt (by assumption)) | refine jget_ne (by first | decide | assumption | omega) ?_)) (by rfl) ?_
    refine J_iload_n (by rfl) dX5_clearMarks_12 ?_
    refine J_iconst (nI 0) (by decide) dX5_clearMarks_13 ?_
    refine J_topi (jb false) (by decide) ?_
    refine J_zast_n (i) dX5_clearMarks_14 (by repeat (first | assumption | exact jget_same2 (by (try simp only [List.length_set]); exact jlt (by assumption)) | refine jget_ne (by first | decide | assumption | omega) ?_)) (by first | rfl | (simp only [pk_mul, nI_add]; done) | (simp only [pk_mul, nI_add]; congr 1; omega) | (congr 1; omega)) (by omega) ?_
    refine J_iinc_1 (nI 1) dX5_clearMarks_15 (by decide) ?_
    try rw [nI_add]
    refine J_goto 2 dX5_clearMarks_18 (by decide) ?_
    rw [List.set_set]
    exact ih c5 _ (fun k hk => by unfold updN; split; rfl; exact hm k (by omega))
theorem c_X5_startRow {a s : Nat} {f : Nat → Nat} (hs : s < 12) (hA : h[a]? = some (ia 12 f)) (hQ : ∀ D, (∀ k, k < 12 → D k = if k = s then 0 else 1000000) → Q (.inl none) (h.set a (ia 12 D))) : jCT G M_X5_startRow 1 0 0 X [.ref a, .int (nI s)] h Q := by
  refine jCT_of [some (.ref a), some (.int (nI s)), none] 1 rfl (by decide +kernel) rfl rfl ?_
  refine J_iconst (nI 0) (by decide) dX5_startRow_0 ?_
  refine J_istore_2 dX5_startRow_1 ?_
  suffices loop : ∀ i, i ≤ 12 → ∀ D, (∀ k, k < i → D k = if k = s then 0 else 1000000) → J G (jR 1 0 0) (jFin G Q X 0 0) M_X5_startRow X 0 0 2 [some (.ref a), some (.int (nI s)), some (.int (nI i))] [] (h.set a (ia 12 D)) by
    have := loop 0 (by omega) f (fun k hk => by omega)
    rw [hset_id hA] at this
    exact this
  refine up_ind 12 (fun i hi ih D hD => ?_)
  refine J_iload_n (by rfl) dX5_startRow_2 ?_
  refine J_bipush (nI 12) (by decide) dX5_startRow_3 ?_
  refine J_icmp_ge_n 34 dX5_startRow_5 (by decide) (fun c5 => ?_) (fun c5 => ?_)
  · exact J_return dX5_startRow_34 rfl (hQ D (fun k hk => hD k (by omega))) (by decide) (by decide) (fun _ => rfl)
  · refine J_iload_n (by rfl) dX5_startRow_8 ?_
    refine J_aload_n (by rfl) (by rfl) dX5_startRow_9 ?_
    refine J_alen (x := 0) dX5_startRow_10 (by repeat (first | assumption | exact jget_same2 (by (try simp only [List.length_set]); exact jlt (by assumption)) | refine jget_ne (by first | decide | assumption | omega) ?_)) (by decide) ?_
    refine J_icmp_ge_n 34 dX5_startRow_11 (by decide) (fun c11 => ?_) (fun c11 => ?_)
    · omega
    · refine J_aload_n (by rfl) (by rfl) dX5_startRow_14 ?_
      refine J_iload_n (by rfl) dX5_startRow_15 ?_
      refine J_iload_n (by rfl) dX5_startRow_16 ?_
      refine J_iload_n (by rfl) dX5_startRow_17 ?_
      refine J_icmp_ne_n 25 dX5_startRow_18 (by decide) (fun c18 => ?_) (fun c18 => ?_)
      · refine J_ldcI dX5_startRow_25 k_X5_29 ?_
        refine J_topi (nI 1000000) (by rfl) ?_
        refine J_iast_n (i) dX5_startRow_27 (by repeat (first | assumption | exact jget_same2 (by (try simp only [List.length_set]); exact jlt (by assumption)) | refine jget_ne (by first | decide | assumption | omega) ?_)) (by first | rfl | (simp only [pk_mul, nI_add]; done) | (simp only [pk_mul, nI_add]; congr 1; omega) | (congr 1; omega)) (by omega) ?_
        refine J_iinc_2 (nI 1) dX5_startRow_28 (by decide) ?_
        try rw [nI_add]
        refine J_goto 2 dX5_startRow_31 (by decide) ?_
        rw [List.set_set]
        exact ih c5 _ (fun k hk => by
          unfold updN; split
          · rename_i e; subst e; rw [if_neg c18]
          · exact hD k (by omega))
      · refine J_iconst (nI 0) (by decide) dX5_startRow_21 ?_
        refine J_goto 27 dX5_startRow_22 (by decide) ?_
        refine J_iast_n (i) dX5_startRow_27 (by repeat (first | assumption | exact jget_same2 (by (try simp only [List.length_set]); exact jlt (by assumption)) | refine jget_ne (by first | decide | assumption | omega) ?_)) (by first | rfl | (simp only [pk_mul, nI_add]; done) | (simp only [pk_mul, nI_add]; congr 1; omega) | (congr 1; omega)) (by omega) ?_
        refine J_iinc_2 (nI 1) dX5_startRow_28 (by decide) ?_
        try rw [nI_add]
        refine J_goto 2 dX5_startRow_31 (by decide) ?_
        rw [List.set_set]
        exact ih c5 _ (fun k hk => by
          unfold updN; split
          · rename_i e; subst e; rw [if_pos c18]
          · exact hD k (by omega))
theorem c_X5_shorten {a u v l : Nat} (hu : u < 12) (hv : v < 12) (hl : l ≤ 99) (hD : ∀ k, k < 12 → D k ≤ 1000000) (hA : h[a]? = some (ia 12 D))
    (hQ1 : D u + l < D v → Q (.inl (some (.int (jb true)))) (h.set a (ia 12 (updN D v (D u + l))))) (hQ2 : ¬ D u + l < D v → Q (.inl (some (.int (jb false)))) h) : jCT G M_X5_shorten 2 0 0 X [.ref a, .int (nI u), .int (nI v), .int (nI l)] h Q := by
  refine jCT_of [some (.ref a), some (.int (nI u)), some (.int (nI v)), some (.int (nI l))] 0 rfl (by decide +kernel) rfl rfl ?_
  have h1 := hD u hu
  have h2 := hD v hv
  refine J_iload_n (by rfl) dX5_shorten_0 ?_
  refine J_iconst (nI 0) (by decide) dX5_shorten_1 ?_
  refine J_aload_n (by rfl) (by rfl) dX5_shorten_2 ?_
  refine J_alen (x := 0) dX5_shorten_3 (by repeat (first | assumption | exact jget_same2 (by (try simp only [List.length_set]); exact jlt (by assumption)) | refine jget_ne (by first | decide | assumption | omega) ?_)) (by decide) ?_
  refine J_iconst (nI 1) (by decide) dX5_shorten_4 ?_
  refine J_isub_n (by omega) dX5_shorten_5 ?_
  refine J_SN3v dX5_shorten_6 s_X5_25 m_X10_isWithin rfl (c_X10_isWithin_n (by omega) (by omega) (jKv_i ?_))
  refine J_if_eq_b 24 dX5_shorten_9 (by decide) (fun c9 => ?_) (fun c9 => ?_)
  · simp only [decide_eq_false_iff_not] at c9; omega
  · refine J_iload_n (by rfl) dX5_shorten_12 ?_
    refine J_iconst (nI 0) (by decide) dX5_shorten_13 ?_
    refine J_aload_n (by rfl) (by rfl) dX5_shorten_14 ?_
    refine J_alen (x := 0) dX5_shorten_15 (by repeat (first | assumption | exact jget_same2 (by (try simp only [List.length_set]); exact jlt (by assumption)) | refine jget_ne (by first | decide | assumption | omega) ?_)) (by decide) ?_
    refine J_iconst (nI 1) (by decide) dX5_shorten_16 ?_
    refine J_isub_n (by omega) dX5_shorten_17 ?_
    refine J_SN3v dX5_shorten_18 s_X5_25 m_X10_isWithin rfl (c_X10_isWithin_n (by omega) (by omega) (jKv_i ?_))
    refine J_if_ne_b 26 dX5_shorten_21 (by decide) (fun c21 => ?_) (fun c21 => ?_)
    · refine J_aload_n (by rfl) (by rfl) dX5_shorten_26 ?_
      refine J_iload_n (by rfl) dX5_shorten_27 ?_
      refine J_iald_n (u) dX5_shorten_28 (by repeat (first | assumption | exact jget_same2 (by (try simp only [List.length_set]); exact jlt (by assumption)) | refine jget_ne (by first | decide | assumption | omega) ?_)) (by first | rfl | (simp only [pk_mul, nI_add]; done) | (simp only [pk_mul, nI_add]; congr 1; omega) | (congr 1; omega)) (by omega) ?_
      refine J_ldcI dX5_shorten_29 k_X5_29 ?_
      refine J_topi (nI 1000000) (by rfl) ?_
      refine J_icmp_ge_n 45 dX5_shorten_31 (by decide) (fun c31 => ?_) (fun c31 => ?_)
      · refine J_iconst (nI 0) (by decide) dX5_shorten_45 ?_
        exact J_zreturn dX5_shorten_46 rfl (by first | rfl | exact jb_n _) (hQ2 (by omega)) (by decide) (by decide) (fun _ => rfl)
      · refine J_aload_n (by rfl) (by rfl) dX5_shorten_34 ?_
        refine J_iload_n (by rfl) dX5_shorten_35 ?_
        refine J_iald_n (u) dX5_shorten_36 (by repeat (first | assumption | exact jget_same2 (by (try simp only [List.length_set]); exact jlt (by assumption)) | refine jget_ne (by first | decide | assumption | omega) ?_)) (by first | rfl | (simp only [pk_mul, nI_add]; done) | (simp only [pk_mul, nI_add]; congr 1; omega) | (congr 1; omega)) (by omega) ?_
        refine J_iload_n (by rfl) dX5_shorten_37 ?_
        refine J_iadd dX5_shorten_38 ?_
        try rw [nI_add]
        refine J_aload_n (by rfl) (by rfl) dX5_shorten_39 ?_
        refine J_iload_n (by rfl) dX5_shorten_40 ?_
        refine J_iald_n (v) dX5_shorten_41 (by repeat (first | assumption | exact jget_same2 (by (try simp only [List.length_set]); exact jlt (by assumption)) | refine jget_ne (by first | decide | assumption | omega) ?_)) (by first | rfl | (simp only [pk_mul, nI_add]; done) | (simp only [pk_mul, nI_add]; congr 1; omega) | (congr 1; omega)) (by omega) ?_
        refine J_icmp_lt_n 47 dX5_shorten_42 (by decide) (fun c42 => ?_) (fun c42 => ?_)
        · refine J_aload_n (by rfl) (by rfl) dX5_shorten_47 ?_
          refine J_iload_n (by rfl) dX5_shorten_48 ?_
          refine J_aload_n (by rfl) (by rfl) dX5_shorten_49 ?_
          refine J_iload_n (by rfl) dX5_shorten_50 ?_
          refine J_iald_n (u) dX5_shorten_51 (by repeat (first | assumption | exact jget_same2 (by (try simp only [List.length_set]); exact jlt (by assumption)) | refine jget_ne (by first | decide | assumption | omega) ?_)) (by first | rfl | (simp only [pk_mul, nI_add]; done) | (simp only [pk_mul, nI_add]; congr 1; omega) | (congr 1; omega)) (by omega) ?_
          refine J_iload_n (by rfl) dX5_shorten_52 ?_
          refine J_iadd dX5_shorten_53 ?_
          try rw [nI_add]
          refine J_iast_n (v) dX5_shorten_54 (by repeat (first | assumption | exact jget_same2 (by (try simp only [List.length_set]); exact jlt (by assumption)) | refine jget_ne (by first | decide | assumption | omega) ?_)) (by first | rfl | (simp only [pk_mul, nI_add]; done) | (simp only [pk_mul, nI_add]; congr 1; omega) | (congr 1; omega)) (by omega) ?_
          refine J_iconst (nI 1) (by decide) dX5_shorten_55 ?_
          exact J_zreturn dX5_shorten_56 rfl (by first | rfl | exact jb_n _) (hQ1 c42) (by decide) (by decide) (fun _ => rfl)
        · refine J_iconst (nI 0) (by decide) dX5_shorten_45 ?_
          exact J_zreturn dX5_shorten_46 rfl (by first | rfl | exact jb_n _) (hQ2 (by omega)) (by decide) (by decide) (fun _ => rfl)
    · simp only [decide_eq_false_iff_not] at c21; omega
theorem c_X5_closestUnmarked (hD : ∀ k, k < 12 → D k ≤ 1000000) (hP : h[11]? = some hPaths) (hA : h[12]? = some (ia 12 D)) (hK : h[15]? = some (za 12 m))
    (hQ1 : (∀ k, k < 12 → m k = false → D k = 1000000) → Q (.inl (some (.int (-1)))) h)
    (hQ2 : ∀ k, k < 12 → m k = false → D k < 1000000 → (∀ j, j < 12 → m j = false → D k ≤ D j) → Q (.inl (some (.int (nI k)))) h) : jCT G M_X5_closestUnmarked 1 0 0 X [.ref 11] h Q := by
  refine jCT_of [some (.ref 11), none, none, none] 3 rfl (by decide +kernel) rfl rfl ?_
  refine J_iconst (-1) (by decide) dX5_closestUnmarked_0 ?_
  refine J_istore_1 dX5_closestUnmarked_1 ?_
  refine J_ldcI dX5_closestUnmarked_2 k_X5_29 ?_
  refine J_topi (nI 1000000) (by rfl) ?_
  refine J_istore_2 dX5_closestUnmarked_4 ?_
  refine J_iconst (nI 0) (by decide) dX5_closestUnmarked_5 ?_
  refine J_istore_3 dX5_closestUnmarked_6 ?_
  suffices loop : ∀ i, i ≤ 12 → ∀ (b : Int32) (l : Nat), l ≤ 1000000 → ((b = -1 ∧ l = 1000000 ∧ ∀ j, j < i → m j = false → D j = 1000000) ∨ (∃ k, k < i ∧ b = nI k ∧ m k = false ∧ D k = l ∧ l < 1000000 ∧ ∀ j, j < i → m j = false → l ≤ D j)) → J G (jR 1 0 0) (jFin G Q X 0 0) M_X5_closestUnmarked X 0 0 7 [some (.ref 11), some (.int b), some (.int (nI l)), some (.int (nI i))] [] h by
    exact loop 0 (by omega) _ _ (by omega) (.inl ⟨rfl, rfl, fun j hj => by omega⟩)
  refine up_ind 12 (fun i hi ih b l hl hI => ?_)
  refine J_iload_n (by rfl) dX5_closestUnmarked_7 ?_
  refine J_bipush (nI 12) (by decide) dX5_closestUnmarked_8 ?_
  refine J_icmp_ge_n 47 dX5_closestUnmarked_10 (by decide) (fun c10 => ?_) (fun c10 => ?_)
  · refine J_iload_n (by rfl) dX5_closestUnmarked_47 ?_
    exact J_ireturn dX5_closestUnmarked_48 rfl (by
      · rcases hI with ⟨rfl, h1, h2⟩ | ⟨k, h1, rfl, h2, h3, h4, h5⟩
        · exact hQ1 (fun k hk => h2 k (by omega))
        · exact hQ2 k (by omega) h2 (by omega) (fun j hj hm => by have := h5 j (by omega) hm; omega)) (by decide) (by decide) (fun _ => rfl)
  · have hDi := hD i c10
    refine J_aload_n (by rfl) (by rfl) dX5_closestUnmarked_13 ?_
    refine J_get dX5_closestUnmarked_14 f_X5_21 (by repeat (first | assumption | exact jget_same2 (by (try simp only [List.length_set]); exact jlt (by assumption)) | refine jget_ne (by first | decide | assumption | omega) ?_)) (by rfl) ?_
    refine J_iload_n (by rfl) dX5_closestUnmarked_17 ?_
    refine J_zald_n (i) dX5_closestUnmarked_18 (by repeat (first | assumption | exact jget_same2 (by (try simp only [List.length_set]); exact jlt (by assumption)) | refine jget_ne (by first | decide | assumption | omega) ?_)) (by first | rfl | (simp only [pk_mul, nI_add]; done) | (simp only [pk_mul, nI_add]; congr 1; omega) | (congr 1; omega)) (by omega) ?_
    refine J_if_ne_b 41 dX5_closestUnmarked_19 (by decide) (fun c19 => ?_) (fun c19 => ?_)
    · refine J_iinc_3 (nI 1) dX5_closestUnmarked_41 (by decide) ?_
      try rw [nI_add]
      refine J_goto 7 dX5_closestUnmarked_44 (by decide) ?_
      refine ih c10 b l hl ?_
      rcases hI with ⟨h0, h1, h2⟩ | ⟨k, h1, h0, h2, h3, h4, h5⟩
      · refine .inl ⟨h0, h1, fun j hj hm => ?_⟩
        by_cases e : j = i
        · subst e; rw [c19] at hm; exact absurd hm (by decide)
        · exact h2 j (by omega) hm
      · refine .inr ⟨k, by omega, h0, h2, h3, h4, fun j hj hm => ?_⟩
        by_cases e : j = i
        · subst e; rw [c19] at hm; exact absurd hm (by decide)
        · exact h5 j (by omega) hm
    · refine J_aload_n (by rfl) (by rfl) dX5_closestUnmarked_22 ?_
      refine J_get dX5_closestUnmarked_23 f_X5_9 (by repeat (first | assumption | exact jget_same2 (by (try simp only [List.length_set]); exact jlt (by assumption)) | refine jget_ne (by first | decide | assumption | omega) ?_)) (by rfl) ?_
      refine J_iload_n (by rfl) dX5_closestUnmarked_26 ?_
      refine J_iald_n (i) dX5_closestUnmarked_27 (by repeat (first | assumption | exact jget_same2 (by (try simp only [List.length_set]); exact jlt (by assumption)) | refine jget_ne (by first | decide | assumption | omega) ?_)) (by first | rfl | (simp only [pk_mul, nI_add]; done) | (simp only [pk_mul, nI_add]; congr 1; omega) | (congr 1; omega)) (by omega) ?_
      refine J_iload_n (by rfl) dX5_closestUnmarked_28 ?_
      refine J_icmp_ge_n 41 dX5_closestUnmarked_29 (by decide) (fun c29 => ?_) (fun c29 => ?_)
      · refine J_iinc_3 (nI 1) dX5_closestUnmarked_41 (by decide) ?_
        try rw [nI_add]
        refine J_goto 7 dX5_closestUnmarked_44 (by decide) ?_
        refine ih c10 b l hl ?_
        rcases hI with ⟨h0, h1, h2⟩ | ⟨k, h1, h0, h2, h3, h4, h5⟩
        · refine .inl ⟨h0, h1, fun j hj hm => ?_⟩
          by_cases e : j = i
          · subst e; omega
          · exact h2 j (by omega) hm
        · refine .inr ⟨k, by omega, h0, h2, h3, h4, fun j hj hm => ?_⟩
          by_cases e : j = i
          · subst e; omega
          · exact h5 j (by omega) hm
      · refine J_iload_n (by rfl) dX5_closestUnmarked_32 ?_
        refine J_istore_1 dX5_closestUnmarked_33 ?_
        refine J_aload_n (by rfl) (by rfl) dX5_closestUnmarked_34 ?_
        refine J_get dX5_closestUnmarked_35 f_X5_9 (by repeat (first | assumption | exact jget_same2 (by (try simp only [List.length_set]); exact jlt (by assumption)) | refine jget_ne (by first | decide | assumption | omega) ?_)) (by rfl) ?_
        refine J_iload_n (by rfl) dX5_closestUnmarked_38 ?_
        refine J_iald_n (i) dX5_closestUnmarked_39 (by repeat (first | assumption | exact jget_same2 (by (try simp only [List.length_set]); exact jlt (by assumption)) | refine jget_ne (by first | decide | assumption | omega) ?_)) (by first | rfl | (simp only [pk_mul, nI_add]; done) | (simp only [pk_mul, nI_add]; congr 1; omega) | (congr 1; omega)) (by omega) ?_
        refine J_istore_2 dX5_closestUnmarked_40 ?_
        refine J_iinc_3 (nI 1) dX5_closestUnmarked_41 (by decide) ?_
        try rw [nI_add]
        refine J_goto 7 dX5_closestUnmarked_44 (by decide) ?_
        refine ih c10 (nI i) (D i) hDi (.inr ⟨i, by omega, rfl, c19, rfl, by omega, fun j hj hm => ?_⟩)
        by_cases e : j = i
        · subst e; omega
        · rcases hI with ⟨h0, h1, h2⟩ | ⟨k, h1, h0, h2, h3, h4, h5⟩
          · have := h2 j (by omega) hm; omega
          · have := h5 j (by omega) hm; omega
end PATHS
