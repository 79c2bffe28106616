/-! The program buffer and its parser in the class -/
abbrev hPg (sz po ct vc : Nat) : jC := .inr (6, [.ref 110, .ref 111, .ref 112, .ref 113, .int (nI sz), .int (nI po), .int (nI ct), .int (nI vc)])
theorem sg_lt {tx : Nat → Nat} {tp p c : Nat} (hc : c < 65536) : sg tx tp p = c ↔ p < tp ∧ tx p = c := by
  unfold sg
  split <;> omega
theorem nd_le (g : Nat → Nat) : ∀ m p, nd g m p ≤ m
  | 0, _ => Nat.le_refl _
  | m + 1, p => by unfold nd; have := nd_le g m (p + 1); split <;> omega
theorem nd_s {tx : Nat → Nat} {tp : Nat} : ∀ m p, p ≤ tp → p + nd (sg tx tp) m p ≤ tp
  | 0, p, h => h
  | m + 1, p, h => by
    unfold nd
    split
    · rename_i hd
      unfold dgt at hd
      have hd := of_decide_eq_true hd
      have hp : p < tp := by
        unfold sg at hd
        split at hd
        · assumption
        · omega
      have := nd_s (tx := tx) (tp := tp) m (p + 1) (by omega)
      omega
    · exact h
def npow : Nat → Nat
  | 0 => 1
  | m + 1 => 10 * npow m
theorem nv_lt (g : Nat → Nat) : ∀ m p a, nv g m p a < (a + 1) * npow m
  | 0, p, a => by unfold nv npow; omega
  | m + 1, p, a => by
    unfold nv npow
    split
    · rename_i hd
      have hd := of_decide_eq_true hd
      have := nv_lt g m (p + 1) (10 * a + (g p - 48))
      refine Nat.lt_of_lt_of_le this ?_
      rw [← Nat.mul_assoc]
      exact Nat.mul_le_mul_right _ (by omega)
    · have h1 : 1 ≤ 10 * npow m := by
        have : ∀ m, 1 ≤ npow m := fun m => by
          induction m with
          | zero => exact Nat.le_refl _
          | succ m ih => unfold npow; omega
        have := this m; omega
      have := Nat.mul_le_mul_left (a + 1) h1
      omega
section CP
variable {G : jG} {X : Bool} {h : jH} {Q : jQ_} {sz po ct vc : Nat} {tx ks as_ vs : Nat → Nat}
theorem c_X6_isFull (hs : sz ≤ 60) (hO : h[109]? = some (hPg sz po ct vc)) (hQ : Q (.inl (some (.int (jb (decide (60 ≤ sz)))))) h) : jCT G M_X6_isFull 1 0 0 X [.ref 109] h Q := by
  refine jCT_of [some (.ref 109)] 0 rfl (by decide +kernel) rfl rfl ?_
  refine J_aload_n (by rfl) (by rfl) dX6_isFull_0 ?_
  refine J_get dX6_isFull_1 f_X6_25 (by repeat (first | assumption | exact jget_same2 (by (try simp only [List.length_set]); exact jlt (by assumption)) | refine jget_ne (by first | decide | assumption | omega) ?_)) (by rfl) ?_
  refine J_bipush (nI 60) (by decide) dX6_isFull_4 ?_
  refine J_icmp_lt_n 13 dX6_isFull_6 (by decide) (fun c6 => ?_) (fun c6 => ?_)
  · refine J_iconst (nI 0) (by decide) dX6_isFull_13 ?_
    exact J_zreturn dX6_isFull_14 rfl (by first | rfl | exact jb_n _) (by rw [show decide (60 ≤ sz) = false by simp; omega] at hQ; exact hQ) (by decide) (by decide) (fun _ => rfl)
  · refine J_iconst (nI 1) (by decide) dX6_isFull_9 ?_
    refine J_goto 14 dX6_isFull_10 (by decide) ?_
    exact J_zreturn dX6_isFull_14 rfl (by first | rfl | exact jb_n _) (by rw [show decide (60 ≤ sz) = true by simp; omega] at hQ; exact hQ) (by decide) (by decide) (fun _ => rfl)
theorem c_X6_append {v : Nat} (hs : sz < 60) (hv : v < 65536) (hO : h[109]? = some (hPg sz po ct vc)) (hT : h[110]? = some (ca 60 tx)) (hQ : Q (.inl (some (.int (nI (sz + 1))))) ((h.set 110 (ca 60 (updN tx sz v))).set 109 (hPg (sz + 1) po ct vc))) : jCT G M_X6_append 1 0 0 X [.ref 109, .int (nI v)] h Q := by
  refine jCT_of [some (.ref 109), some (.int (nI v))] 0 rfl (by decide +kernel) rfl rfl ?_
  refine J_aload_n (by rfl) (by rfl) dX6_append_0 ?_
  refine J_get dX6_append_1 f_X6_25 (by repeat (first | assumption | exact jget_same2 (by (try simp only [List.length_set]); exact jlt (by assumption)) | refine jget_ne (by first | decide | assumption | omega) ?_)) (by rfl) ?_
  refine J_if_lt_n 36 dX6_append_4 (by decide) ?_
  refine J_aload_n (by rfl) (by rfl) dX6_append_7 ?_
  refine J_get dX6_append_8 f_X6_25 (by repeat (first | assumption | exact jget_same2 (by (try simp only [List.length_set]); exact jlt (by assumption)) | refine jget_ne (by first | decide | assumption | omega) ?_)) (by rfl) ?_
  refine J_bipush (nI 60) (by decide) dX6_append_11 ?_
  refine J_icmp_ge_n 36 dX6_append_13 (by decide) (fun c13 => ?_) (fun c13 => ?_)
  · omega
  · refine J_aload_n (by rfl) (by rfl) dX6_append_16 ?_
    refine J_get dX6_append_17 f_X6_9 (by repeat (first | assumption | exact jget_same2 (by (try simp only [List.length_set]); exact jlt (by assumption)) | refine jget_ne (by first | decide | assumption | omega) ?_)) (by rfl) ?_
    refine J_aload_n (by rfl) (by rfl) dX6_append_20 ?_
    refine J_get dX6_append_21 f_X6_25 (by repeat (first | assumption | exact jget_same2 (by (try simp only [List.length_set]); exact jlt (by assumption)) | refine jget_ne (by first | decide | assumption | omega) ?_)) (by rfl) ?_
    refine J_iload_n (by rfl) dX6_append_24 ?_
    refine J_cast_n (by omega) (sz) dX6_append_25 (by repeat (first | assumption | exact jget_same2 (by (try simp only [List.length_set]); exact jlt (by assumption)) | refine jget_ne (by first | decide | assumption | omega) ?_)) (by first | rfl | (simp only [pk_mul, nI_add]; done) | (simp only [pk_mul, nI_add]; congr 1; omega) | (congr 1; omega)) (by omega) ?_
    refine J_aload_n (by rfl) (by rfl) dX6_append_26 ?_
    refine J_dup (by rfl) dX6_append_27 ?_
    refine J_get dX6_append_28 f_X6_25 (by repeat (first | assumption | exact jget_same2 (by (try simp only [List.length_set]); exact jlt (by assumption)) | refine jget_ne (by first | decide | assumption | omega) ?_)) (by rfl) ?_
    refine J_iconst (nI 1) (by decide) dX6_append_31 ?_
    refine J_iadd dX6_append_32 ?_
    try rw [nI_add]
    refine J_put_4 dX6_append_33 p_X6_25 (by repeat (first | assumption | exact jget_same2 (by (try simp only [List.length_set]); exact jlt (by assumption)) | refine jget_ne (by first | decide | assumption | omega) ?_)) ?_
    refine J_aload_n (by rfl) (by rfl) dX6_append_36 ?_
    refine J_get dX6_append_37 f_X6_25 (by repeat (first | assumption | exact jget_same2 (by (try simp only [List.length_set]); exact jlt (by assumption)) | refine jget_ne (by first | decide | assumption | omega) ?_)) (by rfl) ?_
    exact J_ireturn dX6_append_40 rfl (hQ) (by decide) (by decide) (fun _ => rfl)
theorem c_X6_empty (hO : h[109]? = some (hPg sz po ct vc)) (hQ : Q (.inl none) (h.set 109 (hPg 0 po ct vc))) : jCT G M_X6_empty 1 0 0 X [.ref 109] h Q := by
  refine jCT_of [some (.ref 109)] 0 rfl (by decide +kernel) rfl rfl ?_
  refine J_aload_n (by rfl) (by rfl) dX6_empty_0 ?_
  refine J_iconst (nI 0) (by decide) dX6_empty_1 ?_
  refine J_put_4 dX6_empty_2 p_X6_25 (by repeat (first | assumption | exact jget_same2 (by (try simp only [List.length_set]); exact jlt (by assumption)) | refine jget_ne (by first | decide | assumption | omega) ?_)) ?_
  exact J_return dX6_empty_5 rfl (hQ) (by decide) (by decide) (fun _ => rfl)
theorem c_X6_kindOf {i : Nat} (hi : i < 13) (hO : h[109]? = some (hPg sz po ct vc)) (hT : h[111]? = some (ia 13 ks)) (hQ : Q (.inl (some (.int (nI (ks i))))) h) : jCT G M_X6_kindOf 2 0 0 X [.ref 109, .int (nI i)] h Q := by
  refine jCT_of [some (.ref 109), some (.int (nI i))] 0 rfl (by decide +kernel) rfl rfl ?_
  refine J_iload_n (by rfl) dX6_kindOf_0 ?_
  refine J_iconst (nI 0) (by decide) dX6_kindOf_1 ?_
  refine J_bipush (nI 12) (by decide) dX6_kindOf_2 ?_
  refine J_SN3v dX6_kindOf_4 s_X6_29 m_X10_isWithin rfl (c_X10_isWithin_n (by omega) (by omega) (jKv_i ?_))
  refine J_if_eq_b 19 dX6_kindOf_7 (by decide) (fun c7 => ?_) (fun c7 => ?_)
  · have c7 : ¬ i ≤ 12 := by simpa using c7
    omega
  · refine J_aload_n (by rfl) (by rfl) dX6_kindOf_10 ?_
    refine J_get dX6_kindOf_11 f_X6_15 (by repeat (first | assumption | exact jget_same2 (by (try simp only [List.length_set]); exact jlt (by assumption)) | refine jget_ne (by first | decide | assumption | omega) ?_)) (by rfl) ?_
    refine J_iload_n (by rfl) dX6_kindOf_14 ?_
    refine J_iald_n (i) dX6_kindOf_15 (by repeat (first | assumption | exact jget_same2 (by (try simp only [List.length_set]); exact jlt (by assumption)) | refine jget_ne (by first | decide | assumption | omega) ?_)) (by first | rfl | (simp only [pk_mul, nI_add]; done) | (simp only [pk_mul, nI_add]; congr 1; omega) | (congr 1; omega)) (by omega) ?_
    refine J_goto 20 dX6_kindOf_16 (by decide) ?_
    exact J_ireturn dX6_kindOf_20 rfl (hQ) (by decide) (by decide) (fun _ => rfl)
theorem c_X6_argumentOf {i j : Nat} (hi : i < 13) (hj : j < 3) (hO : h[109]? = some (hPg sz po ct vc)) (hT : h[112]? = some (ia 39 as_)) (hQ : Q (.inl (some (.int (nI (as_ (i * 3 + j)))))) h) : jCT G M_X6_argumentOf 2 0 0 X [.ref 109, .int (nI i), .int (nI j)] h Q := by
  refine jCT_of [some (.ref 109), some (.int (nI i)), some (.int (nI j))] 0 rfl (by decide +kernel) rfl rfl ?_
  refine J_iload_n (by rfl) dX6_argumentOf_0 ?_
  refine J_iconst (nI 0) (by decide) dX6_argumentOf_1 ?_
  refine J_bipush (nI 12) (by decide) dX6_argumentOf_2 ?_
  refine J_SN3v dX6_argumentOf_4 s_X6_29 m_X10_isWithin rfl (c_X10_isWithin_n (by omega) (by omega) (jKv_i ?_))
  refine J_if_eq_b 19 dX6_argumentOf_7 (by decide) (fun c7 => ?_) (fun c7 => ?_)
  · have c7 : ¬ i ≤ 12 := by simpa using c7
    omega
  · refine J_iload_n (by rfl) dX6_argumentOf_10 ?_
    refine J_iconst (nI 0) (by decide) dX6_argumentOf_11 ?_
    refine J_iconst (nI 2) (by decide) dX6_argumentOf_12 ?_
    refine J_SN3v dX6_argumentOf_13 s_X6_29 m_X10_isWithin rfl (c_X10_isWithin_n (by omega) (by omega) (jKv_i ?_))
    refine J_if_ne_b 21 dX6_argumentOf_16 (by decide) (fun c16 => ?_) (fun c16 => ?_)
    · refine J_aload_n (by rfl) (by rfl) dX6_argumentOf_21 ?_
      refine J_get dX6_argumentOf_22 f_X6_19 (by repeat (first | assumption | exact jget_same2 (by (try simp only [List.length_set]); exact jlt (by assumption)) | refine jget_ne (by first | decide | assumption | omega) ?_)) (by rfl) ?_
      refine J_iload_n (by rfl) dX6_argumentOf_25 ?_
      refine J_iconst (nI 3) (by decide) dX6_argumentOf_26 ?_
      refine J_imul dX6_argumentOf_27 ?_
      try rw [pk_mul]
      refine J_iload_n (by rfl) dX6_argumentOf_28 ?_
      refine J_iadd dX6_argumentOf_29 ?_
      try rw [nI_add]
      refine J_iald_n (i * 3 + j) dX6_argumentOf_30 (by repeat (first | assumption | exact jget_same2 (by (try simp only [List.length_set]); exact jlt (by assumption)) | refine jget_ne (by first | decide | assumption | omega) ?_)) (by first | rfl | (simp only [pk_mul, nI_add]; done) | (simp only [pk_mul, nI_add]; congr 1; omega) | (congr 1; omega)) (by omega) ?_
      exact J_ireturn dX6_argumentOf_31 rfl (hQ) (by decide) (by decide) (fun _ => rfl)
    · have c16 : ¬ j ≤ 2 := by simpa using c16
      omega
theorem c_X6_patternOf {k : Nat} (hk : k ≤ 8) (hQ : Q (.inl (some (.retAddr (2 * (21 + k) + 2)))) h) : jCT G M_X6_patternOf 1 0 0 X [.int (nI k)] h Q := by
  refine jCT_of [some (.int (nI k))] 0 rfl (by decide +kernel) rfl rfl ?_
  refine J_iload_n (by rfl) dX6_patternOf_0 ?_
  rcases (show k = 0 ∨ k = 1 ∨ k = 2 ∨ k = 3 ∨ k = 4 ∨ k = 5 ∨ k = 6 ∨ k = 7 ∨ k = 8 by omega) with rfl | rfl | rfl | rfl | rfl | rfl | rfl | rfl | rfl
  · refine J_tableIn (off := 47) 48 dX6_patternOf_1 (by decide) (by decide) (by decide) (by decide) ?_
    refine J_ldcS (i := 21) dX6_patternOf_48 rfl rfl rfl ?_
    exact J_areturn dX6_patternOf_50 rfl (Or.inl ⟨_, rfl⟩) rfl (hQ) (by decide) (by decide) (fun _ => rfl)
  · refine J_tableIn (off := 50) 51 dX6_patternOf_1 (by decide) (by decide) (by decide) (by decide) ?_
    refine J_ldcS (i := 22) dX6_patternOf_51 rfl rfl rfl ?_
    exact J_areturn dX6_patternOf_53 rfl (Or.inl ⟨_, rfl⟩) rfl (hQ) (by decide) (by decide) (fun _ => rfl)
  · refine J_tableIn (off := 53) 54 dX6_patternOf_1 (by decide) (by decide) (by decide) (by decide) ?_
    refine J_ldcS (i := 23) dX6_patternOf_54 rfl rfl rfl ?_
    exact J_areturn dX6_patternOf_56 rfl (Or.inl ⟨_, rfl⟩) rfl (hQ) (by decide) (by decide) (fun _ => rfl)
  · refine J_tableIn (off := 56) 57 dX6_patternOf_1 (by decide) (by decide) (by decide) (by decide) ?_
    refine J_ldcS (i := 24) dX6_patternOf_57 rfl rfl rfl ?_
    exact J_areturn dX6_patternOf_59 rfl (Or.inl ⟨_, rfl⟩) rfl (hQ) (by decide) (by decide) (fun _ => rfl)
  · refine J_tableIn (off := 59) 60 dX6_patternOf_1 (by decide) (by decide) (by decide) (by decide) ?_
    refine J_ldcS (i := 25) dX6_patternOf_60 rfl rfl rfl ?_
    exact J_areturn dX6_patternOf_62 rfl (Or.inl ⟨_, rfl⟩) rfl (hQ) (by decide) (by decide) (fun _ => rfl)
  · refine J_tableIn (off := 62) 63 dX6_patternOf_1 (by decide) (by decide) (by decide) (by decide) ?_
    refine J_ldcS (i := 26) dX6_patternOf_63 rfl rfl rfl ?_
    exact J_areturn dX6_patternOf_65 rfl (Or.inl ⟨_, rfl⟩) rfl (hQ) (by decide) (by decide) (fun _ => rfl)
  · refine J_tableIn (off := 65) 66 dX6_patternOf_1 (by decide) (by decide) (by decide) (by decide) ?_
    refine J_ldcS (i := 27) dX6_patternOf_66 rfl rfl rfl ?_
    exact J_areturn dX6_patternOf_68 rfl (Or.inl ⟨_, rfl⟩) rfl (hQ) (by decide) (by decide) (fun _ => rfl)
  · refine J_tableIn (off := 68) 69 dX6_patternOf_1 (by decide) (by decide) (by decide) (by decide) ?_
    refine J_ldcS (i := 28) dX6_patternOf_69 rfl rfl rfl ?_
    exact J_areturn dX6_patternOf_71 rfl (Or.inl ⟨_, rfl⟩) rfl (hQ) (by decide) (by decide) (fun _ => rfl)
  · refine J_tableOut 72 dX6_patternOf_1 (by decide) (by decide) ?_
    refine J_ldcS (i := 29) dX6_patternOf_72 rfl rfl rfl ?_
    exact J_areturn dX6_patternOf_74 rfl (Or.inl ⟨_, rfl⟩) rfl (hQ) (by decide) (by decide) (fun _ => rfl)
theorem c_X6_isPlaceholder {c : Nat} (hc : c < 65536) (hQ : Q (.inl (some (.int (jb (decide (c = 78 ∨ c = 68 ∨ c = 77)))))) h) : jCT G M_X6_isPlaceholder 1 0 0 X [.int (nI c)] h Q := by
  refine jCT_of [some (.int (nI c))] 0 rfl (by decide +kernel) rfl rfl ?_
  refine J_iload_n (by rfl) dX6_isPlaceholder_0 ?_
  refine J_bipush (nI 78) (by decide) dX6_isPlaceholder_1 ?_
  refine J_icmp_eq_n 18 dX6_isPlaceholder_3 (by decide) (fun c3 => ?_) (fun c3 => ?_)
  · refine J_iconst (nI 1) (by decide) dX6_isPlaceholder_18 ?_
    refine J_goto 23 dX6_isPlaceholder_19 (by decide) ?_
    exact J_zreturn dX6_isPlaceholder_23 rfl (by first | rfl | exact jb_n _) (by rw [show decide (c = 78 ∨ c = 68 ∨ c = 77) = true by simp; omega] at hQ; exact hQ) (by decide) (by decide) (fun _ => rfl)
  · refine J_iload_n (by rfl) dX6_isPlaceholder_6 ?_
    refine J_bipush (nI 68) (by decide) dX6_isPlaceholder_7 ?_
    refine J_icmp_eq_n 18 dX6_isPlaceholder_9 (by decide) (fun c9 => ?_) (fun c9 => ?_)
    · refine J_iconst (nI 1) (by decide) dX6_isPlaceholder_18 ?_
      refine J_goto 23 dX6_isPlaceholder_19 (by decide) ?_
      exact J_zreturn dX6_isPlaceholder_23 rfl (by first | rfl | exact jb_n _) (by rw [show decide (c = 78 ∨ c = 68 ∨ c = 77) = true by simp; omega] at hQ; exact hQ) (by decide) (by decide) (fun _ => rfl)
    · refine J_iload_n (by rfl) dX6_isPlaceholder_12 ?_
      refine J_bipush (nI 77) (by decide) dX6_isPlaceholder_13 ?_
      refine J_icmp_ne_n 22 dX6_isPlaceholder_15 (by decide) (fun c15 => ?_) (fun c15 => ?_)
      · refine J_iconst (nI 0) (by decide) dX6_isPlaceholder_22 ?_
        exact J_zreturn dX6_isPlaceholder_23 rfl (by first | rfl | exact jb_n _) (by rw [show decide (c = 78 ∨ c = 68 ∨ c = 77) = false by simp; omega] at hQ; exact hQ) (by decide) (by decide) (fun _ => rfl)
      · refine J_iconst (nI 1) (by decide) dX6_isPlaceholder_18 ?_
        refine J_goto 23 dX6_isPlaceholder_19 (by decide) ?_
        exact J_zreturn dX6_isPlaceholder_23 rfl (by first | rfl | exact jb_n _) (by rw [show decide (c = 78 ∨ c = 68 ∨ c = 77) = true by simp; omega] at hQ; exact hQ) (by decide) (by decide) (fun _ => rfl)
theorem c_X6_isHere {a c : Nat} (hs : sz ≤ 60) (hp : po ≤ 60) (ha : a ≤ 60) (hc : c < 65536) (htx : ∀ k, k < sz → tx k < 65536) (hO : h[109]? = some (hPg sz po ct vc)) (hT : h[110]? = some (ca 60 tx)) (hQ : Q (.inl (some (.int (jb (decide (sg tx sz (po + a) = c)))))) h) : jCT G M_X6_isHere 1 0 0 X [.ref 109, .int (nI a), .int (nI c)] h Q := by
  refine jCT_of [some (.ref 109), some (.int (nI a)), some (.int (nI c)), none] 1 rfl (by decide +kernel) rfl rfl ?_
  have hg := sg_lt (tx := tx) (tp := sz) (p := po + a) hc
  refine J_aload_n (by rfl) (by rfl) dX6_isHere_0 ?_
  refine J_get dX6_isHere_1 f_X6_51 (by repeat (first | assumption | exact jget_same2 (by (try simp only [List.length_set]); exact jlt (by assumption)) | refine jget_ne (by first | decide | assumption | omega) ?_)) (by rfl) ?_
  refine J_iload_n (by rfl) dX6_isHere_4 ?_
  refine J_iadd dX6_isHere_5 ?_
  try rw [nI_add]
  refine J_istore_3 dX6_isHere_6 ?_
  refine J_iload_n (by rfl) dX6_isHere_7 ?_
  refine J_if_lt_n 39 dX6_isHere_8 (by decide) ?_
  refine J_iload_n (by rfl) dX6_isHere_11 ?_
  refine J_aload_n (by rfl) (by rfl) dX6_isHere_12 ?_
  refine J_get dX6_isHere_13 f_X6_25 (by repeat (first | assumption | exact jget_same2 (by (try simp only [List.length_set]); exact jlt (by assumption)) | refine jget_ne (by first | decide | assumption | omega) ?_)) (by rfl) ?_
  refine J_icmp_ge_n 39 dX6_isHere_16 (by decide) (fun c16 => ?_) (fun c16 => ?_)
  · refine J_iconst (nI 0) (by decide) dX6_isHere_39 ?_
    exact J_zreturn dX6_isHere_40 rfl (by first | rfl | exact jb_n _) (by rw [show decide (sg tx sz (po + a) = c) = false by simp only [decide_eq_false_iff_not, hg]; omega] at hQ; exact hQ) (by decide) (by decide) (fun _ => rfl)
  · refine J_iload_n (by rfl) dX6_isHere_19 ?_
    refine J_bipush (nI 60) (by decide) dX6_isHere_20 ?_
    refine J_icmp_ge_n 39 dX6_isHere_22 (by decide) (fun c22 => ?_) (fun c22 => ?_)
    · omega
    · have hx := htx (po + a) c16
      refine J_aload_n (by rfl) (by rfl) dX6_isHere_25 ?_
      refine J_get dX6_isHere_26 f_X6_9 (by repeat (first | assumption | exact jget_same2 (by (try simp only [List.length_set]); exact jlt (by assumption)) | refine jget_ne (by first | decide | assumption | omega) ?_)) (by rfl) ?_
      refine J_iload_n (by rfl) dX6_isHere_29 ?_
      refine J_cald_n (po + a) dX6_isHere_30 (by repeat (first | assumption | exact jget_same2 (by (try simp only [List.length_set]); exact jlt (by assumption)) | refine jget_ne (by first | decide | assumption | omega) ?_)) (by first | rfl | (simp only [pk_mul, nI_add]; done) | (simp only [pk_mul, nI_add]; congr 1; omega) | (congr 1; omega)) (by omega) ?_
      refine J_iload_n (by rfl) dX6_isHere_31 ?_
      refine J_icmp_ne_n 39 dX6_isHere_32 (by decide) (fun c32 => ?_) (fun c32 => ?_)
      · refine J_iconst (nI 0) (by decide) dX6_isHere_39 ?_
        exact J_zreturn dX6_isHere_40 rfl (by first | rfl | exact jb_n _) (by rw [show decide (sg tx sz (po + a) = c) = false by simp only [decide_eq_false_iff_not, hg]; omega] at hQ; exact hQ) (by decide) (by decide) (fun _ => rfl)
      · refine J_iconst (nI 1) (by decide) dX6_isHere_35 ?_
        refine J_goto 40 dX6_isHere_36 (by decide) ?_
        exact J_zreturn dX6_isHere_40 rfl (by first | rfl | exact jb_n _) (by rw [show decide (sg tx sz (po + a) = c) = true by simp only [decide_eq_true_eq, hg]; omega] at hQ; exact hQ) (by decide) (by decide) (fun _ => rfl)
theorem c_X6_parseSign {c : Nat} (hs : sz ≤ 60) (hp : po ≤ sz) (hc : c < 65536) (htx : ∀ k, k < sz → tx k < 65536) (hO : h[109]? = some (hPg sz po ct vc)) (hT : h[110]? = some (ca 60 tx))
    (hQ1 : sg tx sz po = c → Q (.inl (some (.int (jb true)))) (h.set 109 (hPg sz (po + 1) ct vc))) (hQ2 : sg tx sz po ≠ c → Q (.inl (some (.int (jb false)))) h) : jCT G M_X6_parseSign 2 0 0 X [.ref 109, .int (nI c)] h Q := by
  refine jCT_of [some (.ref 109), some (.int (nI c))] 0 rfl (by decide +kernel) rfl rfl ?_
  refine J_aload_n (by rfl) (by rfl) dX6_parseSign_0 ?_
  refine J_iconst (nI 0) (by decide) dX6_parseSign_1 ?_
  refine J_iload_n (by rfl) dX6_parseSign_2 ?_
  refine J_V2v (ci := 6) dX6_parseSign_3 s_X6_103 m_X6_isHere rfl (by repeat (first | assumption | exact jget_same2 (by (try simp only [List.length_set]); exact jlt (by assumption)) | refine jget_ne (by first | decide | assumption | omega) ?_)) rfl (c_X6_isHere (a := 0) hs (by omega) (by omega) hc htx hO hT (jKv_i ?_))
  refine J_if_ne_b 11 dX6_parseSign_6 (by decide) (fun c6 => ?_) (fun c6 => ?_)
  · refine J_aload_n (by rfl) (by rfl) dX6_parseSign_11 ?_
    refine J_dup (by rfl) dX6_parseSign_12 ?_
    refine J_get dX6_parseSign_13 f_X6_51 (by repeat (first | assumption | exact jget_same2 (by (try simp only [List.length_set]); exact jlt (by assumption)) | refine jget_ne (by first | decide | assumption | omega) ?_)) (by rfl) ?_
    refine J_iconst (nI 1) (by decide) dX6_parseSign_16 ?_
    refine J_iadd dX6_parseSign_17 ?_
    try rw [nI_add]
    refine J_put_5 dX6_parseSign_18 p_X6_51 (by repeat (first | assumption | exact jget_same2 (by (try simp only [List.length_set]); exact jlt (by assumption)) | refine jget_ne (by first | decide | assumption | omega) ?_)) ?_
    refine J_iconst (nI 1) (by decide) dX6_parseSign_21 ?_
    exact J_zreturn dX6_parseSign_22 rfl (by first | rfl | exact jb_n _) (hQ1 (of_decide_eq_true c6)) (by decide) (by decide) (fun _ => rfl)
  · refine J_iconst (nI 0) (by decide) dX6_parseSign_9 ?_
    exact J_zreturn dX6_parseSign_10 rfl (by first | rfl | exact jb_n _) (hQ2 (of_decide_eq_false c6)) (by decide) (by decide) (fun _ => rfl)
theorem c_X6_digitHere (hs : sz ≤ 60) (hp : po ≤ sz) (htx : ∀ k, k < sz → tx k < 65536) (hO : h[109]? = some (hPg sz po ct vc)) (hT : h[110]? = some (ca 60 tx))
    (hQ : Q (.inl (some (.int (if dgt (sg tx sz) po = true then nI (sg tx sz po - 48) else -1)))) h) : jCT G M_X6_digitHere 1 0 0 X [.ref 109] h Q := by
  refine jCT_of [some (.ref 109), none] 1 rfl (by decide +kernel) rfl rfl ?_
  refine J_aload_n (by rfl) (by rfl) dX6_digitHere_0 ?_
  refine J_get dX6_digitHere_1 f_X6_51 (by repeat (first | assumption | exact jget_same2 (by (try simp only [List.length_set]); exact jlt (by assumption)) | refine jget_ne (by first | decide | assumption | omega) ?_)) (by rfl) ?_
  refine J_if_lt_n 27 dX6_digitHere_4 (by decide) ?_
  refine J_aload_n (by rfl) (by rfl) dX6_digitHere_7 ?_
  refine J_get dX6_digitHere_8 f_X6_51 (by repeat (first | assumption | exact jget_same2 (by (try simp only [List.length_set]); exact jlt (by assumption)) | refine jget_ne (by first | decide | assumption | omega) ?_)) (by rfl) ?_
  refine J_aload_n (by rfl) (by rfl) dX6_digitHere_11 ?_
  refine J_get dX6_digitHere_12 f_X6_25 (by repeat (first | assumption | exact jget_same2 (by (try simp only [List.length_set]); exact jlt (by assumption)) | refine jget_ne (by first | decide | assumption | omega) ?_)) (by rfl) ?_
  refine J_icmp_ge_n 27 dX6_digitHere_15 (by decide) (fun c15 => ?_) (fun c15 => ?_)
  · have hd : ¬ dgt (sg tx sz) po = true := by unfold dgt sg; rw [if_neg (by omega)]; decide
    rw [if_neg hd] at hQ
    refine J_iconst (-1) (by decide) dX6_digitHere_27 ?_
    exact J_ireturn dX6_digitHere_28 rfl (hQ) (by decide) (by decide) (fun _ => rfl)
  · have hx := htx po c15
    have he : sg tx sz po = tx po := by unfold sg; rw [if_pos c15]
    refine J_aload_n (by rfl) (by rfl) dX6_digitHere_18 ?_
    refine J_get dX6_digitHere_19 f_X6_51 (by repeat (first | assumption | exact jget_same2 (by (try simp only [List.length_set]); exact jlt (by assumption)) | refine jget_ne (by first | decide | assumption | omega) ?_)) (by rfl) ?_
    refine J_bipush (nI 60) (by decide) dX6_digitHere_22 ?_
    refine J_icmp_lt_n 29 dX6_digitHere_24 (by decide) (fun c24 => ?_) (fun c24 => ?_)
    · refine J_aload_n (by rfl) (by rfl) dX6_digitHere_29 ?_
      refine J_get dX6_digitHere_30 f_X6_9 (by repeat (first | assumption | exact jget_same2 (by (try simp only [List.length_set]); exact jlt (by assumption)) | refine jget_ne (by first | decide | assumption | omega) ?_)) (by rfl) ?_
      refine J_aload_n (by rfl) (by rfl) dX6_digitHere_33 ?_
      refine J_get dX6_digitHere_34 f_X6_51 (by repeat (first | assumption | exact jget_same2 (by (try simp only [List.length_set]); exact jlt (by assumption)) | refine jget_ne (by first | decide | assumption | omega) ?_)) (by rfl) ?_
      refine J_cald_n (po) dX6_digitHere_37 (by repeat (first | assumption | exact jget_same2 (by (try simp only [List.length_set]); exact jlt (by assumption)) | refine jget_ne (by first | decide | assumption | omega) ?_)) (by first | rfl | (simp only [pk_mul, nI_add]; done) | (simp only [pk_mul, nI_add]; congr 1; omega) | (congr 1; omega)) (by omega) ?_
      refine J_istore_1 dX6_digitHere_38 ?_
      refine J_iload_n (by rfl) dX6_digitHere_39 ?_
      refine J_bipush (nI 48) (by decide) dX6_digitHere_40 ?_
      refine J_icmp_lt_n 58 dX6_digitHere_42 (by decide) (fun c42 => ?_) (fun c42 => ?_)
      · have hd : ¬ dgt (sg tx sz) po = true := by unfold dgt; rw [he]; simp; omega
        rw [if_neg hd] at hQ
        refine J_iconst (-1) (by decide) dX6_digitHere_58 ?_
        exact J_ireturn dX6_digitHere_59 rfl (hQ) (by decide) (by decide) (fun _ => rfl)
      · refine J_iload_n (by rfl) dX6_digitHere_45 ?_
        refine J_bipush (nI 57) (by decide) dX6_digitHere_46 ?_
        refine J_icmp_gt_n 58 dX6_digitHere_48 (by decide) (fun c48 => ?_) (fun c48 => ?_)
        · have hd : ¬ dgt (sg tx sz) po = true := by unfold dgt; rw [he]; simp; omega
          rw [if_neg hd] at hQ
          refine J_iconst (-1) (by decide) dX6_digitHere_58 ?_
          exact J_ireturn dX6_digitHere_59 rfl (hQ) (by decide) (by decide) (fun _ => rfl)
        · have hd : dgt (sg tx sz) po = true := by unfold dgt; rw [he]; simp; omega
          rw [if_pos hd, he] at hQ
          refine J_iload_n (by rfl) dX6_digitHere_51 ?_
          refine J_bipush (nI 48) (by decide) dX6_digitHere_52 ?_
          refine J_isub_n (by omega) dX6_digitHere_54 ?_
          refine J_goto 59 dX6_digitHere_55 (by decide) ?_
          exact J_ireturn dX6_digitHere_59 rfl (hQ) (by decide) (by decide) (fun _ => rfl)
    · omega
theorem c_X6_addValue {v : Nat} (hv : vc ≤ 3) (hO : h[109]? = some (hPg sz po ct vc)) (hT : h[113]? = some (ia 3 vs)) (hQ : Q (.inl none) (if vc < 3 then (h.set 113 (ia 3 (updN vs vc v))).set 109 (hPg sz po ct (vc + 1)) else h)) : jCT G M_X6_addValue 2 0 0 X [.ref 109, .int (nI v)] h Q := by
  refine jCT_of [some (.ref 109), some (.int (nI v))] 0 rfl (by decide +kernel) rfl rfl ?_
  refine J_aload_n (by rfl) (by rfl) dX6_addValue_0 ?_
  refine J_get dX6_addValue_1 f_X6_120 (by repeat (first | assumption | exact jget_same2 (by (try simp only [List.length_set]); exact jlt (by assumption)) | refine jget_ne (by first | decide | assumption | omega) ?_)) (by rfl) ?_
  refine J_iconst (nI 0) (by decide) dX6_addValue_4 ?_
  refine J_iconst (nI 2) (by decide) dX6_addValue_5 ?_
  refine J_SN3v dX6_addValue_6 s_X6_29 m_X10_isWithin rfl (c_X10_isWithin_n (by omega) (by omega) (jKv_i ?_))
  refine J_if_eq_b 32 dX6_addValue_9 (by decide) (fun c9 => ?_) (fun c9 => ?_)
  · have c9 : ¬ vc ≤ 2 := by simpa using c9
    exact J_return dX6_addValue_32 rfl (by rw [if_neg (by omega)] at hQ; exact hQ) (by decide) (by decide) (fun _ => rfl)
  · have c9 : vc ≤ 2 := by simpa using c9
    refine J_aload_n (by rfl) (by rfl) dX6_addValue_12 ?_
    refine J_get dX6_addValue_13 f_X6_22 (by repeat (first | assumption | exact jget_same2 (by (try simp only [List.length_set]); exact jlt (by assumption)) | refine jget_ne (by first | decide | assumption | omega) ?_)) (by rfl) ?_
    refine J_aload_n (by rfl) (by rfl) dX6_addValue_16 ?_
    refine J_get dX6_addValue_17 f_X6_120 (by repeat (first | assumption | exact jget_same2 (by (try simp only [List.length_set]); exact jlt (by assumption)) | refine jget_ne (by first | decide | assumption | omega) ?_)) (by rfl) ?_
    refine J_iload_n (by rfl) dX6_addValue_20 ?_
    refine J_iast_n (vc) dX6_addValue_21 (by repeat (first | assumption | exact jget_same2 (by (try simp only [List.length_set]); exact jlt (by assumption)) | refine jget_ne (by first | decide | assumption | omega) ?_)) (by first | rfl | (simp only [pk_mul, nI_add]; done) | (simp only [pk_mul, nI_add]; congr 1; omega) | (congr 1; omega)) (by omega) ?_
    refine J_aload_n (by rfl) (by rfl) dX6_addValue_22 ?_
    refine J_dup (by rfl) dX6_addValue_23 ?_
    refine J_get dX6_addValue_24 f_X6_120 (by repeat (first | assumption | exact jget_same2 (by (try simp only [List.length_set]); exact jlt (by assumption)) | refine jget_ne (by first | decide | assumption | omega) ?_)) (by rfl) ?_
    refine J_iconst (nI 1) (by decide) dX6_addValue_27 ?_
    refine J_iadd dX6_addValue_28 ?_
    try rw [nI_add]
    refine J_put_7 dX6_addValue_29 p_X6_120 (by repeat (first | assumption | exact jget_same2 (by (try simp only [List.length_set]); exact jlt (by assumption)) | refine jget_ne (by first | decide | assumption | omega) ?_)) ?_
    exact J_return dX6_addValue_32 rfl (by rw [if_pos (by omega)] at hQ; exact hQ) (by decide) (by decide) (fun _ => rfl)
end CP
