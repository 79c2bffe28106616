/-! The reference: its small methods (object at 116, its rows at 117 .. 124) -/
abbrev hMo (ch th : Nat) (ea fa an : Int32) (sv : Bool) (ln tp he cm : Nat) : jC := .inr (11, [.ref 117, .ref 118, .ref 119, .ref 120, .ref 121, .int (nI ch), .int (nI th), .int ea, .int fa, .int an, .int (jb sv), .ref 122, .int (nI ln), .ref 123, .ref 124, .int (nI tp), .int (nI he), .int (nI cm)])
section MODEL
variable {G : jG} {X : Bool} {h : jH} {Q : jQ_} {ch th ln tp he cm n : Nat} {ea fa an : Int32} {sv : Bool} {s w F D : Nat → Nat}
theorem c_X11_isIn (x : Int32) {a b : Nat} (hQ : Q (.inl (some (.int (jb (inB x a b))))) h) : jCT G M_X11_isIn 1 0 0 X [.int x, .int (nI a), .int (nI b)] h Q := by
  refine jCT_of [some (.int x), some (.int (nI a)), some (.int (nI b))] 0 rfl (by decide +kernel) rfl rfl ?_
  refine J_iload_n (by rfl) dX11_isIn_0 ?_
  refine J_iload_n (by rfl) dX11_isIn_1 ?_
  refine J_icmp_lt 14 dX11_isIn_2 (by decide) (fun c2 => ?_) (fun c2 => ?_)
  · refine J_iconst (nI 0) (by decide) dX11_isIn_14 ?_
    exact J_zreturn dX11_isIn_15 rfl (by rfl) (by rw [show inB x a b = false by simp [inB, c2]] at hQ; exact hQ) (by decide) (by decide) (fun _ => rfl)
  · refine J_iload_n (by rfl) dX11_isIn_5 ?_
    refine J_iload_n (by rfl) dX11_isIn_6 ?_
    refine J_icmp_gt 14 dX11_isIn_7 (by decide) (fun c7 => ?_) (fun c7 => ?_)
    · refine J_iconst (nI 0) (by decide) dX11_isIn_14 ?_
      exact J_zreturn dX11_isIn_15 rfl (by rfl) (by rw [show inB x a b = false by simp only [inB, decide_eq_false_iff_not]; intro z; exact z.2 c7] at hQ; exact hQ) (by decide) (by decide) (fun _ => rfl)
    · refine J_iconst (nI 1) (by decide) dX11_isIn_10 ?_
      refine J_goto 15 dX11_isIn_11 (by decide) ?_
      exact J_zreturn dX11_isIn_15 rfl (by rfl) (by rw [show inB x a b = true by simp only [inB, decide_eq_true_eq]; exact ⟨c2, c7⟩] at hQ; exact hQ) (by decide) (by decide) (fun _ => rfl)
theorem c_X11_isIn_x (x y : Int32) (hQ : Q (.inl (some (.int (jb (decide (¬ x < nI 0 ∧ ¬ y < x)))))) h) : jCT G M_X11_isIn 1 0 0 X [.int x, .int (nI 0), .int y] h Q := by
  refine jCT_of [some (.int x), some (.int (nI 0)), some (.int y)] 0 rfl (by decide +kernel) rfl rfl ?_
  refine J_iload_n (by rfl) dX11_isIn_0 ?_
  refine J_iload_n (by rfl) dX11_isIn_1 ?_
  refine J_icmp_lt 14 dX11_isIn_2 (by decide) (fun c2 => ?_) (fun c2 => ?_)
  · refine J_iconst (nI 0) (by decide) dX11_isIn_14 ?_
    exact J_zreturn dX11_isIn_15 rfl (by rfl) (by rw [show decide (¬ x < nI 0 ∧ ¬ y < x) = false by simp [c2]] at hQ; exact hQ) (by decide) (by decide) (fun _ => rfl)
  · refine J_iload_n (by rfl) dX11_isIn_5 ?_
    refine J_iload_n (by rfl) dX11_isIn_6 ?_
    refine J_icmp_gt 14 dX11_isIn_7 (by decide) (fun c7 => ?_) (fun c7 => ?_)
    · refine J_iconst (nI 0) (by decide) dX11_isIn_14 ?_
      exact J_zreturn dX11_isIn_15 rfl (by rfl) (by rw [show decide (¬ x < nI 0 ∧ ¬ y < x) = false by simp only [decide_eq_false_iff_not]; intro z; exact z.2 c7] at hQ; exact hQ) (by decide) (by decide) (fun _ => rfl)
    · refine J_iconst (nI 1) (by decide) dX11_isIn_10 ?_
      refine J_goto 15 dX11_isIn_11 (by decide) ?_
      exact J_zreturn dX11_isIn_15 rfl (by rfl) (by rw [show decide (¬ x < nI 0 ∧ ¬ y < x) = true by simp only [decide_eq_true_eq]; exact ⟨c2, c7⟩] at hQ; exact hQ) (by decide) (by decide) (fun _ => rfl)
theorem c_X11_isThrown (b : Bool) {a : Nat} (hM : h[116]? = some (hMo ch th ea fa an sv ln tp he cm)) (hQ : Q (.inl (some (.int (jb b)))) (h.set 116 (hMo ch (if b = true then a else 0) ea fa an sv ln tp he cm))) : jCT G M_X11_isThrown 1 0 0 X [.ref 116, .int (jb b), .int (nI a)] h Q := by
  refine jCT_of [some (.ref 116), some (.int (jb b)), some (.int (nI a))] 0 rfl (by decide +kernel) rfl rfl ?_
  refine J_aload_n (by rfl) (by rfl) dX11_isThrown_0 ?_
  refine J_iload_n (by rfl) dX11_isThrown_1 ?_
  refine J_if_eq_b 9 dX11_isThrown_2 (by decide) (fun c2 => ?_) (fun c2 => ?_)
  · subst c2
    refine J_iconst (nI 0) (by decide) dX11_isThrown_9 ?_
    refine J_put_6 dX11_isThrown_10 p_X11_41 (by repeat (first | assumption | exact jget_same2 (by (try simp only [List.length_set]); exact jlt (by assumption)) | refine jget_ne (by first | decide | assumption | omega) ?_)) ?_
    refine J_iload_n (by rfl) dX11_isThrown_13 ?_
    exact J_zreturn dX11_isThrown_14 rfl (by rfl) (hQ) (by decide) (by decide) (fun _ => rfl)
  · subst c2
    refine J_iload_n (by rfl) dX11_isThrown_5 ?_
    refine J_goto 10 dX11_isThrown_6 (by decide) ?_
    refine J_put_6 dX11_isThrown_10 p_X11_41 (by repeat (first | assumption | exact jget_same2 (by (try simp only [List.length_set]); exact jlt (by assumption)) | refine jget_ne (by first | decide | assumption | omega) ?_)) ?_
    refine J_iload_n (by rfl) dX11_isThrown_13 ?_
    exact J_zreturn dX11_isThrown_14 rfl (by rfl) (hQ) (by decide) (by decide) (fun _ => rfl)
theorem c_X11_of {i k : Nat} (hi : 12 + 3 * i + k < 204) (hM : h[116]? = some (hMo ch th ea fa an sv ln tp he cm)) (hS : h[117]? = some (ia 204 s)) (hQ : Q (.inl (some (.int (nI (s (12 + 3 * i + k)))))) h) : jCT G M_X11_of 1 0 0 X [.ref 116, .int (nI i), .int (nI k)] h Q := by
  refine jCT_of [some (.ref 116), some (.int (nI i)), some (.int (nI k))] 0 rfl (by decide +kernel) rfl rfl ?_
  refine J_aload_n (by rfl) (by rfl) dX11_of_0 ?_
  refine J_get dX11_of_1 f_X11_9 (by repeat (first | assumption | exact jget_same2 (by (try simp only [List.length_set]); exact jlt (by assumption)) | refine jget_ne (by first | decide | assumption | omega) ?_)) (by rfl) ?_
  refine J_bipush (nI 12) (by decide) dX11_of_4 ?_
  refine J_iconst (nI 3) (by decide) dX11_of_6 ?_
  refine J_iload_n (by rfl) dX11_of_7 ?_
  refine J_imul dX11_of_8 ?_
  try rw [pk_mul]
  refine J_iadd dX11_of_9 ?_
  try rw [nI_add]
  refine J_iload_n (by rfl) dX11_of_10 ?_
  refine J_iadd dX11_of_11 ?_
  try rw [nI_add]
  refine J_iald_n (12 + 3 * i + k) dX11_of_12 (by repeat (first | assumption | exact jget_same2 (by (try simp only [List.length_set]); exact jlt (by assumption)) | refine jget_ne (by first | decide | assumption | omega) ?_)) (by first | rfl | (simp only [pk_mul, nI_add]; done) | (simp only [pk_mul, nI_add]; congr 1; omega) | (congr 1; omega)) (by omega) ?_
  exact J_ireturn dX11_of_13 rfl (hQ) (by decide) (by decide) (fun _ => rfl)
theorem c_X11_isPoint (x : Int32) (hn : s 0 ≤ 12) (hM : h[116]? = some (hMo ch th ea fa an sv ln tp he cm)) (hS : h[117]? = some (ia 204 s)) (hQ : Q (.inl (some (.int (jb (isIx x (s 0)))))) h) : jCT G M_X11_isPoint 2 0 0 X [.ref 116, .int x] h Q := by
  refine jCT_of [some (.ref 116), some (.int x)] 0 rfl (by decide +kernel) rfl rfl ?_
  refine J_iload_n (by rfl) dX11_isPoint_0 ?_
  refine J_iconst (nI 0) (by decide) dX11_isPoint_1 ?_
  refine J_aload_n (by rfl) (by rfl) dX11_isPoint_2 ?_
  refine J_get dX11_isPoint_3 f_X11_9 (by repeat (first | assumption | exact jget_same2 (by (try simp only [List.length_set]); exact jlt (by assumption)) | refine jget_ne (by first | decide | assumption | omega) ?_)) (by rfl) ?_
  refine J_iconst (nI 0) (by decide) dX11_isPoint_6 ?_
  refine J_iald_n (0) dX11_isPoint_7 (by repeat (first | assumption | exact jget_same2 (by (try simp only [List.length_set]); exact jlt (by assumption)) | refine jget_ne (by first | decide | assumption | omega) ?_)) (by first | rfl | (simp only [pk_mul, nI_add]; done) | (simp only [pk_mul, nI_add]; congr 1; omega) | (congr 1; omega)) (by omega) ?_
  refine J_iconst (nI 1) (by decide) dX11_isPoint_8 ?_
  refine J_isub dX11_isPoint_9 ?_
  refine J_S3v dX11_isPoint_10 s_X11_51 m_X11_isIn rfl (c_X11_isIn_x _ _ (jKv_i ?_))
  exact J_zreturn dX11_isPoint_13 rfl (jb_n _) (by rw [isIx_in (by omega)]; exact hQ) (by decide) (by decide) (fun _ => rfl)
theorem c_X11_isPlace (x y : Int32) (hQ : Q (.inl (some (.int (jb (isP x y))))) h) : jCT G M_X11_isPlace 2 0 0 X [.int x, .int y] h Q := by
  refine jCT_of [some (.int x), some (.int y)] 0 rfl (by decide +kernel) rfl rfl ?_
  refine J_iload_n (by rfl) dX11_isPlace_0 ?_
  refine J_iconst (nI 0) (by decide) dX11_isPlace_1 ?_
  refine J_bipush (nI 99) (by decide) dX11_isPlace_2 ?_
  refine J_S3v dX11_isPlace_4 s_X11_51 m_X11_isIn rfl (c_X11_isIn _ (jKv_i ?_))
  refine J_if_eq_b 24 dX11_isPlace_7 (by decide) (fun c7 => ?_) (fun c7 => ?_)
  · refine J_iconst (nI 0) (by decide) dX11_isPlace_24 ?_
    exact J_zreturn dX11_isPlace_25 rfl (by rfl) (by rw [show isP x y = false by simp [isP, c7]] at hQ; exact hQ) (by decide) (by decide) (fun _ => rfl)
  · refine J_iload_n (by rfl) dX11_isPlace_10 ?_
    refine J_iconst (nI 0) (by decide) dX11_isPlace_11 ?_
    refine J_bipush (nI 99) (by decide) dX11_isPlace_12 ?_
    refine J_S3v dX11_isPlace_14 s_X11_51 m_X11_isIn rfl (c_X11_isIn _ (jKv_i ?_))
    refine J_if_eq_b 24 dX11_isPlace_17 (by decide) (fun c17 => ?_) (fun c17 => ?_)
    · refine J_iconst (nI 0) (by decide) dX11_isPlace_24 ?_
      exact J_zreturn dX11_isPlace_25 rfl (by rfl) (by rw [show isP x y = false by simp [isP, c17]] at hQ; exact hQ) (by decide) (by decide) (fun _ => rfl)
    · refine J_iconst (nI 1) (by decide) dX11_isPlace_20 ?_
      refine J_goto 25 dX11_isPlace_21 (by decide) ?_
      exact J_zreturn dX11_isPlace_25 rfl (by rfl) (by rw [show isP x y = true by simp [isP, c7, c17]] at hQ; exact hQ) (by decide) (by decide) (fun _ => rfl)
theorem c_X11_trail {i j : Nat} (hi : i < 12) (hj : j < 12) (hw : ∀ k, k < 144 → s (48 + k) = w k) (hM : h[116]? = some (hMo ch th ea fa an sv ln tp he cm)) (hS : h[117]? = some (ia 204 s)) (hQ : Q (.inl (some (.int (nI (w (i * 12 + j)))))) h) : jCT G M_X11_trail 1 0 0 X [.ref 116, .int (nI i), .int (nI j)] h Q := by
  refine jCT_of [some (.ref 116), some (.int (nI i)), some (.int (nI j))] 0 rfl (by decide +kernel) rfl rfl ?_
  rw [← hw _ (by omega)] at hQ
  refine J_aload_n (by rfl) (by rfl) dX11_trail_0 ?_
  refine J_get dX11_trail_1 f_X11_9 (by repeat (first | assumption | exact jget_same2 (by (try simp only [List.length_set]); exact jlt (by assumption)) | refine jget_ne (by first | decide | assumption | omega) ?_)) (by rfl) ?_
  refine J_bipush (nI 48) (by decide) dX11_trail_4 ?_
  refine J_bipush (nI 12) (by decide) dX11_trail_6 ?_
  refine J_iload_n (by rfl) dX11_trail_8 ?_
  refine J_imul dX11_trail_9 ?_
  try rw [pk_mul]
  refine J_iadd dX11_trail_10 ?_
  try rw [nI_add]
  refine J_iload_n (by rfl) dX11_trail_11 ?_
  refine J_iadd dX11_trail_12 ?_
  try rw [nI_add]
  refine J_iald_n (48 + (i * 12 + j)) dX11_trail_13 (by repeat (first | assumption | exact jget_same2 (by (try simp only [List.length_set]); exact jlt (by assumption)) | refine jget_ne (by first | decide | assumption | omega) ?_)) (by first | rfl | (simp only [pk_mul, nI_add]; done) | (simp only [pk_mul, nI_add]; congr 1; omega) | (congr 1; omega)) (by omega) ?_
  exact J_ireturn dX11_trail_14 rfl (hQ) (by decide) (by decide) (fun _ => rfl)
theorem c_X11_setsTrail {i j v : Nat} (hi : i < 12) (hj : j < 12) (hM : h[116]? = some (hMo ch th ea fa an sv ln tp he cm)) (hS : h[117]? = some (ia 204 s)) (hQ : Q (.inl none) (h.set 117 (ia 204 (setT s i j v)))) : jCT G M_X11_setsTrail 1 0 0 X [.ref 116, .int (nI i), .int (nI j), .int (nI v)] h Q := by
  refine jCT_of [some (.ref 116), some (.int (nI i)), some (.int (nI j)), some (.int (nI v))] 0 rfl (by decide +kernel) rfl rfl ?_
  refine J_aload_n (by rfl) (by rfl) dX11_setsTrail_0 ?_
  refine J_get dX11_setsTrail_1 f_X11_9 (by repeat (first | assumption | exact jget_same2 (by (try simp only [List.length_set]); exact jlt (by assumption)) | refine jget_ne (by first | decide | assumption | omega) ?_)) (by rfl) ?_
  refine J_bipush (nI 48) (by decide) dX11_setsTrail_4 ?_
  refine J_bipush (nI 12) (by decide) dX11_setsTrail_6 ?_
  refine J_iload_n (by rfl) dX11_setsTrail_8 ?_
  refine J_imul dX11_setsTrail_9 ?_
  try rw [pk_mul]
  refine J_iadd dX11_setsTrail_10 ?_
  try rw [nI_add]
  refine J_iload_n (by rfl) dX11_setsTrail_11 ?_
  refine J_iadd dX11_setsTrail_12 ?_
  try rw [nI_add]
  refine J_iload_n (by rfl) dX11_setsTrail_13 ?_
  refine J_iast_n (48 + (i * 12 + j)) dX11_setsTrail_14 (by repeat (first | assumption | exact jget_same2 (by (try simp only [List.length_set]); exact jlt (by assumption)) | refine jget_ne (by first | decide | assumption | omega) ?_)) (by first | rfl | (simp only [pk_mul, nI_add]; done) | (simp only [pk_mul, nI_add]; congr 1; omega) | (congr 1; omega)) (by omega) ?_
  refine J_aload_n (by rfl) (by rfl) dX11_setsTrail_15 ?_
  refine J_get dX11_setsTrail_16 f_X11_9 (by repeat (first | assumption | exact jget_same2 (by (try simp only [List.length_set]); exact jlt (by assumption)) | refine jget_ne (by first | decide | assumption | omega) ?_)) (by rfl) ?_
  refine J_bipush (nI 48) (by decide) dX11_setsTrail_19 ?_
  refine J_bipush (nI 12) (by decide) dX11_setsTrail_21 ?_
  refine J_iload_n (by rfl) dX11_setsTrail_23 ?_
  refine J_imul dX11_setsTrail_24 ?_
  try rw [pk_mul]
  refine J_iadd dX11_setsTrail_25 ?_
  try rw [nI_add]
  refine J_iload_n (by rfl) dX11_setsTrail_26 ?_
  refine J_iadd dX11_setsTrail_27 ?_
  try rw [nI_add]
  refine J_iload_n (by rfl) dX11_setsTrail_28 ?_
  refine J_iast_n (48 + (j * 12 + i)) dX11_setsTrail_29 (by repeat (first | assumption | exact jget_same2 (by (try simp only [List.length_set]); exact jlt (by assumption)) | refine jget_ne (by first | decide | assumption | omega) ?_)) (by first | rfl | (simp only [pk_mul, nI_add]; done) | (simp only [pk_mul, nI_add]; congr 1; omega) | (congr 1; omega)) (by omega) ?_
  exact J_return dX11_setsTrail_30 rfl (by simp only [List.set_set]; exact hQ) (by decide) (by decide) (fun _ => rfl)
theorem c_X11_manyTrails (hlt : ∀ k, k < 144 → w k < 2 ^ 31) (hw : ∀ k, k < 144 → s (48 + k) = w k) (hM : h[116]? = some (hMo ch th ea fa an sv ln tp he cm)) (hS : h[117]? = some (ia 204 s)) (hQ : Q (.inl (some (.int (nI (mT w))))) h) : jCT G M_X11_manyTrails 2 0 0 X [.ref 116] h Q := by
  refine jCT_of [some (.ref 116), none, none, none] 3 rfl (by decide +kernel) rfl rfl ?_
  refine J_iconst (nI 0) (by decide) dX11_manyTrails_0 ?_
  refine J_istore_1 dX11_manyTrails_1 ?_
  refine J_iconst (nI 0) (by decide) dX11_manyTrails_2 ?_
  refine J_istore_2 dX11_manyTrails_3 ?_
  suffices loop : ∀ i, i ≤ 12 → ∀ l3, J G (jR 2 0 0) (jFin G Q X 0 0) M_X11_manyTrails X 0 0 4 [some (.ref 116), some (.int (nI (sumR (fun i => cnt (fun j => decide (0 < w (i * 12 + j))) i) 0 i))), some (.int (nI i)), l3] [] h by
    exact loop 0 (by omega) _
  refine up_ind 12 (fun i hi ih l3 => ?_)
  refine J_iload_n (by rfl) dX11_manyTrails_4 ?_
  refine J_bipush (nI 12) (by decide) dX11_manyTrails_5 ?_
  refine J_icmp_ge_n 46 dX11_manyTrails_7 (by decide) (fun c7 => ?_) (fun c7 => ?_)
  · refine J_iload_n (by rfl) dX11_manyTrails_46 ?_
    exact J_ireturn dX11_manyTrails_47 rfl (by rw [show i = 12 by omega]; exact hQ) (by decide) (by decide) (fun _ => rfl)
  · refine J_iconst (nI 0) (by decide) dX11_manyTrails_10 ?_
    refine J_istore_3 dX11_manyTrails_11 ?_
    suffices inner : ∀ j, j ≤ i → J G (jR 2 0 0) (jFin G Q X 0 0) M_X11_manyTrails X 0 0 12 [some (.ref 116), some (.int (nI (sumR (fun i => cnt (fun j => decide (0 < w (i * 12 + j))) i) 0 i + cnt (fun j => decide (0 < w (i * 12 + j))) j))), some (.int (nI i)), some (.int (nI j))] [] h by
      exact inner 0 (by omega)
    refine up_ind i (fun j hj ih2 => ?_)
    refine J_iload_n (by rfl) dX11_manyTrails_12 ?_
    refine J_iload_n (by rfl) dX11_manyTrails_13 ?_
    refine J_icmp_ge_n 40 dX11_manyTrails_14 (by decide) (fun c14 => ?_) (fun c14 => ?_)
    · refine J_iinc_2 (nI 1) dX11_manyTrails_40 (by decide) ?_
      try rw [nI_add]
      refine J_goto 4 dX11_manyTrails_43 (by decide) ?_
      have he : j = i := by omega
      subst he
      have := ih c7 (some (.int (nI j)))
      simp only [sumR, Nat.zero_add] at this
      exact this
    · have hl := hlt (i * 12 + j) (by omega)
      refine J_iload_n (by rfl) dX11_manyTrails_17 ?_
      refine J_aload_n (by rfl) (by rfl) dX11_manyTrails_18 ?_
      refine J_iload_n (by rfl) dX11_manyTrails_19 ?_
      refine J_iload_n (by rfl) dX11_manyTrails_20 ?_
      refine J_V2v (ci := 11) dX11_manyTrails_21 s_X11_55 m_X11_trail rfl (by repeat (first | assumption | exact jget_same2 (by (try simp only [List.length_set]); exact jlt (by assumption)) | refine jget_ne (by first | decide | assumption | omega) ?_)) rfl (c_X11_trail (i := i) (j := j) (by omega) (by omega) hw hM hS (jKv_i ?_))
      refine J_if_le_n 31 dX11_manyTrails_24 (by decide) (fun c24 => ?_) (fun c24 => ?_)
      · refine J_iconst (nI 0) (by decide) dX11_manyTrails_31 ?_
        refine J_iadd dX11_manyTrails_32 ?_
        try rw [nI_add]
        refine J_istore_1 dX11_manyTrails_33 ?_
        refine J_iinc_3 (nI 1) dX11_manyTrails_34 (by decide) ?_
        try rw [nI_add]
        refine J_goto 12 dX11_manyTrails_37 (by decide) ?_
        have := ih2 c14
        rw [cnt_f (f := fun j => decide (0 < w (i * 12 + j))) (by simp; omega)] at this
        exact this
      · refine J_iconst (nI 1) (by decide) dX11_manyTrails_27 ?_
        refine J_goto 32 dX11_manyTrails_28 (by decide) ?_
        refine J_iadd dX11_manyTrails_32 ?_
        try rw [nI_add]
        refine J_istore_1 dX11_manyTrails_33 ?_
        refine J_iinc_3 (nI 1) dX11_manyTrails_34 (by decide) ?_
        try rw [nI_add]
        refine J_goto 12 dX11_manyTrails_37 (by decide) ?_
        have := ih2 c14
        rw [cnt_t (f := fun j => decide (0 < w (i * 12 + j))) (by simp; omega)] at this
        exact this
theorem c_X11_isOnTour (hn : s 1 ≤ 12) (hM : h[116]? = some (hMo ch th ea fa an sv ln tp he cm)) (hS : h[117]? = some (ia 204 s)) (hQ : Q (.inl (some (.int (jb (decide (0 < s 1)))))) h) : jCT G M_X11_isOnTour 1 0 0 X [.ref 116] h Q := by
  refine jCT_of [some (.ref 116)] 0 rfl (by decide +kernel) rfl rfl ?_
  refine J_aload_n (by rfl) (by rfl) dX11_isOnTour_0 ?_
  refine J_get dX11_isOnTour_1 f_X11_9 (by repeat (first | assumption | exact jget_same2 (by (try simp only [List.length_set]); exact jlt (by assumption)) | refine jget_ne (by first | decide | assumption | omega) ?_)) (by rfl) ?_
  refine J_iconst (nI 1) (by decide) dX11_isOnTour_4 ?_
  refine J_iald_n (1) dX11_isOnTour_5 (by repeat (first | assumption | exact jget_same2 (by (try simp only [List.length_set]); exact jlt (by assumption)) | refine jget_ne (by first | decide | assumption | omega) ?_)) (by first | rfl | (simp only [pk_mul, nI_add]; done) | (simp only [pk_mul, nI_add]; congr 1; omega) | (congr 1; omega)) (by omega) ?_
  refine J_if_le_n 13 dX11_isOnTour_6 (by decide) (fun c6 => ?_) (fun c6 => ?_)
  · refine J_iconst (nI 0) (by decide) dX11_isOnTour_13 ?_
    exact J_zreturn dX11_isOnTour_14 rfl (by rfl) (by rw [show decide (0 < s 1) = false by simp; omega] at hQ; exact hQ) (by decide) (by decide) (fun _ => rfl)
  · refine J_iconst (nI 1) (by decide) dX11_isOnTour_9 ?_
    refine J_goto 14 dX11_isOnTour_10 (by decide) ?_
    exact J_zreturn dX11_isOnTour_14 rfl (by rfl) (by rw [show decide (0 < s 1) = true by simp; omega] at hQ; exact hQ) (by decide) (by decide) (fun _ => rfl)
theorem c_X11_aim (ht : s 2 < 12) (hM : h[116]? = some (hMo ch th ea fa an sv ln tp he cm)) (hS : h[117]? = some (ia 204 s)) (hQ : Q (.inl (some (.int (nI (aimS s))))) h) : jCT G M_X11_aim 1 0 0 X [.ref 116] h Q := by
  refine jCT_of [some (.ref 116)] 0 rfl (by decide +kernel) rfl rfl ?_
  refine J_aload_n (by rfl) (by rfl) dX11_aim_0 ?_
  refine J_get dX11_aim_1 f_X11_9 (by repeat (first | assumption | exact jget_same2 (by (try simp only [List.length_set]); exact jlt (by assumption)) | refine jget_ne (by first | decide | assumption | omega) ?_)) (by rfl) ?_
  refine J_sipush (nI 192) (by decide) dX11_aim_4 ?_
  refine J_aload_n (by rfl) (by rfl) dX11_aim_7 ?_
  refine J_get dX11_aim_8 f_X11_9 (by repeat (first | assumption | exact jget_same2 (by (try simp only [List.length_set]); exact jlt (by assumption)) | refine jget_ne (by first | decide | assumption | omega) ?_)) (by rfl) ?_
  refine J_iconst (nI 2) (by decide) dX11_aim_11 ?_
  refine J_iald_n (2) dX11_aim_12 (by repeat (first | assumption | exact jget_same2 (by (try simp only [List.length_set]); exact jlt (by assumption)) | refine jget_ne (by first | decide | assumption | omega) ?_)) (by first | rfl | (simp only [pk_mul, nI_add]; done) | (simp only [pk_mul, nI_add]; congr 1; omega) | (congr 1; omega)) (by omega) ?_
  refine J_iadd dX11_aim_13 ?_
  try rw [nI_add]
  refine J_iald_n (192 + s 2) dX11_aim_14 (by repeat (first | assumption | exact jget_same2 (by (try simp only [List.length_set]); exact jlt (by assumption)) | refine jget_ne (by first | decide | assumption | omega) ?_)) (by first | rfl | (simp only [pk_mul, nI_add]; done) | (simp only [pk_mul, nI_add]; congr 1; omega) | (congr 1; omega)) (by omega) ?_
  exact J_ireturn dX11_aim_15 rfl (hQ) (by decide) (by decide) (fun _ => rfl)
theorem c_X11_square (a b : Int) (hQ : Q (.inl (some (.int (nI (a.natAbs * a.natAbs + b.natAbs * b.natAbs))))) h) : jCT G M_X11_square 1 0 0 X [.int (iI a), .int (iI b)] h Q := by
  refine jCT_of [some (.int (iI a)), some (.int (iI b))] 0 rfl (by decide +kernel) rfl rfl ?_
  refine J_iload_n (by rfl) dX11_square_0 ?_
  refine J_iload_n (by rfl) dX11_square_1 ?_
  refine J_imul dX11_square_2 ?_
  try rw [pk_mul]
  refine J_iload_n (by rfl) dX11_square_3 ?_
  refine J_iload_n (by rfl) dX11_square_4 ?_
  refine J_imul dX11_square_5 ?_
  try rw [pk_mul]
  refine J_iadd dX11_square_6 ?_
  try rw [nI_add]
  refine J_topi (nI (a.natAbs * a.natAbs + b.natAbs * b.natAbs)) (by simp only [iI_sq, nI_add]) ?_
  exact J_ireturn dX11_square_7 rfl (hQ) (by decide) (by decide) (fun _ => rfl)
theorem c_X11_costOf {m : Nat} (hm : m ≤ 2) (hQ : Q (.inl (some (.int (nI (costN m))))) h) : jCT G M_X11_costOf 1 0 0 X [.int (nI m)] h Q := by
  refine jCT_of [some (.int (nI m))] 0 rfl (by decide +kernel) rfl rfl ?_
  refine J_iload_n (by rfl) dX11_costOf_0 ?_
  refine J_if_ne_n 8 dX11_costOf_1 (by decide) (fun c1 => ?_) (fun c1 => ?_)
  · refine J_iload_n (by rfl) dX11_costOf_8 ?_
    refine J_iconst (nI 1) (by decide) dX11_costOf_9 ?_
    refine J_icmp_ne_n 17 dX11_costOf_10 (by decide) (fun c10 => ?_) (fun c10 => ?_)
    · refine J_iconst (nI 4) (by decide) dX11_costOf_17 ?_
      exact J_ireturn dX11_costOf_18 rfl (by rw [show costN m = 4 by unfold costN; rw [if_neg (by omega), if_neg (by omega)]] at hQ; exact hQ) (by decide) (by decide) (fun _ => rfl)
    · refine J_iconst (nI 2) (by decide) dX11_costOf_13 ?_
      refine J_goto 18 dX11_costOf_14 (by decide) ?_
      exact J_ireturn dX11_costOf_18 rfl (by rw [show costN m = 2 by unfold costN; rw [if_neg (by omega), if_pos (by omega)]] at hQ; exact hQ) (by decide) (by decide) (fun _ => rfl)
  · refine J_iconst (nI 1) (by decide) dX11_costOf_4 ?_
    refine J_goto 18 dX11_costOf_5 (by decide) ?_
    exact J_ireturn dX11_costOf_18 rfl (by rw [show costN m = 1 by unfold costN; rw [if_pos (by omega)]] at hQ; exact hQ) (by decide) (by decide) (fun _ => rfl)
theorem c_X11_drains {v : Nat} (hb : s 6 ≤ 1000) (hv : v ≤ 1000) (hM : h[116]? = some (hMo ch th ea fa an sv ln tp he cm)) (hS : h[117]? = some (ia 204 s)) (hQ : Q (.inl none) (h.set 117 (ia 204 (drainS s v)))) : jCT G M_X11_drains 1 0 0 X [.ref 116, .int (nI v)] h Q := by
  refine jCT_of [some (.ref 116), some (.int (nI v))] 0 rfl (by decide +kernel) rfl rfl ?_
  unfold drainS at hQ
  refine J_aload_n (by rfl) (by rfl) dX11_drains_0 ?_
  refine J_get dX11_drains_1 f_X11_9 (by repeat (first | assumption | exact jget_same2 (by (try simp only [List.length_set]); exact jlt (by assumption)) | refine jget_ne (by first | decide | assumption | omega) ?_)) (by rfl) ?_
  refine J_bipush (nI 6) (by decide) dX11_drains_4 ?_
  refine J_aload_n (by rfl) (by rfl) dX11_drains_6 ?_
  refine J_get dX11_drains_7 f_X11_9 (by repeat (first | assumption | exact jget_same2 (by (try simp only [List.length_set]); exact jlt (by assumption)) | refine jget_ne (by first | decide | assumption | omega) ?_)) (by rfl) ?_
  refine J_bipush (nI 6) (by decide) dX11_drains_10 ?_
  refine J_iald_n (6) dX11_drains_12 (by repeat (first | assumption | exact jget_same2 (by (try simp only [List.length_set]); exact jlt (by assumption)) | refine jget_ne (by first | decide | assumption | omega) ?_)) (by first | rfl | (simp only [pk_mul, nI_add]; done) | (simp only [pk_mul, nI_add]; congr 1; omega) | (congr 1; omega)) (by omega) ?_
  refine J_iload_n (by rfl) dX11_drains_13 ?_
  refine J_icmp_le_n 29 dX11_drains_14 (by decide) (fun c14 => ?_) (fun c14 => ?_)
  · refine J_iconst (nI 0) (by decide) dX11_drains_29 ?_
    refine J_iast_n (6) dX11_drains_30 (by repeat (first | assumption | exact jget_same2 (by (try simp only [List.length_set]); exact jlt (by assumption)) | refine jget_ne (by first | decide | assumption | omega) ?_)) (by first | rfl | (simp only [pk_mul, nI_add]; done) | (simp only [pk_mul, nI_add]; congr 1; omega) | (congr 1; omega)) (by omega) ?_
    exact J_return dX11_drains_31 rfl (by rw [show s 6 - v = 0 by omega] at hQ; exact hQ) (by decide) (by decide) (fun _ => rfl)
  · refine J_aload_n (by rfl) (by rfl) dX11_drains_17 ?_
    refine J_get dX11_drains_18 f_X11_9 (by repeat (first | assumption | exact jget_same2 (by (try simp only [List.length_set]); exact jlt (by assumption)) | refine jget_ne (by first | decide | assumption | omega) ?_)) (by rfl) ?_
    refine J_bipush (nI 6) (by decide) dX11_drains_21 ?_
    refine J_iald_n (6) dX11_drains_23 (by repeat (first | assumption | exact jget_same2 (by (try simp only [List.length_set]); exact jlt (by assumption)) | refine jget_ne (by first | decide | assumption | omega) ?_)) (by first | rfl | (simp only [pk_mul, nI_add]; done) | (simp only [pk_mul, nI_add]; congr 1; omega) | (congr 1; omega)) (by omega) ?_
    refine J_iload_n (by rfl) dX11_drains_24 ?_
    refine J_isub_n (by omega) dX11_drains_25 ?_
    refine J_goto 30 dX11_drains_26 (by decide) ?_
    refine J_iast_n (6) dX11_drains_30 (by repeat (first | assumption | exact jget_same2 (by (try simp only [List.length_set]); exact jlt (by assumption)) | refine jget_ne (by first | decide | assumption | omega) ?_)) (by first | rfl | (simp only [pk_mul, nI_add]; done) | (simp only [pk_mul, nI_add]; congr 1; omega) | (congr 1; omega)) (by omega) ?_
    exact J_return dX11_drains_31 rfl (hQ) (by decide) (by decide) (fun _ => rfl)
theorem c_X11_over (hM : h[116]? = some (hMo ch th ea fa an sv ln tp he cm)) (hS : h[117]? = some (ia 204 s)) (hQ : Q (.inl none) (h.set 117 (ia 204 (overS s)))) : jCT G M_X11_over 1 0 0 X [.ref 116] h Q := by
  refine jCT_of [some (.ref 116), none] 1 rfl (by decide +kernel) rfl rfl ?_
  refine J_iconst (nI 0) (by decide) dX11_over_0 ?_
  refine J_istore_1 dX11_over_1 ?_
  suffices loop : ∀ i, i ≤ 12 → J G (jR 1 0 0) (jFin G Q X 0 0) M_X11_over X 0 0 2 [some (.ref 116), some (.int (nI i))] [] (h.set 117 (ia 204 (fun k => if 192 ≤ k ∧ k < 192 + i then 0 else s k))) by
    have := loop 0 (by omega)
    rw [show (fun k => if 192 ≤ k ∧ k < 192 + 0 then 0 else s k) = s by funext k; rw [if_neg (by omega)]] at this
    rw [hset_id hS] at this
    exact this
  refine up_ind 12 (fun i hi ih => ?_)
  refine J_iload_n (by rfl) dX11_over_2 ?_
  refine J_bipush (nI 12) (by decide) dX11_over_3 ?_
  refine J_icmp_ge_n 25 dX11_over_5 (by decide) (fun c5 => ?_) (fun c5 => ?_)
  · have he : i = 12 := by omega
    subst he
    have e : updN (updN (updN (updN (updN (fun k => if 192 ≤ k ∧ k < 192 + 12 then 0 else s k) 1 0) 2 0) 3 0) 4 0) 5 0 = overS s := by
      funext k
      simp only [updN, overS]
      repeat' split
      all_goals first | rfl | omega
    refine J_aload_n (by rfl) (by rfl) dX11_over_25 ?_
    refine J_get dX11_over_26 f_X11_9 (by repeat (first | assumption | exact jget_same2 (by (try simp only [List.length_set]); exact jlt (by assumption)) | refine jget_ne (by first | decide | assumption | omega) ?_)) (by rfl) ?_
    refine J_iconst (nI 1) (by decide) dX11_over_29 ?_
    refine J_iconst (nI 0) (by decide) dX11_over_30 ?_
    refine J_iast_n (1) dX11_over_31 (by repeat (first | assumption | exact jget_same2 (by (try simp only [List.length_set]); exact jlt (by assumption)) | refine jget_ne (by first | decide | assumption | omega) ?_)) (by first | rfl | (simp only [pk_mul, nI_add]; done) | (simp only [pk_mul, nI_add]; congr 1; omega) | (congr 1; omega)) (by omega) ?_
    refine J_aload_n (by rfl) (by rfl) dX11_over_32 ?_
    refine J_get dX11_over_33 f_X11_9 (by repeat (first | assumption | exact jget_same2 (by (try simp only [List.length_set]); exact jlt (by assumption)) | refine jget_ne (by first | decide | assumption | omega) ?_)) (by rfl) ?_
    refine J_iconst (nI 2) (by decide) dX11_over_36 ?_
    refine J_iconst (nI 0) (by decide) dX11_over_37 ?_
    refine J_iast_n (2) dX11_over_38 (by repeat (first | assumption | exact jget_same2 (by (try simp only [List.length_set]); exact jlt (by assumption)) | refine jget_ne (by first | decide | assumption | omega) ?_)) (by first | rfl | (simp only [pk_mul, nI_add]; done) | (simp only [pk_mul, nI_add]; congr 1; omega) | (congr 1; omega)) (by omega) ?_
    refine J_aload_n (by rfl) (by rfl) dX11_over_39 ?_
    refine J_get dX11_over_40 f_X11_9 (by repeat (first | assumption | exact jget_same2 (by (try simp only [List.length_set]); exact jlt (by assumption)) | refine jget_ne (by first | decide | assumption | omega) ?_)) (by rfl) ?_
    refine J_iconst (nI 3) (by decide) dX11_over_43 ?_
    refine J_iconst (nI 0) (by decide) dX11_over_44 ?_
    refine J_iast_n (3) dX11_over_45 (by repeat (first | assumption | exact jget_same2 (by (try simp only [List.length_set]); exact jlt (by assumption)) | refine jget_ne (by first | decide | assumption | omega) ?_)) (by first | rfl | (simp only [pk_mul, nI_add]; done) | (simp only [pk_mul, nI_add]; congr 1; omega) | (congr 1; omega)) (by omega) ?_
    refine J_aload_n (by rfl) (by rfl) dX11_over_46 ?_
    refine J_get dX11_over_47 f_X11_9 (by repeat (first | assumption | exact jget_same2 (by (try simp only [List.length_set]); exact jlt (by assumption)) | refine jget_ne (by first | decide | assumption | omega) ?_)) (by rfl) ?_
    refine J_iconst (nI 4) (by decide) dX11_over_50 ?_
    refine J_iconst (nI 0) (by decide) dX11_over_51 ?_
    refine J_iast_n (4) dX11_over_52 (by repeat (first | assumption | exact jget_same2 (by (try simp only [List.length_set]); exact jlt (by assumption)) | refine jget_ne (by first | decide | assumption | omega) ?_)) (by first | rfl | (simp only [pk_mul, nI_add]; done) | (simp only [pk_mul, nI_add]; congr 1; omega) | (congr 1; omega)) (by omega) ?_
    refine J_aload_n (by rfl) (by rfl) dX11_over_53 ?_
    refine J_get dX11_over_54 f_X11_9 (by repeat (first | assumption | exact jget_same2 (by (try simp only [List.length_set]); exact jlt (by assumption)) | refine jget_ne (by first | decide | assumption | omega) ?_)) (by rfl) ?_
    refine J_iconst (nI 5) (by decide) dX11_over_57 ?_
    refine J_iconst (nI 0) (by decide) dX11_over_58 ?_
    refine J_iast_n (5) dX11_over_59 (by repeat (first | assumption | exact jget_same2 (by (try simp only [List.length_set]); exact jlt (by assumption)) | refine jget_ne (by first | decide | assumption | omega) ?_)) (by first | rfl | (simp only [pk_mul, nI_add]; done) | (simp only [pk_mul, nI_add]; congr 1; omega) | (congr 1; omega)) (by omega) ?_
    exact J_return dX11_over_60 rfl (by simp only [List.set_set]; rw [e]; exact hQ) (by decide) (by decide) (fun _ => rfl)
  · refine J_aload_n (by rfl) (by rfl) dX11_over_8 ?_
    refine J_get dX11_over_9 f_X11_9 (by repeat (first | assumption | exact jget_same2 (by (try simp only [List.length_set]); exact jlt (by assumption)) | refine jget_ne (by first | decide | assumption | omega) ?_)) (by rfl) ?_
    refine J_sipush (nI 192) (by decide) dX11_over_12 ?_
    refine J_iload_n (by rfl) dX11_over_15 ?_
    refine J_iadd dX11_over_16 ?_
    try rw [nI_add]
    refine J_iconst (nI 0) (by decide) dX11_over_17 ?_
    refine J_iast_n (192 + i) dX11_over_18 (by repeat (first | assumption | exact jget_same2 (by (try simp only [List.length_set]); exact jlt (by assumption)) | refine jget_ne (by first | decide | assumption | omega) ?_)) (by first | rfl | (simp only [pk_mul, nI_add]; done) | (simp only [pk_mul, nI_add]; congr 1; omega) | (congr 1; omega)) (by omega) ?_
    refine J_iinc_1 (nI 1) dX11_over_19 (by decide) ?_
    try rw [nI_add]
    refine J_goto 2 dX11_over_22 (by decide) ?_
    simp only [List.set_set]
    have := ih c5
    rw [show (fun k => if 192 ≤ k ∧ k < 192 + (i + 1) then 0 else s k) = updN (fun k => if 192 ≤ k ∧ k < 192 + i then 0 else s k) (192 + i) 0 by
      funext k
      simp only [updN]
      repeat' split
      all_goals first | rfl | omega] at this
    exact this
end MODEL
