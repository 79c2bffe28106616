/-! The reference: forecast, the output line, marks -/
def fcC (s : Nat → Nat) (x y : Nat) : Nat := if reachS s x y = true then 116 else if farS s x y (s 8) = true then 97 else 113
/-- a line: its signs, its length -/
def pS (L : (Nat → Nat) × Nat) (v : Nat) : (Nat → Nat) × Nat := (updN L.1 L.2 v, L.2 + 1)
def nS (L : (Nat → Nat) × Nat) (v : Nat) : (Nat → Nat) × Nat := if v < 10 then pS L (48 + v) else pS (pS L (48 + v / 10)) (48 + v % 10)
def stepR (s : Nat → Nat) (i : Nat) (L : (Nat → Nat) × Nat) : (Nat → Nat) × Nat :=
  if 0 < i ∧ i + 1 < s 1 then pS (nS (if i = s 2 then pS (if 0 < i then pS L 32 else L) 42 else (if 0 < i then pS L 32 else L)) (s (192 + i))) (turnC s i)
  else nS (if i = s 2 then pS (if 0 < i then pS L 32 else L) 42 else (if 0 < i then pS L 32 else L)) (s (192 + i))
def routeL (s lf : Nat → Nat) : Nat → (Nat → Nat) × Nat
  | 0 => (lf, 0)
  | k + 1 => stepR s k (routeL s lf k)
def stepT (s : Nat → Nat) (i j : Nat) (L : (Nat → Nat) × Nat) : (Nat → Nat) × Nat := if 0 < wS s (i * 12 + j) then nS (pS (nS (pS L 45) j) 61) (wS s (i * 12 + j)) else L
def trailL (s lf : Nat → Nat) (i : Nat) : Nat → (Nat → Nat) × Nat
  | 0 => (lf, 0)
  | k + 1 => stepT s i k (trailL s lf i k)
theorem nS_len (L : (Nat → Nat) × Nat) (v : Nat) : L.2 ≤ (nS L v).2 ∧ (nS L v).2 ≤ L.2 + 2 := by
  unfold nS; split <;> simp only [pS] <;> omega
theorem stepR_len (s : Nat → Nat) (i : Nat) (L : (Nat → Nat) × Nat) : (stepR s i L).2 ≤ L.2 + 5 := by
  unfold stepR
  have h1 := nS_len (if i = s 2 then pS (if 0 < i then pS L 32 else L) 42 else (if 0 < i then pS L 32 else L)) (s (192 + i))
  have h2 : (if i = s 2 then pS (if 0 < i then pS L 32 else L) 42 else (if 0 < i then pS L 32 else L)).2 ≤ L.2 + 2 := by
    split <;> split <;> (try simp only [pS]) <;> omega
  split
  · show (nS _ _).2 + 1 ≤ _; omega
  · omega
theorem routeL_len (s lf : Nat → Nat) : ∀ k, (routeL s lf k).2 ≤ 5 * k
  | 0 => Nat.le_refl _
  | k + 1 => by have := routeL_len s lf k; have := stepR_len s k (routeL s lf k); show (stepR s k _).2 ≤ _; omega
theorem stepT_len (s : Nat → Nat) (i j : Nat) (L : (Nat → Nat) × Nat) : (stepT s i j L).2 ≤ L.2 + 6 := by
  unfold stepT
  split
  · have h1 := nS_len (pS L 45) j
    have h2 := nS_len (pS (nS (pS L 45) j) 61) (wS s (i * 12 + j))
    have h3 : (pS L 45).2 = L.2 + 1 := rfl
    have h4 : (pS (nS (pS L 45) j) 61).2 = (nS (pS L 45) j).2 + 1 := rfl
    omega
  · omega
theorem trailL_len (s lf : Nat → Nat) (i : Nat) : ∀ k, (trailL s lf i k).2 ≤ 6 * k
  | 0 => Nat.le_refl _
  | k + 1 => by have := trailL_len s lf i k; have := stepT_len s i k (trailL s lf i k); show (stepT s i k _).2 ≤ _; omega
/-- two lines that read alike -/
def Lik (L M : (Nat → Nat) × Nat) : Prop := L.2 = M.2 ∧ ∀ i, i < L.2 → L.1 i = M.1 i
theorem Lik.p {L M : (Nat → Nat) × Nat} (h : Lik L M) (v : Nat) : Lik (pS L v) (pS M v) := by
  refine ⟨by show L.2 + 1 = M.2 + 1; rw [h.1], fun i hi => ?_⟩
  have hi : i < L.2 + 1 := hi
  show updN L.1 L.2 v i = updN M.1 M.2 v i
  rw [← h.1]
  by_cases e : i = L.2
  · rw [e, updN_s, updN_s]
  · rw [updN_n e, updN_n e]; exact h.2 i (by omega)
theorem Lik.n {L M : (Nat → Nat) × Nat} (h : Lik L M) (v : Nat) : Lik (nS L v) (nS M v) := by
  unfold nS
  split
  · exact h.p _
  · exact (h.p _).p _
theorem Lik.r {s : Nat → Nat} {L M : (Nat → Nat) × Nat} (h : Lik L M) (i : Nat) : Lik (stepR s i L) (stepR s i M) := by
  have h1 : Lik (if 0 < i then pS L 32 else L) (if 0 < i then pS M 32 else M) := by
    split
    · exact h.p _
    · exact h
  have h2 : Lik (if i = s 2 then pS (if 0 < i then pS L 32 else L) 42 else (if 0 < i then pS L 32 else L)) (if i = s 2 then pS (if 0 < i then pS M 32 else M) 42 else (if 0 < i then pS M 32 else M)) := by
    by_cases e : i = s 2
    · rw [if_pos e, if_pos e]; exact h1.p _
    · rw [if_neg e, if_neg e]; exact h1
  unfold stepR
  by_cases e : 0 < i ∧ i + 1 < s 1
  · rw [if_pos e, if_pos e]; exact (h2.n _).p _
  · rw [if_neg e, if_neg e]; exact h2.n _
theorem routeL_lik (s f g : Nat → Nat) : ∀ k, Lik (routeL s f k) (routeL s g k)
  | 0 => ⟨rfl, fun i hi => absurd hi (Nat.not_lt_zero _)⟩
  | k + 1 => (routeL_lik s f g k).r k
theorem trailL_lik (s f g : Nat → Nat) (i : Nat) : ∀ k, Lik (trailL s f i k) (trailL s g i k)
  | 0 => ⟨rfl, fun i hi => absurd hi (Nat.not_lt_zero _)⟩
  | k + 1 => by
    have h := trailL_lik s f g i k
    show Lik (stepT s i k _) (stepT s i k _)
    unfold stepT
    split
    · exact (((h.p _).n _).p _).n _
    · exact h
/-- only signs stand in a line -/
def Sgn (L : (Nat → Nat) × Nat) : Prop := ∀ i, i < L.2 → L.1 i < 65536
theorem Sgn.p {L : (Nat → Nat) × Nat} (h : Sgn L) {v : Nat} (hv : v < 65536) : Sgn (pS L v) := fun i hi => by
  have hi : i < L.2 + 1 := hi
  show updN L.1 L.2 v i < 65536
  by_cases e : i = L.2
  · rw [e, updN_s]; exact hv
  · rw [updN_n e]; exact h i (by omega)
theorem Sgn.n {L : (Nat → Nat) × Nat} (h : Sgn L) {v : Nat} (hv : v < 100) : Sgn (nS L v) := by
  unfold nS
  split
  · exact h.p (by omega)
  · exact (h.p (by omega)).p (by omega)
theorem turnC_lt (s : Nat → Nat) (i : Nat) : turnC s i < 65536 := by
  unfold turnC
  repeat' split
  all_goals decide
theorem routeL_sgn {s : Nat → Nat} (f : Nat → Nat) : ∀ k, (∀ i, i < k → s (192 + i) < 100) → Sgn (routeL s f k)
  | 0, _ => fun i hi => absurd hi (Nat.not_lt_zero _)
  | k + 1, h => by
    have ih := routeL_sgn f k (fun i hi => h i (by omega))
    have hk := h k (by omega)
    show Sgn (stepR s k _)
    have h1 : Sgn (if 0 < k then pS (routeL s f k) 32 else routeL s f k) := by
      split
      · exact ih.p (by decide)
      · exact ih
    have h2 : Sgn (if k = s 2 then pS (if 0 < k then pS (routeL s f k) 32 else routeL s f k) 42 else (if 0 < k then pS (routeL s f k) 32 else routeL s f k)) := by
      by_cases e : k = s 2
      · rw [if_pos e]; exact h1.p (by decide)
      · rw [if_neg e]; exact h1
    unfold stepR
    split
    · exact (h2.n hk).p (turnC_lt s k)
    · exact h2.n hk
theorem trailL_sgn {s : Nat → Nat} (f : Nat → Nat) {i : Nat} (hi : i < 12) (hw : ∀ k, k < 144 → wS s k ≤ 99) : ∀ k, k ≤ 12 → Sgn (trailL s f i k)
  | 0, _ => fun i hi => absurd hi (Nat.not_lt_zero _)
  | k + 1, h => by
    have ih := trailL_sgn f hi hw k (by omega)
    have hk := hw (i * 12 + k) (by omega)
    show Sgn (stepT s i k _)
    unfold stepT
    split
    · exact (((ih.p (by decide)).n (by omega)).p (by decide)).n (by omega)
    · exact ih
section ML
variable {G : jG} {X : Bool} {h : jH} {Q : jQ_} {ch th ln tp he cm K : Nat} {ea fa an : Int32} {sv : Bool} {s sS P lf tx : Nat → Nat} {L : (Nat → Nat) × Nat}
theorem c_X11_puts {v : Nat} (hn : L.2 < 120) (hM : h[116]? = some (hMo ch th ea fa an sv L.2 tp he cm)) (hL : h[122]? = some (ia 120 L.1)) (hQ : Q (.inl none) ((h.set 116 (hMo ch th ea fa an sv (pS L v).2 tp he cm)).set 122 (ia 120 (pS L v).1))) : jCT G M_X11_puts 1 0 0 X [.ref 116, .int (nI v)] h Q := by
  refine jCT_of [some (.ref 116), some (.int (nI v))] 0 rfl (by decide +kernel) rfl rfl ?_
  rw [← jsw (i := 116) (j := 122) (by decide)] at hQ
  refine J_aload_n (by rfl) (by rfl) dX11_puts_0 ?_
  refine J_get dX11_puts_1 f_X11_32 (by repeat (first | assumption | exact jget_same2 (by (try simp only [List.length_set]); exact jlt (by assumption)) | refine jget_ne (by first | decide | assumption | omega) ?_)) (by rfl) ?_
  refine J_aload_n (by rfl) (by rfl) dX11_puts_4 ?_
  refine J_get dX11_puts_5 f_X11_181 (by repeat (first | assumption | exact jget_same2 (by (try simp only [List.length_set]); exact jlt (by assumption)) | refine jget_ne (by first | decide | assumption | omega) ?_)) (by rfl) ?_
  refine J_iload_n (by rfl) dX11_puts_8 ?_
  refine J_iast_n (L.2) dX11_puts_9 (by repeat (first | assumption | exact jget_same2 (by (try simp only [List.length_set]); exact jlt (by assumption)) | refine jget_ne (by first | decide | assumption | omega) ?_)) (by first | rfl | (simp only [pk_mul, nI_add]; done) | (simp only [pk_mul, nI_add]; congr 1; omega) | (congr 1; omega)) (by omega) ?_
  refine J_aload_n (by rfl) (by rfl) dX11_puts_10 ?_
  refine J_dup (by rfl) dX11_puts_11 ?_
  refine J_get dX11_puts_12 f_X11_181 (by repeat (first | assumption | exact jget_same2 (by (try simp only [List.length_set]); exact jlt (by assumption)) | refine jget_ne (by first | decide | assumption | omega) ?_)) (by rfl) ?_
  refine J_iconst (nI 1) (by decide) dX11_puts_15 ?_
  refine J_iadd dX11_puts_16 ?_
  try rw [nI_add]
  refine J_put_12 dX11_puts_17 p_X11_181 (by repeat (first | assumption | exact jget_same2 (by (try simp only [List.length_set]); exact jlt (by assumption)) | refine jget_ne (by first | decide | assumption | omega) ?_)) ?_
  exact J_return dX11_puts_20 rfl (hQ) (by decide) (by decide) (fun _ => rfl)
theorem c_X11_number1 {v : Nat} (hv : v < 10) (hn : L.2 < 120) (hM : h[116]? = some (hMo ch th ea fa an sv L.2 tp he cm)) (hL : h[122]? = some (ia 120 L.1)) (hQ : Q (.inl none) ((h.set 116 (hMo ch th ea fa an sv (pS L (48 + v)).2 tp he cm)).set 122 (ia 120 (pS L (48 + v)).1))) : jCT G M_X11_number 2 0 0 X [.ref 116, .int (nI v)] h Q := by
  refine jCT_of [some (.ref 116), some (.int (nI v))] 0 rfl (by decide +kernel) rfl rfl ?_
  refine J_iload_n (by rfl) dX11_number_0 ?_
  refine J_bipush (nI 10) (by decide) dX11_number_1 ?_
  refine J_icmp_lt_n 14 dX11_number_3 (by decide) (fun c3 => ?_) (fun c3 => ?_)
  · refine J_aload_n (by rfl) (by rfl) dX11_number_14 ?_
    refine J_bipush (nI 48) (by decide) dX11_number_15 ?_
    refine J_iload_n (by rfl) dX11_number_17 ?_
    refine J_bipush (nI 10) (by decide) dX11_number_18 ?_
    refine J_irem_n (by omega) (by omega) (by omega) dX11_number_20 ?_
    refine J_iadd dX11_number_21 ?_
    try rw [nI_add]
    refine J_topi (nI (48 + v)) (by rw [show v % 10 = v by omega]) ?_
    refine J_V10 (ci := 11) dX11_number_22 s_X11_187 m_X11_puts rfl (by repeat (first | assumption | exact jget_same2 (by (try simp only [List.length_set]); exact jlt (by assumption)) | refine jget_ne (by first | decide | assumption | omega) ?_)) rfl (c_X11_puts (L := L) hn hM hL (jK0_i ?_))
    exact J_return dX11_number_25 rfl (hQ) (by decide) (by decide) (fun _ => rfl)
  · omega
theorem c_X11_number {v : Nat} (hv : v < 100) (hn : L.2 + 2 ≤ 120) (hM : h[116]? = some (hMo ch th ea fa an sv L.2 tp he cm)) (hL : h[122]? = some (ia 120 L.1)) (hQ : Q (.inl none) ((h.set 116 (hMo ch th ea fa an sv (nS L v).2 tp he cm)).set 122 (ia 120 (nS L v).1))) : jCT G M_X11_number 3 0 0 X [.ref 116, .int (nI v)] h Q := by
  refine jCT_of [some (.ref 116), some (.int (nI v))] 0 rfl (by decide +kernel) rfl rfl ?_
  unfold nS at hQ
  refine J_iload_n (by rfl) dX11_number_0 ?_
  refine J_bipush (nI 10) (by decide) dX11_number_1 ?_
  refine J_icmp_lt_n 14 dX11_number_3 (by decide) (fun c3 => ?_) (fun c3 => ?_)
  · rw [if_pos c3] at hQ
    refine J_aload_n (by rfl) (by rfl) dX11_number_14 ?_
    refine J_bipush (nI 48) (by decide) dX11_number_15 ?_
    refine J_iload_n (by rfl) dX11_number_17 ?_
    refine J_bipush (nI 10) (by decide) dX11_number_18 ?_
    refine J_irem_n (by omega) (by omega) (by omega) dX11_number_20 ?_
    refine J_iadd dX11_number_21 ?_
    try rw [nI_add]
    refine J_topi (nI (48 + v)) (by rw [show v % 10 = v by omega]) ?_
    refine J_V10 (ci := 11) dX11_number_22 s_X11_187 m_X11_puts rfl (by repeat (first | assumption | exact jget_same2 (by (try simp only [List.length_set]); exact jlt (by assumption)) | refine jget_ne (by first | decide | assumption | omega) ?_)) rfl (c_X11_puts (L := L) (by omega) hM hL (jK0_i ?_))
    exact J_return dX11_number_25 rfl (hQ) (by decide) (by decide) (fun _ => rfl)
  · rw [if_neg (by omega)] at hQ
    refine J_aload_n (by rfl) (by rfl) dX11_number_6 ?_
    refine J_iload_n (by rfl) dX11_number_7 ?_
    refine J_bipush (nI 10) (by decide) dX11_number_8 ?_
    refine J_idiv_n (by omega) (by omega) (by omega) dX11_number_10 ?_
    refine J_V10 (ci := 11) dX11_number_11 s_X11_184 m_X11_number rfl (by repeat (first | assumption | exact jget_same2 (by (try simp only [List.length_set]); exact jlt (by assumption)) | refine jget_ne (by first | decide | assumption | omega) ?_)) rfl (c_X11_number1 (L := L) (v := v / 10) (by omega) (by omega) hM hL (jK0_i ?_))
    refine J_aload_n (by rfl) (by rfl) dX11_number_14 ?_
    refine J_bipush (nI 48) (by decide) dX11_number_15 ?_
    refine J_iload_n (by rfl) dX11_number_17 ?_
    refine J_bipush (nI 10) (by decide) dX11_number_18 ?_
    refine J_irem_n (by omega) (by omega) (by omega) dX11_number_20 ?_
    refine J_iadd dX11_number_21 ?_
    try rw [nI_add]
    refine J_V10 (ci := 11) dX11_number_22 s_X11_187 m_X11_puts rfl (by repeat (first | assumption | exact jget_same2 (by (try simp only [List.length_set]); exact jlt (by assumption)) | refine jget_ne (by first | decide | assumption | omega) ?_)) rfl (c_X11_puts (L := pS L (48 + v / 10)) (by show L.2 + 1 < 120; omega) (by repeat (first | assumption | exact jget_same2 (by (try simp only [List.length_set]); exact jlt (by assumption)) | refine jget_ne (by first | decide | assumption | omega) ?_)) (by repeat (first | assumption | exact jget_same2 (by (try simp only [List.length_set]); exact jlt (by assumption)) | refine jget_ne (by first | decide | assumption | omega) ?_)) (jK0_i ?_))
    exact J_return dX11_number_25 rfl (by
      simp only [List.set_set, jsw (i := 116) (j := 122) (by decide)]
      exact hQ) (by decide) (by decide) (fun _ => rfl)
theorem c_X11_writeRoute (hI : Inv K s) (hm : MPc h s sS P ch th ea fa sv lf ln tx tp) (hQ : ∀ h', jFr mC h h' → MPc h' s sS P ch 0 ea fa sv (routeL s lf (s 1)).1 (routeL s lf (s 1)).2 tx tp → Q (.inl (some (.int (nI (routeL s lf (s 1)).2)))) h') : jCT G M_X11_writeRoute 4 0 0 X [.ref 116] h Q := by
  refine jCT_of [some (.ref 116), none] 1 rfl (by decide +kernel) rfl rfl ?_
  obtain ⟨an, he, cm, W, F, C, h1, h2, h3, h4, h5, h6, h7, h8, h9⟩ := hm
  have hs1 := hI.s1
  have hn := hI.n12
  refine J_aload_n (by rfl) (by rfl) dX11_writeRoute_0 ?_
  refine J_iconst (nI 0) (by decide) dX11_writeRoute_1 ?_
  refine J_put_6 dX11_writeRoute_2 p_X11_41 (by repeat (first | assumption | exact jget_same2 (by (try simp only [List.length_set]); exact jlt (by assumption)) | refine jget_ne (by first | decide | assumption | omega) ?_)) ?_
  refine J_aload_n (by rfl) (by rfl) dX11_writeRoute_5 ?_
  refine J_iconst (nI 0) (by decide) dX11_writeRoute_6 ?_
  refine J_put_12 dX11_writeRoute_7 p_X11_181 (by repeat (first | assumption | exact jget_same2 (by (try simp only [List.length_set]); exact jlt (by assumption)) | refine jget_ne (by first | decide | assumption | omega) ?_)) ?_
  refine J_iconst (nI 0) (by decide) dX11_writeRoute_10 ?_
  refine J_istore_1 dX11_writeRoute_11 ?_
  (try simp only [List.set_set])
  suffices loop : ∀ k, k ≤ s 1 → J G (jR 4 0 0) (jFin G Q X 0 0) M_X11_writeRoute X 0 0 12 [some (.ref 116), some (.int (nI k))] [] ((h.set 116 (hMo ch 0 ea fa an sv (routeL s lf k).2 tp he cm)).set 122 (ia 120 (routeL s lf k).1)) by
    have := loop 0 (by omega)
    rw [show (routeL s lf 0).1 = lf from rfl, hset_id (show (h.set 116 (hMo ch 0 ea fa an sv (routeL s lf 0).2 tp he cm))[122]? = some (ia 120 lf) from (by repeat (first | assumption | exact jget_same2 (by (try simp only [List.length_set]); exact jlt (by assumption)) | refine jget_ne (by first | decide | assumption | omega) ?_)))] at this
    exact this
  refine up_ind (s 1) (fun k hk ih => ?_)
  refine J_iload_n (by rfl) dX11_writeRoute_12 ?_
  refine J_aload_n (by rfl) (by rfl) dX11_writeRoute_13 ?_
  refine J_get dX11_writeRoute_14 f_X11_9 (by repeat (first | assumption | exact jget_same2 (by (try simp only [List.length_set]); exact jlt (by assumption)) | refine jget_ne (by first | decide | assumption | omega) ?_)) (by rfl) ?_
  refine J_iconst (nI 1) (by decide) dX11_writeRoute_17 ?_
  refine J_iald_n (1) dX11_writeRoute_18 (by repeat (first | assumption | exact jget_same2 (by (try simp only [List.length_set]); exact jlt (by assumption)) | refine jget_ne (by first | decide | assumption | omega) ?_)) (by first | rfl | (simp only [pk_mul, nI_add]; done) | (simp only [pk_mul, nI_add]; congr 1; omega) | (congr 1; omega)) (by omega) ?_
  refine J_icmp_ge_n 93 dX11_writeRoute_19 (by decide) (fun c19 => ?_) (fun c19 => ?_)
  · have he9 : k = s 1 := by omega
    subst he9
    refine J_aload_n (by rfl) (by rfl) dX11_writeRoute_93 ?_
    refine J_get dX11_writeRoute_94 f_X11_181 (by repeat (first | assumption | exact jget_same2 (by (try simp only [List.length_set]); exact jlt (by assumption)) | refine jget_ne (by first | decide | assumption | omega) ?_)) (by rfl) ?_
    exact J_ireturn dX11_writeRoute_97 rfl (hQ _ ((jFr.refl.set 116 _ (by decide)).set 122 _ (by decide)) ⟨an, he, cm, W, F, C, (by repeat (first | assumption | exact jget_same2 (by (try simp only [List.length_set]); exact jlt (by assumption)) | refine jget_ne (by first | decide | assumption | omega) ?_)), (by repeat (first | assumption | exact jget_same2 (by (try simp only [List.length_set]); exact jlt (by assumption)) | refine jget_ne (by first | decide | assumption | omega) ?_)), (by repeat (first | assumption | exact jget_same2 (by (try simp only [List.length_set]); exact jlt (by assumption)) | refine jget_ne (by first | decide | assumption | omega) ?_)), (by repeat (first | assumption | exact jget_same2 (by (try simp only [List.length_set]); exact jlt (by assumption)) | refine jget_ne (by first | decide | assumption | omega) ?_)), (by repeat (first | assumption | exact jget_same2 (by (try simp only [List.length_set]); exact jlt (by assumption)) | refine jget_ne (by first | decide | assumption | omega) ?_)), (by repeat (first | assumption | exact jget_same2 (by (try simp only [List.length_set]); exact jlt (by assumption)) | refine jget_ne (by first | decide | assumption | omega) ?_)), (by repeat (first | assumption | exact jget_same2 (by (try simp only [List.length_set]); exact jlt (by assumption)) | refine jget_ne (by first | decide | assumption | omega) ?_)), (by repeat (first | assumption | exact jget_same2 (by (try simp only [List.length_set]); exact jlt (by assumption)) | refine jget_ne (by first | decide | assumption | omega) ?_)), (by repeat (first | assumption | exact jget_same2 (by (try simp only [List.length_set]); exact jlt (by assumption)) | refine jget_ne (by first | decide | assumption | omega) ?_))⟩) (by decide) (by decide) (fun _ => rfl)
  · have hlen := routeL_len s lf k
    have hrt := (hI.t (by omega)).2.2.2.2.2.2 k c19
    have hst : routeL s lf (k + 1) = stepR s k (routeL s lf k) := rfl
    have hih := ih c19
    rw [hst] at hih
    generalize routeL s lf k = L at *
    unfold stepR at hih
    have last : ∀ L2 : (Nat → Nat) × Nat, L2.2 ≤ 66 → (J G (jR 4 0 0) (jFin G Q X 0 0) M_X11_writeRoute X 0 0 12 [some (.ref 116), some (.int (nI (k + 1)))] [] ((h.set 116 (hMo ch 0 ea fa an sv (if 0 < k ∧ k + 1 < s 1 then pS L2 (turnC s k) else L2).2 tp he cm)).set 122 (ia 120 (if 0 < k ∧ k + 1 < s 1 then pS L2 (turnC s k) else L2).1))) → J G (jR 4 0 0) (jFin G Q X 0 0) M_X11_writeRoute X 0 0 62 [some (.ref 116), some (.int (nI k))] [] ((h.set 116 (hMo ch 0 ea fa an sv L2.2 tp he cm)).set 122 (ia 120 L2.1)) := by
      intro L2 hl2 hnx
      refine J_iload_n (by rfl) dX11_writeRoute_62 ?_
      refine J_if_le_n 87 dX11_writeRoute_63 (by decide) (fun c63 => ?_) (fun c63 => ?_)
      · rw [if_neg (by omega)] at hnx
        refine J_iinc_1 (nI 1) dX11_writeRoute_87 (by decide) ?_
        try rw [nI_add]
        refine J_goto 12 dX11_writeRoute_90 (by decide) ?_
        exact hnx
      · refine J_iload_n (by rfl) dX11_writeRoute_66 ?_
        refine J_aload_n (by rfl) (by rfl) dX11_writeRoute_67 ?_
        refine J_get dX11_writeRoute_68 f_X11_9 (by repeat (first | assumption | exact jget_same2 (by (try simp only [List.length_set]); exact jlt (by assumption)) | refine jget_ne (by first | decide | assumption | omega) ?_)) (by rfl) ?_
        refine J_iconst (nI 1) (by decide) dX11_writeRoute_71 ?_
        refine J_iald_n (1) dX11_writeRoute_72 (by repeat (first | assumption | exact jget_same2 (by (try simp only [List.length_set]); exact jlt (by assumption)) | refine jget_ne (by first | decide | assumption | omega) ?_)) (by first | rfl | (simp only [pk_mul, nI_add]; done) | (simp only [pk_mul, nI_add]; congr 1; omega) | (congr 1; omega)) (by omega) ?_
        refine J_iconst (nI 1) (by decide) dX11_writeRoute_73 ?_
        refine J_isub_n (by omega) dX11_writeRoute_74 ?_
        refine J_icmp_ge_n 87 dX11_writeRoute_75 (by decide) (fun c75 => ?_) (fun c75 => ?_)
        · rw [if_neg (by omega)] at hnx
          refine J_iinc_1 (nI 1) dX11_writeRoute_87 (by decide) ?_
          try rw [nI_add]
          refine J_goto 12 dX11_writeRoute_90 (by decide) ?_
          exact hnx
        · rw [if_pos ⟨c63, by omega⟩] at hnx
          refine J_aload_n (by rfl) (by rfl) dX11_writeRoute_78 ?_
          refine J_aload_n (by rfl) (by rfl) dX11_writeRoute_79 ?_
          refine J_iload_n (by rfl) dX11_writeRoute_80 ?_
          refine J_V1v (ci := 11) dX11_writeRoute_81 s_X11_172 m_X11_turnAt rfl (by repeat (first | assumption | exact jget_same2 (by (try simp only [List.length_set]); exact jlt (by assumption)) | refine jget_ne (by first | decide | assumption | omega) ?_)) rfl (c_X11_turnAt (s := s) (i := k) hI (by omega) (by omega) (by repeat (first | assumption | exact jget_same2 (by (try simp only [List.length_set]); exact jlt (by assumption)) | refine jget_ne (by first | decide | assumption | omega) ?_)) (by repeat (first | assumption | exact jget_same2 (by (try simp only [List.length_set]); exact jlt (by assumption)) | refine jget_ne (by first | decide | assumption | omega) ?_)) (jKv_i ?_))
          refine J_V10 (ci := 11) dX11_writeRoute_84 s_X11_187 m_X11_puts rfl (by repeat (first | assumption | exact jget_same2 (by (try simp only [List.length_set]); exact jlt (by assumption)) | refine jget_ne (by first | decide | assumption | omega) ?_)) rfl (c_X11_puts (L := L2) (by omega) (by repeat (first | assumption | exact jget_same2 (by (try simp only [List.length_set]); exact jlt (by assumption)) | refine jget_ne (by first | decide | assumption | omega) ?_)) (by repeat (first | assumption | exact jget_same2 (by (try simp only [List.length_set]); exact jlt (by assumption)) | refine jget_ne (by first | decide | assumption | omega) ?_)) (jK0_i ?_))
          refine J_iinc_1 (nI 1) dX11_writeRoute_87 (by decide) ?_
          try rw [nI_add]
          refine J_goto 12 dX11_writeRoute_90 (by decide) ?_
          (try simp only [List.set_set, jsw (i := 116) (j := 122) (by decide)])
          exact hnx
    obtain ⟨X1, e1⟩ : ∃ X1, X1 = (if 0 < k then pS L 32 else L) := ⟨_, rfl⟩
    rw [← e1] at hih
    obtain ⟨X2, e2⟩ : ∃ X2, X2 = (if k = s 2 then pS X1 42 else X1) := ⟨_, rfl⟩
    rw [← e2] at hih
    have l1 : X1.2 ≤ L.2 + 1 := by rw [e1]; split; exact Nat.le_refl _; omega
    have l2 : X2.2 ≤ X1.2 + 1 := by rw [e2]; split; exact Nat.le_refl _; omega
    have l3 := nS_len X2 (s (192 + k))
    have f48 : J G (jR 4 0 0) (jFin G Q X 0 0) M_X11_writeRoute X 0 0 48 [some (.ref 116), some (.int (nI k))] [] ((h.set 116 (hMo ch 0 ea fa an sv X2.2 tp he cm)).set 122 (ia 120 X2.1)) := by
      refine J_aload_n (by rfl) (by rfl) dX11_writeRoute_48 ?_
      refine J_aload_n (by rfl) (by rfl) dX11_writeRoute_49 ?_
      refine J_get dX11_writeRoute_50 f_X11_9 (by repeat (first | assumption | exact jget_same2 (by (try simp only [List.length_set]); exact jlt (by assumption)) | refine jget_ne (by first | decide | assumption | omega) ?_)) (by rfl) ?_
      refine J_sipush (nI 192) (by decide) dX11_writeRoute_53 ?_
      refine J_iload_n (by rfl) dX11_writeRoute_56 ?_
      refine J_iadd dX11_writeRoute_57 ?_
      try rw [nI_add]
      refine J_iald_n (192 + k) dX11_writeRoute_58 (by repeat (first | assumption | exact jget_same2 (by (try simp only [List.length_set]); exact jlt (by assumption)) | refine jget_ne (by first | decide | assumption | omega) ?_)) (by first | rfl | (simp only [pk_mul, nI_add]; done) | (simp only [pk_mul, nI_add]; congr 1; omega) | (congr 1; omega)) (by omega) ?_
      refine J_V10 (ci := 11) dX11_writeRoute_59 s_X11_184 m_X11_number rfl (by repeat (first | assumption | exact jget_same2 (by (try simp only [List.length_set]); exact jlt (by assumption)) | refine jget_ne (by first | decide | assumption | omega) ?_)) rfl (c_X11_number (L := X2) (by omega) (by omega) (by repeat (first | assumption | exact jget_same2 (by (try simp only [List.length_set]); exact jlt (by assumption)) | refine jget_ne (by first | decide | assumption | omega) ?_)) (by repeat (first | assumption | exact jget_same2 (by (try simp only [List.length_set]); exact jlt (by assumption)) | refine jget_ne (by first | decide | assumption | omega) ?_)) (jK0_i ?_))
      (try simp only [List.set_set, jsw (i := 116) (j := 122) (by decide)])
      refine last (nS X2 (s (192 + k))) (by omega) ?_
      by_cases z : 0 < k ∧ k + 1 < s 1
      · rw [if_pos z] at hih ⊢
        exact hih
      · rw [if_neg z] at hih ⊢
        exact hih
    have f32 : J G (jR 4 0 0) (jFin G Q X 0 0) M_X11_writeRoute X 0 0 32 [some (.ref 116), some (.int (nI k))] [] ((h.set 116 (hMo ch 0 ea fa an sv X1.2 tp he cm)).set 122 (ia 120 X1.1)) := by
      have hs2 : s 2 < 2 ^ 31 := by have := (hI.t (by omega)).2.2.2.1; omega
      refine J_iload_n (by rfl) dX11_writeRoute_32 ?_
      refine J_aload_n (by rfl) (by rfl) dX11_writeRoute_33 ?_
      refine J_get dX11_writeRoute_34 f_X11_9 (by repeat (first | assumption | exact jget_same2 (by (try simp only [List.length_set]); exact jlt (by assumption)) | refine jget_ne (by first | decide | assumption | omega) ?_)) (by rfl) ?_
      refine J_iconst (nI 2) (by decide) dX11_writeRoute_37 ?_
      refine J_iald_n (2) dX11_writeRoute_38 (by repeat (first | assumption | exact jget_same2 (by (try simp only [List.length_set]); exact jlt (by assumption)) | refine jget_ne (by first | decide | assumption | omega) ?_)) (by first | rfl | (simp only [pk_mul, nI_add]; done) | (simp only [pk_mul, nI_add]; congr 1; omega) | (congr 1; omega)) (by omega) ?_
      refine J_icmp_ne_n 48 dX11_writeRoute_39 (by decide) (fun c39 => ?_) (fun c39 => ?_)
      · rw [if_neg c39] at e2
        rw [e2] at f48
        exact f48
      · rw [if_pos c39] at e2
        refine J_aload_n (by rfl) (by rfl) dX11_writeRoute_42 ?_
        refine J_bipush (nI 42) (by decide) dX11_writeRoute_43 ?_
        refine J_V10 (ci := 11) dX11_writeRoute_45 s_X11_187 m_X11_puts rfl (by repeat (first | assumption | exact jget_same2 (by (try simp only [List.length_set]); exact jlt (by assumption)) | refine jget_ne (by first | decide | assumption | omega) ?_)) rfl (c_X11_puts (L := X1) (by omega) (by repeat (first | assumption | exact jget_same2 (by (try simp only [List.length_set]); exact jlt (by assumption)) | refine jget_ne (by first | decide | assumption | omega) ?_)) (by repeat (first | assumption | exact jget_same2 (by (try simp only [List.length_set]); exact jlt (by assumption)) | refine jget_ne (by first | decide | assumption | omega) ?_)) (jK0_i ?_))
        (try simp only [List.set_set, jsw (i := 116) (j := 122) (by decide)])
        rw [e2] at f48
        exact f48
    refine J_iload_n (by rfl) dX11_writeRoute_22 ?_
    refine J_if_le_n 32 dX11_writeRoute_23 (by decide) (fun c23 => ?_) (fun c23 => ?_)
    · rw [if_neg (by omega)] at e1
      rw [e1] at f32
      exact f32
    · rw [if_pos c23] at e1
      refine J_aload_n (by rfl) (by rfl) dX11_writeRoute_26 ?_
      refine J_bipush (nI 32) (by decide) dX11_writeRoute_27 ?_
      refine J_V10 (ci := 11) dX11_writeRoute_29 s_X11_187 m_X11_puts rfl (by repeat (first | assumption | exact jget_same2 (by (try simp only [List.length_set]); exact jlt (by assumption)) | refine jget_ne (by first | decide | assumption | omega) ?_)) rfl (c_X11_puts (L := L) (by omega) (by repeat (first | assumption | exact jget_same2 (by (try simp only [List.length_set]); exact jlt (by assumption)) | refine jget_ne (by first | decide | assumption | omega) ?_)) (by repeat (first | assumption | exact jget_same2 (by (try simp only [List.length_set]); exact jlt (by assumption)) | refine jget_ne (by first | decide | assumption | omega) ?_)) (jK0_i ?_))
      (try simp only [List.set_set, jsw (i := 116) (j := 122) (by decide)])
      rw [e1] at f32
      exact f32
theorem c_X11_writeTrails (x : Int32) (hI : Inv K s) (hm : MPc h s sS P ch th ea fa sv lf ln tx tp)
    (hQ1 : ¬ isIx x (s 0) = true → ∀ h', jFr mC h h' → MPc h' s sS P ch 1 ea fa sv lf ln tx tp → Q (.inl (some (.int (nI 0)))) h')
    (hQ2 : isIx x (s 0) = true → ∀ h', jFr mC h h' → MPc h' s sS P ch 0 ea fa sv (trailL s lf (nP x) (s 0)).1 (trailL s lf (nP x) (s 0)).2 tx tp → Q (.inl (some (.int (nI (trailL s lf (nP x) (s 0)).2)))) h') : jCT G M_X11_writeTrails 4 0 0 X [.ref 116, .int x] h Q := by
  refine jCT_of [some (.ref 116), some (.int x), none] 1 rfl (by decide +kernel) rfl rfl ?_
  obtain ⟨an, he, cm, W, F, C, h1, h2, h3, h4, h5, h6, h7, h8, h9⟩ := hm
  have hn := hI.n12
  refine J_aload_n (by rfl) (by rfl) dX11_writeTrails_0 ?_
  refine J_aload_n (by rfl) (by rfl) dX11_writeTrails_1 ?_
  refine J_iload_n (by rfl) dX11_writeTrails_2 ?_
  refine J_V1v (ci := 11) dX11_writeTrails_3 s_X11_78 m_X11_isPoint rfl (by repeat (first | assumption | exact jget_same2 (by (try simp only [List.length_set]); exact jlt (by assumption)) | refine jget_ne (by first | decide | assumption | omega) ?_)) rfl (c_X11_isPoint x hn (by repeat (first | assumption | exact jget_same2 (by (try simp only [List.length_set]); exact jlt (by assumption)) | refine jget_ne (by first | decide | assumption | omega) ?_)) (by repeat (first | assumption | exact jget_same2 (by (try simp only [List.length_set]); exact jlt (by assumption)) | refine jget_ne (by first | decide | assumption | omega) ?_)) (jKv_i ?_))
  refine J_if_ne_b 13 dX11_writeTrails_6 (by decide) (fun c6 => ?_) (fun c6 => ?_)
  · obtain ⟨i, rfl, hi, e1⟩ := isIx_k c6 (by omega)
    have hQ2 := hQ2 c6
    rw [e1] at hQ2
    refine J_iconst (nI 0) (by decide) dX11_writeTrails_13 ?_
    refine J_iconst (nI 1) (by decide) dX11_writeTrails_14 ?_
    refine J_V2v (ci := 11) dX11_writeTrails_15 s_X11_63 m_X11_isThrown rfl (by repeat (first | assumption | exact jget_same2 (by (try simp only [List.length_set]); exact jlt (by assumption)) | refine jget_ne (by first | decide | assumption | omega) ?_)) rfl (c_X11_isThrown false (by repeat (first | assumption | exact jget_same2 (by (try simp only [List.length_set]); exact jlt (by assumption)) | refine jget_ne (by first | decide | assumption | omega) ?_)) (jKv_i ?_))
    refine J_if_eq_b 23 dX11_writeTrails_18 (by decide) (fun c18 => ?_) (fun c18 => ?_)
    · refine J_aload_n (by rfl) (by rfl) dX11_writeTrails_23 ?_
      refine J_iconst (nI 0) (by decide) dX11_writeTrails_24 ?_
      refine J_put_12 dX11_writeTrails_25 p_X11_181 (by repeat (first | assumption | exact jget_same2 (by (try simp only [List.length_set]); exact jlt (by assumption)) | refine jget_ne (by first | decide | assumption | omega) ?_)) ?_
      refine J_iconst (nI 0) (by decide) dX11_writeTrails_28 ?_
      refine J_istore_2 dX11_writeTrails_29 ?_
      (try simp only [List.set_set])
      suffices loop : ∀ k, k ≤ s 0 → J G (jR 4 0 0) (jFin G Q X 0 0) M_X11_writeTrails X 0 0 30 [some (.ref 116), some (.int (nI i)), some (.int (nI k))] [] ((h.set 116 (hMo ch 0 ea fa an sv (trailL s lf i k).2 tp he cm)).set 122 (ia 120 (trailL s lf i k).1)) by
        have := loop 0 (by omega)
        rw [show (trailL s lf i 0).1 = lf from rfl, hset_id (show (h.set 116 (hMo ch 0 ea fa an sv (trailL s lf i 0).2 tp he cm))[122]? = some (ia 120 lf) from (by repeat (first | assumption | exact jget_same2 (by (try simp only [List.length_set]); exact jlt (by assumption)) | refine jget_ne (by first | decide | assumption | omega) ?_)))] at this
        exact this
      refine up_ind (s 0) (fun k hk ih => ?_)
      refine J_iload_n (by rfl) dX11_writeTrails_30 ?_
      refine J_aload_n (by rfl) (by rfl) dX11_writeTrails_31 ?_
      refine J_get dX11_writeTrails_32 f_X11_9 (by repeat (first | assumption | exact jget_same2 (by (try simp only [List.length_set]); exact jlt (by assumption)) | refine jget_ne (by first | decide | assumption | omega) ?_)) (by rfl) ?_
      refine J_iconst (nI 0) (by decide) dX11_writeTrails_35 ?_
      refine J_iald_n (0) dX11_writeTrails_36 (by repeat (first | assumption | exact jget_same2 (by (try simp only [List.length_set]); exact jlt (by assumption)) | refine jget_ne (by first | decide | assumption | omega) ?_)) (by first | rfl | (simp only [pk_mul, nI_add]; done) | (simp only [pk_mul, nI_add]; congr 1; omega) | (congr 1; omega)) (by omega) ?_
      refine J_icmp_ge_n 82 dX11_writeTrails_37 (by decide) (fun c37 => ?_) (fun c37 => ?_)
      · have he9 : k = s 0 := by omega
        subst he9
        refine J_aload_n (by rfl) (by rfl) dX11_writeTrails_82 ?_
        refine J_get dX11_writeTrails_83 f_X11_181 (by repeat (first | assumption | exact jget_same2 (by (try simp only [List.length_set]); exact jlt (by assumption)) | refine jget_ne (by first | decide | assumption | omega) ?_)) (by rfl) ?_
        exact J_ireturn dX11_writeTrails_86 rfl (hQ2 _ ((jFr.refl.set 116 _ (by decide)).set 122 _ (by decide)) ⟨an, he, cm, W, F, C, (by repeat (first | assumption | exact jget_same2 (by (try simp only [List.length_set]); exact jlt (by assumption)) | refine jget_ne (by first | decide | assumption | omega) ?_)), (by repeat (first | assumption | exact jget_same2 (by (try simp only [List.length_set]); exact jlt (by assumption)) | refine jget_ne (by first | decide | assumption | omega) ?_)), (by repeat (first | assumption | exact jget_same2 (by (try simp only [List.length_set]); exact jlt (by assumption)) | refine jget_ne (by first | decide | assumption | omega) ?_)), (by repeat (first | assumption | exact jget_same2 (by (try simp only [List.length_set]); exact jlt (by assumption)) | refine jget_ne (by first | decide | assumption | omega) ?_)), (by repeat (first | assumption | exact jget_same2 (by (try simp only [List.length_set]); exact jlt (by assumption)) | refine jget_ne (by first | decide | assumption | omega) ?_)), (by repeat (first | assumption | exact jget_same2 (by (try simp only [List.length_set]); exact jlt (by assumption)) | refine jget_ne (by first | decide | assumption | omega) ?_)), (by repeat (first | assumption | exact jget_same2 (by (try simp only [List.length_set]); exact jlt (by assumption)) | refine jget_ne (by first | decide | assumption | omega) ?_)), (by repeat (first | assumption | exact jget_same2 (by (try simp only [List.length_set]); exact jlt (by assumption)) | refine jget_ne (by first | decide | assumption | omega) ?_)), (by repeat (first | assumption | exact jget_same2 (by (try simp only [List.length_set]); exact jlt (by assumption)) | refine jget_ne (by first | decide | assumption | omega) ?_))⟩) (by decide) (by decide) (fun _ => rfl)
      · have hlen := trailL_len s lf i k
        have hwl := hI.lt (i * 12 + k) (by omega)
        have hwe := hI.le (i * 12 + k) (by omega)
        have hst : trailL s lf i (k + 1) = stepT s i k (trailL s lf i k) := rfl
        have hih := ih c37
        rw [hst] at hih
        generalize trailL s lf i k = L at *
        unfold stepT at hih
        have l1 := nS_len (pS L 45) k
        have l0 : (pS L 45).2 = L.2 + 1 := rfl
        have l2 : (pS (nS (pS L 45) k) 61).2 = (nS (pS L 45) k).2 + 1 := rfl
        have l3 := nS_len (pS (nS (pS L 45) k) 61) (wS s (i * 12 + k))
        refine J_aload_n (by rfl) (by rfl) dX11_writeTrails_40 ?_
        refine J_iload_n (by rfl) dX11_writeTrails_41 ?_
        refine J_iload_n (by rfl) dX11_writeTrails_42 ?_
        refine J_V2v (ci := 11) dX11_writeTrails_43 s_X11_55 m_X11_trail rfl (by repeat (first | assumption | exact jget_same2 (by (try simp only [List.length_set]); exact jlt (by assumption)) | refine jget_ne (by first | decide | assumption | omega) ?_)) rfl (c_X11_trail (w := wS s) (i := i) (j := k) (by omega) (by omega) (fun _ _ => rfl) (by repeat (first | assumption | exact jget_same2 (by (try simp only [List.length_set]); exact jlt (by assumption)) | refine jget_ne (by first | decide | assumption | omega) ?_)) (by repeat (first | assumption | exact jget_same2 (by (try simp only [List.length_set]); exact jlt (by assumption)) | refine jget_ne (by first | decide | assumption | omega) ?_)) (jKv_i ?_))
        refine J_if_le_n 76 dX11_writeTrails_46 (by decide) (fun c46 => ?_) (fun c46 => ?_)
        · rw [if_neg (by omega)] at hih
          refine J_iinc_2 (nI 1) dX11_writeTrails_76 (by decide) ?_
          try rw [nI_add]
          refine J_goto 30 dX11_writeTrails_79 (by decide) ?_
          exact hih
        · rw [if_pos c46] at hih
          refine J_aload_n (by rfl) (by rfl) dX11_writeTrails_49 ?_
          refine J_bipush (nI 45) (by decide) dX11_writeTrails_50 ?_
          refine J_V10 (ci := 11) dX11_writeTrails_52 s_X11_187 m_X11_puts rfl (by repeat (first | assumption | exact jget_same2 (by (try simp only [List.length_set]); exact jlt (by assumption)) | refine jget_ne (by first | decide | assumption | omega) ?_)) rfl (c_X11_puts (L := L) (by omega) (by repeat (first | assumption | exact jget_same2 (by (try simp only [List.length_set]); exact jlt (by assumption)) | refine jget_ne (by first | decide | assumption | omega) ?_)) (by repeat (first | assumption | exact jget_same2 (by (try simp only [List.length_set]); exact jlt (by assumption)) | refine jget_ne (by first | decide | assumption | omega) ?_)) (jK0_i ?_))
          (try simp only [List.set_set, jsw (i := 116) (j := 122) (by decide)])
          refine J_aload_n (by rfl) (by rfl) dX11_writeTrails_55 ?_
          refine J_iload_n (by rfl) dX11_writeTrails_56 ?_
          refine J_V10 (ci := 11) dX11_writeTrails_57 s_X11_184 m_X11_number rfl (by repeat (first | assumption | exact jget_same2 (by (try simp only [List.length_set]); exact jlt (by assumption)) | refine jget_ne (by first | decide | assumption | omega) ?_)) rfl (c_X11_number (L := pS L 45) (by omega) (by omega) (by repeat (first | assumption | exact jget_same2 (by (try simp only [List.length_set]); exact jlt (by assumption)) | refine jget_ne (by first | decide | assumption | omega) ?_)) (by repeat (first | assumption | exact jget_same2 (by (try simp only [List.length_set]); exact jlt (by assumption)) | refine jget_ne (by first | decide | assumption | omega) ?_)) (jK0_i ?_))
          (try simp only [List.set_set, jsw (i := 116) (j := 122) (by decide)])
          refine J_aload_n (by rfl) (by rfl) dX11_writeTrails_60 ?_
          refine J_bipush (nI 61) (by decide) dX11_writeTrails_61 ?_
          refine J_V10 (ci := 11) dX11_writeTrails_63 s_X11_187 m_X11_puts rfl (by repeat (first | assumption | exact jget_same2 (by (try simp only [List.length_set]); exact jlt (by assumption)) | refine jget_ne (by first | decide | assumption | omega) ?_)) rfl (c_X11_puts (L := nS (pS L 45) k) (by omega) (by repeat (first | assumption | exact jget_same2 (by (try simp only [List.length_set]); exact jlt (by assumption)) | refine jget_ne (by first | decide | assumption | omega) ?_)) (by repeat (first | assumption | exact jget_same2 (by (try simp only [List.length_set]); exact jlt (by assumption)) | refine jget_ne (by first | decide | assumption | omega) ?_)) (jK0_i ?_))
          (try simp only [List.set_set, jsw (i := 116) (j := 122) (by decide)])
          refine J_aload_n (by rfl) (by rfl) dX11_writeTrails_66 ?_
          refine J_aload_n (by rfl) (by rfl) dX11_writeTrails_67 ?_
          refine J_iload_n (by rfl) dX11_writeTrails_68 ?_
          refine J_iload_n (by rfl) dX11_writeTrails_69 ?_
          refine J_V2v (ci := 11) dX11_writeTrails_70 s_X11_55 m_X11_trail rfl (by repeat (first | assumption | exact jget_same2 (by (try simp only [List.length_set]); exact jlt (by assumption)) | refine jget_ne (by first | decide | assumption | omega) ?_)) rfl (c_X11_trail (w := wS s) (i := i) (j := k) (by omega) (by omega) (fun _ _ => rfl) (by repeat (first | assumption | exact jget_same2 (by (try simp only [List.length_set]); exact jlt (by assumption)) | refine jget_ne (by first | decide | assumption | omega) ?_)) (by repeat (first | assumption | exact jget_same2 (by (try simp only [List.length_set]); exact jlt (by assumption)) | refine jget_ne (by first | decide | assumption | omega) ?_)) (jKv_i ?_))
          refine J_V10 (ci := 11) dX11_writeTrails_73 s_X11_184 m_X11_number rfl (by repeat (first | assumption | exact jget_same2 (by (try simp only [List.length_set]); exact jlt (by assumption)) | refine jget_ne (by first | decide | assumption | omega) ?_)) rfl (c_X11_number (L := pS (nS (pS L 45) k) 61) (by omega) (by omega) (by repeat (first | assumption | exact jget_same2 (by (try simp only [List.length_set]); exact jlt (by assumption)) | refine jget_ne (by first | decide | assumption | omega) ?_)) (by repeat (first | assumption | exact jget_same2 (by (try simp only [List.length_set]); exact jlt (by assumption)) | refine jget_ne (by first | decide | assumption | omega) ?_)) (jK0_i ?_))
          (try simp only [List.set_set, jsw (i := 116) (j := 122) (by decide)])
          refine J_iinc_2 (nI 1) dX11_writeTrails_76 (by decide) ?_
          try rw [nI_add]
          refine J_goto 30 dX11_writeTrails_79 (by decide) ?_
          exact hih
    · exact absurd c18 (by decide)
  · have hnx : ¬ isIx x (s 0) = true := by rw [c6]; decide
    refine J_iconst (nI 1) (by decide) dX11_writeTrails_9 ?_
    refine J_goto 14 dX11_writeTrails_10 (by decide) ?_
    refine J_iconst (nI 1) (by decide) dX11_writeTrails_14 ?_
    refine J_V2v (ci := 11) dX11_writeTrails_15 s_X11_63 m_X11_isThrown rfl (by repeat (first | assumption | exact jget_same2 (by (try simp only [List.length_set]); exact jlt (by assumption)) | refine jget_ne (by first | decide | assumption | omega) ?_)) rfl (c_X11_isThrown true (by repeat (first | assumption | exact jget_same2 (by (try simp only [List.length_set]); exact jlt (by assumption)) | refine jget_ne (by first | decide | assumption | omega) ?_)) (jKv_i ?_))
    refine J_if_eq_b 23 dX11_writeTrails_18 (by decide) (fun c18 => ?_) (fun c18 => ?_)
    · exact absurd c18 (by decide)
    · refine J_iconst (nI 0) (by decide) dX11_writeTrails_21 ?_
      exact J_ireturn dX11_writeTrails_22 rfl (hQ1 hnx _ (jFr.refl.set 116 _ (by decide)) ⟨an, he, cm, W, F, C, (by repeat (first | assumption | exact jget_same2 (by (try simp only [List.length_set]); exact jlt (by assumption)) | refine jget_ne (by first | decide | assumption | omega) ?_)), (by repeat (first | assumption | exact jget_same2 (by (try simp only [List.length_set]); exact jlt (by assumption)) | refine jget_ne (by first | decide | assumption | omega) ?_)), (by repeat (first | assumption | exact jget_same2 (by (try simp only [List.length_set]); exact jlt (by assumption)) | refine jget_ne (by first | decide | assumption | omega) ?_)), (by repeat (first | assumption | exact jget_same2 (by (try simp only [List.length_set]); exact jlt (by assumption)) | refine jget_ne (by first | decide | assumption | omega) ?_)), (by repeat (first | assumption | exact jget_same2 (by (try simp only [List.length_set]); exact jlt (by assumption)) | refine jget_ne (by first | decide | assumption | omega) ?_)), (by repeat (first | assumption | exact jget_same2 (by (try simp only [List.length_set]); exact jlt (by assumption)) | refine jget_ne (by first | decide | assumption | omega) ?_)), (by repeat (first | assumption | exact jget_same2 (by (try simp only [List.length_set]); exact jlt (by assumption)) | refine jget_ne (by first | decide | assumption | omega) ?_)), (by repeat (first | assumption | exact jget_same2 (by (try simp only [List.length_set]); exact jlt (by assumption)) | refine jget_ne (by first | decide | assumption | omega) ?_)), (by repeat (first | assumption | exact jget_same2 (by (try simp only [List.length_set]); exact jlt (by assumption)) | refine jget_ne (by first | decide | assumption | omega) ?_))⟩) (by decide) (by decide) (fun _ => rfl)
theorem c_X11_charAt (x : Int32) (hl : ln ≤ 120) (hs : ∀ i, i < ln → lf i < 65536) (hm : MPc h s sS P ch th ea fa sv lf ln tx tp) (hQ : ∀ h', jFr mC h h' → MPc h' s sS P ch (if isIx x ln = true then 0 else 1) ea fa sv lf ln tx tp → Q (.inl (some (.int (nI (if isIx x ln = true then lf (nP x) else 0))))) h') : jCT G M_X11_charAt 2 0 0 X [.ref 116, .int x] h Q := by
  refine jCT_of [some (.ref 116), some (.int x)] 0 rfl (by decide +kernel) rfl rfl ?_
  obtain ⟨an, he, cm, W, F, C, h1, h2, h3, h4, h5, h6, h7, h8, h9⟩ := hm
  have hQ := hQ (h.set 116 (hMo ch (if isIx x ln = true then 0 else 1) ea fa an sv ln tp he cm)) (jFr.refl.set 116 _ (by decide)) ⟨an, he, cm, W, F, C, (by repeat (first | assumption | exact jget_same2 (by (try simp only [List.length_set]); exact jlt (by assumption)) | refine jget_ne (by first | decide | assumption | omega) ?_)), (by repeat (first | assumption | exact jget_same2 (by (try simp only [List.length_set]); exact jlt (by assumption)) | refine jget_ne (by first | decide | assumption | omega) ?_)), (by repeat (first | assumption | exact jget_same2 (by (try simp only [List.length_set]); exact jlt (by assumption)) | refine jget_ne (by first | decide | assumption | omega) ?_)), (by repeat (first | assumption | exact jget_same2 (by (try simp only [List.length_set]); exact jlt (by assumption)) | refine jget_ne (by first | decide | assumption | omega) ?_)), (by repeat (first | assumption | exact jget_same2 (by (try simp only [List.length_set]); exact jlt (by assumption)) | refine jget_ne (by first | decide | assumption | omega) ?_)), (by repeat (first | assumption | exact jget_same2 (by (try simp only [List.length_set]); exact jlt (by assumption)) | refine jget_ne (by first | decide | assumption | omega) ?_)), (by repeat (first | assumption | exact jget_same2 (by (try simp only [List.length_set]); exact jlt (by assumption)) | refine jget_ne (by first | decide | assumption | omega) ?_)), (by repeat (first | assumption | exact jget_same2 (by (try simp only [List.length_set]); exact jlt (by assumption)) | refine jget_ne (by first | decide | assumption | omega) ?_)), (by repeat (first | assumption | exact jget_same2 (by (try simp only [List.length_set]); exact jlt (by assumption)) | refine jget_ne (by first | decide | assumption | omega) ?_))⟩
  refine J_aload_n (by rfl) (by rfl) dX11_charAt_0 ?_
  refine J_iload_n (by rfl) dX11_charAt_1 ?_
  refine J_iconst (nI 0) (by decide) dX11_charAt_2 ?_
  refine J_aload_n (by rfl) (by rfl) dX11_charAt_3 ?_
  refine J_get dX11_charAt_4 f_X11_181 (by repeat (first | assumption | exact jget_same2 (by (try simp only [List.length_set]); exact jlt (by assumption)) | refine jget_ne (by first | decide | assumption | omega) ?_)) (by rfl) ?_
  refine J_iconst (nI 1) (by decide) dX11_charAt_7 ?_
  refine J_isub dX11_charAt_8 ?_
  refine J_S3v dX11_charAt_9 s_X11_51 m_X11_isIn rfl (c_X11_isIn_x x _ (jKv_i ?_))
  rw [isIx_in (by omega)]
  cases hx : isIx x ln with
  | true =>
    rw [hx, if_pos rfl, if_pos rfl] at hQ
    obtain ⟨i, rfl, hi, e1⟩ := isIx_k hx (by omega)
    have hli := hs i hi
    rw [e1] at hQ
    refine J_if_ne_b 19 dX11_charAt_12 (by decide) (fun c12 => ?_) (fun c12 => ?_)
    · refine J_iconst (nI 0) (by decide) dX11_charAt_19 ?_
      refine J_iconst (nI 1) (by decide) dX11_charAt_20 ?_
      refine J_V2v (ci := 11) dX11_charAt_21 s_X11_63 m_X11_isThrown rfl (by repeat (first | assumption | exact jget_same2 (by (try simp only [List.length_set]); exact jlt (by assumption)) | refine jget_ne (by first | decide | assumption | omega) ?_)) rfl (c_X11_isThrown false (by repeat (first | assumption | exact jget_same2 (by (try simp only [List.length_set]); exact jlt (by assumption)) | refine jget_ne (by first | decide | assumption | omega) ?_)) (jKv_i ?_))
      refine J_if_eq_b 31 dX11_charAt_24 (by decide) (fun c24 => ?_) (fun c24 => ?_)
      · refine J_aload_n (by rfl) (by rfl) dX11_charAt_31 ?_
        refine J_get dX11_charAt_32 f_X11_32 (by repeat (first | assumption | exact jget_same2 (by (try simp only [List.length_set]); exact jlt (by assumption)) | refine jget_ne (by first | decide | assumption | omega) ?_)) (by rfl) ?_
        refine J_iload_n (by rfl) dX11_charAt_35 ?_
        refine J_iald_n (i) dX11_charAt_36 (by repeat (first | assumption | exact jget_same2 (by (try simp only [List.length_set]); exact jlt (by assumption)) | refine jget_ne (by first | decide | assumption | omega) ?_)) (by first | rfl | (simp only [pk_mul, nI_add]; done) | (simp only [pk_mul, nI_add]; congr 1; omega) | (congr 1; omega)) (by omega) ?_
        refine J_i2c dX11_charAt_37 ?_
        refine J_topi (nI (lf i)) (i2c_n hli) ?_
        exact J_zreturn dX11_charAt_38 rfl ((pk_charN hli).1) (hQ) (by decide) (by decide) (fun _ => rfl)
      · exact absurd c24 (by decide)
    · exact absurd c12 (by decide)
  | false =>
    rw [hx, if_neg (by decide), if_neg (by decide)] at hQ
    refine J_if_ne_b 19 dX11_charAt_12 (by decide) (fun c12 => ?_) (fun c12 => ?_)
    · exact absurd c12 (by decide)
    · refine J_iconst (nI 1) (by decide) dX11_charAt_15 ?_
      refine J_goto 20 dX11_charAt_16 (by decide) ?_
      refine J_iconst (nI 1) (by decide) dX11_charAt_20 ?_
      refine J_V2v (ci := 11) dX11_charAt_21 s_X11_63 m_X11_isThrown rfl (by repeat (first | assumption | exact jget_same2 (by (try simp only [List.length_set]); exact jlt (by assumption)) | refine jget_ne (by first | decide | assumption | omega) ?_)) rfl (c_X11_isThrown true (by repeat (first | assumption | exact jget_same2 (by (try simp only [List.length_set]); exact jlt (by assumption)) | refine jget_ne (by first | decide | assumption | omega) ?_)) (jKv_i ?_))
      refine J_if_eq_b 31 dX11_charAt_24 (by decide) (fun c24 => ?_) (fun c24 => ?_)
      · exact absurd c24 (by decide)
      · refine J_iconst (nI 0) (by decide) dX11_charAt_27 ?_
        refine J_goto 38 dX11_charAt_28 (by decide) ?_
        exact J_zreturn dX11_charAt_38 rfl (by first | rfl | exact jb_n _) (hQ) (by decide) (by decide) (fun _ => rfl)
theorem c_X11_type {c : Nat} (ht : tp ≤ 60) (hm : MPc h s sS P ch th ea fa sv lf ln tx tp) (hQ1 : tp = 60 → ∀ h', jFr mC h h' → MPc h' s sS P ch 1 ea fa sv lf ln tx tp → Q (.inl (some (.int (nI 0)))) h') (hQ2 : tp < 60 → ∀ h', jFr mC h h' → MPc h' s sS P ch 0 ea fa sv lf ln (updN tx tp c) (tp + 1) → Q (.inl (some (.int (nI (tp + 1))))) h') : jCT G M_X11_type 2 0 0 X [.ref 116, .int (nI c)] h Q := by
  refine jCT_of [some (.ref 116), some (.int (nI c))] 0 rfl (by decide +kernel) rfl rfl ?_
  obtain ⟨an, he, cm, W, F, C, h1, h2, h3, h4, h5, h6, h7, h8, h9⟩ := hm
  refine J_aload_n (by rfl) (by rfl) dX11_type_0 ?_
  refine J_aload_n (by rfl) (by rfl) dX11_type_1 ?_
  refine J_get dX11_type_2 f_X11_190 (by repeat (first | assumption | exact jget_same2 (by (try simp only [List.length_set]); exact jlt (by assumption)) | refine jget_ne (by first | decide | assumption | omega) ?_)) (by rfl) ?_
  refine J_bipush (nI 60) (by decide) dX11_type_5 ?_
  refine J_icmp_ne_n 14 dX11_type_7 (by decide) (fun c7 => ?_) (fun c7 => ?_)
  · refine J_iconst (nI 0) (by decide) dX11_type_14 ?_
    refine J_iconst (nI 1) (by decide) dX11_type_15 ?_
    refine J_V2v (ci := 11) dX11_type_16 s_X11_63 m_X11_isThrown rfl (by repeat (first | assumption | exact jget_same2 (by (try simp only [List.length_set]); exact jlt (by assumption)) | refine jget_ne (by first | decide | assumption | omega) ?_)) rfl (c_X11_isThrown false (by repeat (first | assumption | exact jget_same2 (by (try simp only [List.length_set]); exact jlt (by assumption)) | refine jget_ne (by first | decide | assumption | omega) ?_)) (jKv_i ?_))
    refine J_if_eq_b 24 dX11_type_19 (by decide) (fun c19 => ?_) (fun c19 => ?_)
    · refine J_aload_n (by rfl) (by rfl) dX11_type_24 ?_
      refine J_get dX11_type_25 f_X11_35 (by repeat (first | assumption | exact jget_same2 (by (try simp only [List.length_set]); exact jlt (by assumption)) | refine jget_ne (by first | decide | assumption | omega) ?_)) (by rfl) ?_
      refine J_aload_n (by rfl) (by rfl) dX11_type_28 ?_
      refine J_get dX11_type_29 f_X11_190 (by repeat (first | assumption | exact jget_same2 (by (try simp only [List.length_set]); exact jlt (by assumption)) | refine jget_ne (by first | decide | assumption | omega) ?_)) (by rfl) ?_
      refine J_iload_n (by rfl) dX11_type_32 ?_
      refine J_iast_n (tp) dX11_type_33 (by repeat (first | assumption | exact jget_same2 (by (try simp only [List.length_set]); exact jlt (by assumption)) | refine jget_ne (by first | decide | assumption | omega) ?_)) (by first | rfl | (simp only [pk_mul, nI_add]; done) | (simp only [pk_mul, nI_add]; congr 1; omega) | (congr 1; omega)) (by omega) ?_
      refine J_aload_n (by rfl) (by rfl) dX11_type_34 ?_
      refine J_dup (by rfl) dX11_type_35 ?_
      refine J_get dX11_type_36 f_X11_190 (by repeat (first | assumption | exact jget_same2 (by (try simp only [List.length_set]); exact jlt (by assumption)) | refine jget_ne (by first | decide | assumption | omega) ?_)) (by rfl) ?_
      refine J_iconst (nI 1) (by decide) dX11_type_39 ?_
      refine J_iadd dX11_type_40 ?_
      try rw [nI_add]
      refine J_put_15 dX11_type_41 p_X11_190 (by repeat (first | assumption | exact jget_same2 (by (try simp only [List.length_set]); exact jlt (by assumption)) | refine jget_ne (by first | decide | assumption | omega) ?_)) ?_
      refine J_aload_n (by rfl) (by rfl) dX11_type_44 ?_
      refine J_get dX11_type_45 f_X11_190 (by repeat (first | assumption | exact jget_same2 (by (try simp only [List.length_set]); exact jlt (by assumption)) | refine jget_ne (by first | decide | assumption | omega) ?_)) (by rfl) ?_
      exact J_ireturn dX11_type_48 rfl (by
        simp only [List.set_set, jsw (i := 116) (j := 123) (by decide)]
        exact hQ2 (by omega) _ ((jFr.refl.set 116 _ (by decide)).set 123 _ (by decide)) ⟨an, he, cm, W, F, C, (by repeat (first | assumption | exact jget_same2 (by (try simp only [List.length_set]); exact jlt (by assumption)) | refine jget_ne (by first | decide | assumption | omega) ?_)), (by repeat (first | assumption | exact jget_same2 (by (try simp only [List.length_set]); exact jlt (by assumption)) | refine jget_ne (by first | decide | assumption | omega) ?_)), (by repeat (first | assumption | exact jget_same2 (by (try simp only [List.length_set]); exact jlt (by assumption)) | refine jget_ne (by first | decide | assumption | omega) ?_)), (by repeat (first | assumption | exact jget_same2 (by (try simp only [List.length_set]); exact jlt (by assumption)) | refine jget_ne (by first | decide | assumption | omega) ?_)), (by repeat (first | assumption | exact jget_same2 (by (try simp only [List.length_set]); exact jlt (by assumption)) | refine jget_ne (by first | decide | assumption | omega) ?_)), (by repeat (first | assumption | exact jget_same2 (by (try simp only [List.length_set]); exact jlt (by assumption)) | refine jget_ne (by first | decide | assumption | omega) ?_)), (by repeat (first | assumption | exact jget_same2 (by (try simp only [List.length_set]); exact jlt (by assumption)) | refine jget_ne (by first | decide | assumption | omega) ?_)), (by repeat (first | assumption | exact jget_same2 (by (try simp only [List.length_set]); exact jlt (by assumption)) | refine jget_ne (by first | decide | assumption | omega) ?_)), (by repeat (first | assumption | exact jget_same2 (by (try simp only [List.length_set]); exact jlt (by assumption)) | refine jget_ne (by first | decide | assumption | omega) ?_))⟩) (by decide) (by decide) (fun _ => rfl)
    · exact absurd c19 (by decide)
  · refine J_iconst (nI 1) (by decide) dX11_type_10 ?_
    refine J_goto 15 dX11_type_11 (by decide) ?_
    refine J_iconst (nI 1) (by decide) dX11_type_15 ?_
    refine J_V2v (ci := 11) dX11_type_16 s_X11_63 m_X11_isThrown rfl (by repeat (first | assumption | exact jget_same2 (by (try simp only [List.length_set]); exact jlt (by assumption)) | refine jget_ne (by first | decide | assumption | omega) ?_)) rfl (c_X11_isThrown true (by repeat (first | assumption | exact jget_same2 (by (try simp only [List.length_set]); exact jlt (by assumption)) | refine jget_ne (by first | decide | assumption | omega) ?_)) (jKv_i ?_))
    refine J_if_eq_b 24 dX11_type_19 (by decide) (fun c19 => ?_) (fun c19 => ?_)
    · exact absurd c19 (by decide)
    · refine J_iconst (nI 0) (by decide) dX11_type_22 ?_
      exact J_ireturn dX11_type_23 rfl (hQ1 c7 _ (jFr.refl.set 116 _ (by decide)) ⟨an, he, cm, W, F, C, (by repeat (first | assumption | exact jget_same2 (by (try simp only [List.length_set]); exact jlt (by assumption)) | refine jget_ne (by first | decide | assumption | omega) ?_)), (by repeat (first | assumption | exact jget_same2 (by (try simp only [List.length_set]); exact jlt (by assumption)) | refine jget_ne (by first | decide | assumption | omega) ?_)), (by repeat (first | assumption | exact jget_same2 (by (try simp only [List.length_set]); exact jlt (by assumption)) | refine jget_ne (by first | decide | assumption | omega) ?_)), (by repeat (first | assumption | exact jget_same2 (by (try simp only [List.length_set]); exact jlt (by assumption)) | refine jget_ne (by first | decide | assumption | omega) ?_)), (by repeat (first | assumption | exact jget_same2 (by (try simp only [List.length_set]); exact jlt (by assumption)) | refine jget_ne (by first | decide | assumption | omega) ?_)), (by repeat (first | assumption | exact jget_same2 (by (try simp only [List.length_set]); exact jlt (by assumption)) | refine jget_ne (by first | decide | assumption | omega) ?_)), (by repeat (first | assumption | exact jget_same2 (by (try simp only [List.length_set]); exact jlt (by assumption)) | refine jget_ne (by first | decide | assumption | omega) ?_)), (by repeat (first | assumption | exact jget_same2 (by (try simp only [List.length_set]); exact jlt (by assumption)) | refine jget_ne (by first | decide | assumption | omega) ?_)), (by repeat (first | assumption | exact jget_same2 (by (try simp only [List.length_set]); exact jlt (by assumption)) | refine jget_ne (by first | decide | assumption | omega) ?_))⟩) (by decide) (by decide) (fun _ => rfl)
theorem c_X11_forecast (x y : Int32) (hI : Inv K s) (hm : MPc h s sS P ch th ea fa sv lf ln tx tp) (hQ : ∀ h', jFr mC h h' → MPc h' s sS P ch (Tfc s x y) ea fa sv lf ln tx tp → Q (.inl (some (.int (nI (if Tfc s x y = 0 then fcC s (nP x) (nP y) else 0))))) h') : jCT G M_X11_forecast 4 0 0 X [.ref 116, .int x, .int y] h Q := by
  refine jCT_of [some (.ref 116), some (.int x), some (.int y)] 0 rfl (by decide +kernel) rfl rfl ?_
  obtain ⟨an, he, cm, W, F, C, h1, h2, h3, h4, h5, h6, h7, h8, h9⟩ := hm
  have hs1 := hI.s1
  have hQ := hQ (h.set 116 (hMo ch (Tfc s x y) ea fa an sv ln tp he cm)) (jFr.refl.set 116 _ (by decide)) ⟨an, he, cm, W, F, C, (by repeat (first | assumption | exact jget_same2 (by (try simp only [List.length_set]); exact jlt (by assumption)) | refine jget_ne (by first | decide | assumption | omega) ?_)), (by repeat (first | assumption | exact jget_same2 (by (try simp only [List.length_set]); exact jlt (by assumption)) | refine jget_ne (by first | decide | assumption | omega) ?_)), (by repeat (first | assumption | exact jget_same2 (by (try simp only [List.length_set]); exact jlt (by assumption)) | refine jget_ne (by first | decide | assumption | omega) ?_)), (by repeat (first | assumption | exact jget_same2 (by (try simp only [List.length_set]); exact jlt (by assumption)) | refine jget_ne (by first | decide | assumption | omega) ?_)), (by repeat (first | assumption | exact jget_same2 (by (try simp only [List.length_set]); exact jlt (by assumption)) | refine jget_ne (by first | decide | assumption | omega) ?_)), (by repeat (first | assumption | exact jget_same2 (by (try simp only [List.length_set]); exact jlt (by assumption)) | refine jget_ne (by first | decide | assumption | omega) ?_)), (by repeat (first | assumption | exact jget_same2 (by (try simp only [List.length_set]); exact jlt (by assumption)) | refine jget_ne (by first | decide | assumption | omega) ?_)), (by repeat (first | assumption | exact jget_same2 (by (try simp only [List.length_set]); exact jlt (by assumption)) | refine jget_ne (by first | decide | assumption | omega) ?_)), (by repeat (first | assumption | exact jget_same2 (by (try simp only [List.length_set]); exact jlt (by assumption)) | refine jget_ne (by first | decide | assumption | omega) ?_))⟩
  refine J_aload_n (by rfl) (by rfl) dX11_forecast_0 ?_
  refine J_iload_n (by rfl) dX11_forecast_1 ?_
  refine J_iload_n (by rfl) dX11_forecast_2 ?_
  refine J_S2v dX11_forecast_3 s_X11_59 m_X11_isPlace rfl (c_X11_isPlace x y (jKv_i ?_))
  refine J_if_ne_b 13 dX11_forecast_6 (by decide) (fun c6 => ?_) (fun c6 => ?_)
  · refine J_iconst (nI 0) (by decide) dX11_forecast_13 ?_
    refine J_iconst (nI 1) (by decide) dX11_forecast_14 ?_
    refine J_V2v (ci := 11) dX11_forecast_15 s_X11_63 m_X11_isThrown rfl (by repeat (first | assumption | exact jget_same2 (by (try simp only [List.length_set]); exact jlt (by assumption)) | refine jget_ne (by first | decide | assumption | omega) ?_)) rfl (c_X11_isThrown false (by repeat (first | assumption | exact jget_same2 (by (try simp only [List.length_set]); exact jlt (by assumption)) | refine jget_ne (by first | decide | assumption | omega) ?_)) (jKv_i ?_))
    refine J_if_ne_b 41 dX11_forecast_18 (by decide) (fun c18 => ?_) (fun c18 => ?_)
    · exact absurd c18 (by decide)
    · refine J_aload_n (by rfl) (by rfl) dX11_forecast_21 ?_
      refine J_aload_n (by rfl) (by rfl) dX11_forecast_22 ?_
      refine J_V0v (ci := 11) dX11_forecast_23 s_X11_97 m_X11_isOnTour rfl (by repeat (first | assumption | exact jget_same2 (by (try simp only [List.length_set]); exact jlt (by assumption)) | refine jget_ne (by first | decide | assumption | omega) ?_)) rfl (c_X11_isOnTour hs1 (by repeat (first | assumption | exact jget_same2 (by (try simp only [List.length_set]); exact jlt (by assumption)) | refine jget_ne (by first | decide | assumption | omega) ?_)) (by repeat (first | assumption | exact jget_same2 (by (try simp only [List.length_set]); exact jlt (by assumption)) | refine jget_ne (by first | decide | assumption | omega) ?_)) (jKv_i ?_))
      refine J_if_ne_b 33 dX11_forecast_26 (by decide) (fun c26 => ?_) (fun c26 => ?_)
      · have c26 : 0 < s 1 := by simpa using c26
        obtain ⟨a, b, rfl, rfl, ha, hb, e1, e2⟩ := isP_t c6
        rw [show Tfc s (nI a) (nI b) = 0 by unfold Tfc; rw [if_pos c6, if_pos c26], if_pos rfl, e1, e2] at hQ
        have hL := legOk_of hI c26
        have h8 := hI.tl.2
        unfold fcC at hQ
        refine J_iconst (nI 0) (by decide) dX11_forecast_33 ?_
        refine J_iconst (nI 2) (by decide) dX11_forecast_34 ?_
        refine J_V2v (ci := 11) dX11_forecast_35 s_X11_63 m_X11_isThrown rfl (by repeat (first | assumption | exact jget_same2 (by (try simp only [List.length_set]); exact jlt (by assumption)) | refine jget_ne (by first | decide | assumption | omega) ?_)) rfl (c_X11_isThrown false (by repeat (first | assumption | exact jget_same2 (by (try simp only [List.length_set]); exact jlt (by assumption)) | refine jget_ne (by first | decide | assumption | omega) ?_)) (jKv_i ?_))
        refine J_if_eq_b 43 dX11_forecast_38 (by decide) (fun c38 => ?_) (fun c38 => ?_)
        · refine J_aload_n (by rfl) (by rfl) dX11_forecast_43 ?_
          refine J_iload_n (by rfl) dX11_forecast_44 ?_
          refine J_iload_n (by rfl) dX11_forecast_45 ?_
          refine J_V2v (ci := 11) dX11_forecast_46 s_X11_138 m_X11_reaches rfl (by repeat (first | assumption | exact jget_same2 (by (try simp only [List.length_set]); exact jlt (by assumption)) | refine jget_ne (by first | decide | assumption | omega) ?_)) rfl (c_X11_reaches (s := s) hL.2.1 hL.2.2.1 hL.2.2.2.2 ha hb (by repeat (first | assumption | exact jget_same2 (by (try simp only [List.length_set]); exact jlt (by assumption)) | refine jget_ne (by first | decide | assumption | omega) ?_)) (by repeat (first | assumption | exact jget_same2 (by (try simp only [List.length_set]); exact jlt (by assumption)) | refine jget_ne (by first | decide | assumption | omega) ?_)) (jKv_i ?_))
          (try simp only [List.set_set])
          cases hr : reachS s a b with
          | true =>
            rw [hr, if_pos rfl] at hQ
            refine J_if_eq_b 57 dX11_forecast_49 (by decide) (fun c49 => ?_) (fun c49 => ?_)
            · exact absurd c49 (by decide)
            · refine J_bipush (nI 116) (by decide) dX11_forecast_52 ?_
              refine J_goto 80 dX11_forecast_54 (by decide) ?_
              exact J_zreturn dX11_forecast_80 rfl (by first | rfl | exact jb_n _) (hQ) (by decide) (by decide) (fun _ => rfl)
          | false =>
            rw [hr, if_neg (by decide)] at hQ
            refine J_if_eq_b 57 dX11_forecast_49 (by decide) (fun c49 => ?_) (fun c49 => ?_)
            · refine J_aload_n (by rfl) (by rfl) dX11_forecast_57 ?_
              refine J_iload_n (by rfl) dX11_forecast_58 ?_
              refine J_iload_n (by rfl) dX11_forecast_59 ?_
              refine J_aload_n (by rfl) (by rfl) dX11_forecast_60 ?_
              refine J_get dX11_forecast_61 f_X11_9 (by repeat (first | assumption | exact jget_same2 (by (try simp only [List.length_set]); exact jlt (by assumption)) | refine jget_ne (by first | decide | assumption | omega) ?_)) (by rfl) ?_
              refine J_bipush (nI 8) (by decide) dX11_forecast_64 ?_
              refine J_iald_n (8) dX11_forecast_66 (by repeat (first | assumption | exact jget_same2 (by (try simp only [List.length_set]); exact jlt (by assumption)) | refine jget_ne (by first | decide | assumption | omega) ?_)) (by first | rfl | (simp only [pk_mul, nI_add]; done) | (simp only [pk_mul, nI_add]; congr 1; omega) | (congr 1; omega)) (by omega) ?_
              refine J_V3v (ci := 11) dX11_forecast_67 s_X11_129 m_X11_isWithin rfl (by repeat (first | assumption | exact jget_same2 (by (try simp only [List.length_set]); exact jlt (by assumption)) | refine jget_ne (by first | decide | assumption | omega) ?_)) rfl (c_X11_isWithin (s := s) hL ha hb (by omega) (by repeat (first | assumption | exact jget_same2 (by (try simp only [List.length_set]); exact jlt (by assumption)) | refine jget_ne (by first | decide | assumption | omega) ?_)) (by repeat (first | assumption | exact jget_same2 (by (try simp only [List.length_set]); exact jlt (by assumption)) | refine jget_ne (by first | decide | assumption | omega) ?_)) (jKv_i ?_))
              cases hf : farS s a b (s 8) with
              | true =>
                rw [hf, if_pos rfl] at hQ
                refine J_topi (jb false) rfl ?_
                refine J_if_eq_b 78 dX11_forecast_70 (by decide) (fun c70 => ?_) (fun c70 => ?_)
                · refine J_bipush (nI 97) (by decide) dX11_forecast_78 ?_
                  exact J_zreturn dX11_forecast_80 rfl (by first | rfl | exact jb_n _) (hQ) (by decide) (by decide) (fun _ => rfl)
                · exact absurd c70 (by decide)
              | false =>
                rw [hf, if_neg (by decide)] at hQ
                refine J_topi (jb true) rfl ?_
                refine J_if_eq_b 78 dX11_forecast_70 (by decide) (fun c70 => ?_) (fun c70 => ?_)
                · exact absurd c70 (by decide)
                · refine J_bipush (nI 113) (by decide) dX11_forecast_73 ?_
                  refine J_goto 80 dX11_forecast_75 (by decide) ?_
                  exact J_zreturn dX11_forecast_80 rfl (by first | rfl | exact jb_n _) (hQ) (by decide) (by decide) (fun _ => rfl)
            · exact absurd c49 (by decide)
        · exact absurd c38 (by decide)
      · have c26 : ¬ 0 < s 1 := by simpa using c26
        rw [show Tfc s x y = 2 by unfold Tfc; rw [if_pos c6, if_neg c26], if_neg (by decide)] at hQ
        refine J_iconst (nI 1) (by decide) dX11_forecast_29 ?_
        refine J_goto 34 dX11_forecast_30 (by decide) ?_
        refine J_iconst (nI 2) (by decide) dX11_forecast_34 ?_
        refine J_V2v (ci := 11) dX11_forecast_35 s_X11_63 m_X11_isThrown rfl (by repeat (first | assumption | exact jget_same2 (by (try simp only [List.length_set]); exact jlt (by assumption)) | refine jget_ne (by first | decide | assumption | omega) ?_)) rfl (c_X11_isThrown true (by repeat (first | assumption | exact jget_same2 (by (try simp only [List.length_set]); exact jlt (by assumption)) | refine jget_ne (by first | decide | assumption | omega) ?_)) (jKv_i ?_))
        refine J_if_eq_b 43 dX11_forecast_38 (by decide) (fun c38 => ?_) (fun c38 => ?_)
        · exact absurd c38 (by decide)
        · refine J_iconst (nI 0) (by decide) dX11_forecast_41 ?_
          exact J_zreturn dX11_forecast_42 rfl (by first | rfl | exact jb_n _) (by (try simp only [List.set_set]); exact hQ) (by decide) (by decide) (fun _ => rfl)
  · rw [show Tfc s x y = 1 by unfold Tfc; rw [if_neg (by rw [c6]; decide)], if_neg (by decide)] at hQ
    refine J_iconst (nI 1) (by decide) dX11_forecast_9 ?_
    refine J_goto 14 dX11_forecast_10 (by decide) ?_
    refine J_iconst (nI 1) (by decide) dX11_forecast_14 ?_
    refine J_V2v (ci := 11) dX11_forecast_15 s_X11_63 m_X11_isThrown rfl (by repeat (first | assumption | exact jget_same2 (by (try simp only [List.length_set]); exact jlt (by assumption)) | refine jget_ne (by first | decide | assumption | omega) ?_)) rfl (c_X11_isThrown true (by repeat (first | assumption | exact jget_same2 (by (try simp only [List.length_set]); exact jlt (by assumption)) | refine jget_ne (by first | decide | assumption | omega) ?_)) (jKv_i ?_))
    refine J_if_ne_b 41 dX11_forecast_18 (by decide) (fun c18 => ?_) (fun c18 => ?_)
    · refine J_iconst (nI 0) (by decide) dX11_forecast_41 ?_
      exact J_zreturn dX11_forecast_42 rfl (by first | rfl | exact jb_n _) (hQ) (by decide) (by decide) (fun _ => rfl)
    · exact absurd c18 (by decide)
end ML
