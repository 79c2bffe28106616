/-! The reference: run -/
def ar1 (V : List Nat) (j : Nat) : Int32 := nI (V.getD j 0)
noncomputable def runS : List (Nat × List Nat) → (Nat → Nat) → Nat → Option Nat × (Nat → Nat)
  | [], s, _ => (none, s)
  | (K, V) :: r, s, i => if opT s K (ar1 V 0) (ar1 V 1) (ar1 V 2) = 0 then runS r (opN s K (ar1 V 0) (ar1 V 1) (ar1 V 2)) (i + 1) else (some i, s)
theorem letK_lk {K : Nat} (hK : K ≤ 8) : letK (lk K) = K := by
  rcases (show K = 0 ∨ K = 1 ∨ K = 2 ∨ K = 3 ∨ K = 4 ∨ K = 5 ∨ K = 6 ∨ K = 7 ∨ K = 8 by omega) with rfl | rfl | rfl | rfl | rfl | rfl | rfl | rfl | rfl <;> rfl
theorem lk_lt (K : Nat) : lk K < 128 := by
  unfold lk
  repeat' split
  all_goals decide
/-- only the numbers that a command has count -/
theorem op_irr {K : Nat} (hK : K ≤ 8) {s : Nat → Nat} {x y z x' y' z' : Int32} (h0 : 0 < arp (tal K) → x = x') (h1 : 1 < arp (tal K) → y = y') (h2 : 2 < arp (tal K) → z = z') : opT s K x y z = opT s K x' y' z' ∧ opN s K x y z = opN s K x' y' z' := by
  rcases (show K = 0 ∨ K = 1 ∨ K = 2 ∨ K = 3 ∨ K = 4 ∨ K = 5 ∨ K = 6 ∨ K = 7 ∨ K = 8 by omega) with rfl | rfl | rfl | rfl | rfl | rfl | rfl | rfl | rfl
  · rw [h0 (by decide), h1 (by decide), h2 (by decide)]; exact ⟨rfl, rfl⟩
  · rw [h0 (by decide), h1 (by decide), h2 (by decide)]; exact ⟨rfl, rfl⟩
  · rw [h0 (by decide), h1 (by decide)]
    have e1 : opT s 2 x' y' z = T2 s x' y' := rfl
    have e2 : opT s 2 x' y' z' = T2 s x' y' := rfl
    have e3 : opN s 2 x' y' z = if opT s 2 x' y' z = 0 then N2 s x' y' else s := rfl
    have e4 : opN s 2 x' y' z' = if opT s 2 x' y' z' = 0 then N2 s x' y' else s := rfl
    exact ⟨by rw [e1, e2], by rw [e3, e4, e1, e2]⟩
  · rw [h0 (by decide), h1 (by decide)]
    have e1 : opT s 3 x' y' z = T3 s x' y' := rfl
    have e2 : opT s 3 x' y' z' = T3 s x' y' := rfl
    have e3 : opN s 3 x' y' z = if opT s 3 x' y' z = 0 then N3 s x' y' else s := rfl
    have e4 : opN s 3 x' y' z' = if opT s 3 x' y' z' = 0 then N3 s x' y' else s := rfl
    exact ⟨by rw [e1, e2], by rw [e3, e4, e1, e2]⟩
  · rw [h0 (by decide)]
    have e1 : opT s 4 x' y z = T4 x' := rfl
    have e2 : opT s 4 x' y' z' = T4 x' := rfl
    have e3 : opN s 4 x' y z = if opT s 4 x' y z = 0 then N4 s x' else s := rfl
    have e4 : opN s 4 x' y' z' = if opT s 4 x' y' z' = 0 then N4 s x' else s := rfl
    exact ⟨by rw [e1, e2], by rw [e3, e4, e1, e2]⟩
  · rw [h0 (by decide)]
    have e1 : opT s 5 x' y z = T5 x' := rfl
    have e2 : opT s 5 x' y' z' = T5 x' := rfl
    have e3 : opN s 5 x' y z = if opT s 5 x' y z = 0 then N5 s x' else s := rfl
    have e4 : opN s 5 x' y' z' = if opT s 5 x' y' z' = 0 then N5 s x' else s := rfl
    exact ⟨by rw [e1, e2], by rw [e3, e4, e1, e2]⟩
  · rw [h0 (by decide)]
    have e1 : opT s 6 x' y z = T6 x' := rfl
    have e2 : opT s 6 x' y' z' = T6 x' := rfl
    have e3 : opN s 6 x' y z = if opT s 6 x' y z = 0 then N6 s x' else s := rfl
    have e4 : opN s 6 x' y' z' = if opT s 6 x' y' z' = 0 then N6 s x' else s := rfl
    exact ⟨by rw [e1, e2], by rw [e3, e4, e1, e2]⟩
  · rw [h0 (by decide), h1 (by decide)]
    have e1 : opT s 7 x' y' z = T7 s x' y' := rfl
    have e2 : opT s 7 x' y' z' = T7 s x' y' := rfl
    have e3 : opN s 7 x' y' z = if opT s 7 x' y' z = 0 then N7 s x' y' else s := rfl
    have e4 : opN s 7 x' y' z' = if opT s 7 x' y' z' = 0 then N7 s x' y' else s := rfl
    exact ⟨by rw [e1, e2], by rw [e3, e4, e1, e2]⟩
  · skip
    have e1 : opT s 8 x y z = T8 s := rfl
    have e2 : opT s 8 x' y' z' = T8 s := rfl
    have e3 : opN s 8 x y z = if opT s 8 x y z = 0 then overS s else s := rfl
    have e4 : opN s 8 x' y' z' = if opT s 8 x' y' z' = 0 then overS s else s := rfl
    exact ⟨by rw [e1, e2], by rw [e3, e4, e1, e2]⟩
theorem runS_drop {L : List (Nat × List Nat)} {i K : Nat} {V : List Nat} {s : Nat → Nat} (h : L[i]? = some (K, V)) (j : Nat) : runS (L.drop i) s j = if opT s K (ar1 V 0) (ar1 V 1) (ar1 V 2) = 0 then runS (L.drop (i + 1)) (opN s K (ar1 V 0) (ar1 V 1) (ar1 V 2)) (j + 1) else (some j, s) := by
  have hl : i < L.length := (List.getElem?_eq_some_iff.mp h).1
  have he : L[i] = (K, V) := (List.getElem?_eq_some_iff.mp h).2
  rw [List.drop_eq_getElem_cons hl, he]
  rfl
section MRUN
variable {G : jG} {X : Bool} {h : jH} {Q : jQ_} {ch th ln tp K : Nat} {ea fa : Int32} {sv : Bool} {s sS P lf tx : Nat → Nat}
theorem c_X11_run (hI : Inv K s) (hK : K + 20 < 2 ^ 30) (hch : ch ≤ 8) (ht : tp ≤ 60) (htx : ∀ k, k < tp → tx k < 65536) (hm : MPc h s sS P ch th ea fa sv lf ln tx tp)
    (hQ1 : ∀ q L, prgS (sg tx tp) tp 13 0 [] = (false, q, L) → ∀ h', jFr mC h h' → MPc h' s sS P ch 1 (nI q) fa sv lf ln tx 0 → Q (.inl (some (.int (nI 0)))) h')
    (hQ2 : ∀ q L i s1, prgS (sg tx tp) tp 13 0 [] = (true, q, L) → runS L s 0 = (some i, s1) → i ≤ 12 → ∀ h' s', jFr mC h h' → (∀ k, k < 204 → s' k = s k) → MPc h' s' sS P ch 2 ea (nI i) sv lf ln tx 0 → Q (.inl (some (.int (nI 0)))) h')
    (hQ3 : ∀ q L s', prgS (sg tx tp) tp 13 0 [] = (true, q, L) → runS L s 0 = (none, s') → L.length ≤ 12 → Inv (K + 13) s' → ∀ h' P', jFr mC h h' → pastN ch P s P' → MPc h' s' sS P' (min (ch + 1) 8) 0 ea fa sv lf ln tx 0 → Q (.inl (some (.int (nI L.length)))) h') : jCT G M_X11_run 10 0 0 X [.ref 116] h Q := by
  refine jCT_of [some (.ref 116), none, none] 2 rfl (by decide +kernel) rfl rfl ?_
  obtain ⟨an, he, cm, W, F, C, h1, h2, h3, h4, h5, h6, h7, h8, h9⟩ := hm
  refine J_aload_n (by rfl) (by rfl) dX11_run_0 ?_
  refine J_V0v (ci := 11) dX11_run_1 s_X11_265 m_X11_isProgram rfl (by repeat (first | assumption | exact jget_same2 (by (try simp only [List.length_set]); exact jlt (by assumption)) | refine jget_ne (by first | decide | assumption | omega) ?_)) rfl (c_X11_isProgram (C := C) (tx := tx) ht htx (by repeat (first | assumption | exact jget_same2 (by (try simp only [List.length_set]); exact jlt (by assumption)) | refine jget_ne (by first | decide | assumption | omega) ?_)) (by repeat (first | assumption | exact jget_same2 (by (try simp only [List.length_set]); exact jlt (by assumption)) | refine jget_ne (by first | decide | assumption | omega) ?_)) (by repeat (first | assumption | exact jget_same2 (by (try simp only [List.length_set]); exact jlt (by assumption)) | refine jget_ne (by first | decide | assumption | omega) ?_)) (fun ok q L n C1 hp hq hA => (jKv_i ?_)))
  have fr1 : jFr mC h ((h.set 116 (hMo ch th ea fa an sv ln tp q n)).set 124 (ia 124 C1)) := (jFr.refl.set 116 _ (by decide)).set 124 _ (by decide)
  have k1 : ((h.set 116 (hMo ch th ea fa an sv ln tp q n)).set 124 (ia 124 C1))[116]? = some (hMo ch th ea fa an sv ln tp q n) := (by repeat (first | assumption | exact jget_same2 (by (try simp only [List.length_set]); exact jlt (by assumption)) | refine jget_ne (by first | decide | assumption | omega) ?_))
  have k2 : ((h.set 116 (hMo ch th ea fa an sv ln tp q n)).set 124 (ia 124 C1))[117]? = some (ia 204 s) := (by repeat (first | assumption | exact jget_same2 (by (try simp only [List.length_set]); exact jlt (by assumption)) | refine jget_ne (by first | decide | assumption | omega) ?_))
  have k3 : ((h.set 116 (hMo ch th ea fa an sv ln tp q n)).set 124 (ia 124 C1))[118]? = some (ia 204 W) := (by repeat (first | assumption | exact jget_same2 (by (try simp only [List.length_set]); exact jlt (by assumption)) | refine jget_ne (by first | decide | assumption | omega) ?_))
  have k4 : ((h.set 116 (hMo ch th ea fa an sv ln tp q n)).set 124 (ia 124 C1))[119]? = some (ia 204 sS) := (by repeat (first | assumption | exact jget_same2 (by (try simp only [List.length_set]); exact jlt (by assumption)) | refine jget_ne (by first | decide | assumption | omega) ?_))
  have k5 : ((h.set 116 (hMo ch th ea fa an sv ln tp q n)).set 124 (ia 124 C1))[120]? = some (ia 1632 P) := (by repeat (first | assumption | exact jget_same2 (by (try simp only [List.length_set]); exact jlt (by assumption)) | refine jget_ne (by first | decide | assumption | omega) ?_))
  have k6 : ((h.set 116 (hMo ch th ea fa an sv ln tp q n)).set 124 (ia 124 C1))[121]? = some (ia 12 F) := (by repeat (first | assumption | exact jget_same2 (by (try simp only [List.length_set]); exact jlt (by assumption)) | refine jget_ne (by first | decide | assumption | omega) ?_))
  have k7 : ((h.set 116 (hMo ch th ea fa an sv ln tp q n)).set 124 (ia 124 C1))[122]? = some (ia 120 lf) := (by repeat (first | assumption | exact jget_same2 (by (try simp only [List.length_set]); exact jlt (by assumption)) | refine jget_ne (by first | decide | assumption | omega) ?_))
  have k8 : ((h.set 116 (hMo ch th ea fa an sv ln tp q n)).set 124 (ia 124 C1))[123]? = some (ia 60 tx) := (by repeat (first | assumption | exact jget_same2 (by (try simp only [List.length_set]); exact jlt (by assumption)) | refine jget_ne (by first | decide | assumption | omega) ?_))
  have k9 : ((h.set 116 (hMo ch th ea fa an sv ln tp q n)).set 124 (ia 124 C1))[124]? = some (ia 124 C1) := (by repeat (first | assumption | exact jget_same2 (by (try simp only [List.length_set]); exact jlt (by assumption)) | refine jget_ne (by first | decide | assumption | omega) ?_))
  generalize (h.set 116 (hMo ch th ea fa an sv ln tp q n)).set 124 (ia 124 C1) = h0 at *
  cases ok with
  | false =>
    refine J_istore_1 dX11_run_4 ?_
    refine J_aload_n (by rfl) (by rfl) dX11_run_5 ?_
    refine J_iconst (nI 0) (by decide) dX11_run_6 ?_
    refine J_put_15 dX11_run_7 p_X11_190 (by repeat (first | assumption | exact jget_same2 (by (try simp only [List.length_set]); exact jlt (by assumption)) | refine jget_ne (by first | decide | assumption | omega) ?_)) ?_
    refine J_aload_n (by rfl) (by rfl) dX11_run_10 ?_
    refine J_iload_n (by rfl) dX11_run_11 ?_
    refine J_if_ne_b 19 dX11_run_12 (by decide) (fun c12 => ?_) (fun c12 => ?_)
    · exact absurd c12 (by decide)
    · refine J_iconst (nI 1) (by decide) dX11_run_15 ?_
      refine J_goto 20 dX11_run_16 (by decide) ?_
      refine J_iconst (nI 1) (by decide) dX11_run_20 ?_
      refine J_V2v (ci := 11) dX11_run_21 s_X11_63 m_X11_isThrown rfl (by repeat (first | assumption | exact jget_same2 (by (try simp only [List.length_set]); exact jlt (by assumption)) | refine jget_ne (by first | decide | assumption | omega) ?_)) rfl (c_X11_isThrown true (by repeat (first | assumption | exact jget_same2 (by (try simp only [List.length_set]); exact jlt (by assumption)) | refine jget_ne (by first | decide | assumption | omega) ?_)) (jKv_i ?_))
      refine J_if_eq_b 37 dX11_run_24 (by decide) (fun c24 => ?_) (fun c24 => ?_)
      · exact absurd c24 (by decide)
      · refine J_aload_n (by rfl) (by rfl) dX11_run_27 ?_
        refine J_aload_n (by rfl) (by rfl) dX11_run_28 ?_
        refine J_get dX11_run_29 f_X11_193 (by repeat (first | assumption | exact jget_same2 (by (try simp only [List.length_set]); exact jlt (by assumption)) | refine jget_ne (by first | decide | assumption | omega) ?_)) (by rfl) ?_
        refine J_put_7 dX11_run_32 p_X11_25 (by repeat (first | assumption | exact jget_same2 (by (try simp only [List.length_set]); exact jlt (by assumption)) | refine jget_ne (by first | decide | assumption | omega) ?_)) ?_
        refine J_iconst (nI 0) (by decide) dX11_run_35 ?_
        exact J_ireturn dX11_run_36 rfl (by
          simp only [List.set_set]
          exact hQ1 q L hp _ (fr1.set 116 _ (by decide)) ⟨an, q, n, W, F, C1, (by repeat (first | assumption | exact jget_same2 (by (try simp only [List.length_set]); exact jlt (by assumption)) | refine jget_ne (by first | decide | assumption | omega) ?_)), (by repeat (first | assumption | exact jget_same2 (by (try simp only [List.length_set]); exact jlt (by assumption)) | refine jget_ne (by first | decide | assumption | omega) ?_)), (by repeat (first | assumption | exact jget_same2 (by (try simp only [List.length_set]); exact jlt (by assumption)) | refine jget_ne (by first | decide | assumption | omega) ?_)), (by repeat (first | assumption | exact jget_same2 (by (try simp only [List.length_set]); exact jlt (by assumption)) | refine jget_ne (by first | decide | assumption | omega) ?_)), (by repeat (first | assumption | exact jget_same2 (by (try simp only [List.length_set]); exact jlt (by assumption)) | refine jget_ne (by first | decide | assumption | omega) ?_)), (by repeat (first | assumption | exact jget_same2 (by (try simp only [List.length_set]); exact jlt (by assumption)) | refine jget_ne (by first | decide | assumption | omega) ?_)), (by repeat (first | assumption | exact jget_same2 (by (try simp only [List.length_set]); exact jlt (by assumption)) | refine jget_ne (by first | decide | assumption | omega) ?_)), (by repeat (first | assumption | exact jget_same2 (by (try simp only [List.length_set]); exact jlt (by assumption)) | refine jget_ne (by first | decide | assumption | omega) ?_)), (by repeat (first | assumption | exact jget_same2 (by (try simp only [List.length_set]); exact jlt (by assumption)) | refine jget_ne (by first | decide | assumption | omega) ?_))⟩) (by decide) (by decide) (fun _ => rfl)
  | true =>
    obtain ⟨hA1, hn12⟩ := hA rfl
    have hLn := hA1.1
    refine J_istore_1 dX11_run_4 ?_
    refine J_aload_n (by rfl) (by rfl) dX11_run_5 ?_
    refine J_iconst (nI 0) (by decide) dX11_run_6 ?_
    refine J_put_15 dX11_run_7 p_X11_190 (by repeat (first | assumption | exact jget_same2 (by (try simp only [List.length_set]); exact jlt (by assumption)) | refine jget_ne (by first | decide | assumption | omega) ?_)) ?_
    refine J_aload_n (by rfl) (by rfl) dX11_run_10 ?_
    refine J_iload_n (by rfl) dX11_run_11 ?_
    refine J_if_ne_b 19 dX11_run_12 (by decide) (fun c12 => ?_) (fun c12 => ?_)
    · refine J_iconst (nI 0) (by decide) dX11_run_19 ?_
      refine J_iconst (nI 1) (by decide) dX11_run_20 ?_
      refine J_V2v (ci := 11) dX11_run_21 s_X11_63 m_X11_isThrown rfl (by repeat (first | assumption | exact jget_same2 (by (try simp only [List.length_set]); exact jlt (by assumption)) | refine jget_ne (by first | decide | assumption | omega) ?_)) rfl (c_X11_isThrown false (by repeat (first | assumption | exact jget_same2 (by (try simp only [List.length_set]); exact jlt (by assumption)) | refine jget_ne (by first | decide | assumption | omega) ?_)) (jKv_i ?_))
      refine J_if_eq_b 37 dX11_run_24 (by decide) (fun c24 => ?_) (fun c24 => ?_)
      · refine J_aload_n (by rfl) (by rfl) dX11_run_37 ?_
        refine J_V00 (ci := 11) dX11_run_38 s_X11_67 m_X11_keeps rfl (by repeat (first | assumption | exact jget_same2 (by (try simp only [List.length_set]); exact jlt (by assumption)) | refine jget_ne (by first | decide | assumption | omega) ?_)) rfl (c_X11_keeps (W := W) (by repeat (first | assumption | exact jget_same2 (by (try simp only [List.length_set]); exact jlt (by assumption)) | refine jget_ne (by first | decide | assumption | omega) ?_)) (by repeat (first | assumption | exact jget_same2 (by (try simp only [List.length_set]); exact jlt (by assumption)) | refine jget_ne (by first | decide | assumption | omega) ?_)) (by repeat (first | assumption | exact jget_same2 (by (try simp only [List.length_set]); exact jlt (by assumption)) | refine jget_ne (by first | decide | assumption | omega) ?_)) (jK0_i ?_))
        refine J_iconst (nI 0) (by decide) dX11_run_41 ?_
        refine J_istore_2 dX11_run_42 ?_
        simp only [List.set_set]
        have hW9 : ∀ i, i < 204 → cpN W 0 s 0 204 i = s i := fun i hi => cpN_W hi
        generalize cpN W 0 s 0 204 = W9 at hW9 ⊢
        suffices loop : ∀ i, i ≤ n → ∀ s1 an1 F1, Inv (K + i) s1 → runS L s 0 = runS (L.drop i) s1 i → J G (jR 10 0 0) (jFin G Q X 0 0) M_X11_run X 0 0 43 [some (.ref 116), some (.int (jb true)), some (.int (nI i))] [] (((((h0.set 116 (hMo ch 0 ea fa an1 sv ln 0 q n)).set 117 (ia 204 s1)).set 118 (ia 204 W9)).set 121 (ia 12 F1))) by
          have := loop 0 (by omega) s an F hI rfl
          rw [hset_id (i := 117) (by exact (by repeat (first | assumption | exact jget_same2 (by (try simp only [List.length_set]); exact jlt (by assumption)) | refine jget_ne (by first | decide | assumption | omega) ?_))), hset_id (i := 121) (by exact (by repeat (first | assumption | exact jget_same2 (by (try simp only [List.length_set]); exact jlt (by assumption)) | refine jget_ne (by first | decide | assumption | omega) ?_)))] at this
          exact this
        refine up_ind n (fun i hi ih s1 an1 F1 hI1 hr => ?_)
        refine J_iload_n (by rfl) dX11_run_43 ?_
        refine J_aload_n (by rfl) (by rfl) dX11_run_44 ?_
        refine J_get dX11_run_45 f_X11_253 (by repeat (first | assumption | exact jget_same2 (by (try simp only [List.length_set]); exact jlt (by assumption)) | refine jget_ne (by first | decide | assumption | omega) ?_)) (by rfl) ?_
        refine J_icmp_ge_n 105 dX11_run_48 (by decide) (fun c48 => ?_) (fun c48 => ?_)
        · have hin : i = n := by omega
          subst hin
          rw [List.drop_eq_nil_of_le (by omega)] at hr
          have hr : runS L s 0 = (none, s1) := hr
          refine J_aload_n (by rfl) (by rfl) dX11_run_105 ?_
          refine J_aload_n (by rfl) (by rfl) dX11_run_106 ?_
          refine J_get dX11_run_107 f_X11_253 (by repeat (first | assumption | exact jget_same2 (by (try simp only [List.length_set]); exact jlt (by assumption)) | refine jget_ne (by first | decide | assumption | omega) ?_)) (by rfl) ?_
          refine J_V1v (ci := 11) dX11_run_110 s_X11_74 m_X11_ends rfl (by repeat (first | assumption | exact jget_same2 (by (try simp only [List.length_set]); exact jlt (by assumption)) | refine jget_ne (by first | decide | assumption | omega) ?_)) rfl (c_X11_ends (th := 0) (P := P) (W := W9) hch (by decide) (by repeat (first | assumption | exact jget_same2 (by (try simp only [List.length_set]); exact jlt (by assumption)) | refine jget_ne (by first | decide | assumption | omega) ?_)) (by repeat (first | assumption | exact jget_same2 (by (try simp only [List.length_set]); exact jlt (by assumption)) | refine jget_ne (by first | decide | assumption | omega) ?_)) (by repeat (first | assumption | exact jget_same2 (by (try simp only [List.length_set]); exact jlt (by assumption)) | refine jget_ne (by first | decide | assumption | omega) ?_)) (fun hz => (jKv_i ?_)) (fun hz P' hP' => (jKv_i ?_)))
          · exact absurd rfl hz
          · exact J_ireturn dX11_run_113 rfl (by
              simp only [List.set_set, jsw (i := 116) (j := 117) (by decide), jsw (i := 116) (j := 118) (by decide), jsw (i := 116) (j := 120) (by decide), jsw (i := 116) (j := 121) (by decide), jsw (i := 117) (j := 118) (by decide), jsw (i := 117) (j := 120) (by decide), jsw (i := 117) (j := 121) (by decide), jsw (i := 118) (j := 120) (by decide), jsw (i := 118) (j := 121) (by decide), jsw (i := 120) (j := 121) (by decide)]
              rw [← hLn]
              exact hQ3 q L s1 hp hr (by omega) (hI1.mono (by omega)) _ P' (((((fr1.set 116 _ (by decide)).set 117 _ (by decide)).set 118 _ (by decide)).set 120 _ (by decide)).set 121 _ (by decide)) (pastN_W hW9 hP') ⟨an1, q, L.length, W9, F1, C1, (by repeat (first | assumption | exact jget_same2 (by (try simp only [List.length_set]); exact jlt (by assumption)) | refine jget_ne (by first | decide | assumption | omega) ?_)), (by repeat (first | assumption | exact jget_same2 (by (try simp only [List.length_set]); exact jlt (by assumption)) | refine jget_ne (by first | decide | assumption | omega) ?_)), (by repeat (first | assumption | exact jget_same2 (by (try simp only [List.length_set]); exact jlt (by assumption)) | refine jget_ne (by first | decide | assumption | omega) ?_)), (by repeat (first | assumption | exact jget_same2 (by (try simp only [List.length_set]); exact jlt (by assumption)) | refine jget_ne (by first | decide | assumption | omega) ?_)), (by repeat (first | assumption | exact jget_same2 (by (try simp only [List.length_set]); exact jlt (by assumption)) | refine jget_ne (by first | decide | assumption | omega) ?_)), (by repeat (first | assumption | exact jget_same2 (by (try simp only [List.length_set]); exact jlt (by assumption)) | refine jget_ne (by first | decide | assumption | omega) ?_)), (by repeat (first | assumption | exact jget_same2 (by (try simp only [List.length_set]); exact jlt (by assumption)) | refine jget_ne (by first | decide | assumption | omega) ?_)), (by repeat (first | assumption | exact jget_same2 (by (try simp only [List.length_set]); exact jlt (by assumption)) | refine jget_ne (by first | decide | assumption | omega) ?_)), (by repeat (first | assumption | exact jget_same2 (by (try simp only [List.length_set]); exact jlt (by assumption)) | refine jget_ne (by first | decide | assumption | omega) ?_))⟩) (by decide) (by decide) (fun _ => rfl)
        · obtain ⟨K1, V1, a1, a2, a3, a4, a5⟩ := hA1.2 i (by omega)
          rw [runS_drop a1] at hr
          have hirr := op_irr a2 (s := s1) (x := nI (C1 (4 * i + 1))) (y := nI (C1 (4 * i + 2))) (z := nI (C1 (4 * i + 3))) (x' := ar1 V1 0) (y' := ar1 V1 1) (z' := ar1 V1 2) (fun z => by unfold ar1; rw [← a5 0 (by omega)]) (fun z => by unfold ar1; rw [← a5 1 (by omega)]) (fun z => by unfold ar1; rw [← a5 2 (by omega)])
          have hlk := lk_lt K1
          have hTl := opT_lt (s := s1) (k := K1) (x := ar1 V1 0) (y := ar1 V1 1) (z := ar1 V1 2)
          refine J_aload_n (by rfl) (by rfl) dX11_run_51 ?_
          refine J_iconst (nI 0) (by decide) dX11_run_52 ?_
          refine J_put_6 dX11_run_53 p_X11_41 (by repeat (first | assumption | exact jget_same2 (by (try simp only [List.length_set]); exact jlt (by assumption)) | refine jget_ne (by first | decide | assumption | omega) ?_)) ?_
          refine J_aload_n (by rfl) (by rfl) dX11_run_56 ?_
          refine J_aload_n (by rfl) (by rfl) dX11_run_57 ?_
          refine J_iconst (nI 4) (by decide) dX11_run_58 ?_
          refine J_iload_n (by rfl) dX11_run_59 ?_
          refine J_imul dX11_run_60 ?_
          try rw [pk_mul]
          refine J_V1v (ci := 11) dX11_run_61 s_X11_268 m_X11_does rfl (by repeat (first | assumption | exact jget_same2 (by (try simp only [List.length_set]); exact jlt (by assumption)) | refine jget_ne (by first | decide | assumption | omega) ?_)) rfl (c_X11_does (K := K + i) (s := s1) (C := C1) (F := F1) (k := 4 * i) (by omega) (by omega) hI1 (by omega) (by repeat (first | assumption | exact jget_same2 (by (try simp only [List.length_set]); exact jlt (by assumption)) | refine jget_ne (by first | decide | assumption | omega) ?_)) (by repeat (first | assumption | exact jget_same2 (by (try simp only [List.length_set]); exact jlt (by assumption)) | refine jget_ne (by first | decide | assumption | omega) ?_)) (by repeat (first | assumption | exact jget_same2 (by (try simp only [List.length_set]); exact jlt (by assumption)) | refine jget_ne (by first | decide | assumption | omega) ?_)) (by repeat (first | assumption | exact jget_same2 (by (try simp only [List.length_set]); exact jlt (by assumption)) | refine jget_ne (by first | decide | assumption | omega) ?_)) (fun D => (jKv_i ?_)))
          rw [a4, letK_lk a2, hirr.1, hirr.2]
          have hI2 := Inv_op (x := ar1 V1 0) (y := ar1 V1 1) (z := ar1 V1 2) hI1 a2
          generalize nI (opA s1 K1 (nI (C1 (4 * i + 1))) (nI (C1 (4 * i + 2))) (nI (C1 (4 * i + 3)))) = an2
          generalize opN s1 K1 (ar1 V1 0) (ar1 V1 1) (ar1 V1 2) = s2 at *
          generalize opT s1 K1 (ar1 V1 0) (ar1 V1 1) (ar1 V1 2) = t2 at *
          refine J_put_9 dX11_run_64 p_X11_271 (by repeat (first | assumption | exact jget_same2 (by (try simp only [List.length_set]); exact jlt (by assumption)) | refine jget_ne (by first | decide | assumption | omega) ?_)) ?_
          refine J_aload_n (by rfl) (by rfl) dX11_run_67 ?_
          refine J_get dX11_run_68 f_X11_41 (by repeat (first | assumption | exact jget_same2 (by (try simp only [List.length_set]); exact jlt (by assumption)) | refine jget_ne (by first | decide | assumption | omega) ?_)) (by rfl) ?_
          refine J_if_eq_n 99 dX11_run_71 (by decide) (fun c71 => ?_) (fun c71 => ?_)
          · subst c71
            rw [if_pos rfl] at hr
            refine J_iinc_2 (nI 1) dX11_run_99 (by decide) ?_
            try rw [nI_add]
            refine J_goto 43 dX11_run_102 (by decide) ?_
            simp only [List.set_set, jsw (i := 116) (j := 117) (by decide), jsw (i := 116) (j := 118) (by decide), jsw (i := 116) (j := 120) (by decide), jsw (i := 116) (j := 121) (by decide), jsw (i := 117) (j := 118) (by decide), jsw (i := 117) (j := 120) (by decide), jsw (i := 117) (j := 121) (by decide), jsw (i := 118) (j := 120) (by decide), jsw (i := 118) (j := 121) (by decide), jsw (i := 120) (j := 121) (by decide)]
            exact ih c48 s2 an2 D hI2 hr
          · rw [if_neg (by omega)] at hr
            refine J_aload_n (by rfl) (by rfl) dX11_run_74 ?_
            refine J_get dX11_run_75 f_X11_13 (by repeat (first | assumption | exact jget_same2 (by (try simp only [List.length_set]); exact jlt (by assumption)) | refine jget_ne (by first | decide | assumption | omega) ?_)) (by rfl) ?_
            refine J_iconst (nI 0) (by decide) dX11_run_78 ?_
            refine J_aload_n (by rfl) (by rfl) dX11_run_79 ?_
            refine J_get dX11_run_80 f_X11_9 (by repeat (first | assumption | exact jget_same2 (by (try simp only [List.length_set]); exact jlt (by assumption)) | refine jget_ne (by first | decide | assumption | omega) ?_)) (by rfl) ?_
            refine J_iconst (nI 0) (by decide) dX11_run_83 ?_
            refine J_S40 dX11_run_84 s_X11_44 m_X11_copies rfl (c_X11_copies (n0 := 204) (n1 := 204) (f := W9) (k0 := s2) (p := 0) (q := 0) (by decide) (by omega) (by omega) (by omega) (by omega) (by repeat (first | assumption | exact jget_same2 (by (try simp only [List.length_set]); exact jlt (by assumption)) | refine jget_ne (by first | decide | assumption | omega) ?_)) (by repeat (first | assumption | exact jget_same2 (by (try simp only [List.length_set]); exact jlt (by assumption)) | refine jget_ne (by first | decide | assumption | omega) ?_)) (jK0_i ?_))
            refine J_aload_n (by rfl) (by rfl) dX11_run_87 ?_
            refine J_iload_n (by rfl) dX11_run_88 ?_
            refine J_put_8 dX11_run_89 p_X11_29 (by repeat (first | assumption | exact jget_same2 (by (try simp only [List.length_set]); exact jlt (by assumption)) | refine jget_ne (by first | decide | assumption | omega) ?_)) ?_
            refine J_aload_n (by rfl) (by rfl) dX11_run_92 ?_
            refine J_iconst (nI 2) (by decide) dX11_run_93 ?_
            refine J_put_6 dX11_run_94 p_X11_41 (by repeat (first | assumption | exact jget_same2 (by (try simp only [List.length_set]); exact jlt (by assumption)) | refine jget_ne (by first | decide | assumption | omega) ?_)) ?_
            refine J_iconst (nI 0) (by decide) dX11_run_97 ?_
            exact J_ireturn dX11_run_98 rfl (by
              simp only [List.set_set, jsw (i := 116) (j := 117) (by decide), jsw (i := 116) (j := 118) (by decide), jsw (i := 116) (j := 120) (by decide), jsw (i := 116) (j := 121) (by decide), jsw (i := 117) (j := 118) (by decide), jsw (i := 117) (j := 120) (by decide), jsw (i := 117) (j := 121) (by decide), jsw (i := 118) (j := 120) (by decide), jsw (i := 118) (j := 121) (by decide), jsw (i := 120) (j := 121) (by decide)]
              exact hQ2 q L i s1 hp hr (by omega) _ _ ((((fr1.set 116 _ (by decide)).set 117 _ (by decide)).set 118 _ (by decide)).set 121 _ (by decide)) (fun k hk => (cpN_W hk).trans (hW9 k hk)) ⟨an2, q, n, W9, D, C1, (by repeat (first | assumption | exact jget_same2 (by (try simp only [List.length_set]); exact jlt (by assumption)) | refine jget_ne (by first | decide | assumption | omega) ?_)), (by repeat (first | assumption | exact jget_same2 (by (try simp only [List.length_set]); exact jlt (by assumption)) | refine jget_ne (by first | decide | assumption | omega) ?_)), (by repeat (first | assumption | exact jget_same2 (by (try simp only [List.length_set]); exact jlt (by assumption)) | refine jget_ne (by first | decide | assumption | omega) ?_)), (by repeat (first | assumption | exact jget_same2 (by (try simp only [List.length_set]); exact jlt (by assumption)) | refine jget_ne (by first | decide | assumption | omega) ?_)), (by repeat (first | assumption | exact jget_same2 (by (try simp only [List.length_set]); exact jlt (by assumption)) | refine jget_ne (by first | decide | assumption | omega) ?_)), (by repeat (first | assumption | exact jget_same2 (by (try simp only [List.length_set]); exact jlt (by assumption)) | refine jget_ne (by first | decide | assumption | omega) ?_)), (by repeat (first | assumption | exact jget_same2 (by (try simp only [List.length_set]); exact jlt (by assumption)) | refine jget_ne (by first | decide | assumption | omega) ?_)), (by repeat (first | assumption | exact jget_same2 (by (try simp only [List.length_set]); exact jlt (by assumption)) | refine jget_ne (by first | decide | assumption | omega) ?_)), (by repeat (first | assumption | exact jget_same2 (by (try simp only [List.length_set]); exact jlt (by assumption)) | refine jget_ne (by first | decide | assumption | omega) ?_))⟩) (by decide) (by decide) (fun _ => rfl)
      · exact absurd c24 (by decide)
    · exact absurd c12 (by decide)
end MRUN
