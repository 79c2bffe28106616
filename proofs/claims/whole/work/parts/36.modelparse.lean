/-! The reference's parser: pieces -/
theorem its_app (g : Nat → Nat) : ∀ (a b : List Nat) (p : Nat) (vs : List Nat), its g (a ++ b) p vs = if (its g a p vs).1 = true then its g b (its g a p vs).2.1 (its g a p vs).2.2 else its g a p vs
  | [], b, p, vs => by show its g b p vs = if true = true then its g b p vs else _; rw [if_pos rfl]
  | c :: a, b, p, vs => by
    show its g (c :: (a ++ b)) p vs = _
    rw [its_cons, its_cons]
    cases hi : itm g p c with
    | none => show (false, p, vs) = if false = true then _ else (false, p, vs); rw [if_neg (by decide)]
    | some q => exact its_app g a b q.1 (vs ++ q.2)
theorem its_vs (g : Nat → Nat) : ∀ (r : List Nat) (p : Nat) (vs : List Nat), its g r p vs = ((its g r p []).1, (its g r p []).2.1, vs ++ (its g r p []).2.2)
  | [], p, vs => by show (true, p, vs) = (true, p, vs ++ []); rw [List.append_nil]
  | c :: r, p, vs => by
    rw [its_cons, its_cons]
    cases hi : itm g p c with
    | none => show (false, p, vs) = (false, p, vs ++ []); rw [List.append_nil]
    | some q =>
      show its g r q.1 (vs ++ q.2) = ((its g r q.1 ([] ++ q.2)).1, (its g r q.1 ([] ++ q.2)).2.1, vs ++ (its g r q.1 ([] ++ q.2)).2.2)
      rw [List.nil_append, its_vs g r q.1 (vs ++ q.2), its_vs g r q.1 q.2, List.append_assoc]
theorem its_then {g : Nat → Nat} {a b : List Nat} {p q : Nat} {vs V : List Nat} (h : its g a p [] = (true, q, V)) : its g (a ++ b) p vs = its g b q (vs ++ V) := by
  rw [its_app, its_vs g a p vs, h, if_pos rfl]
theorem its_fail {g : Nat → Nat} {a b : List Nat} {p q : Nat} {vs V : List Nat} (h : its g a p [] = (false, q, V)) : its g (a ++ b) p vs = (false, q, vs ++ V) := by
  rw [its_app, its_vs g a p vs, h, if_neg (show ¬ false = true by decide)]
def lk (K : Nat) : Nat := if K = 0 then 112 else if K = 1 then 116 else if K = 2 then 99 else if K = 3 then 111 else if K = 4 then 109 else if K = 5 then 108 else if K = 6 then 104 else if K = 7 then 118 else 115
/-- what a reader of the rest of a command answers -/
def RQ (Q : jQ_) (h : jH) (ch th : Nat) (ea fa an : Int32) (sv : Bool) (ln tp cm : Nat) (C : Nat → Nat) (at_ : Nat) (R : (Bool × Nat × List Nat) × Nat) : Prop :=
  ∀ ok q V K C', R = ((ok, q, V), K) → q ≤ tp → (∀ k, k < at_ → C' k = C k) → (ok = true → C' at_ = lk K ∧ ∀ j, j < V.length → C' (at_ + 1 + j) = V.getD j 0) → Q (.inl (some (.int (jb ok)))) ((h.set 116 (hMo ch th ea fa an sv ln tp q cm)).set 124 (ia 124 C'))
section MP
variable {G : jG} {X : Bool} {h : jH} {Q : jQ_} {ch th ln tp he cm : Nat} {ea fa an : Int32} {sv : Bool} {tx C : Nat → Nat}
theorem c_X11_sign (hs : tp ≤ 60) (hM : h[116]? = some (hMo ch th ea fa an sv ln tp he cm)) (hT : h[123]? = some (ia 60 tx)) (hh : he < 2 ^ 31) (hQ : Q (.inl (some (.int (if he < tp then nI (tx he) else -1)))) h) : jCT G M_X11_sign 1 0 0 X [.ref 116] h Q := by
  refine jCT_of [some (.ref 116)] 0 rfl (by decide +kernel) rfl rfl ?_
  refine J_aload_n (by rfl) (by rfl) dX11_sign_0 ?_
  refine J_get dX11_sign_1 f_X11_193 (by repeat (first | assumption | exact jget_same2 (by (try simp only [List.length_set]); exact jlt (by assumption)) | refine jget_ne (by first | decide | assumption | omega) ?_)) (by rfl) ?_
  refine J_aload_n (by rfl) (by rfl) dX11_sign_4 ?_
  refine J_get dX11_sign_5 f_X11_190 (by repeat (first | assumption | exact jget_same2 (by (try simp only [List.length_set]); exact jlt (by assumption)) | refine jget_ne (by first | decide | assumption | omega) ?_)) (by rfl) ?_
  refine J_icmp_ge_n 23 dX11_sign_8 (by decide) (fun c8 => ?_) (fun c8 => ?_)
  · rw [if_neg (by omega)] at hQ
    refine J_iconst (-1) (by decide) dX11_sign_23 ?_
    exact J_ireturn dX11_sign_24 rfl (hQ) (by decide) (by decide) (fun _ => rfl)
  · rw [if_pos c8] at hQ
    refine J_aload_n (by rfl) (by rfl) dX11_sign_11 ?_
    refine J_get dX11_sign_12 f_X11_35 (by repeat (first | assumption | exact jget_same2 (by (try simp only [List.length_set]); exact jlt (by assumption)) | refine jget_ne (by first | decide | assumption | omega) ?_)) (by rfl) ?_
    refine J_aload_n (by rfl) (by rfl) dX11_sign_15 ?_
    refine J_get dX11_sign_16 f_X11_193 (by repeat (first | assumption | exact jget_same2 (by (try simp only [List.length_set]); exact jlt (by assumption)) | refine jget_ne (by first | decide | assumption | omega) ?_)) (by rfl) ?_
    refine J_iald_n (he) dX11_sign_19 (by repeat (first | assumption | exact jget_same2 (by (try simp only [List.length_set]); exact jlt (by assumption)) | refine jget_ne (by first | decide | assumption | omega) ?_)) (by first | rfl | (simp only [pk_mul, nI_add]; done) | (simp only [pk_mul, nI_add]; congr 1; omega) | (congr 1; omega)) (by omega) ?_
    refine J_goto 24 dX11_sign_20 (by decide) ?_
    exact J_ireturn dX11_sign_24 rfl (hQ) (by decide) (by decide) (fun _ => rfl)
theorem c_X11_isSign {c : Nat} (hs : tp ≤ 60) (hp : he ≤ tp) (hc : c < 65536) (htx : ∀ k, k < tp → tx k < 65536) (hM : h[116]? = some (hMo ch th ea fa an sv ln tp he cm)) (hT : h[123]? = some (ia 60 tx))
    (hQ1 : sg tx tp he = c → Q (.inl (some (.int (jb true)))) (h.set 116 (hMo ch th ea fa an sv ln tp (he + 1) cm))) (hQ2 : sg tx tp he ≠ c → Q (.inl (some (.int (jb false)))) h) : jCT G M_X11_isSign 2 0 0 X [.ref 116, .int (nI c)] h Q := by
  refine jCT_of [some (.ref 116), some (.int (nI c)), none] 1 rfl (by decide +kernel) rfl rfl ?_
  have hid : h.set 116 (hMo ch th ea fa an sv ln tp (he + 0) cm) = h := hset_id hM
  have hg := sg_lt (tx := tx) (tp := tp) (p := he) hc
  refine J_aload_n (by rfl) (by rfl) dX11_isSign_0 ?_
  refine J_V0v (ci := 11) dX11_isSign_1 s_X11_196 m_X11_sign rfl (by repeat (first | assumption | exact jget_same2 (by (try simp only [List.length_set]); exact jlt (by assumption)) | refine jget_ne (by first | decide | assumption | omega) ?_)) rfl (c_X11_sign hs hM hT (by omega) (jKv_i ?_))
  refine J_iload_n (by rfl) dX11_isSign_4 ?_
  by_cases hlt : he < tp
  · have hx := htx he hlt
    rw [if_pos hlt]
    refine J_icmp_ne_n 12 dX11_isSign_5 (by decide) (fun c5 => ?_) (fun c5 => ?_)
    · refine J_iconst (nI 0) (by decide) dX11_isSign_12 ?_
      refine J_istore_2 dX11_isSign_13 ?_
      refine J_aload_n (by rfl) (by rfl) dX11_isSign_14 ?_
      refine J_dup (by rfl) dX11_isSign_15 ?_
      refine J_get dX11_isSign_16 f_X11_193 (by repeat (first | assumption | exact jget_same2 (by (try simp only [List.length_set]); exact jlt (by assumption)) | refine jget_ne (by first | decide | assumption | omega) ?_)) (by rfl) ?_
      refine J_iload_n (by rfl) dX11_isSign_19 ?_
      refine J_if_eq_n 27 dX11_isSign_20 (by decide) (fun c20 => ?_) (fun c20 => ?_)
      · refine J_iconst (nI 0) (by decide) dX11_isSign_27 ?_
        refine J_iadd dX11_isSign_28 ?_
        try rw [nI_add]
        refine J_put_16 dX11_isSign_29 p_X11_193 (by repeat (first | assumption | exact jget_same2 (by (try simp only [List.length_set]); exact jlt (by assumption)) | refine jget_ne (by first | decide | assumption | omega) ?_)) ?_
        refine J_iload_n (by rfl) dX11_isSign_32 ?_
        exact J_zreturn dX11_isSign_33 rfl (by rfl) (by rw [hid]; exact hQ2 (fun e => c5 (hg.mp e).2)) (by decide) (by decide) (fun _ => rfl)
      · exact absurd c20 (by decide)
    · refine J_iconst (nI 1) (by decide) dX11_isSign_8 ?_
      refine J_goto 13 dX11_isSign_9 (by decide) ?_
      refine J_istore_2 dX11_isSign_13 ?_
      refine J_aload_n (by rfl) (by rfl) dX11_isSign_14 ?_
      refine J_dup (by rfl) dX11_isSign_15 ?_
      refine J_get dX11_isSign_16 f_X11_193 (by repeat (first | assumption | exact jget_same2 (by (try simp only [List.length_set]); exact jlt (by assumption)) | refine jget_ne (by first | decide | assumption | omega) ?_)) (by rfl) ?_
      refine J_iload_n (by rfl) dX11_isSign_19 ?_
      refine J_if_eq_n 27 dX11_isSign_20 (by decide) (fun c20 => ?_) (fun c20 => ?_)
      · exact absurd c20 (by decide)
      · refine J_iconst (nI 1) (by decide) dX11_isSign_23 ?_
        refine J_goto 28 dX11_isSign_24 (by decide) ?_
        refine J_iadd dX11_isSign_28 ?_
        try rw [nI_add]
        refine J_put_16 dX11_isSign_29 p_X11_193 (by repeat (first | assumption | exact jget_same2 (by (try simp only [List.length_set]); exact jlt (by assumption)) | refine jget_ne (by first | decide | assumption | omega) ?_)) ?_
        refine J_iload_n (by rfl) dX11_isSign_32 ?_
        exact J_zreturn dX11_isSign_33 rfl (by rfl) (hQ1 (hg.mpr ⟨hlt, c5⟩)) (by decide) (by decide) (fun _ => rfl)
  · rw [if_neg hlt]
    refine J_icmp_ne 12 dX11_isSign_5 (by decide) (fun c5 => ?_) (fun c5 => ?_)
    · refine J_iconst (nI 0) (by decide) dX11_isSign_12 ?_
      refine J_istore_2 dX11_isSign_13 ?_
      refine J_aload_n (by rfl) (by rfl) dX11_isSign_14 ?_
      refine J_dup (by rfl) dX11_isSign_15 ?_
      refine J_get dX11_isSign_16 f_X11_193 (by repeat (first | assumption | exact jget_same2 (by (try simp only [List.length_set]); exact jlt (by assumption)) | refine jget_ne (by first | decide | assumption | omega) ?_)) (by rfl) ?_
      refine J_iload_n (by rfl) dX11_isSign_19 ?_
      refine J_if_eq_n 27 dX11_isSign_20 (by decide) (fun c20 => ?_) (fun c20 => ?_)
      · refine J_iconst (nI 0) (by decide) dX11_isSign_27 ?_
        refine J_iadd dX11_isSign_28 ?_
        try rw [nI_add]
        refine J_put_16 dX11_isSign_29 p_X11_193 (by repeat (first | assumption | exact jget_same2 (by (try simp only [List.length_set]); exact jlt (by assumption)) | refine jget_ne (by first | decide | assumption | omega) ?_)) ?_
        refine J_iload_n (by rfl) dX11_isSign_32 ?_
        exact J_zreturn dX11_isSign_33 rfl (by rfl) (by rw [hid]; exact hQ2 (fun e => hlt (hg.mp e).1)) (by decide) (by decide) (fun _ => rfl)
      · exact absurd c20 (by decide)
    · exact absurd c5.symm (nI_neg1 (by omega))
theorem c_X11_isWord {i : Nat} {W : List Nat} (ss : strIs i W) (hs : tp ≤ 60) (hp : he ≤ tp) (htx : ∀ k, k < tp → tx k < 65536) (hM : h[116]? = some (hMo ch th ea fa an sv ln tp he cm)) (hT : h[123]? = some (ia 60 tx))
    (hQ1 : cl (sg tx tp) W he = W.length → Q (.inl (some (.int (jb true)))) (h.set 116 (hMo ch th ea fa an sv ln tp (he + W.length) cm))) (hQ2 : cl (sg tx tp) W he ≠ W.length → Q (.inl (some (.int (jb false)))) (h.set 116 (hMo ch th ea fa an sv ln tp (he + cl (sg tx tp) W he) cm))) : jCT G M_X11_isWord 5 0 0 X [.ref 116, .retAddr (2 * i + 2)] h Q := by
  refine jCT_of [some (.ref 116), some (.retAddr (2 * i + 2)), none] 1 rfl (by decide +kernel) rfl rfl ?_
  obtain ⟨q, hq, w2, w3, w4, w5⟩ := ss
  have ss : strIs i W := ⟨q, hq, w2, w3, w4, w5⟩
  have hcs := cl_s (tx := tx) (tp := tp) W he hp (fun c hc => by have := w5 c hc; omega)
  have hcle := cl_le (sg tx tp) W he
  refine J_iconst (nI 0) (by decide) dX11_isWord_0 ?_
  refine J_istore_2 dX11_isWord_1 ?_
  suffices loop : ∀ j, j ≤ W.length → cl (sg tx tp) W he = j + cl (sg tx tp) (W.drop j) (he + j) → J G (jR 5 0 0) (jFin G Q X 0 0) M_X11_isWord X 0 0 2 [some (.ref 116), some (.retAddr (2 * i + 2)), some (.int (nI j))] [] (h.set 116 (hMo ch th ea fa an sv ln tp (he + j) cm)) by
    have := loop 0 (by omega) (by rw [Nat.zero_add]; rfl)
    rw [show he + 0 = he from rfl, hset_id hM] at this
    exact this
  refine up_ind W.length (fun j hj ih e => ?_)
  refine J_iload_n (by rfl) dX11_isWord_2 ?_
  refine J_aload_n (by rfl) (by rfl) dX11_isWord_3 ?_
  refine J_Str0v dX11_isWord_4 s_X11_199 m_J0_length_8abf5 rfl (by first | assumption | rfl) rfl (c_J0_length ss (jKv_i ?_))
  refine J_icmp_ge_n 30 dX11_isWord_7 (by decide) (fun c7 => ?_) (fun c7 => ?_)
  · have hjW : j = W.length := by omega
    subst hjW
    have hz : cl (sg tx tp) W he = W.length := by rw [e, List.drop_eq_nil_of_le (by omega)]; rfl
    refine J_iconst (nI 1) (by decide) dX11_isWord_30 ?_
    exact J_zreturn dX11_isWord_31 rfl (by rfl) (hQ1 hz) (by decide) (by decide) (fun _ => rfl)
  · have hdr : W.drop j = W[j] :: W.drop (j + 1) := List.drop_eq_getElem_cons c7
    have hx : W.getD j 0 = W[j] := by rw [List.getD_eq_getElem?_getD, List.getElem?_eq_getElem c7]; rfl
    have hcm := w5 _ (List.getElem_mem c7)
    refine J_aload_n (by rfl) (by rfl) dX11_isWord_10 ?_
    refine J_aload_n (by rfl) (by rfl) dX11_isWord_11 ?_
    refine J_iload_n (by rfl) dX11_isWord_12 ?_
    refine J_Str1v dX11_isWord_13 s_X11_204 m_J0_charAt_5068e rfl (by first | assumption | rfl) rfl (c_J0_charAt ss c7 (jKv_i ?_))
    rw [hx]
    have hjs : he + j ≤ tp := by omega
    refine J_V1v (ci := 11) dX11_isWord_16 s_X11_208 m_X11_isSign rfl (by repeat (first | assumption | exact jget_same2 (by (try simp only [List.length_set]); exact jlt (by assumption)) | refine jget_ne (by first | decide | assumption | omega) ?_)) rfl (c_X11_isSign (he := he + j) (c := W[j]) hs hjs (by omega) htx (by repeat (first | assumption | exact jget_same2 (by (try simp only [List.length_set]); exact jlt (by assumption)) | refine jget_ne (by first | decide | assumption | omega) ?_)) (by repeat (first | assumption | exact jget_same2 (by (try simp only [List.length_set]); exact jlt (by assumption)) | refine jget_ne (by first | decide | assumption | omega) ?_)) (fun e9 => (jKv_i ?_)) (fun e9 => (jKv_i ?_)))
    · refine J_if_ne_b 24 dX11_isWord_19 (by decide) (fun c19 => ?_) (fun c19 => ?_)
      · refine J_iinc_2 (nI 1) dX11_isWord_24 (by decide) ?_
        try rw [nI_add]
        refine J_goto 2 dX11_isWord_27 (by decide) ?_
        rw [List.set_set, Nat.add_assoc]
        exact ih c7 (by rw [e, hdr, cl_yes e9, Nat.add_assoc he j 1]; omega)
      · exact absurd c19 (by decide)
    · have hz : cl (sg tx tp) W he = j := by rw [e, hdr, cl_no e9]; rfl
      refine J_if_ne_b 24 dX11_isWord_19 (by decide) (fun c19 => ?_) (fun c19 => ?_)
      · exact absurd c19 (by decide)
      · refine J_iconst (nI 0) (by decide) dX11_isWord_22 ?_
        exact J_zreturn dX11_isWord_23 rfl (by rfl) (by
          have := hQ2 (by omega)
          rw [hz] at this
          exact this) (by decide) (by decide) (fun _ => rfl)
theorem c_X11_isNumber {m at_ : Nat} (hm : m ≤ 3) (hat : at_ < 124) (hs : tp ≤ 60) (hp : he ≤ tp) (htx : ∀ k, k < tp → tx k < 65536) (hM : h[116]? = some (hMo ch th ea fa an sv ln tp he cm)) (hT : h[123]? = some (ia 60 tx)) (hC : h[124]? = some (ia 124 C))
    (hQ : Q (.inl (some (.int (jb (decide (nd (sg tx tp) m he ≠ 0)))))) ((h.set 116 (hMo ch th ea fa an sv ln tp (he + nd (sg tx tp) m he) cm)).set 124 (ia 124 (updN C at_ (nv (sg tx tp) m he 0))))) : jCT G M_X11_isNumber 2 0 0 X [.ref 116, .int (nI m), .int (nI at_)] h Q := by
  refine jCT_of [some (.ref 116), some (.int (nI m)), some (.int (nI at_)), none, none] 2 rfl (by decide +kernel) rfl rfl ?_
  have hns := nd_s (tx := tx) m he hp
  have hnl := nd_le (sg tx tp) m he
  refine J_iconst (nI 0) (by decide) dX11_isNumber_0 ?_
  refine J_istore_3 dX11_isNumber_1 ?_
  refine J_iconst (nI 0) (by decide) dX11_isNumber_2 ?_
  refine J_istore_4 dX11_isNumber_3 ?_
  suffices loop : ∀ i, i ≤ m → ∀ v, nd (sg tx tp) m he = i + nd (sg tx tp) (m - i) (he + i) → nv (sg tx tp) m he 0 = nv (sg tx tp) (m - i) (he + i) v → v < 10000 → v < npow i → J G (jR 2 0 0) (jFin G Q X 0 0) M_X11_isNumber X 0 0 5 [some (.ref 116), some (.int (nI m)), some (.int (nI at_)), some (.int (nI v)), some (.int (nI i))] [] (h.set 116 (hMo ch th ea fa an sv ln tp (he + i) cm)) by
    have := loop 0 (by omega) 0 (by rw [Nat.zero_add, Nat.sub_zero, Nat.add_zero]) (by rw [Nat.sub_zero, Nat.add_zero]) (by omega) (by decide)
    rw [show he + 0 = he from rfl, hset_id hM] at this
    exact this
  refine up_ind m (fun i hi ih v e1 e2 hv2 hv3 => ?_)
  have fin : nd (sg tx tp) m he = i → nv (sg tx tp) m he 0 = v → J G (jR 2 0 0) (jFin G Q X 0 0) M_X11_isNumber X 0 0 54 [some (.ref 116), some (.int (nI m)), some (.int (nI at_)), some (.int (nI v)), some (.int (nI i))] [] (h.set 116 (hMo ch th ea fa an sv ln tp (he + i) cm)) := by
    intro f1 f2
    rw [f1, f2] at hQ
    refine J_aload_n (by rfl) (by rfl) dX11_isNumber_54 ?_
    refine J_get dX11_isNumber_55 f_X11_38 (by repeat (first | assumption | exact jget_same2 (by (try simp only [List.length_set]); exact jlt (by assumption)) | refine jget_ne (by first | decide | assumption | omega) ?_)) (by rfl) ?_
    refine J_iload_n (by rfl) dX11_isNumber_58 ?_
    refine J_iload_n (by rfl) dX11_isNumber_59 ?_
    refine J_iast_n (at_) dX11_isNumber_60 (by repeat (first | assumption | exact jget_same2 (by (try simp only [List.length_set]); exact jlt (by assumption)) | refine jget_ne (by first | decide | assumption | omega) ?_)) (by first | rfl | (simp only [pk_mul, nI_add]; done) | (simp only [pk_mul, nI_add]; congr 1; omega) | (congr 1; omega)) (by omega) ?_
    refine J_iload (by rfl) dX11_isNumber_61 ?_
    refine J_if_le_n 70 dX11_isNumber_63 (by decide) (fun c63 => ?_) (fun c63 => ?_)
    · refine J_iconst (nI 0) (by decide) dX11_isNumber_70 ?_
      exact J_zreturn dX11_isNumber_71 rfl (by rfl) (by rw [show decide (i ≠ 0) = false by simpa using c63] at hQ; exact hQ) (by decide) (by decide) (fun _ => rfl)
    · refine J_iconst (nI 1) (by decide) dX11_isNumber_66 ?_
      refine J_goto 71 dX11_isNumber_67 (by decide) ?_
      exact J_zreturn dX11_isNumber_71 rfl (by rfl) (by rw [show decide (i ≠ 0) = true by simp; omega] at hQ; exact hQ) (by decide) (by decide) (fun _ => rfl)
  refine J_iload (by rfl) dX11_isNumber_5 ?_
  refine J_iload_n (by rfl) dX11_isNumber_7 ?_
  refine J_icmp_ge_n 54 dX11_isNumber_8 (by decide) (fun c8 => ?_) (fun c8 => ?_)
  · exact fin (by rw [e1, show m - i = 0 by omega]; rfl) (by rw [e2, show m - i = 0 by omega]; rfl)
  · refine J_aload_n (by rfl) (by rfl) dX11_isNumber_11 ?_
    refine J_V0v (ci := 11) dX11_isNumber_12 s_X11_196 m_X11_sign rfl (by repeat (first | assumption | exact jget_same2 (by (try simp only [List.length_set]); exact jlt (by assumption)) | refine jget_ne (by first | decide | assumption | omega) ?_)) rfl (c_X11_sign (he := he + i) hs (by repeat (first | assumption | exact jget_same2 (by (try simp only [List.length_set]); exact jlt (by assumption)) | refine jget_ne (by first | decide | assumption | omega) ?_)) (by repeat (first | assumption | exact jget_same2 (by (try simp only [List.length_set]); exact jlt (by assumption)) | refine jget_ne (by first | decide | assumption | omega) ?_)) (by omega) (jKv_i ?_))
    by_cases hd : dgt (sg tx tp) (he + i) = true
    · have hd2 : 48 ≤ sg tx tp (he + i) ∧ sg tx tp (he + i) ≤ 57 := of_decide_eq_true hd
      have hlt : he + i < tp := by
        unfold sg at hd2
        split at hd2
        · assumption
        · omega
      have hsg : sg tx tp (he + i) = tx (he + i) := by unfold sg; rw [if_pos hlt]
      rw [if_pos hlt]
      have hm1 : m - i = (m - (i + 1)) + 1 := by omega
      refine J_bipush (nI 48) (by decide) dX11_isNumber_15 ?_
      refine J_bipush (nI 57) (by decide) dX11_isNumber_17 ?_
      refine J_S3v dX11_isNumber_19 s_X11_51 m_X11_isIn rfl (c_X11_isIn (nI (tx (he + i))) (jKv_i ?_))
      rw [inB_n (by omega) (by decide) (by decide), show decide (48 ≤ tx (he + i) ∧ tx (he + i) ≤ 57) = true by simp; omega]
      refine J_if_eq_b 54 dX11_isNumber_22 (by decide) (fun c22 => ?_) (fun c22 => ?_)
      · exact absurd c22 (by decide)
      · refine J_bipush (nI 10) (by decide) dX11_isNumber_25 ?_
        refine J_iload_n (by rfl) dX11_isNumber_27 ?_
        refine J_imul dX11_isNumber_28 ?_
        try rw [pk_mul]
        refine J_aload_n (by rfl) (by rfl) dX11_isNumber_29 ?_
        refine J_V0v (ci := 11) dX11_isNumber_30 s_X11_196 m_X11_sign rfl (by repeat (first | assumption | exact jget_same2 (by (try simp only [List.length_set]); exact jlt (by assumption)) | refine jget_ne (by first | decide | assumption | omega) ?_)) rfl (c_X11_sign (he := he + i) hs (by repeat (first | assumption | exact jget_same2 (by (try simp only [List.length_set]); exact jlt (by assumption)) | refine jget_ne (by first | decide | assumption | omega) ?_)) (by repeat (first | assumption | exact jget_same2 (by (try simp only [List.length_set]); exact jlt (by assumption)) | refine jget_ne (by first | decide | assumption | omega) ?_)) (by omega) (jKv_i ?_))
        rw [if_pos hlt]
        refine J_iadd dX11_isNumber_33 ?_
        try rw [nI_add]
        refine J_bipush (nI 48) (by decide) dX11_isNumber_34 ?_
        refine J_isub_n (by omega) dX11_isNumber_36 ?_
        refine J_topi (nI (10 * v + (sg tx tp (he + i) - 48))) (by congr 1; omega) ?_
        refine J_istore_3 dX11_isNumber_37 ?_
        refine J_aload_n (by rfl) (by rfl) dX11_isNumber_38 ?_
        refine J_dup (by rfl) dX11_isNumber_39 ?_
        refine J_get dX11_isNumber_40 f_X11_193 (by repeat (first | assumption | exact jget_same2 (by (try simp only [List.length_set]); exact jlt (by assumption)) | refine jget_ne (by first | decide | assumption | omega) ?_)) (by rfl) ?_
        refine J_iconst (nI 1) (by decide) dX11_isNumber_43 ?_
        refine J_iadd dX11_isNumber_44 ?_
        try rw [nI_add]
        refine J_put_16 dX11_isNumber_45 p_X11_193 (by repeat (first | assumption | exact jget_same2 (by (try simp only [List.length_set]); exact jlt (by assumption)) | refine jget_ne (by first | decide | assumption | omega) ?_)) ?_
        refine J_iinc_4 (nI 1) dX11_isNumber_48 (by decide) ?_
        try rw [nI_add]
        refine J_goto 5 dX11_isNumber_51 (by decide) ?_
        rw [List.set_set, Nat.add_assoc]
        refine ih c8 _ ?_ ?_ ?_ ?_
        · rw [e1, hm1, nd_t hd, Nat.add_assoc he i 1]; omega
        · rw [e2, hm1, nv_t hd, Nat.add_assoc he i 1]
        · have : npow i ≤ 100 := by
            rcases (show i = 0 ∨ i = 1 ∨ i = 2 by omega) with rfl | rfl | rfl <;> decide
          omega
        · show _ < 10 * npow i
          omega
    · have hin : inB (if he + i < tp then nI (tx (he + i)) else -1) 48 57 = false := by
        by_cases hlt : he + i < tp
        · have hsg : sg tx tp (he + i) = tx (he + i) := by unfold sg; rw [if_pos hlt]
          have hx := htx _ hlt
          rw [if_pos hlt, inB_n (by omega) (by decide) (by decide)]
          unfold dgt at hd
          rw [hsg] at hd
          simpa using hd
        · rw [if_neg hlt]; decide
      refine J_bipush (nI 48) (by decide) dX11_isNumber_15 ?_
      refine J_bipush (nI 57) (by decide) dX11_isNumber_17 ?_
      refine J_S3v dX11_isNumber_19 s_X11_51 m_X11_isIn rfl (c_X11_isIn _ (jKv_i ?_))
      rw [hin]
      refine J_if_eq_b 54 dX11_isNumber_22 (by decide) (fun c22 => ?_) (fun c22 => ?_)
      · exact fin (by rw [e1, nd_f hd, Nat.add_zero]) (by rw [e2, nv_f hd])
      · exact absurd c22 (by decide)
theorem itm_N {g : Nat → Nat} {p : Nat} : itm g p 78 = if nd g 3 p = 0 then none else some (p + nd g 3 p, [nv g 3 p 0]) := by unfold itm; rw [if_pos rfl]
theorem itm_D {g : Nat → Nat} {p : Nat} : itm g p 68 = if nd g 1 p = 0 then none else some (p + nd g 1 p, [nv g 1 p 0]) := by unfold itm; rw [if_neg (by decide), if_pos rfl]
theorem c_X11_isMode {at_ : Nat} (hat : at_ < 124) (hs : tp ≤ 60) (hp : he ≤ tp) (htx : ∀ k, k < tp → tx k < 65536) (hM : h[116]? = some (hMo ch th ea fa an sv ln tp he cm)) (hT : h[123]? = some (ia 60 tx)) (hC : h[124]? = some (ia 124 C))
    (hQ1 : ∀ v, itm (sg tx tp) he 77 = some (he + 1, [v]) → he + 1 ≤ tp → Q (.inl (some (.int (jb true)))) ((h.set 116 (hMo ch th ea fa an sv ln tp (he + 1) cm)).set 124 (ia 124 (updN C at_ v)))) (hQ2 : itm (sg tx tp) he 77 = none → Q (.inl (some (.int (jb false)))) h) : jCT G M_X11_isMode 5 0 0 X [.ref 116, .int (nI at_)] h Q := by
  refine jCT_of [some (.ref 116), some (.int (nI at_)), none] 1 rfl (by decide +kernel) rfl rfl ?_
  have hi : itm (sg tx tp) he 77 = (if sg tx tp he = 101 then some (he + 1, [0]) else if sg tx tp he = 110 then some (he + 1, [1]) else if sg tx tp he = 102 then some (he + 1, [2]) else none) := rfl
  have hlt : ∀ c, c < 65536 → sg tx tp he = c → he + 1 ≤ tp := fun c hc e => ((sg_lt hc).mp e).1
  have f3 : itm (sg tx tp) he 77 = none → J G (jR 5 0 0) (jFin G Q X 0 0) M_X11_isMode X 0 0 2 [some (.ref 116), some (.int (nI at_)), some (.int (nI 3))] [] h := by
    intro hi
    refine J_iload_n (by rfl) dX11_isMode_2 ?_
    refine J_iconst (nI 3) (by decide) dX11_isMode_3 ?_
    refine J_icmp_ge_n 35 dX11_isMode_4 (by decide) (fun c4 => ?_) (fun c4 => ?_)
    · refine J_iconst (nI 0) (by decide) dX11_isMode_35 ?_
      exact J_zreturn dX11_isMode_36 rfl (by rfl) (hQ2 hi) (by decide) (by decide) (fun _ => rfl)
    · omega
  have f2 : itm (sg tx tp) he 77 = (if sg tx tp he = 102 then some (he + 1, [2]) else none) → J G (jR 5 0 0) (jFin G Q X 0 0) M_X11_isMode X 0 0 2 [some (.ref 116), some (.int (nI at_)), some (.int (nI 2))] [] h := by
    intro hi
    refine J_iload_n (by rfl) dX11_isMode_2 ?_
    refine J_iconst (nI 3) (by decide) dX11_isMode_3 ?_
    refine J_icmp_ge_n 35 dX11_isMode_4 (by decide) (fun c4 => ?_) (fun c4 => ?_)
    · omega
    · refine J_aload_n (by rfl) (by rfl) dX11_isMode_7 ?_
      refine J_ldcS (i := 37) dX11_isMode_8 rfl rfl rfl ?_
      refine J_iload_n (by rfl) dX11_isMode_10 ?_
      refine J_Str1v dX11_isMode_11 s_X11_204 m_J0_charAt_5068e rfl (by first | assumption | rfl) rfl (c_J0_charAt (i := 37) (j := 2) str_37 (by decide) (jKv_i ?_))
      refine J_topi (nI 102) rfl ?_
      refine J_V1v (ci := 11) dX11_isMode_14 s_X11_208 m_X11_isSign rfl (by repeat (first | assumption | exact jget_same2 (by (try simp only [List.length_set]); exact jlt (by assumption)) | refine jget_ne (by first | decide | assumption | omega) ?_)) rfl (c_X11_isSign (c := 102) hs hp (by decide) htx hM hT (fun e => (jKv_i ?_)) (fun e => (jKv_i ?_)))
      · rw [if_pos e] at hi
        refine J_if_eq_b 29 dX11_isMode_17 (by decide) (fun c17 => ?_) (fun c17 => ?_)
        · exact absurd c17 (by decide)
        · refine J_aload_n (by rfl) (by rfl) dX11_isMode_20 ?_
          refine J_get dX11_isMode_21 f_X11_38 (by repeat (first | assumption | exact jget_same2 (by (try simp only [List.length_set]); exact jlt (by assumption)) | refine jget_ne (by first | decide | assumption | omega) ?_)) (by rfl) ?_
          refine J_iload_n (by rfl) dX11_isMode_24 ?_
          refine J_iload_n (by rfl) dX11_isMode_25 ?_
          refine J_iast_n (at_) dX11_isMode_26 (by repeat (first | assumption | exact jget_same2 (by (try simp only [List.length_set]); exact jlt (by assumption)) | refine jget_ne (by first | decide | assumption | omega) ?_)) (by first | rfl | (simp only [pk_mul, nI_add]; done) | (simp only [pk_mul, nI_add]; congr 1; omega) | (congr 1; omega)) (by omega) ?_
          refine J_iconst (nI 1) (by decide) dX11_isMode_27 ?_
          exact J_zreturn dX11_isMode_28 rfl (by rfl) (hQ1 2 hi (hlt _ (by decide) e)) (by decide) (by decide) (fun _ => rfl)
      · rw [if_neg e] at hi
        refine J_if_eq_b 29 dX11_isMode_17 (by decide) (fun c17 => ?_) (fun c17 => ?_)
        · refine J_iinc_2 (nI 1) dX11_isMode_29 (by decide) ?_
          try rw [nI_add]
          refine J_goto 2 dX11_isMode_32 (by decide) ?_
          exact f3 hi
        · exact absurd c17 (by decide)
  have f1 : itm (sg tx tp) he 77 = (if sg tx tp he = 110 then some (he + 1, [1]) else if sg tx tp he = 102 then some (he + 1, [2]) else none) → J G (jR 5 0 0) (jFin G Q X 0 0) M_X11_isMode X 0 0 2 [some (.ref 116), some (.int (nI at_)), some (.int (nI 1))] [] h := by
    intro hi
    refine J_iload_n (by rfl) dX11_isMode_2 ?_
    refine J_iconst (nI 3) (by decide) dX11_isMode_3 ?_
    refine J_icmp_ge_n 35 dX11_isMode_4 (by decide) (fun c4 => ?_) (fun c4 => ?_)
    · omega
    · refine J_aload_n (by rfl) (by rfl) dX11_isMode_7 ?_
      refine J_ldcS (i := 37) dX11_isMode_8 rfl rfl rfl ?_
      refine J_iload_n (by rfl) dX11_isMode_10 ?_
      refine J_Str1v dX11_isMode_11 s_X11_204 m_J0_charAt_5068e rfl (by first | assumption | rfl) rfl (c_J0_charAt (i := 37) (j := 1) str_37 (by decide) (jKv_i ?_))
      refine J_topi (nI 110) rfl ?_
      refine J_V1v (ci := 11) dX11_isMode_14 s_X11_208 m_X11_isSign rfl (by repeat (first | assumption | exact jget_same2 (by (try simp only [List.length_set]); exact jlt (by assumption)) | refine jget_ne (by first | decide | assumption | omega) ?_)) rfl (c_X11_isSign (c := 110) hs hp (by decide) htx hM hT (fun e => (jKv_i ?_)) (fun e => (jKv_i ?_)))
      · rw [if_pos e] at hi
        refine J_if_eq_b 29 dX11_isMode_17 (by decide) (fun c17 => ?_) (fun c17 => ?_)
        · exact absurd c17 (by decide)
        · refine J_aload_n (by rfl) (by rfl) dX11_isMode_20 ?_
          refine J_get dX11_isMode_21 f_X11_38 (by repeat (first | assumption | exact jget_same2 (by (try simp only [List.length_set]); exact jlt (by assumption)) | refine jget_ne (by first | decide | assumption | omega) ?_)) (by rfl) ?_
          refine J_iload_n (by rfl) dX11_isMode_24 ?_
          refine J_iload_n (by rfl) dX11_isMode_25 ?_
          refine J_iast_n (at_) dX11_isMode_26 (by repeat (first | assumption | exact jget_same2 (by (try simp only [List.length_set]); exact jlt (by assumption)) | refine jget_ne (by first | decide | assumption | omega) ?_)) (by first | rfl | (simp only [pk_mul, nI_add]; done) | (simp only [pk_mul, nI_add]; congr 1; omega) | (congr 1; omega)) (by omega) ?_
          refine J_iconst (nI 1) (by decide) dX11_isMode_27 ?_
          exact J_zreturn dX11_isMode_28 rfl (by rfl) (hQ1 1 hi (hlt _ (by decide) e)) (by decide) (by decide) (fun _ => rfl)
      · rw [if_neg e] at hi
        refine J_if_eq_b 29 dX11_isMode_17 (by decide) (fun c17 => ?_) (fun c17 => ?_)
        · refine J_iinc_2 (nI 1) dX11_isMode_29 (by decide) ?_
          try rw [nI_add]
          refine J_goto 2 dX11_isMode_32 (by decide) ?_
          exact f2 hi
        · exact absurd c17 (by decide)
  have f0 : itm (sg tx tp) he 77 = (if sg tx tp he = 101 then some (he + 1, [0]) else if sg tx tp he = 110 then some (he + 1, [1]) else if sg tx tp he = 102 then some (he + 1, [2]) else none) → J G (jR 5 0 0) (jFin G Q X 0 0) M_X11_isMode X 0 0 2 [some (.ref 116), some (.int (nI at_)), some (.int (nI 0))] [] h := by
    intro hi
    refine J_iload_n (by rfl) dX11_isMode_2 ?_
    refine J_iconst (nI 3) (by decide) dX11_isMode_3 ?_
    refine J_icmp_ge_n 35 dX11_isMode_4 (by decide) (fun c4 => ?_) (fun c4 => ?_)
    · omega
    · refine J_aload_n (by rfl) (by rfl) dX11_isMode_7 ?_
      refine J_ldcS (i := 37) dX11_isMode_8 rfl rfl rfl ?_
      refine J_iload_n (by rfl) dX11_isMode_10 ?_
      refine J_Str1v dX11_isMode_11 s_X11_204 m_J0_charAt_5068e rfl (by first | assumption | rfl) rfl (c_J0_charAt (i := 37) (j := 0) str_37 (by decide) (jKv_i ?_))
      refine J_topi (nI 101) rfl ?_
      refine J_V1v (ci := 11) dX11_isMode_14 s_X11_208 m_X11_isSign rfl (by repeat (first | assumption | exact jget_same2 (by (try simp only [List.length_set]); exact jlt (by assumption)) | refine jget_ne (by first | decide | assumption | omega) ?_)) rfl (c_X11_isSign (c := 101) hs hp (by decide) htx hM hT (fun e => (jKv_i ?_)) (fun e => (jKv_i ?_)))
      · rw [if_pos e] at hi
        refine J_if_eq_b 29 dX11_isMode_17 (by decide) (fun c17 => ?_) (fun c17 => ?_)
        · exact absurd c17 (by decide)
        · refine J_aload_n (by rfl) (by rfl) dX11_isMode_20 ?_
          refine J_get dX11_isMode_21 f_X11_38 (by repeat (first | assumption | exact jget_same2 (by (try simp only [List.length_set]); exact jlt (by assumption)) | refine jget_ne (by first | decide | assumption | omega) ?_)) (by rfl) ?_
          refine J_iload_n (by rfl) dX11_isMode_24 ?_
          refine J_iload_n (by rfl) dX11_isMode_25 ?_
          refine J_iast_n (at_) dX11_isMode_26 (by repeat (first | assumption | exact jget_same2 (by (try simp only [List.length_set]); exact jlt (by assumption)) | refine jget_ne (by first | decide | assumption | omega) ?_)) (by first | rfl | (simp only [pk_mul, nI_add]; done) | (simp only [pk_mul, nI_add]; congr 1; omega) | (congr 1; omega)) (by omega) ?_
          refine J_iconst (nI 1) (by decide) dX11_isMode_27 ?_
          exact J_zreturn dX11_isMode_28 rfl (by rfl) (hQ1 0 hi (hlt _ (by decide) e)) (by decide) (by decide) (fun _ => rfl)
      · rw [if_neg e] at hi
        refine J_if_eq_b 29 dX11_isMode_17 (by decide) (fun c17 => ?_) (fun c17 => ?_)
        · refine J_iinc_2 (nI 1) dX11_isMode_29 (by decide) ?_
          try rw [nI_add]
          refine J_goto 2 dX11_isMode_32 (by decide) ?_
          exact f1 hi
        · exact absurd c17 (by decide)
  refine J_iconst (nI 0) (by decide) dX11_isMode_0 ?_
  refine J_istore_2 dX11_isMode_1 ?_
  exact f0 hi
end MP
