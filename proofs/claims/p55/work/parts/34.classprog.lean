/-! The class's parser: a command, a program -/
theorem cl_s {tx : Nat → Nat} {tp : Nat} : ∀ (w : List Nat) (p : Nat), p ≤ tp → (∀ c, c ∈ w → c < 65536) → p + cl (sg tx tp) w p ≤ tp
  | [], p, h, _ => h
  | c :: r, p, h, hc => by
    unfold cl
    split
    · rename_i e
      have h1 := (sg_lt (hc c List.mem_cons_self)).mp e
      have := cl_s (tx := tx) (tp := tp) r (p + 1) (by omega) (fun d hd => hc d (List.mem_cons_of_mem _ hd))
      omega
    · exact h
theorem opn_lt {k : Nat} (hk : k ≤ 8) : ∀ c, c ∈ opn k → c < 65536 := by
  have h : ∀ k, k < 9 → ∀ c, c ∈ opn k → c < 65536 := by decide
  exact h k (by omega)
theorem opn_len {k : Nat} (hk : k ≤ 8) : 4 ≤ (opn k).length ∧ (opn k).length ≤ 7 := by
  have h : ∀ k, k < 9 → 4 ≤ (opn k).length ∧ (opn k).length ≤ 7 := by decide
  exact h k (by omega)
theorem tal_hd {k : Nat} (hk : k ≤ 8) : tal k = [] ∨ ∃ c r, tal k = c :: r ∧ phd c := by
  rcases (show k = 0 ∨ k = 1 ∨ k = 2 ∨ k = 3 ∨ k = 4 ∨ k = 5 ∨ k = 6 ∨ k = 7 ∨ k = 8 by omega) with rfl | rfl | rfl | rfl | rfl | rfl | rfl | rfl | rfl
  · exact .inr ⟨_, _, rfl, .inl rfl⟩
  · exact .inr ⟨_, _, rfl, .inl rfl⟩
  · exact .inr ⟨_, _, rfl, .inl rfl⟩
  · exact .inr ⟨_, _, rfl, .inl rfl⟩
  · exact .inr ⟨_, _, rfl, .inr (.inr rfl)⟩
  · exact .inr ⟨_, _, rfl, .inl rfl⟩
  · exact .inr ⟨_, _, rfl, .inl rfl⟩
  · exact .inr ⟨_, _, rfl, .inl rfl⟩
  · exact .inl rfl
theorem tal_ar {k : Nat} (hk : k ≤ 8) : arp (tal k) ≤ 3 := by
  have h : ∀ k, k < 9 → arp (tal k) ≤ 3 := by decide
  exact h k (by omega)
theorem tal_lt {k : Nat} (hk : k ≤ 8) : ∀ c, c ∈ tal k → c < 65536 := by
  have h : ∀ k, k < 9 → ∀ c, c ∈ tal k → c < 65536 := by decide
  exact h k (by omega)
/-- the commands stand in the class's rows -/
def cmdsAre (n : Nat) (ks as_ : Nat → Nat) (L : List (Nat × List Nat)) : Prop := L.length = n ∧ ∀ i, i < n → ∃ K V, L[i]? = some (K, V) ∧ K ≤ 8 ∧ ks i = K ∧ ∀ j, j < 3 → as_ (i * 3 + j) = V.getD j 0
theorem cmdsAre.push {n K : Nat} {ks as_ as' : Nat → Nat} {L : List (Nat × List Nat)} {V : List Nat} (h : cmdsAre n ks as_ L) (hK : K ≤ 8) (h1 : ∀ i, i < 3 → as' (n * 3 + i) = V.getD i 0) (h2 : ∀ j, j < n * 3 → as' j = as_ j) : cmdsAre (n + 1) (updN ks n K) as' (L ++ [(K, V)]) := by
  refine ⟨by rw [List.length_append, h.1]; rfl, fun i hi => ?_⟩
  by_cases e : i = n
  · subst e
    refine ⟨K, V, ?_, hK, updN_s, h1⟩
    rw [List.getElem?_append_right (by rw [h.1]; exact Nat.le_refl _), h.1, Nat.sub_self]; rfl
  · obtain ⟨K2, V2, a, b, c, d⟩ := h.2 i (by omega)
    refine ⟨K2, V2, ?_, b, by rw [updN_n e]; exact c, fun j hj => by rw [h2 _ (by omega)]; exact d j hj⟩
    rw [List.getElem?_append_left (by rw [h.1]; omega)]; exact a
section CP3
variable {G : jG} {X : Bool} {h : jH} {Q : jQ_} {sz po ct vc : Nat} {tx ks as_ vs : Nat → Nat}
theorem c_X6_commonLength {i : Nat} {A B : List Nat} (ss : strIs i (A ++ B)) (hA : ∀ c, c ∈ A → c < 65536) (hA7 : A.length ≤ 7) (hs : sz ≤ 60) (hp : po ≤ sz) (htx : ∀ k, k < sz → tx k < 65536) (hO : h[109]? = some (hPg sz po ct vc)) (hT : h[110]? = some (ca 60 tx))
    (hQ : Q (.inl (some (.int (nI (cl (sg tx sz) A po))))) h) : jCT G M_X6_commonLength 5 0 0 X [.ref 109, .retAddr (2 * i + 2), .int (nI A.length)] h Q := by
  refine jCT_of [some (.ref 109), some (.retAddr (2 * i + 2)), some (.int (nI A.length)), none] 1 rfl (by decide +kernel) rfl rfl ?_
  obtain ⟨q, hq, w2, w3, w4, w5⟩ := ss
  have ss : strIs i (A ++ B) := ⟨q, hq, w2, w3, w4, w5⟩
  have hlen : (A ++ B).length = A.length + B.length := List.length_append
  refine J_iconst (nI 0) (by decide) dX6_commonLength_0 ?_
  refine J_istore_3 dX6_commonLength_1 ?_
  suffices loop : ∀ j, j ≤ A.length → cl (sg tx sz) A po = j + cl (sg tx sz) (A.drop j) (po + j) → J G (jR 5 0 0) (jFin G Q X 0 0) M_X6_commonLength X 0 0 2 [some (.ref 109), some (.retAddr (2 * i + 2)), some (.int (nI A.length)), some (.int (nI j))] [] h by
    exact loop 0 (by omega) (by rw [Nat.zero_add]; rfl)
  refine up_ind A.length (fun j hj ih e => ?_)
  refine J_iload_n (by rfl) dX6_commonLength_2 ?_
  refine J_iload_n (by rfl) dX6_commonLength_3 ?_
  refine J_icmp_ge_n 34 dX6_commonLength_4 (by decide) (fun c4 => ?_) (fun c4 => ?_)
  · have hz : cl (sg tx sz) A po = j := by rw [e, List.drop_eq_nil_of_le (by omega)]; rfl
    rw [hz] at hQ
    refine J_iload_n (by rfl) dX6_commonLength_34 ?_
    exact J_ireturn dX6_commonLength_35 rfl (hQ) (by decide) (by decide) (fun _ => rfl)
  · have hdr : A.drop j = A[j] :: A.drop (j + 1) := List.drop_eq_getElem_cons c4
    have hx : (A ++ B).getD j 0 = A[j] := by rw [List.getD_eq_getElem?_getD, List.getElem?_append_left c4, List.getElem?_eq_getElem c4]; rfl
    have hcm := hA _ (List.getElem_mem c4)
    refine J_iload_n (by rfl) dX6_commonLength_7 ?_
    refine J_aload_n (by rfl) (by rfl) dX6_commonLength_8 ?_
    refine J_Str0v dX6_commonLength_9 s_X6_80 m_J0_length_8abf5 rfl (by first | assumption | rfl) rfl (c_J0_length ss (jKv_i ?_))
    refine J_icmp_ge_n 34 dX6_commonLength_12 (by decide) (fun c12 => ?_) (fun c12 => ?_)
    · omega
    · refine J_aload_n (by rfl) (by rfl) dX6_commonLength_15 ?_
      refine J_iload_n (by rfl) dX6_commonLength_16 ?_
      refine J_aload_n (by rfl) (by rfl) dX6_commonLength_17 ?_
      refine J_iload_n (by rfl) dX6_commonLength_18 ?_
      refine J_Str1v dX6_commonLength_19 s_X6_85 m_J0_charAt_5068e rfl (by first | assumption | rfl) rfl (c_J0_charAt ss (by omega) (jKv_i ?_))
      rw [hx]
      refine J_V2v (ci := 6) dX6_commonLength_22 s_X6_103 m_X6_isHere rfl (by repeat (first | assumption | exact jget_same2 (by (try simp only [List.length_set]); exact jlt (by assumption)) | refine jget_ne (by first | decide | assumption | omega) ?_)) rfl (c_X6_isHere (a := j) hs (by omega) (by omega) hcm htx hO hT (jKv_i ?_))
      refine J_if_eq_b 34 dX6_commonLength_25 (by decide) (fun c25 => ?_) (fun c25 => ?_)
      · have c25 := of_decide_eq_false c25
        have hz : cl (sg tx sz) A po = j := by rw [e, hdr, cl_no c25]; rfl
        rw [hz] at hQ
        refine J_iload_n (by rfl) dX6_commonLength_34 ?_
        exact J_ireturn dX6_commonLength_35 rfl (hQ) (by decide) (by decide) (fun _ => rfl)
      · have c25 := of_decide_eq_true c25
        refine J_iinc_3 (nI 1) dX6_commonLength_28 (by decide) ?_
        try rw [nI_add]
        refine J_goto 2 dX6_commonLength_31 (by decide) ?_
        exact ih c4 (by rw [e, hdr, cl_yes c25, Nat.add_assoc po j 1]; omega)
theorem c_X6_parseOpening (hs : sz ≤ 60) (hp : po ≤ sz) (htx : ∀ k, k < sz → tx k < 65536) (hO : h[109]? = some (hPg sz po ct vc)) (hT : h[110]? = some (ca 60 tx))
    (hQ1 : ∀ k, k ≤ 8 → cl (sg tx sz) (opn k) po = (opn k).length → Q (.inl (some (.int (nI k)))) (h.set 109 (hPg sz (po + (opn k).length) ct vc)))
    (hQ2 : (∀ k, k < 9 → cl (sg tx sz) (opn k) po ≠ (opn k).length) → Q (.inl (some (.int (-1)))) (h.set 109 (hPg sz (po + mx (sg tx sz) po 9) ct vc))) : jCT G M_X6_parseOpening 6 0 0 X [.ref 109] h Q := by
  refine jCT_of [some (.ref 109), none, none, none, none, none] 5 rfl (by decide +kernel) rfl rfl ?_
  refine J_iconst (nI 0) (by decide) dX6_parseOpening_0 ?_
  refine J_istore_1 dX6_parseOpening_1 ?_
  refine J_iconst (nI 0) (by decide) dX6_parseOpening_2 ?_
  refine J_istore_2 dX6_parseOpening_3 ?_
  suffices loop : ∀ k, k ≤ 9 → (∀ j, j < k → cl (sg tx sz) (opn j) po ≠ (opn j).length) → mx (sg tx sz) po k ≤ 60 → ∀ l3 l4 l5, J G (jR 6 0 0) (jFin G Q X 0 0) M_X6_parseOpening X 0 0 4 [some (.ref 109), some (.int (nI (mx (sg tx sz) po k))), some (.int (nI k)), l3, l4, l5] [] h by
    exact loop 0 (by omega) (fun j hj => by omega) (show 0 ≤ 60 by omega) _ _ _
  refine up_ind 9 (fun k hk ih hno hmx l3 l4 l5 => ?_)
  refine J_iload_n (by rfl) dX6_parseOpening_4 ?_
  refine J_bipush (nI 9) (by decide) dX6_parseOpening_5 ?_
  refine J_icmp_ge_n 69 dX6_parseOpening_7 (by decide) (fun c7 => ?_) (fun c7 => ?_)
  · have he : k = 9 := by omega
    subst he
    refine J_aload_n (by rfl) (by rfl) dX6_parseOpening_69 ?_
    refine J_dup (by rfl) dX6_parseOpening_70 ?_
    refine J_get dX6_parseOpening_71 f_X6_51 (by repeat (first | assumption | exact jget_same2 (by (try simp only [List.length_set]); exact jlt (by assumption)) | refine jget_ne (by first | decide | assumption | omega) ?_)) (by rfl) ?_
    refine J_iload_n (by rfl) dX6_parseOpening_74 ?_
    refine J_iadd dX6_parseOpening_75 ?_
    try rw [nI_add]
    refine J_put_5 dX6_parseOpening_76 p_X6_51 (by repeat (first | assumption | exact jget_same2 (by (try simp only [List.length_set]); exact jlt (by assumption)) | refine jget_ne (by first | decide | assumption | omega) ?_)) ?_
    refine J_iconst (-1) (by decide) dX6_parseOpening_79 ?_
    exact J_ireturn dX6_parseOpening_80 rfl (hQ2 hno) (by decide) (by decide) (fun _ => rfl)
  · have hk8 : k ≤ 8 := by omega
    have hol := opn_len hk8
    have hcl := cl_s (tx := tx) (tp := sz) (opn k) po hp (opn_lt hk8)
    refine J_iload_n (by rfl) dX6_parseOpening_10 ?_
    refine J_S1v dX6_parseOpening_11 s_X6_72 m_X6_patternOf rfl (c_X6_patternOf hk8 (jKv_i ?_))
    refine J_astore_3 dX6_parseOpening_14 ?_
    refine J_aload_n (by rfl) (by rfl) dX6_parseOpening_15 ?_
    refine J_S1v dX6_parseOpening_16 s_X6_76 m_X6_openingLength rfl (c_X6_openingLength (pat_is hk8) (opn_ph hk8) (tal_hd hk8) (jKv_i ?_))
    refine J_istore_4 dX6_parseOpening_19 ?_
    refine J_aload_n (by rfl) (by rfl) dX6_parseOpening_21 ?_
    refine J_aload_n (by rfl) (by rfl) dX6_parseOpening_22 ?_
    refine J_iload (by rfl) dX6_parseOpening_23 ?_
    refine J_V2v (ci := 6) dX6_parseOpening_25 s_X6_96 m_X6_commonLength rfl (by repeat (first | assumption | exact jget_same2 (by (try simp only [List.length_set]); exact jlt (by assumption)) | refine jget_ne (by first | decide | assumption | omega) ?_)) rfl (c_X6_commonLength (pat_is hk8) (opn_lt hk8) hol.2 hs hp htx hO hT (jKv_i ?_))
    refine J_istore_5 dX6_parseOpening_28 ?_
    refine J_iload (by rfl) dX6_parseOpening_30 ?_
    refine J_iload (by rfl) dX6_parseOpening_32 ?_
    refine J_icmp_ne_n 50 dX6_parseOpening_34 (by decide) (fun c34 => ?_) (fun c34 => ?_)
    · refine J_iload (by rfl) dX6_parseOpening_50 ?_
      refine J_iload_n (by rfl) dX6_parseOpening_52 ?_
      refine J_icmp_le_n 61 dX6_parseOpening_53 (by decide) (fun c53 => ?_) (fun c53 => ?_)
      · have hmk : mx (sg tx sz) po (k + 1) = mx (sg tx sz) po k := by show (if _ then _ else _) = _; rw [if_neg (by omega)]
        refine J_iload_n (by rfl) dX6_parseOpening_61 ?_
        refine J_istore_1 dX6_parseOpening_62 ?_
        refine J_iinc_2 (nI 1) dX6_parseOpening_63 (by decide) ?_
        try rw [nI_add]
        refine J_goto 4 dX6_parseOpening_66 (by decide) ?_
        have := ih (by omega) (fun j hj => by
          by_cases e : j = k
          · subst e; exact c34
          · exact hno j (by omega)) (by omega)
        rw [hmk] at this
        exact this _ _ _
      · have hmk : mx (sg tx sz) po (k + 1) = cl (sg tx sz) (opn k) po := by show (if _ then _ else _) = _; rw [if_pos (by omega)]
        refine J_iload (by rfl) dX6_parseOpening_56 ?_
        refine J_goto 62 dX6_parseOpening_58 (by decide) ?_
        refine J_istore_1 dX6_parseOpening_62 ?_
        refine J_iinc_2 (nI 1) dX6_parseOpening_63 (by decide) ?_
        try rw [nI_add]
        refine J_goto 4 dX6_parseOpening_66 (by decide) ?_
        have := ih (by omega) (fun j hj => by
          by_cases e : j = k
          · subst e; exact c34
          · exact hno j (by omega)) (by omega)
        rw [hmk] at this
        exact this _ _ _
    · refine J_aload_n (by rfl) (by rfl) dX6_parseOpening_37 ?_
      refine J_dup (by rfl) dX6_parseOpening_38 ?_
      refine J_get dX6_parseOpening_39 f_X6_51 (by repeat (first | assumption | exact jget_same2 (by (try simp only [List.length_set]); exact jlt (by assumption)) | refine jget_ne (by first | decide | assumption | omega) ?_)) (by rfl) ?_
      refine J_iload (by rfl) dX6_parseOpening_42 ?_
      refine J_iadd dX6_parseOpening_44 ?_
      try rw [nI_add]
      refine J_put_5 dX6_parseOpening_45 p_X6_51 (by repeat (first | assumption | exact jget_same2 (by (try simp only [List.length_set]); exact jlt (by assumption)) | refine jget_ne (by first | decide | assumption | omega) ?_)) ?_
      refine J_iload_n (by rfl) dX6_parseOpening_48 ?_
      exact J_ireturn dX6_parseOpening_49 rfl (hQ1 k hk8 c34) (by decide) (by decide) (fun _ => rfl)
theorem c_X6_clearValues (hO : h[109]? = some (hPg sz po ct vc)) (hV : h[113]? = some (ia 3 vs)) (hQ : ∀ vs', (∀ i, i < 3 → vs' i = 0) → Q (.inl none) ((h.set 109 (hPg sz po ct 0)).set 113 (ia 3 vs'))) : jCT G M_X6_clearValues 1 0 0 X [.ref 109] h Q := by
  refine jCT_of [some (.ref 109), none] 1 rfl (by decide +kernel) rfl rfl ?_
  refine J_aload_n (by rfl) (by rfl) dX6_clearValues_0 ?_
  refine J_iconst (nI 0) (by decide) dX6_clearValues_1 ?_
  refine J_put_7 dX6_clearValues_2 p_X6_120 (by repeat (first | assumption | exact jget_same2 (by (try simp only [List.length_set]); exact jlt (by assumption)) | refine jget_ne (by first | decide | assumption | omega) ?_)) ?_
  refine J_iconst (nI 0) (by decide) dX6_clearValues_5 ?_
  refine J_istore_1 dX6_clearValues_6 ?_
  suffices loop : ∀ i, i ≤ 3 → ∀ vs', (∀ k, k < i → vs' k = 0) → J G (jR 1 0 0) (jFin G Q X 0 0) M_X6_clearValues X 0 0 7 [some (.ref 109), some (.int (nI i))] [] ((h.set 109 (hPg sz po ct 0)).set 113 (ia 3 vs')) by
    have := loop 0 (by omega) vs (fun k hk => by omega)
    rw [hset_id (show (h.set 109 (hPg sz po ct 0))[113]? = some (ia 3 vs) from (by repeat (first | assumption | exact jget_same2 (by (try simp only [List.length_set]); exact jlt (by assumption)) | refine jget_ne (by first | decide | assumption | omega) ?_)))] at this
    exact this
  refine up_ind 3 (fun i hi ih vs' hv => ?_)
  refine J_iload_n (by rfl) dX6_clearValues_7 ?_
  refine J_iconst (nI 3) (by decide) dX6_clearValues_8 ?_
  refine J_icmp_ge_n 25 dX6_clearValues_9 (by decide) (fun c9 => ?_) (fun c9 => ?_)
  · exact J_return dX6_clearValues_25 rfl (hQ vs' (fun k hk => hv k (by omega))) (by decide) (by decide) (fun _ => rfl)
  · refine J_aload_n (by rfl) (by rfl) dX6_clearValues_12 ?_
    refine J_get dX6_clearValues_13 f_X6_22 (by repeat (first | assumption | exact jget_same2 (by (try simp only [List.length_set]); exact jlt (by assumption)) | refine jget_ne (by first | decide | assumption | omega) ?_)) (by rfl) ?_
    refine J_iload_n (by rfl) dX6_clearValues_16 ?_
    refine J_iconst (nI 0) (by decide) dX6_clearValues_17 ?_
    refine J_iast_n (i) dX6_clearValues_18 (by repeat (first | assumption | exact jget_same2 (by (try simp only [List.length_set]); exact jlt (by assumption)) | refine jget_ne (by first | decide | assumption | omega) ?_)) (by first | rfl | (simp only [pk_mul, nI_add]; done) | (simp only [pk_mul, nI_add]; congr 1; omega) | (congr 1; omega)) (by omega) ?_
    refine J_iinc_1 (nI 1) dX6_clearValues_19 (by decide) ?_
    try rw [nI_add]
    refine J_goto 7 dX6_clearValues_22 (by decide) ?_
    rw [List.set_set]
    exact ih c9 _ (fun k hk => by unfold updN; split; rfl; exact hv k (by omega))
theorem c_X6_store {k : Nat} (hc : ct < 13) (hO : h[109]? = some (hPg sz po ct vc)) (hK : h[111]? = some (ia 13 ks)) (hA : h[112]? = some (ia 39 as_)) (hV : h[113]? = some (ia 3 vs))
    (hQ : ∀ as', (∀ i, i < 3 → as' (ct * 3 + i) = vs i) → (∀ j, j < ct * 3 → as' j = as_ j) → Q (.inl none) (((h.set 111 (ia 13 (updN ks ct k))).set 112 (ia 39 as')).set 109 (hPg sz po (ct + 1) vc))) : jCT G M_X6_store 2 0 0 X [.ref 109, .int (nI k)] h Q := by
  refine jCT_of [some (.ref 109), some (.int (nI k)), none] 1 rfl (by decide +kernel) rfl rfl ?_
  refine J_aload_n (by rfl) (by rfl) dX6_store_0 ?_
  refine J_get dX6_store_1 f_X6_54 (by repeat (first | assumption | exact jget_same2 (by (try simp only [List.length_set]); exact jlt (by assumption)) | refine jget_ne (by first | decide | assumption | omega) ?_)) (by rfl) ?_
  refine J_iconst (nI 0) (by decide) dX6_store_4 ?_
  refine J_bipush (nI 12) (by decide) dX6_store_5 ?_
  refine J_SN3v dX6_store_7 s_X6_29 m_X10_isWithin rfl (c_X10_isWithin_n (by omega) (by omega) (jKv_i ?_))
  refine J_if_ne_b 14 dX6_store_10 (by decide) (fun c10 => ?_) (fun c10 => ?_)
  · refine J_aload_n (by rfl) (by rfl) dX6_store_14 ?_
    refine J_get dX6_store_15 f_X6_15 (by repeat (first | assumption | exact jget_same2 (by (try simp only [List.length_set]); exact jlt (by assumption)) | refine jget_ne (by first | decide | assumption | omega) ?_)) (by rfl) ?_
    refine J_aload_n (by rfl) (by rfl) dX6_store_18 ?_
    refine J_get dX6_store_19 f_X6_54 (by repeat (first | assumption | exact jget_same2 (by (try simp only [List.length_set]); exact jlt (by assumption)) | refine jget_ne (by first | decide | assumption | omega) ?_)) (by rfl) ?_
    refine J_iload_n (by rfl) dX6_store_22 ?_
    refine J_iast_n (ct) dX6_store_23 (by repeat (first | assumption | exact jget_same2 (by (try simp only [List.length_set]); exact jlt (by assumption)) | refine jget_ne (by first | decide | assumption | omega) ?_)) (by first | rfl | (simp only [pk_mul, nI_add]; done) | (simp only [pk_mul, nI_add]; congr 1; omega) | (congr 1; omega)) (by omega) ?_
    refine J_iconst (nI 0) (by decide) dX6_store_24 ?_
    refine J_istore_2 dX6_store_25 ?_
    suffices loop : ∀ i, i ≤ 3 → ∀ as', (∀ q, q < i → as' (ct * 3 + q) = vs q) → (∀ j, j < ct * 3 → as' j = as_ j) → J G (jR 2 0 0) (jFin G Q X 0 0) M_X6_store X 0 0 26 [some (.ref 109), some (.int (nI k)), some (.int (nI i))] [] ((h.set 111 (ia 13 (updN ks ct k))).set 112 (ia 39 as')) by
      have := loop 0 (by omega) as_ (fun k hk => by omega) (fun _ _ => rfl)
      rw [hset_id (show (h.set 111 (ia 13 (updN ks ct k)))[112]? = some (ia 39 as_) from (by repeat (first | assumption | exact jget_same2 (by (try simp only [List.length_set]); exact jlt (by assumption)) | refine jget_ne (by first | decide | assumption | omega) ?_)))] at this
      exact this
    refine up_ind 3 (fun i hi ih as' h1 h2 => ?_)
    refine J_iload_n (by rfl) dX6_store_26 ?_
    refine J_iconst (nI 3) (by decide) dX6_store_27 ?_
    refine J_icmp_ge_n 56 dX6_store_28 (by decide) (fun c28 => ?_) (fun c28 => ?_)
    · refine J_aload_n (by rfl) (by rfl) dX6_store_56 ?_
      refine J_dup (by rfl) dX6_store_57 ?_
      refine J_get dX6_store_58 f_X6_54 (by repeat (first | assumption | exact jget_same2 (by (try simp only [List.length_set]); exact jlt (by assumption)) | refine jget_ne (by first | decide | assumption | omega) ?_)) (by rfl) ?_
      refine J_iconst (nI 1) (by decide) dX6_store_61 ?_
      refine J_iadd dX6_store_62 ?_
      try rw [nI_add]
      refine J_put_6 dX6_store_63 p_X6_54 (by repeat (first | assumption | exact jget_same2 (by (try simp only [List.length_set]); exact jlt (by assumption)) | refine jget_ne (by first | decide | assumption | omega) ?_)) ?_
      exact J_return dX6_store_66 rfl (hQ as' (fun q hq => h1 q (by omega)) h2) (by decide) (by decide) (fun _ => rfl)
    · refine J_aload_n (by rfl) (by rfl) dX6_store_31 ?_
      refine J_get dX6_store_32 f_X6_19 (by repeat (first | assumption | exact jget_same2 (by (try simp only [List.length_set]); exact jlt (by assumption)) | refine jget_ne (by first | decide | assumption | omega) ?_)) (by rfl) ?_
      refine J_aload_n (by rfl) (by rfl) dX6_store_35 ?_
      refine J_get dX6_store_36 f_X6_54 (by repeat (first | assumption | exact jget_same2 (by (try simp only [List.length_set]); exact jlt (by assumption)) | refine jget_ne (by first | decide | assumption | omega) ?_)) (by rfl) ?_
      refine J_iconst (nI 3) (by decide) dX6_store_39 ?_
      refine J_imul dX6_store_40 ?_
      try rw [pk_mul]
      refine J_iload_n (by rfl) dX6_store_41 ?_
      refine J_iadd dX6_store_42 ?_
      try rw [nI_add]
      refine J_aload_n (by rfl) (by rfl) dX6_store_43 ?_
      refine J_get dX6_store_44 f_X6_22 (by repeat (first | assumption | exact jget_same2 (by (try simp only [List.length_set]); exact jlt (by assumption)) | refine jget_ne (by first | decide | assumption | omega) ?_)) (by rfl) ?_
      refine J_iload_n (by rfl) dX6_store_47 ?_
      refine J_iald_n (i) dX6_store_48 (by repeat (first | assumption | exact jget_same2 (by (try simp only [List.length_set]); exact jlt (by assumption)) | refine jget_ne (by first | decide | assumption | omega) ?_)) (by first | rfl | (simp only [pk_mul, nI_add]; done) | (simp only [pk_mul, nI_add]; congr 1; omega) | (congr 1; omega)) (by omega) ?_
      refine J_iast_n (ct * 3 + i) dX6_store_49 (by repeat (first | assumption | exact jget_same2 (by (try simp only [List.length_set]); exact jlt (by assumption)) | refine jget_ne (by first | decide | assumption | omega) ?_)) (by first | rfl | (simp only [pk_mul, nI_add]; done) | (simp only [pk_mul, nI_add]; congr 1; omega) | (congr 1; omega)) (by omega) ?_
      refine J_iinc_2 (nI 1) dX6_store_50 (by decide) ?_
      try rw [nI_add]
      refine J_goto 26 dX6_store_53 (by decide) ?_
      rw [List.set_set]
      refine ih c28 _ (fun q hq => ?_) (fun j hj => ?_)
      · by_cases e : q = i
        · subst e; rw [updN_s]
        · rw [updN_n (by omega)]; exact h1 q (by omega)
      · rw [updN_n (by omega)]; exact h2 j hj
  · have c10 : ¬ ct ≤ 12 := by simpa using c10
    omega
theorem its_le (g : Nat → Nat) : ∀ (r : List Nat) (p : Nat) (vs : List Nat), p ≤ (its g r p vs).2.1
  | [], p, vs => Nat.le_refl _
  | c :: r, p, vs => by
    rw [its_cons]
    cases hi : itm g p c with
    | none => exact Nat.le_refl _
    | some q =>
      have h1 : p ≤ q.1 := by
        unfold itm at hi
        repeat' (split at hi)
        all_goals (try (cases hi; try simp only [])) <;> omega
      exact Nat.le_trans h1 (its_le g r q.1 (vs ++ q.2))
theorem c_X6_parseCommand (hc : ct < 13) (hs : sz ≤ 60) (hp : po ≤ sz) (htx : ∀ k, k < sz → tx k < 65536) (hO : h[109]? = some (hPg sz po ct vc)) (hT : h[110]? = some (ca 60 tx)) (hKs : h[111]? = some (ia 13 ks)) (hAs : h[112]? = some (ia 39 as_)) (hV : h[113]? = some (ia 3 vs))
    (hQ1 : ∀ q V K as' vs' vc', cmdS (sg tx sz) po = ((true, q, V), K) → q ≤ sz → po + 4 ≤ q → K ≤ 8 → (∀ i, i < 3 → as' (ct * 3 + i) = V.getD i 0) → (∀ j, j < ct * 3 → as' j = as_ j) → Q (.inl (some (.int (jb true)))) ((((h.set 109 (hPg sz q (ct + 1) vc')).set 111 (ia 13 (updN ks ct K))).set 112 (ia 39 as')).set 113 (ia 3 vs')))
    (hQ2 : ∀ q V K vs' vc', cmdS (sg tx sz) po = ((false, q, V), K) → q ≤ sz → Q (.inl (some (.int (jb false)))) ((h.set 109 (hPg sz q ct vc')).set 113 (ia 3 vs'))) : jCT G M_X6_parseCommand 7 0 0 X [.ref 109] h Q := by
  refine jCT_of [some (.ref 109), none, none, none] 3 rfl (by decide +kernel) rfl rfl ?_
  refine J_aload_n (by rfl) (by rfl) dX6_parseCommand_0 ?_
  refine J_V00 (ci := 6) dX6_parseCommand_1 s_X6_65 m_X6_clearValues rfl (by repeat (first | assumption | exact jget_same2 (by (try simp only [List.length_set]); exact jlt (by assumption)) | refine jget_ne (by first | decide | assumption | omega) ?_)) rfl (c_X6_clearValues hO hV (fun vs1 hvs1 => (jK0_i ?_)))
  refine J_aload_n (by rfl) (by rfl) dX6_parseCommand_4 ?_
  refine J_V0v (ci := 6) dX6_parseCommand_5 s_X6_68 m_X6_parseOpening rfl (by repeat (first | assumption | exact jget_same2 (by (try simp only [List.length_set]); exact jlt (by assumption)) | refine jget_ne (by first | decide | assumption | omega) ?_)) rfl (c_X6_parseOpening (vc := 0) hs hp htx (by repeat (first | assumption | exact jget_same2 (by (try simp only [List.length_set]); exact jlt (by assumption)) | refine jget_ne (by first | decide | assumption | omega) ?_)) (by repeat (first | assumption | exact jget_same2 (by (try simp only [List.length_set]); exact jlt (by assumption)) | refine jget_ne (by first | decide | assumption | omega) ?_)) (fun k hk hfull => (jKv_i ?_)) (fun hno => (jKv_i ?_)))
  · have hcm := cmd_full hk hfull
    obtain ⟨qk, hqk, _, _, hb4, _⟩ := pat_is hk
    have hol := opn_len hk
    have hcl := cl_s (tx := tx) (tp := sz) (opn k) po hp (opn_lt hk)
    rw [jsw (i := 109) (j := 113) (by decide), List.set_set]
    refine J_istore_1 dX6_parseCommand_8 ?_
    refine J_iload_n (by rfl) dX6_parseCommand_9 ?_
    refine J_iconst (-1) (by decide) dX6_parseCommand_10 ?_
    refine J_icmp_ne 16 dX6_parseCommand_11 (by decide) (fun c11 => ?_) (fun c11 => ?_)
    · refine J_iload_n (by rfl) dX6_parseCommand_16 ?_
      refine J_S1v dX6_parseCommand_17 s_X6_72 m_X6_patternOf rfl (c_X6_patternOf hk (jKv_i ?_))
      refine J_astore_2 dX6_parseCommand_20 ?_
      refine J_aload_n (by rfl) (by rfl) dX6_parseCommand_21 ?_
      refine J_S1v dX6_parseCommand_22 s_X6_76 m_X6_openingLength rfl (c_X6_openingLength (pat_is hk) (opn_ph hk) (tal_hd hk) (jKv_i ?_))
      refine J_istore_3 dX6_parseCommand_25 ?_
      suffices loop : ∀ (r d : List Nat) (p : Nat) (V : List Nat) (vs1 : Nat → Nat), tal k = d ++ r → its (sg tx sz) (tal k) (po + (opn k).length) [] = its (sg tx sz) r p V → po + (opn k).length ≤ p → p ≤ sz → V.length + arp r ≤ 3 → (∀ i, i < 3 → vs1 i = V.getD i 0) → J G (jR 7 0 0) (jFin G Q X 0 0) M_X6_parseCommand X 0 0 26 [some (.ref 109), some (.int (nI k)), some (.retAddr (2 * (21 + k) + 2)), some (.int (nI ((opn k).length + d.length)))] [] ((h.set 109 (hPg sz p ct V.length)).set 113 (ia 3 vs1)) by
        have := loop (tal k) [] (po + (opn k).length) [] vs1 rfl rfl (Nat.le_refl _) (by omega) (by have := tal_ar hk; show 0 + _ ≤ 3; omega) (fun i hi => by rw [hvs1 i hi]; rfl)
        exact this
      intro r
      induction r with
      | nil =>
        intro d p V vs1 hd hits hpl hps har hvs
        rw [List.append_nil] at hd
        refine J_iload_n (by rfl) dX6_parseCommand_26 ?_
        refine J_aload_n (by rfl) (by rfl) dX6_parseCommand_27 ?_
        refine J_Str0v dX6_parseCommand_28 s_X6_80 m_J0_length_8abf5 rfl (by first | assumption | rfl) rfl (c_J0_length (pat_is hk) (jKv_i ?_))
        have hlen : (opn k ++ tal k).length = (opn k).length + d.length := by rw [List.length_append, hd]
        refine J_icmp_ge_n 54 dX6_parseCommand_31 (by decide) (fun c31 => ?_) (fun c31 => ?_)
        · rw [hits] at hcm
          refine J_aload_n (by rfl) (by rfl) dX6_parseCommand_54 ?_
          refine J_iload_n (by rfl) dX6_parseCommand_55 ?_
          refine J_V10 (ci := 6) dX6_parseCommand_56 s_X6_92 m_X6_store rfl (by repeat (first | assumption | exact jget_same2 (by (try simp only [List.length_set]); exact jlt (by assumption)) | refine jget_ne (by first | decide | assumption | omega) ?_)) rfl (c_X6_store (k := k) hc (by repeat (first | assumption | exact jget_same2 (by (try simp only [List.length_set]); exact jlt (by assumption)) | refine jget_ne (by first | decide | assumption | omega) ?_)) (by repeat (first | assumption | exact jget_same2 (by (try simp only [List.length_set]); exact jlt (by assumption)) | refine jget_ne (by first | decide | assumption | omega) ?_)) (by repeat (first | assumption | exact jget_same2 (by (try simp only [List.length_set]); exact jlt (by assumption)) | refine jget_ne (by first | decide | assumption | omega) ?_)) (by repeat (first | assumption | exact jget_same2 (by (try simp only [List.length_set]); exact jlt (by assumption)) | refine jget_ne (by first | decide | assumption | omega) ?_)) (fun as' h1 h2 => (jK0_i ?_)))
          refine J_iconst (nI 1) (by decide) dX6_parseCommand_59 ?_
          exact J_zreturn dX6_parseCommand_60 rfl (by first | rfl | exact jb_n _) (by
            have := hQ1 p V k as' vs1 V.length hcm hps (by omega) hk (fun i hi => by rw [h1 i hi, hvs i hi]) h2
            have e : ((((h.set 109 (hPg sz p (ct + 1) V.length)).set 111 (ia 13 (updN ks ct k))).set 112 (ia 39 as')).set 113 (ia 3 vs1)) = (((((h.set 109 (hPg sz p ct V.length)).set 113 (ia 3 vs1)).set 111 (ia 13 (updN ks ct k))).set 112 (ia 39 as')).set 109 (hPg sz p (ct + 1) V.length)) := by
              simp only [List.set_set, jsw (i := 109) (j := 111) (by decide), jsw (i := 109) (j := 112) (by decide), jsw (i := 109) (j := 113) (by decide), jsw (i := 111) (j := 112) (by decide), jsw (i := 111) (j := 113) (by decide), jsw (i := 112) (j := 113) (by decide)]
            rw [e] at this
            exact this) (by decide) (by decide) (fun _ => rfl)
        · omega
      | cons c r ihr =>
        intro d p V vs1 hd hits hpl hps har hvs
        have hlen : (opn k ++ tal k).length = (opn k).length + (d.length + (r.length + 1)) := by rw [List.length_append, hd, List.length_append]; rfl
        have hc9 : c < 65536 := tal_lt hk c (by rw [hd]; exact List.mem_append_right _ List.mem_cons_self)
        have hgd : (opn k ++ tal k).getD ((opn k).length + d.length) 0 = c := by
          rw [List.getD_eq_getElem?_getD, List.getElem?_append_right (by omega), hd, List.getElem?_append_right (by omega), show (opn k).length + d.length - (opn k).length - d.length = 0 by omega]; rfl
        have harc : arp (c :: r) = (if c = 78 ∨ c = 68 ∨ c = 77 then 1 else 0) + arp r := rfl
        refine J_iload_n (by rfl) dX6_parseCommand_26 ?_
        refine J_aload_n (by rfl) (by rfl) dX6_parseCommand_27 ?_
        refine J_Str0v dX6_parseCommand_28 s_X6_80 m_J0_length_8abf5 rfl (by first | assumption | rfl) rfl (c_J0_length (pat_is hk) (jKv_i ?_))
        refine J_icmp_ge_n 54 dX6_parseCommand_31 (by decide) (fun c31 => ?_) (fun c31 => ?_)
        · omega
        · refine J_aload_n (by rfl) (by rfl) dX6_parseCommand_34 ?_
          refine J_aload_n (by rfl) (by rfl) dX6_parseCommand_35 ?_
          refine J_iload_n (by rfl) dX6_parseCommand_36 ?_
          refine J_Str1v dX6_parseCommand_37 s_X6_85 m_J0_charAt_5068e rfl (by first | assumption | rfl) rfl (c_J0_charAt (pat_is hk) (by omega) (jKv_i ?_))
          rw [hgd]
          refine J_V1v (ci := 6) dX6_parseCommand_40 s_X6_89 m_X6_parsePart rfl (by repeat (first | assumption | exact jget_same2 (by (try simp only [List.length_set]); exact jlt (by assumption)) | refine jget_ne (by first | decide | assumption | omega) ?_)) rfl (c_X6_parsePart (V := V) (vs := vs1) hs hps hc9 (fun z => by rw [harc, if_pos (show c = 78 ∨ c = 68 ∨ c = 77 from z)] at har; omega) hvs htx (by repeat (first | assumption | exact jget_same2 (by (try simp only [List.length_set]); exact jlt (by assumption)) | refine jget_ne (by first | decide | assumption | omega) ?_)) (by repeat (first | assumption | exact jget_same2 (by (try simp only [List.length_set]); exact jlt (by assumption)) | refine jget_ne (by first | decide | assumption | omega) ?_)) (by repeat (first | assumption | exact jget_same2 (by (try simp only [List.length_set]); exact jlt (by assumption)) | refine jget_ne (by first | decide | assumption | omega) ?_)) (fun q l vs2 hi hq hl1 hl0 hvs2 => (jKv_i ?_)) (fun hi => (jKv_i ?_)))
          · refine J_if_ne_b 48 dX6_parseCommand_43 (by decide) (fun c43 => ?_) (fun c43 => ?_)
            · refine J_iinc_3 (nI 1) dX6_parseCommand_48 (by decide) ?_
              try rw [nI_add]
              refine J_goto 26 dX6_parseCommand_51 (by decide) ?_
              rw [jsw (i := 109) (j := 113) (by decide), List.set_set, List.set_set]
              have hq1 : p ≤ q := by have := its_le (sg tx sz) [c] p V; rw [its_some hi] at this; exact this
              have := ihr (d ++ [c]) q (V ++ l) vs2 (by rw [hd, List.append_assoc]; rfl) (by rw [hits, its_some hi]) (by omega) hq (by
                rw [List.length_append]
                by_cases z : phd c
                · rw [harc, if_pos (show c = 78 ∨ c = 68 ∨ c = 77 from z)] at har; have := hl1 z; omega
                · rw [harc, if_neg (show ¬ (c = 78 ∨ c = 68 ∨ c = 77) from z)] at har; rw [hl0 z]; simp only [List.length_nil]; omega) hvs2
              rw [show (opn k).length + (d ++ [c]).length = (opn k).length + d.length + 1 by simp; omega] at this
              exact this
            · exact absurd c43 (by decide)
          · refine J_if_ne_b 48 dX6_parseCommand_43 (by decide) (fun c43 => ?_) (fun c43 => ?_)
            · exact absurd c43 (by decide)
            · rw [hits, its_none hi] at hcm
              refine J_iconst (nI 0) (by decide) dX6_parseCommand_46 ?_
              exact J_zreturn dX6_parseCommand_47 rfl (by first | rfl | exact jb_n _) (hQ2 p V k vs1 V.length hcm hps) (by decide) (by decide) (fun _ => rfl)
    · exact absurd c11 (nI_neg1 (by omega))
  · obtain ⟨K, hcm⟩ := cmd_none hno
    rw [jsw (i := 109) (j := 113) (by decide), List.set_set]
    have hmx : po + mx (sg tx sz) po 9 ≤ sz := by
      rcases mx_at (sg tx sz) po 9 with e | ⟨k, hk, e⟩
      · omega
      · have := cl_s (tx := tx) (tp := sz) (opn k) po hp (opn_lt (by omega)); omega
    refine J_istore_1 dX6_parseCommand_8 ?_
    refine J_iload_n (by rfl) dX6_parseCommand_9 ?_
    refine J_iconst (-1) (by decide) dX6_parseCommand_10 ?_
    refine J_icmp_ne 16 dX6_parseCommand_11 (by decide) (fun c11 => ?_) (fun c11 => ?_)
    · exact absurd rfl c11
    · refine J_iconst (nI 0) (by decide) dX6_parseCommand_14 ?_
      exact J_zreturn dX6_parseCommand_15 rfl (by first | rfl | exact jb_n _) (hQ2 _ [] K vs1 0 hcm hmx) (by decide) (by decide) (fun _ => rfl)
end CP3
