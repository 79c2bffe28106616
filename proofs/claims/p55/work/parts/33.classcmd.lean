/-! The class's parser: pieces, commands, programs -/
theorem its_cons {g : Nat → Nat} {c p : Nat} {r vs : List Nat} : its g (c :: r) p vs = match itm g p c with
    | none => (false, p, vs)
    | some q => its g r q.1 (vs ++ q.2) := rfl
theorem its_none {g : Nat → Nat} {c p : Nat} {r vs : List Nat} (h : itm g p c = none) : its g (c :: r) p vs = (false, p, vs) := by rw [its_cons, h]
theorem its_some {g : Nat → Nat} {c p q : Nat} {r vs l : List Nat} (h : itm g p c = some (q, l)) : its g (c :: r) p vs = its g r q (vs ++ l) := by rw [its_cons, h]
/-- how many numbers a pattern has -/
def arp : List Nat → Nat
  | [] => 0
  | c :: r => (if c = 78 ∨ c = 68 ∨ c = 77 then 1 else 0) + arp r
theorem nd_t {g : Nat → Nat} {m p : Nat} (h : dgt g p = true) : nd g (m + 1) p = nd g m (p + 1) + 1 := by
  show (if dgt g p = true then _ else _) = _; rw [if_pos h]
theorem nd_f {g : Nat → Nat} {m p : Nat} (h : ¬ dgt g p = true) : nd g m p = 0 := by
  cases m with
  | zero => rfl
  | succ m => show (if dgt g p = true then _ else _) = _; rw [if_neg h]
theorem nv_t {g : Nat → Nat} {m p a : Nat} (h : dgt g p = true) : nv g (m + 1) p a = nv g m (p + 1) (10 * a + (g p - 48)) := by
  show (if dgt g p = true then _ else _) = _; rw [if_pos h]
theorem nv_f {g : Nat → Nat} {m p a : Nat} (h : ¬ dgt g p = true) : nv g m p a = a := by
  cases m with
  | zero => rfl
  | succ m => show (if dgt g p = true then _ else _) = _; rw [if_neg h]
theorem getD_app {V : List Nat} {v i : Nat} : (V ++ [v]).getD i 0 = if i = V.length then v else V.getD i 0 := by
  simp only [List.getD_eq_getElem?_getD]
  by_cases h : i < V.length
  · rw [if_neg (by omega), List.getElem?_append_left h]
  · rw [List.getElem?_append_right (by omega)]
    by_cases h2 : i = V.length
    · subst h2; rw [if_pos rfl, Nat.sub_self]; rfl
    · rw [if_neg h2, List.getElem?_eq_none (by simp; omega), List.getElem?_eq_none (by omega)]
section CP2
variable {G : jG} {X : Bool} {h : jH} {Q : jQ_} {sz po ct vc : Nat} {tx ks as_ vs : Nat → Nat}
theorem c_X6_parseNumber {m : Nat} (hm : m ≤ 3) (hs : sz ≤ 60) (hp : po ≤ sz) (hv : vc < 3) (htx : ∀ k, k < sz → tx k < 65536) (hO : h[109]? = some (hPg sz po ct vc)) (hT : h[110]? = some (ca 60 tx)) (hV : h[113]? = some (ia 3 vs))
    (hQ1 : nd (sg tx sz) m po ≠ 0 → Q (.inl (some (.int (jb true)))) ((h.set 109 (hPg sz (po + nd (sg tx sz) m po) ct (vc + 1))).set 113 (ia 3 (updN vs vc (nv (sg tx sz) m po 0))))) (hQ2 : nd (sg tx sz) m po = 0 → Q (.inl (some (.int (jb false)))) h) : jCT G M_X6_parseNumber 3 0 0 X [.ref 109, .int (nI m)] h Q := by
  refine jCT_of [some (.ref 109), some (.int (nI m)), none, none] 2 rfl (by decide +kernel) rfl rfl ?_
  have hns := nd_s (tx := tx) m po hp
  refine J_iconst (nI 0) (by decide) dX6_parseNumber_0 ?_
  refine J_istore_2 dX6_parseNumber_1 ?_
  refine J_iconst (nI 0) (by decide) dX6_parseNumber_2 ?_
  refine J_istore_3 dX6_parseNumber_3 ?_
  suffices loop : ∀ i, i ≤ m → ∀ v, nd (sg tx sz) m po = i + nd (sg tx sz) (m - i) (po + i) → nv (sg tx sz) m po 0 = nv (sg tx sz) (m - i) (po + i) v → v < 10000 → v < npow i → J G (jR 3 0 0) (jFin G Q X 0 0) M_X6_parseNumber X 0 0 4 [some (.ref 109), some (.int (nI m)), some (.int (nI v)), some (.int (nI i))] [] (h.set 109 (hPg sz (po + i) ct vc)) by
    have := loop 0 (by omega) 0 (by rw [Nat.zero_add, Nat.sub_zero, Nat.add_zero]) (by rw [Nat.sub_zero, Nat.add_zero]) (by omega) (by decide)
    rw [Nat.add_zero, hset_id hO] at this
    exact this
  refine up_ind m (fun i hi ih v e1 e2 hv2 hv3 => ?_)
  have fin : nd (sg tx sz) m po = i → nv (sg tx sz) m po 0 = v → J G (jR 3 0 0) (jFin G Q X 0 0) M_X6_parseNumber X 0 0 43 [some (.ref 109), some (.int (nI m)), some (.int (nI v)), some (.int (nI i))] [] (h.set 109 (hPg sz (po + i) ct vc)) := by
    intro f1 f2
    refine J_iload_n (by rfl) dX6_parseNumber_43 ?_
    refine J_if_ne_n 49 dX6_parseNumber_44 (by decide) (fun c44 => ?_) (fun c44 => ?_)
    · rw [f1, f2] at hQ1
      refine J_aload_n (by rfl) (by rfl) dX6_parseNumber_49 ?_
      refine J_iload_n (by rfl) dX6_parseNumber_50 ?_
      refine J_V10 (ci := 6) dX6_parseNumber_51 s_X6_117 m_X6_addValue rfl (by repeat (first | assumption | exact jget_same2 (by (try simp only [List.length_set]); exact jlt (by assumption)) | refine jget_ne (by first | decide | assumption | omega) ?_)) rfl (c_X6_addValue (vc := vc) (vs := vs) (by omega) (by repeat (first | assumption | exact jget_same2 (by (try simp only [List.length_set]); exact jlt (by assumption)) | refine jget_ne (by first | decide | assumption | omega) ?_)) (by repeat (first | assumption | exact jget_same2 (by (try simp only [List.length_set]); exact jlt (by assumption)) | refine jget_ne (by first | decide | assumption | omega) ?_)) (jK0_i ?_))
      refine J_iconst (nI 1) (by decide) dX6_parseNumber_54 ?_
      exact J_zreturn dX6_parseNumber_55 rfl (by first | rfl | exact jb_n _) (by
        rw [if_pos hv, jsw (i := 109) (j := 113) (by decide), List.set_set]
        exact hQ1 (by omega)) (by decide) (by decide) (fun _ => rfl)
    · subst c44
      rw [show po + 0 = po from Nat.add_zero po, hset_id hO]
      refine J_iconst (nI 0) (by decide) dX6_parseNumber_47 ?_
      exact J_zreturn dX6_parseNumber_48 rfl (by first | rfl | exact jb_n _) (hQ2 f1) (by decide) (by decide) (fun _ => rfl)
  refine J_iload_n (by rfl) dX6_parseNumber_4 ?_
  refine J_iload_n (by rfl) dX6_parseNumber_5 ?_
  refine J_icmp_ge_n 43 dX6_parseNumber_6 (by decide) (fun c6 => ?_) (fun c6 => ?_)
  · exact fin (by rw [e1, show m - i = 0 by omega]; rfl) (by rw [e2, show m - i = 0 by omega]; rfl)
  · refine J_aload_n (by rfl) (by rfl) dX6_parseNumber_9 ?_
    refine J_V0v (ci := 6) dX6_parseNumber_10 s_X6_114 m_X6_digitHere rfl (by repeat (first | assumption | exact jget_same2 (by (try simp only [List.length_set]); exact jlt (by assumption)) | refine jget_ne (by first | decide | assumption | omega) ?_)) rfl (c_X6_digitHere (po := po + i) hs (by omega) htx (by repeat (first | assumption | exact jget_same2 (by (try simp only [List.length_set]); exact jlt (by assumption)) | refine jget_ne (by first | decide | assumption | omega) ?_)) (by repeat (first | assumption | exact jget_same2 (by (try simp only [List.length_set]); exact jlt (by assumption)) | refine jget_ne (by first | decide | assumption | omega) ?_)) (jKv_i ?_))
    refine J_iconst (-1) (by decide) dX6_parseNumber_13 ?_
    by_cases hd : dgt (sg tx sz) (po + i) = true
    · have hd2 : 48 ≤ sg tx sz (po + i) ∧ sg tx sz (po + i) ≤ 57 := of_decide_eq_true hd
      rw [if_pos hd]
      have hm1 : m - i = (m - (i + 1)) + 1 := by omega
      refine J_icmp_eq 43 dX6_parseNumber_14 (by decide) (fun c14 => ?_) (fun c14 => ?_)
      · exact absurd c14 (nI_neg1 (by omega))
      · refine J_iload_n (by rfl) dX6_parseNumber_17 ?_
        refine J_bipush (nI 10) (by decide) dX6_parseNumber_18 ?_
        refine J_imul dX6_parseNumber_20 ?_
        try rw [pk_mul]
        refine J_aload_n (by rfl) (by rfl) dX6_parseNumber_21 ?_
        refine J_V0v (ci := 6) dX6_parseNumber_22 s_X6_114 m_X6_digitHere rfl (by repeat (first | assumption | exact jget_same2 (by (try simp only [List.length_set]); exact jlt (by assumption)) | refine jget_ne (by first | decide | assumption | omega) ?_)) rfl (c_X6_digitHere (po := po + i) hs (by omega) htx (by repeat (first | assumption | exact jget_same2 (by (try simp only [List.length_set]); exact jlt (by assumption)) | refine jget_ne (by first | decide | assumption | omega) ?_)) (by repeat (first | assumption | exact jget_same2 (by (try simp only [List.length_set]); exact jlt (by assumption)) | refine jget_ne (by first | decide | assumption | omega) ?_)) (jKv_i ?_))
        rw [if_pos hd]
        refine J_iadd dX6_parseNumber_25 ?_
        try rw [nI_add]
        refine J_topi (nI (10 * v + (sg tx sz (po + i) - 48))) (by congr 1; omega) ?_
        refine J_istore_2 dX6_parseNumber_26 ?_
        refine J_aload_n (by rfl) (by rfl) dX6_parseNumber_27 ?_
        refine J_dup (by rfl) dX6_parseNumber_28 ?_
        refine J_get dX6_parseNumber_29 f_X6_51 (by repeat (first | assumption | exact jget_same2 (by (try simp only [List.length_set]); exact jlt (by assumption)) | refine jget_ne (by first | decide | assumption | omega) ?_)) (by rfl) ?_
        refine J_iconst (nI 1) (by decide) dX6_parseNumber_32 ?_
        refine J_iadd dX6_parseNumber_33 ?_
        try rw [nI_add]
        refine J_put_5 dX6_parseNumber_34 p_X6_51 (by repeat (first | assumption | exact jget_same2 (by (try simp only [List.length_set]); exact jlt (by assumption)) | refine jget_ne (by first | decide | assumption | omega) ?_)) ?_
        refine J_iinc_3 (nI 1) dX6_parseNumber_37 (by decide) ?_
        try rw [nI_add]
        refine J_goto 4 dX6_parseNumber_40 (by decide) ?_
        rw [List.set_set, Nat.add_assoc]
        refine ih c6 _ ?_ ?_ ?_ ?_
        · rw [e1, hm1, nd_t hd, Nat.add_assoc po i 1]; omega
        · rw [e2, hm1, nv_t hd, Nat.add_assoc po i 1]
        · have : npow i ≤ 100 := by
            rcases (show i = 0 ∨ i = 1 ∨ i = 2 by omega) with rfl | rfl | rfl <;> decide
          omega
        · show _ < 10 * npow i
          omega
    · rw [if_neg hd]
      refine J_icmp_eq 43 dX6_parseNumber_14 (by decide) (fun c14 => ?_) (fun c14 => ?_)
      · exact fin (by rw [e1, nd_f hd, Nat.add_zero]) (by rw [e2, nv_f hd])
      · exact absurd rfl c14
theorem c_X6_parseMode (hs : sz ≤ 60) (hp : po ≤ sz) (hv : vc < 3) (htx : ∀ k, k < sz → tx k < 65536) (hO : h[109]? = some (hPg sz po ct vc)) (hT : h[110]? = some (ca 60 tx)) (hV : h[113]? = some (ia 3 vs))
    (hQ1 : ∀ v, itm (sg tx sz) po 77 = some (po + 1, [v]) → Q (.inl (some (.int (jb true)))) ((h.set 109 (hPg sz (po + 1) ct (vc + 1))).set 113 (ia 3 (updN vs vc v)))) (hQ2 : itm (sg tx sz) po 77 = none → Q (.inl (some (.int (jb false)))) h) : jCT G M_X6_parseMode 3 0 0 X [.ref 109] h Q := by
  refine jCT_of [some (.ref 109)] 0 rfl (by decide +kernel) rfl rfl ?_
  have hi : itm (sg tx sz) po 77 = (if sg tx sz po = 101 then some (po + 1, [0]) else if sg tx sz po = 110 then some (po + 1, [1]) else if sg tx sz po = 102 then some (po + 1, [2]) else none) := rfl
  refine J_aload_n (by rfl) (by rfl) dX6_parseMode_0 ?_
  refine J_bipush (nI 101) (by decide) dX6_parseMode_1 ?_
  refine J_V1v (ci := 6) dX6_parseMode_3 s_X6_61 m_X6_parseSign rfl (by repeat (first | assumption | exact jget_same2 (by (try simp only [List.length_set]); exact jlt (by assumption)) | refine jget_ne (by first | decide | assumption | omega) ?_)) rfl (c_X6_parseSign (c := 101) hs hp (by omega) htx hO hT (fun e => (jKv_i ?_)) (fun e => (jKv_i ?_)))
  · rw [if_pos e] at hi
    refine J_if_eq_b 17 dX6_parseMode_6 (by decide) (fun c6 => ?_) (fun c6 => ?_)
    · exact absurd c6 (by decide)
    · refine J_aload_n (by rfl) (by rfl) dX6_parseMode_9 ?_
      refine J_iconst (nI 0) (by decide) dX6_parseMode_10 ?_
      refine J_V10 (ci := 6) dX6_parseMode_11 s_X6_117 m_X6_addValue rfl (by repeat (first | assumption | exact jget_same2 (by (try simp only [List.length_set]); exact jlt (by assumption)) | refine jget_ne (by first | decide | assumption | omega) ?_)) rfl (c_X6_addValue (vc := vc) (vs := vs) (v := 0) (by omega) (by repeat (first | assumption | exact jget_same2 (by (try simp only [List.length_set]); exact jlt (by assumption)) | refine jget_ne (by first | decide | assumption | omega) ?_)) (by repeat (first | assumption | exact jget_same2 (by (try simp only [List.length_set]); exact jlt (by assumption)) | refine jget_ne (by first | decide | assumption | omega) ?_)) (jK0_i ?_))
      refine J_goto 53 dX6_parseMode_14 (by decide) ?_
      refine J_iconst (nI 1) (by decide) dX6_parseMode_53 ?_
      exact J_zreturn dX6_parseMode_54 rfl (by first | rfl | exact jb_n _) (by
        rw [if_pos hv, jsw (i := 109) (j := 113) (by decide), List.set_set]
        exact hQ1 0 hi) (by decide) (by decide) (fun _ => rfl)
  · rw [if_neg e] at hi
    refine J_if_eq_b 17 dX6_parseMode_6 (by decide) (fun c6 => ?_) (fun c6 => ?_)
    · refine J_aload_n (by rfl) (by rfl) dX6_parseMode_17 ?_
      refine J_bipush (nI 110) (by decide) dX6_parseMode_18 ?_
      refine J_V1v (ci := 6) dX6_parseMode_20 s_X6_61 m_X6_parseSign rfl (by repeat (first | assumption | exact jget_same2 (by (try simp only [List.length_set]); exact jlt (by assumption)) | refine jget_ne (by first | decide | assumption | omega) ?_)) rfl (c_X6_parseSign (c := 110) hs hp (by omega) htx hO hT (fun e => (jKv_i ?_)) (fun e => (jKv_i ?_)))
      · rw [if_pos e] at hi
        refine J_if_eq_b 34 dX6_parseMode_23 (by decide) (fun c23 => ?_) (fun c23 => ?_)
        · exact absurd c23 (by decide)
        · refine J_aload_n (by rfl) (by rfl) dX6_parseMode_26 ?_
          refine J_iconst (nI 1) (by decide) dX6_parseMode_27 ?_
          refine J_V10 (ci := 6) dX6_parseMode_28 s_X6_117 m_X6_addValue rfl (by repeat (first | assumption | exact jget_same2 (by (try simp only [List.length_set]); exact jlt (by assumption)) | refine jget_ne (by first | decide | assumption | omega) ?_)) rfl (c_X6_addValue (vc := vc) (vs := vs) (v := 1) (by omega) (by repeat (first | assumption | exact jget_same2 (by (try simp only [List.length_set]); exact jlt (by assumption)) | refine jget_ne (by first | decide | assumption | omega) ?_)) (by repeat (first | assumption | exact jget_same2 (by (try simp only [List.length_set]); exact jlt (by assumption)) | refine jget_ne (by first | decide | assumption | omega) ?_)) (jK0_i ?_))
          refine J_goto 53 dX6_parseMode_31 (by decide) ?_
          refine J_iconst (nI 1) (by decide) dX6_parseMode_53 ?_
          exact J_zreturn dX6_parseMode_54 rfl (by first | rfl | exact jb_n _) (by
            rw [if_pos hv, jsw (i := 109) (j := 113) (by decide), List.set_set]
            exact hQ1 1 hi) (by decide) (by decide) (fun _ => rfl)
      · rw [if_neg e] at hi
        refine J_if_eq_b 34 dX6_parseMode_23 (by decide) (fun c23 => ?_) (fun c23 => ?_)
        · refine J_aload_n (by rfl) (by rfl) dX6_parseMode_34 ?_
          refine J_bipush (nI 102) (by decide) dX6_parseMode_35 ?_
          refine J_V1v (ci := 6) dX6_parseMode_37 s_X6_61 m_X6_parseSign rfl (by repeat (first | assumption | exact jget_same2 (by (try simp only [List.length_set]); exact jlt (by assumption)) | refine jget_ne (by first | decide | assumption | omega) ?_)) rfl (c_X6_parseSign (c := 102) hs hp (by omega) htx hO hT (fun e => (jKv_i ?_)) (fun e => (jKv_i ?_)))
          · rw [if_pos e] at hi
            refine J_if_eq_b 51 dX6_parseMode_40 (by decide) (fun c40 => ?_) (fun c40 => ?_)
            · exact absurd c40 (by decide)
            · refine J_aload_n (by rfl) (by rfl) dX6_parseMode_43 ?_
              refine J_iconst (nI 2) (by decide) dX6_parseMode_44 ?_
              refine J_V10 (ci := 6) dX6_parseMode_45 s_X6_117 m_X6_addValue rfl (by repeat (first | assumption | exact jget_same2 (by (try simp only [List.length_set]); exact jlt (by assumption)) | refine jget_ne (by first | decide | assumption | omega) ?_)) rfl (c_X6_addValue (vc := vc) (vs := vs) (v := 2) (by omega) (by repeat (first | assumption | exact jget_same2 (by (try simp only [List.length_set]); exact jlt (by assumption)) | refine jget_ne (by first | decide | assumption | omega) ?_)) (by repeat (first | assumption | exact jget_same2 (by (try simp only [List.length_set]); exact jlt (by assumption)) | refine jget_ne (by first | decide | assumption | omega) ?_)) (jK0_i ?_))
              refine J_goto 53 dX6_parseMode_48 (by decide) ?_
              refine J_iconst (nI 1) (by decide) dX6_parseMode_53 ?_
              exact J_zreturn dX6_parseMode_54 rfl (by first | rfl | exact jb_n _) (by
                rw [if_pos hv, jsw (i := 109) (j := 113) (by decide), List.set_set]
                exact hQ1 2 hi) (by decide) (by decide) (fun _ => rfl)
          · rw [if_neg e] at hi
            refine J_if_eq_b 51 dX6_parseMode_40 (by decide) (fun c40 => ?_) (fun c40 => ?_)
            · refine J_iconst (nI 0) (by decide) dX6_parseMode_51 ?_
              exact J_zreturn dX6_parseMode_52 rfl (by first | rfl | exact jb_n _) (hQ2 hi) (by decide) (by decide) (fun _ => rfl)
            · exact absurd c40 (by decide)
        · exact absurd c23 (by decide)
    · exact absurd c6 (by decide)
theorem c_X6_parsePart {c : Nat} {V : List Nat} (hs : sz ≤ 60) (hp : po ≤ sz) (hc : c < 65536) (hv : phd c → V.length < 3) (hvs : ∀ i, i < 3 → vs i = V.getD i 0) (htx : ∀ k, k < sz → tx k < 65536) (hO : h[109]? = some (hPg sz po ct V.length)) (hT : h[110]? = some (ca 60 tx)) (hV : h[113]? = some (ia 3 vs))
    (hQ1 : ∀ q l vs', itm (sg tx sz) po c = some (q, l) → q ≤ sz → (phd c → l.length = 1) → (¬ phd c → l = []) → (∀ i, i < 3 → vs' i = (V ++ l).getD i 0) → Q (.inl (some (.int (jb true)))) ((h.set 109 (hPg sz q ct (V ++ l).length)).set 113 (ia 3 vs'))) (hQ2 : itm (sg tx sz) po c = none → Q (.inl (some (.int (jb false)))) h) : jCT G M_X6_parsePart 4 0 0 X [.ref 109, .int (nI c)] h Q := by
  refine jCT_of [some (.ref 109), some (.int (nI c))] 0 rfl (by decide +kernel) rfl rfl ?_
  have hup : ∀ v i, i < 3 → updN vs V.length v i = (V ++ [v]).getD i 0 := fun v i hi => by
    rw [getD_app]
    by_cases e : i = V.length
    · rw [e, updN_s, if_pos rfl]
    · rw [updN_n e, if_neg e]; exact hvs i hi
  have hln : ∀ v, (V ++ [v]).length = V.length + 1 := fun v => by simp
  refine J_iload_n (by rfl) dX6_parsePart_0 ?_
  by_cases q1 : c = 78
  · subst q1
    have hv := hv (.inl rfl)
    refine J_lookup (off := 35) 36 dX6_parsePart_1 (by decide) (by decide) (by decide) ?_
    refine J_aload_n (by rfl) (by rfl) dX6_parsePart_36 ?_
    refine J_iconst (nI 3) (by decide) dX6_parsePart_37 ?_
    refine J_V1v (ci := 6) dX6_parsePart_38 s_X6_107 m_X6_parseNumber rfl (by repeat (first | assumption | exact jget_same2 (by (try simp only [List.length_set]); exact jlt (by assumption)) | refine jget_ne (by first | decide | assumption | omega) ?_)) rfl (c_X6_parseNumber (m := 3) (by omega) hs hp hv htx hO hT hV (fun e => (jKv_i ?_)) (fun e => (jKv_i ?_)))
    · have hi : itm (sg tx sz) po 78 = some (po + nd (sg tx sz) 3 po, [nv (sg tx sz) 3 po 0]) := by unfold itm; rw [if_pos rfl, if_neg e]
      have := hQ1 _ _ _ hi (nd_s 3 po hp) (fun _ => rfl) (fun z => absurd (.inl rfl) z) (hup _)
      rw [hln] at this
      exact J_zreturn dX6_parsePart_41 rfl (by first | rfl | exact jb_n _) (this) (by decide) (by decide) (fun _ => rfl)
    · have hi : itm (sg tx sz) po 78 = none := by unfold itm; rw [if_pos rfl, if_pos e]
      exact J_zreturn dX6_parsePart_41 rfl (by first | rfl | exact jb_n _) (hQ2 hi) (by decide) (by decide) (fun _ => rfl)
  by_cases q2 : c = 68
  · subst q2
    have hv := hv (.inr (.inl rfl))
    refine J_lookup (off := 41) 42 dX6_parsePart_1 (by decide) (by decide) (by decide) ?_
    refine J_aload_n (by rfl) (by rfl) dX6_parsePart_42 ?_
    refine J_iconst (nI 1) (by decide) dX6_parsePart_43 ?_
    refine J_V1v (ci := 6) dX6_parsePart_44 s_X6_107 m_X6_parseNumber rfl (by repeat (first | assumption | exact jget_same2 (by (try simp only [List.length_set]); exact jlt (by assumption)) | refine jget_ne (by first | decide | assumption | omega) ?_)) rfl (c_X6_parseNumber (m := 1) (by omega) hs hp hv htx hO hT hV (fun e => (jKv_i ?_)) (fun e => (jKv_i ?_)))
    · have hi : itm (sg tx sz) po 68 = some (po + nd (sg tx sz) 1 po, [nv (sg tx sz) 1 po 0]) := by unfold itm; rw [if_neg (by decide), if_pos rfl, if_neg e]
      have := hQ1 _ _ _ hi (nd_s 1 po hp) (fun _ => rfl) (fun z => absurd (.inr (.inl rfl)) z) (hup _)
      rw [hln] at this
      exact J_zreturn dX6_parsePart_47 rfl (by first | rfl | exact jb_n _) (this) (by decide) (by decide) (fun _ => rfl)
    · have hi : itm (sg tx sz) po 68 = none := by unfold itm; rw [if_neg (by decide), if_pos rfl, if_pos e]
      exact J_zreturn dX6_parsePart_47 rfl (by first | rfl | exact jb_n _) (hQ2 hi) (by decide) (by decide) (fun _ => rfl)
  by_cases q3 : c = 77
  · subst q3
    have hv := hv (.inr (.inr rfl))
    refine J_lookup (off := 47) 48 dX6_parsePart_1 (by decide) (by decide) (by decide) ?_
    refine J_aload_n (by rfl) (by rfl) dX6_parsePart_48 ?_
    refine J_V0v (ci := 6) dX6_parsePart_49 s_X6_111 m_X6_parseMode rfl (by repeat (first | assumption | exact jget_same2 (by (try simp only [List.length_set]); exact jlt (by assumption)) | refine jget_ne (by first | decide | assumption | omega) ?_)) rfl (c_X6_parseMode hs hp hv htx hO hT hV (fun v hi => (jKv_i ?_)) (fun hi => (jKv_i ?_)))
    · have hlt : po + 1 ≤ sz := by
        rcases Nat.lt_or_ge po sz with q | q
        · omega
        · exfalso
          unfold itm sg at hi
          rw [if_neg (show ¬ po < sz by omega)] at hi
          simp at hi
      have := hQ1 _ _ _ hi hlt (fun _ => rfl) (fun z => absurd (.inr (.inr rfl)) z) (hup v)
      rw [hln] at this
      exact J_zreturn dX6_parsePart_52 rfl (by first | rfl | exact jb_n _) (this) (by decide) (by decide) (fun _ => rfl)
    · exact J_zreturn dX6_parsePart_52 rfl (by first | rfl | exact jb_n _) (hQ2 hi) (by decide) (by decide) (fun _ => rfl)
  have hph : ¬ phd c := by unfold phd; omega
  have hi0 := itm_sign (g := sg tx sz) (p := po) hph
  have fin : J G (jR 4 0 0) (jFin G Q X 0 0) M_X6_parsePart X 0 0 53 [some (.ref 109), some (.int (nI c))] [] h := by
    refine J_aload_n (by rfl) (by rfl) dX6_parsePart_53 ?_
    refine J_iload_n (by rfl) dX6_parsePart_54 ?_
    refine J_V1v (ci := 6) dX6_parsePart_55 s_X6_61 m_X6_parseSign rfl (by repeat (first | assumption | exact jget_same2 (by (try simp only [List.length_set]); exact jlt (by assumption)) | refine jget_ne (by first | decide | assumption | omega) ?_)) rfl (c_X6_parseSign hs hp hc htx hO hT (fun e => (jKv_i ?_)) (fun e => (jKv_i ?_)))
    · rw [if_pos e] at hi0
      have hlt : po + 1 ≤ sz := by have := (sg_lt hc).mp e; omega
      have := hQ1 _ _ vs hi0 hlt (fun z => absurd z hph) (fun _ => rfl) (fun i hi => by rw [List.append_nil]; exact hvs i hi)
      rw [List.append_nil, hset_id (show (h.set 109 (hPg sz (po + 1) ct V.length))[113]? = some (ia 3 vs) from (by repeat (first | assumption | exact jget_same2 (by (try simp only [List.length_set]); exact jlt (by assumption)) | refine jget_ne (by first | decide | assumption | omega) ?_)))] at this
      exact J_zreturn dX6_parsePart_58 rfl (by first | rfl | exact jb_n _) (this) (by decide) (by decide) (fun _ => rfl)
    · rw [if_neg e] at hi0
      exact J_zreturn dX6_parsePart_58 rfl (by first | rfl | exact jb_n _) (hQ2 hi0) (by decide) (by decide) (fun _ => rfl)
  refine J_lookup (off := 52) 53 dX6_parsePart_1 (by decide) ?_ (by decide) fin
  rw [nI_toInt (by omega)]
  show (if (68 : Int) = (c : Int) then (41 : Int) else if (77 : Int) = (c : Int) then 47 else if (78 : Int) = (c : Int) then 35 else 52) = 52
  rw [if_neg (by omega), if_neg (by omega), if_neg (by omega)]
theorem c_X6_openingLength {i : Nat} {A B : List Nat} (hs : strIs i (A ++ B)) (hA : ∀ c, c ∈ A → ¬ phd c) (hB : B = [] ∨ ∃ c r, B = c :: r ∧ phd c) (hQ : Q (.inl (some (.int (nI A.length)))) h) : jCT G M_X6_openingLength 5 0 0 X [.retAddr (2 * i + 2)] h Q := by
  refine jCT_of [some (.retAddr (2 * i + 2)), none] 1 rfl (by decide +kernel) rfl rfl ?_
  obtain ⟨q, hq, w2, w3, w4, w5⟩ := hs
  have hs : strIs i (A ++ B) := ⟨q, hq, w2, w3, w4, w5⟩
  have hlen : (A ++ B).length = A.length + B.length := List.length_append
  refine J_iconst (nI 0) (by decide) dX6_openingLength_0 ?_
  refine J_istore_1 dX6_openingLength_1 ?_
  suffices loop : ∀ j, j ≤ A.length → J G (jR 5 0 0) (jFin G Q X 0 0) M_X6_openingLength X 0 0 2 [some (.retAddr (2 * i + 2)), some (.int (nI j))] [] h by
    exact loop 0 (by omega)
  refine up_ind A.length (fun j hj ih => ?_)
  refine J_iload_n (by rfl) dX6_openingLength_2 ?_
  refine J_aload_n (by rfl) (by rfl) dX6_openingLength_3 ?_
  refine J_Str0v dX6_openingLength_4 s_X6_80 m_J0_length_8abf5 rfl (by first | assumption | rfl) rfl (c_J0_length hs (jKv_i ?_))
  refine J_icmp_ge_n 27 dX6_openingLength_7 (by decide) (fun c7 => ?_) (fun c7 => ?_)
  · have hjA : j = A.length := by omega
    subst hjA
    refine J_iload_n (by rfl) dX6_openingLength_27 ?_
    exact J_ireturn dX6_openingLength_28 rfl (hQ) (by decide) (by decide) (fun _ => rfl)
  · have hc := hs.c c7
    refine J_aload_n (by rfl) (by rfl) dX6_openingLength_10 ?_
    refine J_iload_n (by rfl) dX6_openingLength_11 ?_
    refine J_Str1v dX6_openingLength_12 s_X6_85 m_J0_charAt_5068e rfl (by first | assumption | rfl) rfl (c_J0_charAt hs c7 (jKv_i ?_))
    refine J_S1v dX6_openingLength_15 s_X6_100 m_X6_isPlaceholder rfl (c_X6_isPlaceholder (by omega) (jKv_i ?_))
    refine J_if_ne_b 27 dX6_openingLength_18 (by decide) (fun c18 => ?_) (fun c18 => ?_)
    · have c18 := of_decide_eq_true c18
      have hjA : j = A.length := by
        rcases Nat.lt_or_ge j A.length with q | q
        · have hx : (A ++ B).getD j 0 = A[j] := by rw [List.getD_eq_getElem?_getD, List.getElem?_append_left q, List.getElem?_eq_getElem q]; rfl
          rw [hx] at c18
          exact absurd c18 (hA _ (List.getElem_mem q))
        · omega
      subst hjA
      refine J_iload_n (by rfl) dX6_openingLength_27 ?_
      exact J_ireturn dX6_openingLength_28 rfl (hQ) (by decide) (by decide) (fun _ => rfl)
    · have c18 := of_decide_eq_false c18
      have hjA : j < A.length := by
        rcases Nat.lt_or_ge j A.length with q | q
        · exact q
        · exfalso
          have hje : j = A.length := by omega
          rcases hB with rfl | ⟨c, r, rfl, hc2⟩
          · simp at c7; omega
          · have hx : (A ++ c :: r).getD j 0 = c := by rw [List.getD_eq_getElem?_getD, List.getElem?_append_right (by omega), hje, Nat.sub_self]; rfl
            rw [hx] at c18
            exact c18 hc2
      refine J_iinc_1 (nI 1) dX6_openingLength_21 (by decide) ?_
      try rw [nI_add]
      refine J_goto 2 dX6_openingLength_24 (by decide) ?_
      exact ih hjA
end CP2
