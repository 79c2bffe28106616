/-! The class's parser: a program -/
theorem prg_s {g : Nat → Nat} {tp f p : Nat} {acc : List (Nat × List Nat)} : prgS g tp (f + 1) p acc = if (cmdS g p).1.1 = true then (if g (cmdS g p).1.2.1 = 59 then prgS g tp f ((cmdS g p).1.2.1 + 1) (acc ++ [((cmdS g p).2, (cmdS g p).1.2.2)]) else (decide ((cmdS g p).1.2.1 = tp), (cmdS g p).1.2.1, acc ++ [((cmdS g p).2, (cmdS g p).1.2.2)])) else (false, (cmdS g p).1.2.1, acc) := rfl
theorem prg_t {g : Nat → Nat} {tp f p q K : Nat} {V : List Nat} {acc : List (Nat × List Nat)} (h : cmdS g p = ((true, q, V), K)) : prgS g tp (f + 1) p acc = if g q = 59 then prgS g tp f (q + 1) (acc ++ [(K, V)]) else (decide (q = tp), q, acc ++ [(K, V)]) := by
  rw [prg_s, h]; rfl
theorem prg_f {g : Nat → Nat} {tp f p q K : Nat} {V : List Nat} {acc : List (Nat × List Nat)} (h : cmdS g p = ((false, q, V), K)) : prgS g tp (f + 1) p acc = (false, q, acc) := by
  rw [prg_s, h]; rfl
section CP4
variable {G : jG} {X : Bool} {h : jH} {Q : jQ_} {sz po ct vc : Nat} {tx ks as_ vs : Nat → Nat}
theorem c_X6_parse (hs : sz ≤ 60) (htx : ∀ k, k < sz → tx k < 65536) (hO : h[109]? = some (hPg sz po ct vc)) (hT : h[110]? = some (ca 60 tx)) (hKs : h[111]? = some (ia 13 ks)) (hAs : h[112]? = some (ia 39 as_)) (hV : h[113]? = some (ia 3 vs))
    (hQ : ∀ ok q L n ks' as' vs' vc', prgS (sg tx sz) sz 13 0 [] = (ok, q, L) → q ≤ sz → (ok = true → cmdsAre n ks' as' L ∧ n ≤ 12) → Q (.inl (some (.int (jb ok)))) ((((h.set 109 (hPg sz q n vc')).set 111 (ia 13 ks')).set 112 (ia 39 as')).set 113 (ia 3 vs'))) : jCT G M_X6_parse 8 0 0 X [.ref 109] h Q := by
  refine jCT_of [some (.ref 109), none] 1 rfl (by decide +kernel) rfl rfl ?_
  have hg59 : ∀ p, sg tx sz p = 59 → p < sz := fun p e => ((sg_lt (by decide)).mp e).1
  refine J_aload_n (by rfl) (by rfl) dX6_parse_0 ?_
  refine J_iconst (nI 0) (by decide) dX6_parse_1 ?_
  refine J_put_5 dX6_parse_2 p_X6_51 (by repeat (first | assumption | exact jget_same2 (by (try simp only [List.length_set]); exact jlt (by assumption)) | refine jget_ne (by first | decide | assumption | omega) ?_)) ?_
  refine J_aload_n (by rfl) (by rfl) dX6_parse_5 ?_
  refine J_iconst (nI 0) (by decide) dX6_parse_6 ?_
  refine J_put_6 dX6_parse_7 p_X6_54 (by repeat (first | assumption | exact jget_same2 (by (try simp only [List.length_set]); exact jlt (by assumption)) | refine jget_ne (by first | decide | assumption | omega) ?_)) ?_
  refine J_aload_n (by rfl) (by rfl) dX6_parse_10 ?_
  rw [List.set_set]
  suffices loop : ∀ k N p acc ks1 as1 vs1 vc1, 12 - N ≤ k → 1 ≤ N → N ≤ 12 → p ≤ sz → 5 * N ≤ p + 1 → cmdsAre N ks1 as1 acc → (prgS (sg tx sz) sz 13 0 [] = if sg tx sz p = 59 then prgS (sg tx sz) sz (13 - N) (p + 1) acc else (decide (p = sz), p, acc)) → J G (jR 8 0 0) (jFin G Q X 0 0) M_X6_parse X 0 0 21 [some (.ref 109), some (.int (nI N))] [] ((((h.set 109 (hPg sz p N vc1)).set 111 (ia 13 ks1)).set 112 (ia 39 as1)).set 113 (ia 3 vs1)) by
    refine J_V0v (ci := 6) dX6_parse_11 s_X6_57 m_X6_parseCommand rfl (by repeat (first | assumption | exact jget_same2 (by (try simp only [List.length_set]); exact jlt (by assumption)) | refine jget_ne (by first | decide | assumption | omega) ?_)) rfl (c_X6_parseCommand (po := 0) (ct := 0) (vc := vc) (ks := ks) (as_ := as_) (vs := vs) (by omega) hs (by omega) htx (by repeat (first | assumption | exact jget_same2 (by (try simp only [List.length_set]); exact jlt (by assumption)) | refine jget_ne (by first | decide | assumption | omega) ?_)) (by repeat (first | assumption | exact jget_same2 (by (try simp only [List.length_set]); exact jlt (by assumption)) | refine jget_ne (by first | decide | assumption | omega) ?_)) (by repeat (first | assumption | exact jget_same2 (by (try simp only [List.length_set]); exact jlt (by assumption)) | refine jget_ne (by first | decide | assumption | omega) ?_)) (by repeat (first | assumption | exact jget_same2 (by (try simp only [List.length_set]); exact jlt (by assumption)) | refine jget_ne (by first | decide | assumption | omega) ?_)) (by repeat (first | assumption | exact jget_same2 (by (try simp only [List.length_set]); exact jlt (by assumption)) | refine jget_ne (by first | decide | assumption | omega) ?_)) (fun q V K as1 vs1 vc1 hc hq hq4 hK h1 h2 => (jKv_i ?_)) (fun q V K vs1 vc1 hc hq => (jKv_i ?_)))
    · refine J_if_ne_b 19 dX6_parse_14 (by decide) (fun c14 => ?_) (fun c14 => ?_)
      · refine J_iconst (nI 1) (by decide) dX6_parse_19 ?_
        refine J_istore_1 dX6_parse_20 ?_
        simp only [List.set_set, jsw (i := 109) (j := 111) (by decide), jsw (i := 109) (j := 112) (by decide), jsw (i := 109) (j := 113) (by decide), jsw (i := 111) (j := 112) (by decide), jsw (i := 111) (j := 113) (by decide), jsw (i := 112) (j := 113) (by decide)]
        exact loop 12 1 q [(K, V)] _ as1 vs1 vc1 (by omega) (by omega) (by omega) hq (by omega) (cmdsAre.push (L := []) ⟨rfl, fun i hi => by omega⟩ hK h1 h2) (prg_t hc)
      · exact absurd c14 (by decide)
    · refine J_if_ne_b 19 dX6_parse_14 (by decide) (fun c14 => ?_) (fun c14 => ?_)
      · exact absurd c14 (by decide)
      · have hfin := hQ false q [] 0 ks as_ vs1 vc1 (prg_f hc) hq (fun z => absurd z (by decide))
        rw [hset_id (h := h.set 109 (hPg sz q 0 vc1)) (i := 111) (by exact (by repeat (first | assumption | exact jget_same2 (by (try simp only [List.length_set]); exact jlt (by assumption)) | refine jget_ne (by first | decide | assumption | omega) ?_))), hset_id (h := h.set 109 (hPg sz q 0 vc1)) (i := 112) (by exact (by repeat (first | assumption | exact jget_same2 (by (try simp only [List.length_set]); exact jlt (by assumption)) | refine jget_ne (by first | decide | assumption | omega) ?_)))] at hfin
        refine J_iconst (nI 0) (by decide) dX6_parse_17 ?_
        exact J_zreturn dX6_parse_18 rfl (by first | rfl | exact jb_n _) (by simp only [List.set_set, jsw (i := 109) (j := 111) (by decide), jsw (i := 109) (j := 112) (by decide), jsw (i := 109) (j := 113) (by decide), jsw (i := 111) (j := 112) (by decide), jsw (i := 111) (j := 113) (by decide), jsw (i := 112) (j := 113) (by decide)]; exact hfin) (by decide) (by decide) (fun _ => rfl)
  intro k
  induction k with
  | zero =>
    intro N p acc ks1 as1 vs1 vc1 hk hN1 hN hp h5 hA hres
    have hN12 : N = 12 := by omega
    subst hN12
    refine J_iload_n (by rfl) dX6_parse_21 ?_
    refine J_bipush (nI 13) (by decide) dX6_parse_22 ?_
    refine J_icmp_ge_n 62 dX6_parse_24 (by decide) (fun c24 => ?_) (fun c24 => ?_)
    · omega
    · refine J_aload_n (by rfl) (by rfl) dX6_parse_27 ?_
      refine J_get dX6_parse_28 f_X6_51 (by repeat (first | assumption | exact jget_same2 (by (try simp only [List.length_set]); exact jlt (by assumption)) | refine jget_ne (by first | decide | assumption | omega) ?_)) (by rfl) ?_
      refine J_aload_n (by rfl) (by rfl) dX6_parse_31 ?_
      refine J_get dX6_parse_32 f_X6_25 (by repeat (first | assumption | exact jget_same2 (by (try simp only [List.length_set]); exact jlt (by assumption)) | refine jget_ne (by first | decide | assumption | omega) ?_)) (by rfl) ?_
      refine J_icmp_ge_n 62 dX6_parse_35 (by decide) (fun c35 => ?_) (fun c35 => ?_)
      · have hpz : p = sz := by omega
        rw [if_neg (fun e => by have := hg59 p e; omega), show decide (p = sz) = true by simpa using hpz] at hres
        refine J_aload_n (by rfl) (by rfl) dX6_parse_62 ?_
        refine J_get dX6_parse_63 f_X6_51 (by repeat (first | assumption | exact jget_same2 (by (try simp only [List.length_set]); exact jlt (by assumption)) | refine jget_ne (by first | decide | assumption | omega) ?_)) (by rfl) ?_
        refine J_aload_n (by rfl) (by rfl) dX6_parse_66 ?_
        refine J_get dX6_parse_67 f_X6_25 (by repeat (first | assumption | exact jget_same2 (by (try simp only [List.length_set]); exact jlt (by assumption)) | refine jget_ne (by first | decide | assumption | omega) ?_)) (by rfl) ?_
        refine J_icmp_lt_n 77 dX6_parse_70 (by decide) (fun c70 => ?_) (fun c70 => ?_)
        · omega
        · refine J_iconst (nI 1) (by decide) dX6_parse_73 ?_
          refine J_goto 78 dX6_parse_74 (by decide) ?_
          exact J_zreturn dX6_parse_78 rfl (by first | rfl | exact jb_n _) (hQ true p acc 12 ks1 as1 vs1 vc1 hres hp (fun _ => ⟨hA, by omega⟩)) (by decide) (by decide) (fun _ => rfl)
      · refine J_aload_n (by rfl) (by rfl) dX6_parse_38 ?_
        refine J_bipush (nI 59) (by decide) dX6_parse_39 ?_
        refine J_V1v (ci := 6) dX6_parse_41 s_X6_61 m_X6_parseSign rfl (by repeat (first | assumption | exact jget_same2 (by (try simp only [List.length_set]); exact jlt (by assumption)) | refine jget_ne (by first | decide | assumption | omega) ?_)) rfl (c_X6_parseSign (c := 59) (po := p) hs (by omega) (by decide) htx (by repeat (first | assumption | exact jget_same2 (by (try simp only [List.length_set]); exact jlt (by assumption)) | refine jget_ne (by first | decide | assumption | omega) ?_)) (by repeat (first | assumption | exact jget_same2 (by (try simp only [List.length_set]); exact jlt (by assumption)) | refine jget_ne (by first | decide | assumption | omega) ?_)) (fun e => (jKv_i ?_)) (fun e => (jKv_i ?_)))
        · rw [if_pos e] at hres
          refine J_if_eq_b 54 dX6_parse_44 (by decide) (fun c44 => ?_) (fun c44 => ?_)
          · exact absurd c44 (by decide)
          · refine J_aload_n (by rfl) (by rfl) dX6_parse_47 ?_
            refine J_V0v (ci := 6) dX6_parse_48 s_X6_57 m_X6_parseCommand rfl (by repeat (first | assumption | exact jget_same2 (by (try simp only [List.length_set]); exact jlt (by assumption)) | refine jget_ne (by first | decide | assumption | omega) ?_)) rfl (c_X6_parseCommand (po := p + 1) (ct := 12) (vc := vc1) (ks := ks1) (as_ := as1) (vs := vs1) (by omega) hs (by omega) htx (by repeat (first | assumption | exact jget_same2 (by (try simp only [List.length_set]); exact jlt (by assumption)) | refine jget_ne (by first | decide | assumption | omega) ?_)) (by repeat (first | assumption | exact jget_same2 (by (try simp only [List.length_set]); exact jlt (by assumption)) | refine jget_ne (by first | decide | assumption | omega) ?_)) (by repeat (first | assumption | exact jget_same2 (by (try simp only [List.length_set]); exact jlt (by assumption)) | refine jget_ne (by first | decide | assumption | omega) ?_)) (by repeat (first | assumption | exact jget_same2 (by (try simp only [List.length_set]); exact jlt (by assumption)) | refine jget_ne (by first | decide | assumption | omega) ?_)) (by repeat (first | assumption | exact jget_same2 (by (try simp only [List.length_set]); exact jlt (by assumption)) | refine jget_ne (by first | decide | assumption | omega) ?_)) (fun q V K as2 vs2 vc2 hc hq hq4 hK h1 h2 => (jKv_i ?_)) (fun q V K vs2 vc2 hc hq => (jKv_i ?_)))
            · exfalso; omega
            · refine J_if_ne_b 56 dX6_parse_51 (by decide) (fun c51 => ?_) (fun c51 => ?_)
              · exact absurd c51 (by decide)
              · refine J_iconst (nI 0) (by decide) dX6_parse_54 ?_
                exact J_zreturn dX6_parse_55 rfl (by first | rfl | exact jb_n _) (by simp only [List.set_set, jsw (i := 109) (j := 111) (by decide), jsw (i := 109) (j := 112) (by decide), jsw (i := 109) (j := 113) (by decide), jsw (i := 111) (j := 112) (by decide), jsw (i := 111) (j := 113) (by decide), jsw (i := 112) (j := 113) (by decide)]; exact hQ false q acc 12 ks1 as1 vs2 vc2 (hres.trans (prg_f hc)) hq (fun z => absurd z (by decide))) (by decide) (by decide) (fun _ => rfl)
        · rw [if_neg e, show decide (p = sz) = false by simp; omega] at hres
          refine J_if_eq_b 54 dX6_parse_44 (by decide) (fun c44 => ?_) (fun c44 => ?_)
          · refine J_iconst (nI 0) (by decide) dX6_parse_54 ?_
            exact J_zreturn dX6_parse_55 rfl (by first | rfl | exact jb_n _) (hQ false p acc 12 ks1 as1 vs1 vc1 hres hp (fun z => absurd z (by decide))) (by decide) (by decide) (fun _ => rfl)
          · exact absurd c44 (by decide)
  | succ k ih =>
    intro N p acc ks1 as1 vs1 vc1 hk hN1 hN hp h5 hA hres
    refine J_iload_n (by rfl) dX6_parse_21 ?_
    refine J_bipush (nI 13) (by decide) dX6_parse_22 ?_
    refine J_icmp_ge_n 62 dX6_parse_24 (by decide) (fun c24 => ?_) (fun c24 => ?_)
    · omega
    · refine J_aload_n (by rfl) (by rfl) dX6_parse_27 ?_
      refine J_get dX6_parse_28 f_X6_51 (by repeat (first | assumption | exact jget_same2 (by (try simp only [List.length_set]); exact jlt (by assumption)) | refine jget_ne (by first | decide | assumption | omega) ?_)) (by rfl) ?_
      refine J_aload_n (by rfl) (by rfl) dX6_parse_31 ?_
      refine J_get dX6_parse_32 f_X6_25 (by repeat (first | assumption | exact jget_same2 (by (try simp only [List.length_set]); exact jlt (by assumption)) | refine jget_ne (by first | decide | assumption | omega) ?_)) (by rfl) ?_
      refine J_icmp_ge_n 62 dX6_parse_35 (by decide) (fun c35 => ?_) (fun c35 => ?_)
      · have hpz : p = sz := by omega
        rw [if_neg (fun e => by have := hg59 p e; omega), show decide (p = sz) = true by simpa using hpz] at hres
        refine J_aload_n (by rfl) (by rfl) dX6_parse_62 ?_
        refine J_get dX6_parse_63 f_X6_51 (by repeat (first | assumption | exact jget_same2 (by (try simp only [List.length_set]); exact jlt (by assumption)) | refine jget_ne (by first | decide | assumption | omega) ?_)) (by rfl) ?_
        refine J_aload_n (by rfl) (by rfl) dX6_parse_66 ?_
        refine J_get dX6_parse_67 f_X6_25 (by repeat (first | assumption | exact jget_same2 (by (try simp only [List.length_set]); exact jlt (by assumption)) | refine jget_ne (by first | decide | assumption | omega) ?_)) (by rfl) ?_
        refine J_icmp_lt_n 77 dX6_parse_70 (by decide) (fun c70 => ?_) (fun c70 => ?_)
        · omega
        · refine J_iconst (nI 1) (by decide) dX6_parse_73 ?_
          refine J_goto 78 dX6_parse_74 (by decide) ?_
          exact J_zreturn dX6_parse_78 rfl (by first | rfl | exact jb_n _) (hQ true p acc N ks1 as1 vs1 vc1 hres hp (fun _ => ⟨hA, hN⟩)) (by decide) (by decide) (fun _ => rfl)
      · refine J_aload_n (by rfl) (by rfl) dX6_parse_38 ?_
        refine J_bipush (nI 59) (by decide) dX6_parse_39 ?_
        refine J_V1v (ci := 6) dX6_parse_41 s_X6_61 m_X6_parseSign rfl (by repeat (first | assumption | exact jget_same2 (by (try simp only [List.length_set]); exact jlt (by assumption)) | refine jget_ne (by first | decide | assumption | omega) ?_)) rfl (c_X6_parseSign (c := 59) (po := p) hs (by omega) (by decide) htx (by repeat (first | assumption | exact jget_same2 (by (try simp only [List.length_set]); exact jlt (by assumption)) | refine jget_ne (by first | decide | assumption | omega) ?_)) (by repeat (first | assumption | exact jget_same2 (by (try simp only [List.length_set]); exact jlt (by assumption)) | refine jget_ne (by first | decide | assumption | omega) ?_)) (fun e => (jKv_i ?_)) (fun e => (jKv_i ?_)))
        · rw [if_pos e] at hres
          refine J_if_eq_b 54 dX6_parse_44 (by decide) (fun c44 => ?_) (fun c44 => ?_)
          · exact absurd c44 (by decide)
          · refine J_aload_n (by rfl) (by rfl) dX6_parse_47 ?_
            refine J_V0v (ci := 6) dX6_parse_48 s_X6_57 m_X6_parseCommand rfl (by repeat (first | assumption | exact jget_same2 (by (try simp only [List.length_set]); exact jlt (by assumption)) | refine jget_ne (by first | decide | assumption | omega) ?_)) rfl (c_X6_parseCommand (po := p + 1) (ct := N) (vc := vc1) (ks := ks1) (as_ := as1) (vs := vs1) (by omega) hs (by omega) htx (by repeat (first | assumption | exact jget_same2 (by (try simp only [List.length_set]); exact jlt (by assumption)) | refine jget_ne (by first | decide | assumption | omega) ?_)) (by repeat (first | assumption | exact jget_same2 (by (try simp only [List.length_set]); exact jlt (by assumption)) | refine jget_ne (by first | decide | assumption | omega) ?_)) (by repeat (first | assumption | exact jget_same2 (by (try simp only [List.length_set]); exact jlt (by assumption)) | refine jget_ne (by first | decide | assumption | omega) ?_)) (by repeat (first | assumption | exact jget_same2 (by (try simp only [List.length_set]); exact jlt (by assumption)) | refine jget_ne (by first | decide | assumption | omega) ?_)) (by repeat (first | assumption | exact jget_same2 (by (try simp only [List.length_set]); exact jlt (by assumption)) | refine jget_ne (by first | decide | assumption | omega) ?_)) (fun q V K as2 vs2 vc2 hc hq hq4 hK h1 h2 => (jKv_i ?_)) (fun q V K vs2 vc2 hc hq => (jKv_i ?_)))
            · refine J_if_ne_b 56 dX6_parse_51 (by decide) (fun c51 => ?_) (fun c51 => ?_)
              · refine J_iinc_1 (nI 1) dX6_parse_56 (by decide) ?_
                try rw [nI_add]
                refine J_goto 21 dX6_parse_59 (by decide) ?_
                simp only [List.set_set, jsw (i := 109) (j := 111) (by decide), jsw (i := 109) (j := 112) (by decide), jsw (i := 109) (j := 113) (by decide), jsw (i := 111) (j := 112) (by decide), jsw (i := 111) (j := 113) (by decide), jsw (i := 112) (j := 113) (by decide)]
                refine ih (N + 1) q (acc ++ [(K, V)]) _ as2 vs2 vc2 (by omega) (by omega) (by omega) hq (by omega) (hA.push hK h1 h2) ?_
                rw [hres, show 13 - N = (13 - (N + 1)) + 1 by omega, prg_t hc]
              · exact absurd c51 (by decide)
            · refine J_if_ne_b 56 dX6_parse_51 (by decide) (fun c51 => ?_) (fun c51 => ?_)
              · exact absurd c51 (by decide)
              · rw [show 13 - N = (13 - (N + 1)) + 1 by omega, prg_f hc] at hres
                refine J_iconst (nI 0) (by decide) dX6_parse_54 ?_
                exact J_zreturn dX6_parse_55 rfl (by first | rfl | exact jb_n _) (by simp only [List.set_set, jsw (i := 109) (j := 111) (by decide), jsw (i := 109) (j := 112) (by decide), jsw (i := 109) (j := 113) (by decide), jsw (i := 111) (j := 112) (by decide), jsw (i := 111) (j := 113) (by decide), jsw (i := 112) (j := 113) (by decide)]; exact hQ false q acc N ks1 as1 vs2 vc2 hres hq (fun z => absurd z (by decide))) (by decide) (by decide) (fun _ => rfl)
        · rw [if_neg e, show decide (p = sz) = false by simp; omega] at hres
          refine J_if_eq_b 54 dX6_parse_44 (by decide) (fun c44 => ?_) (fun c44 => ?_)
          · refine J_iconst (nI 0) (by decide) dX6_parse_54 ?_
            exact J_zreturn dX6_parse_55 rfl (by first | rfl | exact jb_n _) (hQ false p acc N ks1 as1 vs1 vc1 hres hp (fun z => absurd z (by decide))) (by decide) (by decide) (fun _ => rfl)
          · exact absurd c44 (by decide)
end CP4
