/-! StringBuilder: made, grown, appended to, turned into a String -/
/-- the capacity behind a growth to q -/
def capN (cap q : Nat) : Nat := if q ≤ cap then cap else max q (2 * cap + 2)
/-- what lies below is as it was, but for these -/
abbrev kpt (h h' : jH) (b v : Nat) : Prop := h.length ≤ h'.length ∧ hOk h' ∧ ∀ j, j < h.length → j ≠ b → j ≠ v → h'[j]? = h[j]?
theorem push_lo {h : jH} {c : jC} {j : Nat} (hj : j < h.length) : (h ++ [c])[j]? = h[j]? := List.getElem?_append_left hj
theorem push_at {h : jH} {c : jC} : (h ++ [c])[h.length]? = some c := by simp
theorem push_lo2 {h : jH} {c d : jC} {j : Nat} (hj : h[j]? = some d) : (h ++ [c])[j]? = some d := by rw [push_lo (jlt hj)]; exact hj
theorem push_len {h : jH} {c : jC} : (h ++ [c]).length = h.length + 1 := by simp
theorem StrV.lo2 {h : jH} {x : Value} {w b : Nat} (hv : StrV h x w) : jlo [.ref b, x] = [some (.ref b), some x] := by
  rcases hv with ⟨i, q, rfl, _⟩ | ⟨c, u, hs, hz, f, rfl, _⟩ <;> rfl
theorem StrV.lo3 {h : jH} {x : Value} {w b k : Nat} (hv : StrV h x w) : jlo [.ref b, .int (nI k), x] = [some (.ref b), some (.int (nI k)), some x] := by
  rcases hv with ⟨i, q, rfl, _⟩ | ⟨c, u, hs, hz, f, rfl, _⟩ <;> rfl
theorem StrV.jn2 {h : jH} {x : Value} {w : Nat} (hv : StrV h x w) : jn2 (some x) = true := by
  rcases hv with ⟨i, q, rfl, _⟩ | ⟨c, u, hs, hz, f, rfl, _⟩ <;> rfl
section BLD2
variable {G : jG} {X : Bool} {h : jH} {Q : jQ_} {QA : jQG} {x : Value} {w b v cap n : Nat}
theorem c_J5_isLatin1 {v : Nat} {ml : Int32} (hb : h[b]? = some (hSb v ml n)) (hQ : Q (.inl (some (.int (jb true)))) h) : jCT G M_J5_isLatin1_aae02 1 0 0 X [.ref b] h Q := by
  refine jCT_of [some (.ref b)] 0 rfl (by decide +kernel) rfl rfl ?_
  refine J_compact dJ5_isLatin1_aae02_0 x_J5_18 ?_
  refine J_if_eq 17 dJ5_isLatin1_aae02_3 (by decide) (fun c3 => ?_) (fun c3 => ?_)
  · exact absurd c3 (by decide)
  · refine J_aload_n (by rfl) (by rfl) dJ5_isLatin1_aae02_6 ?_
    refine J_get dJ5_isLatin1_aae02_7 f_J5_22 (by repeat (first | assumption | exact jget_same2 (by (try simp only [List.length_set]); exact jlt (by assumption)) | refine jget_ne (by first | decide | assumption | omega) ?_)) (by rfl) ?_
    refine J_if_ne 17 dJ5_isLatin1_aae02_10 (by decide) (fun c10 => ?_) (fun c10 => ?_)
    · exact absurd rfl c10
    · refine J_iconst (nI 1) (by decide) dJ5_isLatin1_aae02_13 ?_
      refine J_goto 18 dJ5_isLatin1_aae02_14 (by decide) ?_
      exact J_zreturn dJ5_isLatin1_aae02_18 rfl (by first | rfl | exact jb_n _) (hQ) (by decide) (by decide) (fun _ => rfl)
theorem c_J5_getValue {v : Nat} {ml : Int32} (hb : h[b]? = some (hSb v ml n)) (hQ : Q (.inl (some (.ref v))) h) : jCT G M_J5_getValue_6d5f1 1 0 0 X [.ref b] h Q := by
  refine jCT_of [some (.ref b)] 0 rfl (by decide +kernel) rfl rfl ?_
  refine J_aload_n (by rfl) (by rfl) dJ5_getValue_6d5f1_0 ?_
  refine J_get dJ5_getValue_6d5f1_1 f_J5_15 (by repeat (first | assumption | exact jget_same2 (by (try simp only [List.length_set]); exact jlt (by assumption)) | refine jget_ne (by first | decide | assumption | omega) ?_)) (by rfl) ?_
  exact J_areturn dJ5_getValue_6d5f1_4 rfl (Or.inr ⟨_, rfl⟩) rfl hQ (by decide) (by decide) (fun _ => rfl)
theorem c_J5_length {v : Nat} {ml : Int32} (hb : h[b]? = some (hSb v ml n)) (hQ : Q (.inl (some (.int (nI n)))) h) : jCT G M_J5_length_8abf5 1 0 0 X [.ref b] h Q := by
  refine jCT_of [some (.ref b)] 0 rfl (by decide +kernel) rfl rfl ?_
  refine J_aload_n (by rfl) (by rfl) dJ5_length_8abf5_0 ?_
  refine J_get dJ5_length_8abf5_1 f_J5_79 (by repeat (first | assumption | exact jget_same2 (by (try simp only [List.length_set]); exact jlt (by assumption)) | refine jget_ne (by first | decide | assumption | omega) ?_)) (by rfl) ?_
  exact J_ireturn dJ5_length_8abf5_4 rfl (hQ) (by decide) (by decide) (fun _ => rfl)
theorem c_J4_length {v : Nat} {ml : Int32} (hb : h[b]? = some (hSb v ml n)) (hQ : Q (.inl (some (.int (nI n)))) h) : jCT G M_J4_length_8abf5 2 0 0 X [.ref b] h Q := by
  refine jCT_of [some (.ref b)] 0 rfl (by decide +kernel) rfl rfl ?_
  refine J_aload_n (by rfl) (by rfl) dJ4_length_8abf5_0 ?_
  refine J_P0v dJ4_length_8abf5_1 s_J4_343 m_J5_length_8abf5 rfl (by decide) (by repeat (first | assumption | exact jget_same2 (by (try simp only [List.length_set]); exact jlt (by assumption)) | refine jget_ne (by first | decide | assumption | omega) ?_)) (c_J5_length hb (jKv_i ?_))
  exact J_ireturn dJ4_length_8abf5_4 rfl (hQ) (by decide) (by decide) (fun _ => rfl)
theorem c_J8_newLength {a m p : Nat} (ha : a + max m p < 2000000) (h0 : 0 < a + max m p) (hQ : Q (.inl (some (.int (nI (a + max m p))))) h) : jCT G M_J8_newLength_cabcc 1 0 0 X [.int (nI a), .int (nI m), .int (nI p)] h Q := by
  refine jCT_of [some (.int (nI a)), some (.int (nI m)), some (.int (nI p)), none] 1 rfl (by decide +kernel) rfl rfl ?_
  refine J_iload_n (by rfl) dJ8_newLength_cabcc_0 ?_
  refine J_iload_n (by rfl) dJ8_newLength_cabcc_1 ?_
  refine J_iload_n (by rfl) dJ8_newLength_cabcc_2 ?_
  refine J_mmax dJ8_newLength_cabcc_3 s_J8_194 ?_
  rw [max_N (by omega) (by omega)]
  refine J_iadd dJ8_newLength_cabcc_6 ?_
  try rw [nI_add]
  refine J_istore_3 dJ8_newLength_cabcc_7 ?_
  refine J_iconst (nI 0) (by decide) dJ8_newLength_cabcc_8 ?_
  refine J_iload_n (by rfl) dJ8_newLength_cabcc_9 ?_
  refine J_icmp_ge_n 21 dJ8_newLength_cabcc_10 (by decide) (fun c10 => ?_) (fun c10 => ?_)
  · omega
  · refine J_iload_n (by rfl) dJ8_newLength_cabcc_13 ?_
    refine J_ldcI dJ8_newLength_cabcc_14 k_J8_200 ?_
    refine J_topi (nI 2147483639) (by rfl) ?_
    refine J_icmp_gt_n 21 dJ8_newLength_cabcc_16 (by decide) (fun c16 => ?_) (fun c16 => ?_)
    · omega
    · refine J_iload_n (by rfl) dJ8_newLength_cabcc_19 ?_
      exact J_ireturn dJ8_newLength_cabcc_20 rfl (hQ) (by decide) (by decide) (fun _ => rfl)
theorem c_J5_newCapacity {q : Nat} {ml : Int32} {f : Nat → Int32} (hb : h[b]? = some (hSb v ml n)) (hv : h[v]? = some (ba cap f)) (hc : cap ≤ 1000) (h1 : cap < q) (h2 : q ≤ 1000) (hQ : Q (.inl (some (.int (nI (capN cap q))))) h) : jCT G M_J5_newCapacity_0f7a4 2 0 0 X [.ref b, .int (nI q)] h Q := by
  have he : cap + max (q - cap) (cap + 2) = capN cap q := by unfold capN; rw [if_neg (by omega)]; omega
  refine jCT_of [some (.ref b), some (.int (nI q)), none, none, none, none] 4 rfl (by decide +kernel) rfl rfl ?_
  refine J_aload_n (by rfl) (by rfl) dJ5_newCapacity_0f7a4_0 ?_
  refine J_get dJ5_newCapacity_0f7a4_1 f_J5_15 (by repeat (first | assumption | exact jget_same2 (by (try simp only [List.length_set]); exact jlt (by assumption)) | refine jget_ne (by first | decide | assumption | omega) ?_)) (by rfl) ?_
  refine J_alen (x := 0) dJ5_newCapacity_0f7a4_4 (by repeat (first | assumption | exact jget_same2 (by (try simp only [List.length_set]); exact jlt (by assumption)) | refine jget_ne (by first | decide | assumption | omega) ?_)) (by decide) ?_
  refine J_istore_2 dJ5_newCapacity_0f7a4_5 ?_
  refine J_iload_n (by rfl) dJ5_newCapacity_0f7a4_6 ?_
  refine J_aload_n (by rfl) (by rfl) dJ5_newCapacity_0f7a4_7 ?_
  refine J_get dJ5_newCapacity_0f7a4_8 f_J5_22 (by repeat (first | assumption | exact jget_same2 (by (try simp only [List.length_set]); exact jlt (by assumption)) | refine jget_ne (by first | decide | assumption | omega) ?_)) (by rfl) ?_
  refine J_ishl dJ5_newCapacity_0f7a4_11 ?_
  refine J_topi (nI q) (sb_shl0 _) ?_
  refine J_istore_3 dJ5_newCapacity_0f7a4_12 ?_
  refine J_iload_n (by rfl) dJ5_newCapacity_0f7a4_13 ?_
  refine J_iload_n (by rfl) dJ5_newCapacity_0f7a4_14 ?_
  refine J_isub_n (by omega) dJ5_newCapacity_0f7a4_15 ?_
  refine J_istore_4 dJ5_newCapacity_0f7a4_16 ?_
  refine J_iload_n (by rfl) dJ5_newCapacity_0f7a4_18 ?_
  refine J_iload (by rfl) dJ5_newCapacity_0f7a4_19 ?_
  refine J_iload_n (by rfl) dJ5_newCapacity_0f7a4_21 ?_
  refine J_iconst (nI 2) (by decide) dJ5_newCapacity_0f7a4_22 ?_
  refine J_aload_n (by rfl) (by rfl) dJ5_newCapacity_0f7a4_23 ?_
  refine J_get dJ5_newCapacity_0f7a4_24 f_J5_22 (by repeat (first | assumption | exact jget_same2 (by (try simp only [List.length_set]); exact jlt (by assumption)) | refine jget_ne (by first | decide | assumption | omega) ?_)) (by rfl) ?_
  refine J_ishl dJ5_newCapacity_0f7a4_27 ?_
  refine J_topi (nI 2) (sb_shl0 _) ?_
  refine J_iadd dJ5_newCapacity_0f7a4_28 ?_
  try rw [nI_add]
  refine J_S3v dJ5_newCapacity_0f7a4_29 s_J5_114 m_J8_newLength_cabcc rfl (c_J8_newLength (by omega) (by omega) (jKv_i ?_))
  refine J_istore_5 dJ5_newCapacity_0f7a4_32 ?_
  rw [he]
  have hlt : capN cap q ≤ 2002 := by omega
  refine J_iload (by rfl) dJ5_newCapacity_0f7a4_34 ?_
  refine J_ldcI dJ5_newCapacity_0f7a4_36 k_J5_39 ?_
  refine J_topi (nI 2147483647) (by rfl) ?_
  refine J_icmp_ne_n 51 dJ5_newCapacity_0f7a4_38 (by decide) (fun c38 => ?_) (fun c38 => ?_)
  · refine J_iload (by rfl) dJ5_newCapacity_0f7a4_51 ?_
    refine J_aload_n (by rfl) (by rfl) dJ5_newCapacity_0f7a4_53 ?_
    refine J_get dJ5_newCapacity_0f7a4_54 f_J5_22 (by repeat (first | assumption | exact jget_same2 (by (try simp only [List.length_set]); exact jlt (by assumption)) | refine jget_ne (by first | decide | assumption | omega) ?_)) (by rfl) ?_
    refine J_ishr dJ5_newCapacity_0f7a4_57 ?_
    refine J_topi (nI (capN cap q)) (sb_shr0 _) ?_
    exact J_ireturn dJ5_newCapacity_0f7a4_58 rfl (hQ) (by decide) (by decide) (fun _ => rfl)
  · omega
theorem c_J7_copyOf {q : Nat} {f : Nat → Int32} (hh : hOk h) (hv : h[v]? = some (ba cap f)) (hf : bFit f) (h1 : cap < q) (h2 : q ≤ 3000)
    (hQ : ∀ (G' : jG) f', gEx h.length G G' → bFit f' → QA G' (.inl (some (.ref h.length))) (h ++ [ba q f'])) : jCTA G M_J7_copyOf_9075b 1 1 3000 [.ref v, .int (nI q)] h QA := by
  have hvl := jlt hv
  refine jCTA_of [some (.ref v), some (.int (nI q)), none] 1 rfl (by decide +kernel) rfl rfl ?_
  refine J_iload_n (by rfl) dJ7_copyOf_9075b_0 ?_
  refine J_aload_n (by rfl) (by rfl) dJ7_copyOf_9075b_1 ?_
  refine J_alen (x := 0) dJ7_copyOf_9075b_2 (by repeat (first | assumption | exact jget_same2 (by (try simp only [List.length_set]); exact jlt (by assumption)) | refine jget_ne (by first | decide | assumption | omega) ?_)) (by decide) ?_
  refine J_icmp_ne_n 14 dJ7_copyOf_9075b_3 (by decide) (fun c3 => ?_) (fun c3 => ?_)
  · refine J_iload_n (by rfl) dJ7_copyOf_9075b_14 ?_
    refine J_newBA q dJ7_copyOf_9075b_15 aw_byte rfl hh (by simp only [lOk, sOk, vOk, and_true, true_and, List.length_set, List.length_append, List.length_cons, List.length_nil]; try omega) (by simp only [lOk, sOk, vOk, and_true, true_and, List.length_set, List.length_append, List.length_cons, List.length_nil]; try omega) (by omega) (by decide) (by show _ ≤ 3000; omega) (fun G1 e1 => ?_)
    have hv1 : (h ++ [.inl (3, q, .inl (fun _ => 0))])[v]? = some (ba cap f) := push_lo2 hv
    have hn1 : (h ++ [.inl (3, q, .inl (fun _ => 0))])[h.length]? = some (ba q (fun _ => 0)) := push_at
    refine J_astore_2 dJ7_copyOf_9075b_17 ?_
    refine J_aload_n (by rfl) (by rfl) dJ7_copyOf_9075b_18 ?_
    refine J_iconst (nI 0) (by decide) dJ7_copyOf_9075b_19 ?_
    refine J_aload_n (by rfl) (by rfl) dJ7_copyOf_9075b_20 ?_
    refine J_iconst (nI 0) (by decide) dJ7_copyOf_9075b_21 ?_
    refine J_aload_n (by rfl) (by rfl) dJ7_copyOf_9075b_22 ?_
    refine J_alen (x := 0) dJ7_copyOf_9075b_23 (by repeat (first | assumption | exact jget_same2 (by (try simp only [List.length_set]); exact jlt (by assumption)) | refine jget_ne (by first | decide | assumption | omega) ?_)) (by decide) ?_
    refine J_iload_n (by rfl) dJ7_copyOf_9075b_24 ?_
    refine J_mmin dJ7_copyOf_9075b_25 s_J7_304 ?_ (by decide) (by exact Nat.le_of_ble_eq_true rfl) (by decide) (by show _ ≤ 3000; omega)
    rw [min_N (by omega) (by omega)]
    refine J_copyB 0 0 (min cap q) dJ7_copyOf_9075b_28 ac_J7_150 aw_1 aw_2 ini_RJ10 hv1 hn1 rfl rfl rfl hf (by omega) (by omega) (by omega) (by omega) (by decide) (by exact Nat.le_of_ble_eq_true rfl) ?_
    refine J_aload_n (by rfl) (by rfl) dJ7_copyOf_9075b_31 ?_
    have hs : (h ++ [(.inl (3, q, .inl (fun _ => 0)) : jC)]).set h.length (ba q (va_cpy f (fun _ => 0) 0 0 (min cap q))) = h ++ [ba q (va_cpy f (fun _ => 0) 0 0 (min cap q))] := by simp
    rw [hs]
    exact J_aretA e1 dJ7_copyOf_9075b_32 rfl (Or.inr ⟨_, rfl⟩) rfl (hQ G1 _ e1 (bFit_c hf bFit_0)) (by decide) (by omega)
  · omega
theorem c_J5_ensure {q : Nat} (hh : hOk h) (g : SB h b v cap n) (h2 : q ≤ 400) (hc : cap ≤ 400)
    (hQ : ∀ (G' : jG) h' v', gEx h.length G G' → kpt h h' b v → (v' = v ∨ h.length ≤ v') → SB h' b v' (capN cap q) n → QA G' (.inl none) h') : jCTA G M_J5_ensureCapacityInternal_d00df 4 1 3000 [.ref b, .int (nI q)] h QA := by
  have g0 := g
  have hbl := g.b
  obtain ⟨ml, f, hb, hv, hf, hn, hcap, hne⟩ := g
  refine jCTA_of [some (.ref b), some (.int (nI q)), none] 1 rfl (by decide +kernel) rfl rfl ?_
  refine J_aload_n (by rfl) (by rfl) dJ5_ensureCapacityInternal_d00df_0 ?_
  refine J_get dJ5_ensureCapacityInternal_d00df_1 f_J5_15 (by repeat (first | assumption | exact jget_same2 (by (try simp only [List.length_set]); exact jlt (by assumption)) | refine jget_ne (by first | decide | assumption | omega) ?_)) (by rfl) ?_
  refine J_alen (x := 0) dJ5_ensureCapacityInternal_d00df_4 (by repeat (first | assumption | exact jget_same2 (by (try simp only [List.length_set]); exact jlt (by assumption)) | refine jget_ne (by first | decide | assumption | omega) ?_)) (by decide) ?_
  refine J_aload_n (by rfl) (by rfl) dJ5_ensureCapacityInternal_d00df_5 ?_
  refine J_get dJ5_ensureCapacityInternal_d00df_6 f_J5_22 (by repeat (first | assumption | exact jget_same2 (by (try simp only [List.length_set]); exact jlt (by assumption)) | refine jget_ne (by first | decide | assumption | omega) ?_)) (by rfl) ?_
  refine J_ishr dJ5_ensureCapacityInternal_d00df_9 ?_
  refine J_topi (nI cap) (sb_shr0 _) ?_
  refine J_istore_2 dJ5_ensureCapacityInternal_d00df_10 ?_
  refine J_iload_n (by rfl) dJ5_ensureCapacityInternal_d00df_11 ?_
  refine J_iload_n (by rfl) dJ5_ensureCapacityInternal_d00df_12 ?_
  refine J_isub dJ5_ensureCapacityInternal_d00df_13 ?_
  rw [nI_sub]
  refine J_if_le 38 dJ5_ensureCapacityInternal_d00df_14 (by decide) (fun c14 => ?_) (fun c14 => ?_)
  · have hle : q ≤ cap := by
      rw [Int32.le_iff_toInt_le, iI_toInt (by omega) (by omega), show (0 : Int32).toInt = 0 from rfl] at c14
      omega
    exact J_retA (gEx.refl _ _) dJ5_ensureCapacityInternal_d00df_38 rfl (hQ G h v (gEx.refl _ _) ⟨Nat.le_refl _, hh, fun _ _ _ _ => rfl⟩ (.inl rfl) (by unfold capN; rw [if_pos hle]; exact g0)) (by decide) (by decide)
  · have hlt : cap < q := by
      rw [Int32.le_iff_toInt_le, iI_toInt (by omega) (by omega), show (0 : Int32).toInt = 0 from rfl] at c14
      omega
    have hcq : capN cap q ≤ 802 := by unfold capN; rw [if_neg (by omega)]; omega
    have hcg : cap < capN cap q := by unfold capN; rw [if_neg (by omega)]; omega
    refine J_aload_n (by rfl) (by rfl) dJ5_ensureCapacityInternal_d00df_17 ?_
    refine J_aload_n (by rfl) (by rfl) dJ5_ensureCapacityInternal_d00df_18 ?_
    refine J_get dJ5_ensureCapacityInternal_d00df_19 f_J5_15 (by repeat (first | assumption | exact jget_same2 (by (try simp only [List.length_set]); exact jlt (by assumption)) | refine jget_ne (by first | decide | assumption | omega) ?_)) (by rfl) ?_
    refine J_aload_n (by rfl) (by rfl) dJ5_ensureCapacityInternal_d00df_22 ?_
    refine J_iload_n (by rfl) dJ5_ensureCapacityInternal_d00df_23 ?_
    refine J_U1v dJ5_ensureCapacityInternal_d00df_24 s_J5_104 m_J5_newCapacity_0f7a4 rfl (by repeat (first | assumption | exact jget_same2 (by (try simp only [List.length_set]); exact jlt (by assumption)) | refine jget_ne (by first | decide | assumption | omega) ?_)) (c_J5_newCapacity hb hv (by omega) hlt (by omega) (jKv_i ?_))
    refine J_aload_n (by rfl) (by rfl) dJ5_ensureCapacityInternal_d00df_27 ?_
    refine J_get dJ5_ensureCapacityInternal_d00df_28 f_J5_22 (by repeat (first | assumption | exact jget_same2 (by (try simp only [List.length_set]); exact jlt (by assumption)) | refine jget_ne (by first | decide | assumption | omega) ?_)) (by rfl) ?_
    refine J_ishl dJ5_ensureCapacityInternal_d00df_31 ?_
    refine J_topi (nI (capN cap q)) (sb_shl0 _) ?_
    refine J_S2vA dJ5_ensureCapacityInternal_d00df_32 s_J5_108 m_J7_copyOf_9075b rfl (by simp only [lOk, sOk, vOk, and_true, true_and, List.length_set, List.length_append, List.length_cons, List.length_nil]; try first | omega | (refine ⟨?_, ?_⟩ <;> omega) | exact hbl.1 | exact hbl) (by simp only [lOk, sOk, vOk, and_true, true_and, List.length_set, List.length_append, List.length_cons, List.length_nil]; try first | omega | (refine ⟨?_, ?_⟩ <;> omega) | exact hbl.1 | exact hbl) (c_J7_copyOf hh hv hf hcg (by omega) (fun G1 f1 e1 hf1 => (jKv_i fun _ => ?_)))
    have hb1 : (h ++ [ba (capN cap q) f1])[b]? = some (hSb v ml n) := push_lo2 hb
    refine J_put_0 dJ5_ensureCapacityInternal_d00df_35 p_J5_15 (by repeat (first | assumption | exact jget_same2 (by (try simp only [List.length_set]); exact jlt (by assumption)) | refine jget_ne (by first | decide | assumption | omega) ?_)) ?_
    have hb2 : ((h ++ [ba (capN cap q) f1]).set b (hSb h.length ml n))[b]? = some (hSb h.length ml n) := jget_same2 (jlt hb1)
    have hv2 : ((h ++ [ba (capN cap q) f1]).set b (hSb h.length ml n))[h.length]? = some (ba (capN cap q) f1) := jget_ne (by omega) push_at
    have hk : kpt h ((h ++ [ba (capN cap q) f1]).set b (hSb h.length ml n)) b v := by
      refine ⟨by rw [List.length_set, push_len]; omega, (hOk.push (c := ba (capN cap q) f1) hh trivial).set ⟨by rw [push_len]; exact Nat.lt_succ_self _, trivial, trivial, trivial, trivial⟩, fun j hj h3 h4 => ?_⟩
      rw [List.getElem?_set_ne (by omega), push_lo hj]
    exact J_retA e1 dJ5_ensureCapacityInternal_d00df_38 rfl (hQ G1 _ _ e1 hk (.inr (Nat.le_refl _)) ⟨ml, f1, hb2, hv2, hf1, by omega, by omega, by omega⟩) (by decide) (by decide)
theorem c_J5_inflate {v : Nat} {ml : Int32} (hv : StrV h x w) (hb : h[b]? = some (hSb v ml n)) (hQ : Q (.inl none) h) : jCT G M_J5_inflateIfNeededFor_a7421 3 0 0 X [.ref b, x] h Q := by
  refine jCT_of [some (.ref b), some x] 0 rfl (by decide +kernel) (by rw [hv.lo2]; rfl) (by rw [hv.lo2]; rfl) ?_
  refine J_compact dJ5_inflateIfNeededFor_a7421_0 x_J5_18 ?_
  refine J_if_eq 21 dJ5_inflateIfNeededFor_a7421_3 (by decide) (fun c3 => ?_) (fun c3 => ?_)
  · exact absurd c3 (by decide)
  · refine J_aload_n (by rfl) (by rfl) dJ5_inflateIfNeededFor_a7421_6 ?_
    refine J_get dJ5_inflateIfNeededFor_a7421_7 f_J5_22 (by repeat (first | assumption | exact jget_same2 (by (try simp only [List.length_set]); exact jlt (by assumption)) | refine jget_ne (by first | decide | assumption | omega) ?_)) (by rfl) ?_
    refine J_aload_n (by rfl) hv.ref dJ5_inflateIfNeededFor_a7421_10 ?_
    refine J_T0v dJ5_inflateIfNeededFor_a7421_11 s_J5_40 m_J0_coder_7d493 rfl (hv) rfl (c_coderT hv (jKv_i ?_))
    refine J_icmp_eq 21 dJ5_inflateIfNeededFor_a7421_14 (by decide) (fun c14 => ?_) (fun c14 => ?_)
    · exact J_return dJ5_inflateIfNeededFor_a7421_21 rfl (hQ) (by decide) (by decide) (fun _ => rfl)
    · exact absurd rfl c14
theorem c_J5_putStringAt (hv : StrV h x w) (g : SB h b v cap n) (hn : n + w ≤ cap) (hQ : ∀ g', bFit g' → Q (.inl none) (h.set v (ba cap g'))) : jCT G M_J5_putStringAt_47b60 4 0 0 X [.ref b, .int (nI n), x] h Q := by
  obtain ⟨ml, f, hb, hvv, hf, hn0, hcap, hne⟩ := g
  refine jCT_of [some (.ref b), some (.int (nI n)), some x] 0 rfl (by decide +kernel) (by rw [hv.lo3]; rfl) (by rw [hv.lo3]; rfl) ?_
  refine J_aload_n (by rfl) (by rfl) dJ5_putStringAt_47b60_0 ?_
  refine J_aload_n (by rfl) hv.ref dJ5_putStringAt_47b60_1 ?_
  refine J_U10 dJ5_putStringAt_47b60_2 s_J5_397 m_J5_inflateIfNeededFor_a7421 rfl (by repeat (first | assumption | exact jget_same2 (by (try simp only [List.length_set]); exact jlt (by assumption)) | refine jget_ne (by first | decide | assumption | omega) ?_)) (c_J5_inflate hv hb (jK0_i ?_))
  refine J_aload_n (by rfl) hv.ref dJ5_putStringAt_47b60_5 ?_
  refine J_aload_n (by rfl) (by rfl) dJ5_putStringAt_47b60_6 ?_
  refine J_get dJ5_putStringAt_47b60_7 f_J5_15 (by repeat (first | assumption | exact jget_same2 (by (try simp only [List.length_set]); exact jlt (by assumption)) | refine jget_ne (by first | decide | assumption | omega) ?_)) (by rfl) ?_
  refine J_iload_n (by rfl) dJ5_putStringAt_47b60_10 ?_
  refine J_aload_n (by rfl) (by rfl) dJ5_putStringAt_47b60_11 ?_
  refine J_get dJ5_putStringAt_47b60_12 f_J5_22 (by repeat (first | assumption | exact jget_same2 (by (try simp only [List.length_set]); exact jlt (by assumption)) | refine jget_ne (by first | decide | assumption | omega) ?_)) (by rfl) ?_
  refine J_T30 dJ5_putStringAt_47b60_15 s_J5_399 m_J0_getBytes_840e7 rfl (hv) rfl (c_getBytesT hv hvv hf hn hcap (fun g1 hg1 => (jK0_i ?_)))
  exact J_return dJ5_putStringAt_47b60_18 rfl (hQ _ hg1) (by decide) (by decide) (fun _ => rfl)
/-- a String that is apart from the builder stays -/
theorem StrV.kp {h h' : jH} {x : Value} {w b v : Nat} (hv : StrV h x w) (hk : ∀ j, j < h.length → j ≠ b → j ≠ v → h'[j]? = h[j]?) (hx : ∀ c u hs hz, x = .ref c → h[c]? = some (hSt u hs hz) → c ≠ b ∧ c ≠ v ∧ u ≠ b ∧ u ≠ v) : StrV h' x w := by
  rcases hv with hv | ⟨c, u, hs, hz, f, h1, h2, h3, h4, h5, h6⟩
  · exact .inl hv
  · obtain ⟨a1, a2, a3, a4⟩ := hx c u hs hz h1 h2
    exact .inr ⟨c, u, hs, hz, f, h1, by rw [hk c (jlt h2) a1 a2]; exact h2, by rw [hk u (jlt h3) a3 a4]; exact h3, h4, h5, h6⟩
/-- a String's letters lie apart from the builder -/
abbrev apt (h : jH) (x : Value) (b v : Nat) : Prop := ∀ c u hs hz, x = .ref c → h[c]? = some (hSt u hs hz) → c ≠ b ∧ c ≠ v ∧ u ≠ b ∧ u ≠ v
theorem vOk_of {h : jH} {x : Value} {w : Nat} (hv : StrV h x w) : vOk h.length x := by
  rcases hv with ⟨i, q, rfl, _⟩ | ⟨c, u, hs, hz, f, rfl, h2, _⟩
  · trivial
  · exact jlt h2
theorem c_J5_appendS (hh : hOk h) (hv : StrV h x w) (g : SB h b v cap n) (ha : apt h x b v) (hq : n + w ≤ 400) (hc : cap ≤ 400)
    (hQ : ∀ (G' : jG) h' v', gEx h.length G G' → kpt h h' b v → (v' = v ∨ h.length ≤ v') → SB h' b v' (capN cap (n + w)) (n + w) → QA G' (.inl (some (.ref b))) h') : jCTA G M_J5_append_cf1ce 5 1 3000 [.ref b, x] h QA := by
  have hbl := g.b
  have hvo := vOk_of hv
  have g0 := g
  obtain ⟨ml, f, hb, hvv, hf, hn, hcap, hne⟩ := g
  refine jCTA_of [some (.ref b), some x, none] 1 rfl (by decide +kernel) (by rw [hv.lo2]; rfl) (by rw [hv.lo2]; rfl) ?_
  refine J_aload_n (by rfl) hv.ref dJ5_append_cf1ce_0 ?_
  refine J_nonnull 9 hv dJ5_append_cf1ce_1 (by decide) ?_
  refine J_aload_n (by rfl) hv.ref dJ5_append_cf1ce_9 ?_
  refine J_T0v dJ5_append_cf1ce_10 s_J5_32 m_J0_length_8abf5 rfl (hv) rfl (c_lengthT hv (jKv_i ?_))
  refine J_istore_2 dJ5_append_cf1ce_13 ?_ (by decide) hv.jn2
  refine J_aload_n (by rfl) (by rfl) dJ5_append_cf1ce_14 ?_
  refine J_aload_n (by rfl) (by rfl) dJ5_append_cf1ce_15 ?_
  refine J_get dJ5_append_cf1ce_16 f_J5_79 (by repeat (first | assumption | exact jget_same2 (by (try simp only [List.length_set]); exact jlt (by assumption)) | refine jget_ne (by first | decide | assumption | omega) ?_)) (by rfl) ?_
  refine J_iload_n (by rfl) dJ5_append_cf1ce_19 ?_
  refine J_iadd dJ5_append_cf1ce_20 ?_
  try rw [nI_add]
  refine J_U10A dJ5_append_cf1ce_21 s_J5_100 m_J5_ensureCapacityInternal_d00df rfl hb ⟨by exact hbl.1, hvo, trivial, trivial⟩ trivial (c_J5_ensure hh g0 hq hc (fun G1 h1 v1 e1 k1 hv1 g1 => jK0_i fun _ => ?_))
  have hx1 : StrV h1 x w := hv.kp k1.2.2 ha
  have g2 := g1
  obtain ⟨ml1, f1, hb1, hvv1, hf1, hn1, hcap1, hne1⟩ := g1
  have hge : n + w ≤ capN cap (n + w) := by unfold capN; split <;> omega
  refine J_aload_n (by rfl) (by rfl) dJ5_append_cf1ce_24 ?_
  refine J_aload_n (by rfl) (by rfl) dJ5_append_cf1ce_25 ?_
  refine J_get dJ5_append_cf1ce_26 f_J5_79 (by repeat (first | assumption | exact jget_same2 (by (try simp only [List.length_set]); exact jlt (by assumption)) | refine jget_ne (by first | decide | assumption | omega) ?_)) (by rfl) ?_
  refine J_aload_n (by rfl) hv.ref dJ5_append_cf1ce_29 ?_
  refine J_U20 dJ5_append_cf1ce_30 s_J5_208 m_J5_putStringAt_47b60 rfl (by repeat (first | assumption | exact jget_same2 (by (try simp only [List.length_set]); exact jlt (by assumption)) | refine jget_ne (by first | decide | assumption | omega) ?_)) (c_J5_putStringAt hx1 g2 hge (fun g9 hg9 => (jK0_i ?_)))
  have hb2 : (h1.set v1 (ba (capN cap (n + w)) g9))[b]? = some (hSb v1 ml1 n) := jget_ne (Ne.symm hne1) hb1
  refine J_aload_n (by rfl) (by rfl) dJ5_append_cf1ce_33 ?_
  refine J_dup (by rfl) dJ5_append_cf1ce_34 ?_
  refine J_get dJ5_append_cf1ce_35 f_J5_79 (by repeat (first | assumption | exact jget_same2 (by (try simp only [List.length_set]); exact jlt (by assumption)) | refine jget_ne (by first | decide | assumption | omega) ?_)) (by rfl) ?_
  refine J_iload_n (by rfl) dJ5_append_cf1ce_38 ?_
  refine J_iadd dJ5_append_cf1ce_39 ?_
  try rw [nI_add]
  refine J_put_3 dJ5_append_cf1ce_40 p_J5_79 (by repeat (first | assumption | exact jget_same2 (by (try simp only [List.length_set]); exact jlt (by assumption)) | refine jget_ne (by first | decide | assumption | omega) ?_)) ?_
  refine J_aload_n (by rfl) (by rfl) dJ5_append_cf1ce_43 ?_
  have hk9 : kpt h ((h1.set v1 (ba (capN cap (n + w)) g9)).set b (hSb v1 ml1 (n + w))) b v := by
    refine ⟨by rw [List.length_set, List.length_set]; exact k1.1, (hOk.set (k := v1) (c := ba (capN cap (n + w)) g9) k1.2.1 trivial).set ⟨by rw [List.length_set]; exact jlt hvv1, trivial, trivial, trivial, trivial⟩, fun j hj h3 h4 => ?_⟩
    have hjv : v1 ≠ j := by rcases hv1 with q | q <;> omega
    rw [List.getElem?_set_ne (by omega), List.getElem?_set_ne hjv]
    exact k1.2.2 j hj h3 h4
  exact J_aretA e1 dJ5_append_cf1ce_44 rfl (Or.inl ⟨_, rfl⟩) rfl (hQ G1 _ v1 e1 hk9 hv1 ⟨ml1, g9, jget_same2 (by rw [List.length_set]; exact jlt hb1), jget_ne hne1 (jget_same2 (jlt hvv1)), hg9, hge, hcap1, hne1⟩) (by decide) (by decide)
theorem c_J4_appendS (hh : hOk h) (hv : StrV h x w) (g : SB h b v cap n) (ha : apt h x b v) (hq : n + w ≤ 400) (hc : cap ≤ 400)
    (hQ : ∀ (G' : jG) h' v', gEx h.length G G' → kpt h h' b v → (v' = v ∨ h.length ≤ v') → SB h' b v' (capN cap (n + w)) (n + w) → QA G' (.inl (some (.ref b))) h') : jCTA G M_J4_append_15ec4 6 1 3000 [.ref b, x] h QA := by
  have hbl := g.b
  have hvo := vOk_of hv
  have g0 := g
  obtain ⟨ml, f, hb, hvv, hf, hn, hcap, hne⟩ := g
  refine jCTA_of [some (.ref b), some x] 0 rfl (by decide +kernel) (by rw [hv.lo2]; rfl) (by rw [hv.lo2]; rfl) ?_
  refine J_aload_n (by rfl) (by rfl) dJ4_append_15ec4_0 ?_
  refine J_aload_n (by rfl) hv.ref dJ4_append_15ec4_1 ?_
  refine J_P1vA dJ4_append_15ec4_2 s_J4_29 m_J5_append_cf1ce rfl (by decide) hb ⟨by exact hbl.1, hvo, trivial⟩ trivial (c_J5_appendS hh hv g0 ha hq hc (fun G1 h1 v1 e1 k1 hv1 g1 => jKv_i fun _ => ?_))
  refine J_pop (by rfl) dJ4_append_15ec4_5 ?_
  refine J_aload_n (by rfl) (by rfl) dJ4_append_15ec4_6 ?_
  exact J_aretA e1 dJ4_append_15ec4_7 rfl (Or.inl ⟨_, rfl⟩) rfl (hQ G1 h1 v1 e1 k1 hv1 g1) (by decide) (by decide)
theorem c_J5_appendI {k : Nat} (hh : hOk h) (hk : k < 100) (g : SB h b v cap n) (hq : n + 2 ≤ 400) (hc : cap ≤ 400)
    (hQ : ∀ (G' : jG) h' v', gEx h.length G G' → kpt h h' b v → (v' = v ∨ h.length ≤ v') → SB h' b v' (capN cap (n + szN k)) (n + szN k) → QA G' (.inl (some (.ref b))) h') : jCTA G M_J5_append_c97b9 5 1 3000 [.ref b, .int (nI k)] h QA := by
  have hbl := g.b
  have g0 := g
  have hsz : szN k ≤ 2 := by unfold szN; split <;> omega
  obtain ⟨ml, f, hb, hvv, hf, hn, hcap, hne⟩ := g
  refine jCTA_of [some (.ref b), some (.int (nI k)), none, none] 2 rfl (by decide +kernel) rfl rfl ?_
  refine J_aload_n (by rfl) (by rfl) dJ5_append_c97b9_0 ?_
  refine J_get dJ5_append_c97b9_1 f_J5_79 (by repeat (first | assumption | exact jget_same2 (by (try simp only [List.length_set]); exact jlt (by assumption)) | refine jget_ne (by first | decide | assumption | omega) ?_)) (by rfl) ?_
  refine J_istore_2 dJ5_append_c97b9_4 ?_
  refine J_iload_n (by rfl) dJ5_append_c97b9_5 ?_
  refine J_iload_n (by rfl) dJ5_append_c97b9_6 ?_
  refine J_S1v dJ5_append_c97b9_7 s_J5_245 m_J6_stringSize_0f7a4 rfl (c_J6_stringSize hk (jKv_i ?_))
  refine J_iadd dJ5_append_c97b9_10 ?_
  try rw [nI_add]
  refine J_istore_3 dJ5_append_c97b9_11 ?_
  refine J_aload_n (by rfl) (by rfl) dJ5_append_c97b9_12 ?_
  refine J_iload_n (by rfl) dJ5_append_c97b9_13 ?_
  refine J_U10A dJ5_append_c97b9_14 s_J5_100 m_J5_ensureCapacityInternal_d00df rfl hb ⟨by exact hbl.1, trivial, trivial, trivial, trivial⟩ trivial (c_J5_ensure hh g0 (by omega) hc (fun G1 h1 v1 e1 k1 hv1 g1 => jK0_i fun _ => ?_))
  have g2 := g1
  obtain ⟨ml1, f1, hb1, hvv1, hf1, hn1, hcap1, hne1⟩ := g1
  have hge : n + szN k ≤ capN cap (n + szN k) := by unfold capN; split <;> omega
  refine J_aload_n (by rfl) (by rfl) dJ5_append_c97b9_17 ?_
  refine J_U0v dJ5_append_c97b9_18 s_J5_83 m_J5_isLatin1_aae02 rfl (by repeat (first | assumption | exact jget_same2 (by (try simp only [List.length_set]); exact jlt (by assumption)) | refine jget_ne (by first | decide | assumption | omega) ?_)) (c_J5_isLatin1 hb1 (jKv_i ?_))
  refine J_if_eq_b 37 dJ5_append_c97b9_21 (by decide) (fun c21 => ?_) (fun c21 => ?_)
  · exact absurd c21 (by decide)
  · refine J_iload_n (by rfl) dJ5_append_c97b9_24 ?_
    refine J_iload_n (by rfl) dJ5_append_c97b9_25 ?_
    refine J_aload_n (by rfl) (by rfl) dJ5_append_c97b9_26 ?_
    refine J_get dJ5_append_c97b9_27 f_J5_15 (by repeat (first | assumption | exact jget_same2 (by (try simp only [List.length_set]); exact jlt (by assumption)) | refine jget_ne (by first | decide | assumption | omega) ?_)) (by rfl) ?_
    refine J_S3v dJ5_append_c97b9_30 s_J5_248 m_J6_getChars_ba4f3 rfl (c_J6_getChars hk (by omega) hge hcap1 hvv1 hf1 (fun r9 g9 hg9 => (jKv_i ?_)))
    have hb2 : (h1.set v1 (ba (capN cap (n + szN k)) g9))[b]? = some (hSb v1 ml1 n) := jget_ne (Ne.symm hne1) hb1
    refine J_pop (by rfl) dJ5_append_c97b9_33 ?_
    refine J_goto 48 dJ5_append_c97b9_34 (by decide) ?_
    refine J_aload_n (by rfl) (by rfl) dJ5_append_c97b9_48 ?_
    refine J_iload_n (by rfl) dJ5_append_c97b9_49 ?_
    refine J_put_3 dJ5_append_c97b9_50 p_J5_79 (by repeat (first | assumption | exact jget_same2 (by (try simp only [List.length_set]); exact jlt (by assumption)) | refine jget_ne (by first | decide | assumption | omega) ?_)) ?_
    refine J_aload_n (by rfl) (by rfl) dJ5_append_c97b9_53 ?_
    have hk9 : kpt h ((h1.set v1 (ba (capN cap (n + szN k)) g9)).set b (hSb v1 ml1 (n + szN k))) b v := by
      refine ⟨by rw [List.length_set, List.length_set]; exact k1.1, (hOk.set (k := v1) (c := ba (capN cap (n + szN k)) g9) k1.2.1 trivial).set ⟨by rw [List.length_set]; exact jlt hvv1, trivial, trivial, trivial, trivial⟩, fun j hj h3 h4 => ?_⟩
      have hjv : v1 ≠ j := by rcases hv1 with q | q <;> omega
      rw [List.getElem?_set_ne (by omega), List.getElem?_set_ne hjv]
      exact k1.2.2 j hj h3 h4
    exact J_aretA e1 dJ5_append_c97b9_54 rfl (Or.inl ⟨_, rfl⟩) rfl (hQ G1 _ v1 e1 hk9 hv1 ⟨ml1, g9, jget_same2 (by rw [List.length_set]; exact jlt hb1), jget_ne hne1 (jget_same2 (jlt hvv1)), hg9, hge, hcap1, hne1⟩) (by decide) (by decide)
theorem c_J4_appendI {k : Nat} (hh : hOk h) (hk : k < 100) (g : SB h b v cap n) (hq : n + 2 ≤ 400) (hc : cap ≤ 400)
    (hQ : ∀ (G' : jG) h' v', gEx h.length G G' → kpt h h' b v → (v' = v ∨ h.length ≤ v') → SB h' b v' (capN cap (n + szN k)) (n + szN k) → QA G' (.inl (some (.ref b))) h') : jCTA G M_J4_append_bf812 6 1 3000 [.ref b, .int (nI k)] h QA := by
  have hbl := g.b
  have g0 := g
  obtain ⟨ml, f, hb, hvv, hf, hn, hcap, hne⟩ := g
  refine jCTA_of [some (.ref b), some (.int (nI k))] 0 rfl (by decide +kernel) rfl rfl ?_
  refine J_aload_n (by rfl) (by rfl) dJ4_append_bf812_0 ?_
  refine J_iload_n (by rfl) dJ4_append_bf812_1 ?_
  refine J_P1vA dJ4_append_bf812_2 s_J4_53 m_J5_append_c97b9 rfl (by decide) hb ⟨by exact hbl.1, trivial, trivial⟩ trivial (c_J5_appendI hh hk g0 hq hc (fun G1 h1 v1 e1 k1 hv1 g1 => jKv_i fun _ => ?_))
  refine J_pop (by rfl) dJ4_append_bf812_5 ?_
  refine J_aload_n (by rfl) (by rfl) dJ4_append_bf812_6 ?_
  exact J_aretA e1 dJ4_append_bf812_7 rfl (Or.inl ⟨_, rfl⟩) rfl (hQ G1 h1 v1 e1 k1 hv1 g1) (by decide) (by decide)
-- ===== made =====
theorem c_J5_init (hh : hOk h) (hb : h[b]? = some (.inr (11, [.null, .int 0, .int 0, .int 0])))
    (hQ : ∀ (G' : jG) h', gEx h.length G G' → h'.length = h.length + 1 → hOk h' → (∀ j, j < h.length → j ≠ b → h'[j]? = h[j]?) → SB h' b h.length 16 0 → QA G' (.inl none) h') : jCTA G M_J5_init_d00df 1 1 3000 [.ref b, .int (nI 16)] h QA := by
  have hbl := jlt hb
  refine jCTA_of [some (.ref b), some (.int (nI 16))] 0 rfl (by decide +kernel) rfl rfl ?_
  refine J_aload_n (by rfl) (by rfl) dJ5_init_d00df_0 ?_
  refine J_objInit dJ5_init_d00df_1 o_J5_3 ow_1 ow_2 (by decide) (by exact Nat.le_of_ble_eq_true rfl) ?_
  refine J_compact dJ5_init_d00df_4 x_J5_18 ?_
  refine J_if_eq 25 dJ5_init_d00df_7 (by decide) (fun c7 => ?_) (fun c7 => ?_)
  · exact absurd c7 (by decide)
  · refine J_aload_n (by rfl) (by rfl) dJ5_init_d00df_10 ?_
    refine J_iload_n (by rfl) dJ5_init_d00df_11 ?_
    refine J_newBA 16 dJ5_init_d00df_12 aw_byte rfl hh (by simp only [lOk, sOk, vOk, and_true, true_and, List.length_set, List.length_append, List.length_cons, List.length_nil]; try omega) (by simp only [lOk, sOk, vOk, and_true, true_and, List.length_set, List.length_append, List.length_cons, List.length_nil]; try omega) (by decide) (by decide) (by decide) (fun G1 e1 => ?_)
    have hb1 : (h ++ [.inl (3, 16, .inl (fun _ => 0))])[b]? = some (.inr (11, [.null, .int 0, .int 0, .int 0])) := push_lo2 hb
    refine J_put_0 dJ5_init_d00df_14 p_J5_15 (by repeat (first | assumption | exact jget_same2 (by (try simp only [List.length_set]); exact jlt (by assumption)) | refine jget_ne (by first | decide | assumption | omega) ?_)) ?_
    refine J_aload_n (by rfl) (by rfl) dJ5_init_d00df_17 ?_
    refine J_iconst (nI 0) (by decide) dJ5_init_d00df_18 ?_
    refine J_put_1 dJ5_init_d00df_19 p_J5_22 (by repeat (first | assumption | exact jget_same2 (by (try simp only [List.length_set]); exact jlt (by assumption)) | refine jget_ne (by first | decide | assumption | omega) ?_)) ?_
    refine J_goto 38 dJ5_init_d00df_22 (by decide) ?_
    have hv1 : (h ++ [(.inl (3, 16, .inl (fun _ => 0)) : jC)])[h.length]? = some (ba 16 (fun _ => 0)) := push_at
    rw [List.set_set]
    refine J_retA e1 dJ5_init_d00df_38 rfl (hQ G1 _ e1 (by rw [List.length_set, push_len]) ((hOk.push (c := ba 16 (fun _ => 0)) hh trivial).set ⟨by rw [push_len]; exact Nat.lt_succ_self _, trivial, trivial, trivial, trivial⟩) (fun j hj h3 => by rw [List.getElem?_set_ne (by omega), push_lo hj]) ⟨0, fun _ => 0, jget_same2 (jlt hb1), jget_ne (by omega) hv1, bFit_0, by decide, by decide, by omega⟩) (by decide) (by decide)
theorem c_J4_init (hh : hOk h) (hb : h[b]? = some (.inr (11, [.null, .int 0, .int 0, .int 0])))
    (hQ : ∀ (G' : jG) h', gEx h.length G G' → h'.length = h.length + 1 → hOk h' → (∀ j, j < h.length → j ≠ b → h'[j]? = h[j]?) → SB h' b h.length 16 0 → QA G' (.inl none) h') : jCTA G M_J4_init_da8c8 2 1 3000 [.ref b] h QA := by
  have hbl := jlt hb
  refine jCTA_of [some (.ref b)] 0 rfl (by decide +kernel) rfl rfl ?_
  refine J_aload_n (by rfl) (by rfl) dJ4_init_da8c8_0 ?_
  refine J_bipush (nI 16) (by decide) dJ4_init_da8c8_1 ?_
  refine J_I10A dJ4_init_da8c8_3 s_J4_1 m_J5_init_d00df rfl (by simp only [lOk, sOk, vOk, and_true, true_and, List.length_set, List.length_append, List.length_cons, List.length_nil]; try first | omega | (refine ⟨?_, ?_⟩ <;> omega) | exact hbl.1 | exact hbl) (by simp only [lOk, sOk, vOk, and_true, true_and, List.length_set, List.length_append, List.length_cons, List.length_nil]; try first | omega | (refine ⟨?_, ?_⟩ <;> omega) | exact hbl.1 | exact hbl) (c_J5_init hh hb (fun G1 h1 e1 a1 a2 a3 a4 => (jK0_i fun _ => ?_)))
  exact J_retA e1 dJ4_init_da8c8_6 rfl (hQ G1 h1 e1 a1 a2 a3 a4) (by decide) (by decide)
-- ===== turned into a String =====
theorem c_J7_checkLength {a b : Nat} (hab : a ≤ b) (hb : b < 2 ^ 31) (hQ : Q (.inl none) h) : jCT G M_J7_checkLength_df160 0 0 0 X [.int (nI a), .int (nI b)] h Q := by
  refine jCT_of [some (.int (nI a)), some (.int (nI b))] 0 rfl (by decide +kernel) rfl rfl ?_
  refine J_iload_n (by rfl) dJ7_checkLength_df160_0 ?_
  refine J_iload_n (by rfl) dJ7_checkLength_df160_1 ?_
  refine J_icmp_ge_n 37 dJ7_checkLength_df160_2 (by decide) (fun c2 => ?_) (fun c2 => ?_)
  · exact J_return dJ7_checkLength_df160_37 rfl (hQ) (by decide) (by decide) (fun _ => rfl)
  · omega
theorem c_J7_rangeB {f : Nat → Int32} (hh : hOk h) (hv : h[v]? = some (ba cap f)) (hf : bFit f) (h1 : n ≤ cap) (h2 : cap ≤ 1000)
    (hQ : ∀ (G' : jG) f', gEx h.length G G' → bFit f' → QA G' (.inl (some (.ref h.length))) (h ++ [ba n f'])) : jCTA G M_J7_copyOfRangeByte_39247 2 1 3000 [.ref v, .int (nI 0), .int (nI n)] h QA := by
  have hvl := jlt hv
  refine jCTA_of [some (.ref v), some (.int (nI 0)), some (.int (nI n)), none, none] 2 rfl (by decide +kernel) rfl rfl ?_
  refine J_iload_n (by rfl) dJ7_copyOfRangeByte_39247_0 ?_
  refine J_iload_n (by rfl) dJ7_copyOfRangeByte_39247_1 ?_
  refine J_S20 dJ7_copyOfRangeByte_39247_2 s_J7_343 m_J7_checkLength_df160 rfl (c_J7_checkLength (by omega) (by omega) (jK0_i ?_))
  refine J_iload_n (by rfl) dJ7_copyOfRangeByte_39247_5 ?_
  refine J_iload_n (by rfl) dJ7_copyOfRangeByte_39247_6 ?_
  refine J_isub_n (by omega) dJ7_copyOfRangeByte_39247_7 ?_
  refine J_istore_3 dJ7_copyOfRangeByte_39247_8 ?_
  refine J_iload_n (by rfl) dJ7_copyOfRangeByte_39247_9 ?_
  refine J_newBA (n - 0) dJ7_copyOfRangeByte_39247_10 aw_byte rfl hh (by simp only [lOk, sOk, vOk, and_true, true_and, List.length_set, List.length_append, List.length_cons, List.length_nil]; try omega) (by simp only [lOk, sOk, vOk, and_true, true_and, List.length_set, List.length_append, List.length_cons, List.length_nil]; try omega) (by omega) (by decide) (by show _ ≤ 3000; omega) (fun G1 e1 => ?_)
  rw [Nat.sub_zero]
  have hv1 : (h ++ [.inl (3, n, .inl (fun _ => 0))])[v]? = some (ba cap f) := push_lo2 hv
  have hn1 : (h ++ [.inl (3, n, .inl (fun _ => 0))])[h.length]? = some (ba n (fun _ => 0)) := push_at
  refine J_astore_4 dJ7_copyOfRangeByte_39247_12 ?_
  refine J_aload_n (by rfl) (by rfl) dJ7_copyOfRangeByte_39247_14 ?_
  refine J_iload_n (by rfl) dJ7_copyOfRangeByte_39247_15 ?_
  refine J_aload (by rfl) (by rfl) dJ7_copyOfRangeByte_39247_16 ?_
  refine J_iconst (nI 0) (by decide) dJ7_copyOfRangeByte_39247_18 ?_
  refine J_aload_n (by rfl) (by rfl) dJ7_copyOfRangeByte_39247_19 ?_
  refine J_alen (x := 0) dJ7_copyOfRangeByte_39247_20 (by repeat (first | assumption | exact jget_same2 (by (try simp only [List.length_set]); exact jlt (by assumption)) | refine jget_ne (by first | decide | assumption | omega) ?_)) (by decide) ?_
  refine J_iload_n (by rfl) dJ7_copyOfRangeByte_39247_21 ?_
  refine J_isub_n (by omega) dJ7_copyOfRangeByte_39247_22 ?_
  refine J_iload_n (by rfl) dJ7_copyOfRangeByte_39247_23 ?_
  refine J_mmin dJ7_copyOfRangeByte_39247_24 s_J7_304 ?_ (by decide) (by exact Nat.le_of_ble_eq_true rfl) (by decide) (by show _ ≤ 3000; omega)
  rw [min_N (by omega) (by omega)]
  refine J_copyB 0 0 (min (cap - 0) n) dJ7_copyOfRangeByte_39247_27 ac_J7_150 aw_1 aw_2 ini_RJ10 hv1 hn1 rfl rfl rfl hf (by omega) (by omega) (by omega) (by omega) (by decide) (by exact Nat.le_of_ble_eq_true rfl) ?_
  refine J_aload (by rfl) (by rfl) dJ7_copyOfRangeByte_39247_30 ?_
  have hs : (h ++ [(.inl (3, n, .inl (fun _ => 0)) : jC)]).set h.length (ba n (va_cpy f (fun _ => 0) 0 0 (min (cap - 0) n))) = h ++ [ba n (va_cpy f (fun _ => 0) 0 0 (min (cap - 0) n))] := by simp
  rw [hs]
  exact J_aretA e1 dJ7_copyOfRangeByte_39247_32 rfl (Or.inr ⟨_, rfl⟩) rfl (hQ G1 _ e1 (bFit_c hf bFit_0)) (by decide) (by omega)
theorem c_J7_range {f : Nat → Int32} (hh : hOk h) (hv : h[v]? = some (ba cap f)) (hf : bFit f) (h1 : n < cap) (h2 : cap ≤ 1000)
    (hQ : ∀ (G' : jG) f', gEx h.length G G' → bFit f' → QA G' (.inl (some (.ref h.length))) (h ++ [ba n f'])) : jCTA G M_J7_copyOfRange_39247 3 1 3000 [.ref v, .int (nI 0), .int (nI n)] h QA := by
  have hvl := jlt hv
  refine jCTA_of [some (.ref v), some (.int (nI 0)), some (.int (nI n))] 0 rfl (by decide +kernel) rfl rfl ?_
  refine J_iload_n (by rfl) dJ7_copyOfRange_39247_0 ?_
  refine J_if_ne_n 10 dJ7_copyOfRange_39247_1 (by decide) (fun c1 => ?_) (fun c1 => ?_)
  · exact absurd c1 (by omega)
  · refine J_iload_n (by rfl) dJ7_copyOfRange_39247_4 ?_
    refine J_aload_n (by rfl) (by rfl) dJ7_copyOfRange_39247_5 ?_
    refine J_alen (x := 0) dJ7_copyOfRange_39247_6 (by repeat (first | assumption | exact jget_same2 (by (try simp only [List.length_set]); exact jlt (by assumption)) | refine jget_ne (by first | decide | assumption | omega) ?_)) (by decide) ?_
    refine J_icmp_eq_n 17 dJ7_copyOfRange_39247_7 (by decide) (fun c7 => ?_) (fun c7 => ?_)
    · omega
    · refine J_aload_n (by rfl) (by rfl) dJ7_copyOfRange_39247_10 ?_
      refine J_iload_n (by rfl) dJ7_copyOfRange_39247_11 ?_
      refine J_iload_n (by rfl) dJ7_copyOfRange_39247_12 ?_
      refine J_S3vA dJ7_copyOfRange_39247_13 s_J7_339 m_J7_copyOfRangeByte_39247 rfl (by simp only [lOk, sOk, vOk, and_true, true_and, List.length_set, List.length_append, List.length_cons, List.length_nil]; try first | omega | (refine ⟨?_, ?_⟩ <;> omega) | exact hbl.1 | exact hbl) (by simp only [lOk, sOk, vOk, and_true, true_and, List.length_set, List.length_append, List.length_cons, List.length_nil]; try first | omega | (refine ⟨?_, ?_⟩ <;> omega) | exact hbl.1 | exact hbl) (c_J7_rangeB hh hv hf (by omega) h2 (fun G1 f1 e1 hf1 => (jKv_i fun _ => ?_)))
      exact J_aretA e1 dJ7_copyOfRange_39247_16 rfl (Or.inr ⟨_, rfl⟩) rfl (hQ G1 f1 e1 hf1) (by decide) (by decide)
theorem c_J0_initB {c : Nat} (hh : hOk h) (hc : h[c]? = some (.inr (12, [.null, .int 0, .int 0, .int 0]))) (g : SB h b v cap n) (hn : n < cap) (hcb : c ≠ b) (hcv : c ≠ v)
    (hQ : ∀ (G' : jG) h' f, gEx h.length G G' → h'.length = h.length + 1 → hOk h' → (∀ j, j < h.length → j ≠ c → h'[j]? = h[j]?) → h'[c]? = some (hSt h.length 0 0) → h'[h.length]? = some (ba n f) → bFit f → QA G' (.inl none) h') : jCTA G M_J0_init_db425 4 1 3000 [.ref c, .ref b, .null] h QA := by
  have hcl := jlt hc
  have hbl := g.b
  obtain ⟨ml, f, hb, hvv, hf, hn0, hcap, hne⟩ := g
  refine jCTA_of [some (.ref c), some (.ref b), some .null, none, none] 2 rfl (by decide +kernel) rfl rfl ?_
  refine J_aload_n (by rfl) (by rfl) dJ0_init_db425_0 ?_
  refine J_objInit dJ0_init_db425_1 o_J0_1 ow_1 ow_2 (by decide) (by exact Nat.le_of_ble_eq_true rfl) ?_
  refine J_aload_n (by rfl) (by rfl) dJ0_init_db425_4 ?_
  refine J_U0v dJ0_init_db425_5 s_J0_552 m_J5_getValue_6d5f1 rfl (by repeat (first | assumption | exact jget_same2 (by (try simp only [List.length_set]); exact jlt (by assumption)) | refine jget_ne (by first | decide | assumption | omega) ?_)) (c_J5_getValue hb (jKv_i ?_))
  refine J_astore_3 dJ0_init_db425_8 ?_
  refine J_aload_n (by rfl) (by rfl) dJ0_init_db425_9 ?_
  refine J_Ul0v dJ0_init_db425_10 s_J0_549 (by repeat (first | assumption | exact jget_same2 (by (try simp only [List.length_set]); exact jlt (by assumption)) | refine jget_ne (by first | decide | assumption | omega) ?_)) (c_J4_length hb (jKv_i ?_))
  refine J_istore_4 dJ0_init_db425_13 ?_
  refine J_aload_n (by rfl) (by rfl) dJ0_init_db425_15 ?_
  refine J_U0v dJ0_init_db425_16 s_J0_1047 m_J5_isLatin1_aae02 rfl (by repeat (first | assumption | exact jget_same2 (by (try simp only [List.length_set]); exact jlt (by assumption)) | refine jget_ne (by first | decide | assumption | omega) ?_)) (c_J5_isLatin1 hb (jKv_i ?_))
  refine J_if_eq_b 41 dJ0_init_db425_19 (by decide) (fun c19 => ?_) (fun c19 => ?_)
  · exact absurd c19 (by decide)
  · refine J_aload_n (by rfl) (by rfl) dJ0_init_db425_22 ?_
    refine J_iconst (nI 0) (by decide) dJ0_init_db425_23 ?_
    refine J_putF_1 dJ0_init_db425_24 p_J0_15 rfl (by repeat (first | assumption | exact jget_same2 (by (try simp only [List.length_set]); exact jlt (by assumption)) | refine jget_ne (by first | decide | assumption | omega) ?_)) ?_
    have hv1 : (h.set c (.inr (12, [.null, .int 0, .int 0, .int 0])))[v]? = some (ba cap f) := jget_ne hcv hvv
    refine J_aload_n (by rfl) (by rfl) dJ0_init_db425_27 ?_
    refine J_aload_n (by rfl) (by rfl) dJ0_init_db425_28 ?_
    refine J_iconst (nI 0) (by decide) dJ0_init_db425_29 ?_
    refine J_iload (by rfl) dJ0_init_db425_30 ?_
    refine J_S3vA dJ0_init_db425_32 s_J0_54 m_J7_copyOfRange_39247 rfl (by simp only [lOk, sOk, vOk, and_true, true_and, List.length_set, List.length_append, List.length_cons, List.length_nil]; try first | omega | (refine ⟨?_, ?_⟩ <;> omega) | exact hbl.1 | exact hbl) (by simp only [lOk, sOk, vOk, and_true, true_and, List.length_set, List.length_append, List.length_cons, List.length_nil]; try first | omega | (refine ⟨?_, ?_⟩ <;> omega) | exact hbl.1 | exact hbl) (c_J7_range (hOk.set (k := c) (c := .inr (12, [.null, .int 0, .int 0, .int 0])) hh ⟨trivial, trivial, trivial, trivial, trivial⟩) hv1 hf hn hcap (fun G1 f1 e1 hf1 => (jKv_i fun _ => ?_)))
    rw [List.length_set] at e1 ⊢
    have hc1 : (h.set c (.inr (12, [.null, .int 0, .int 0, .int 0])) ++ [ba n f1])[c]? = some (.inr (12, [.null, .int 0, .int 0, .int 0])) := push_lo2 (jget_same2 hcl)
    refine J_putF_0 dJ0_init_db425_35 p_J0_9 rfl (by repeat (first | assumption | exact jget_same2 (by (try simp only [List.length_set]); exact jlt (by assumption)) | refine jget_ne (by first | decide | assumption | omega) ?_)) ?_
    refine J_goto 97 dJ0_init_db425_38 (by decide) ?_
    have hu1 : (h.set c (.inr (12, [.null, .int 0, .int 0, .int 0])) ++ [ba n f1])[h.length]? = some (ba n f1) := by have := push_at (h := h.set c (.inr (12, [.null, .int 0, .int 0, .int 0]))) (c := ba n f1); rw [List.length_set] at this; exact this
    refine J_retA e1 dJ0_init_db425_97 rfl (hQ G1 _ f1 e1 (by rw [List.length_set, push_len, List.length_set]) ((hOk.push (c := ba n f1) (hOk.set (k := c) (c := .inr (12, [.null, .int 0, .int 0, .int 0])) hh ⟨trivial, trivial, trivial, trivial, trivial⟩) trivial).set ⟨by rw [push_len, List.length_set]; exact Nat.lt_succ_self _, trivial, trivial, trivial, trivial⟩) (fun j hj h3 => ?_) (jget_same2 (jlt hc1)) (jget_ne (by omega) hu1) hf1) (by decide) (by decide)
    rw [List.getElem?_set_ne (by omega), push_lo (by rw [List.length_set]; exact hj), List.getElem?_set_ne (by omega)]
theorem c_J0_initS {c : Nat} (hh : hOk h) (hc : h[c]? = some (.inr (12, [.null, .int 0, .int 0, .int 0]))) (g : SB h b v cap n) (hn : n < cap) (hcb : c ≠ b) (hcv : c ≠ v)
    (hQ : ∀ (G' : jG) h' f, gEx h.length G G' → h'.length = h.length + 1 → hOk h' → (∀ j, j < h.length → j ≠ c → h'[j]? = h[j]?) → h'[c]? = some (hSt h.length 0 0) → h'[h.length]? = some (ba n f) → bFit f → QA G' (.inl none) h') : jCTA G M_J0_init_81219 5 1 3000 [.ref c, .ref b] h QA := by
  have hcl := jlt hc
  have hbl := g.b
  refine jCTA_of [some (.ref c), some (.ref b)] 0 rfl (by decide +kernel) rfl rfl ?_
  refine J_aload_n (by rfl) (by rfl) dJ0_init_81219_0 ?_
  refine J_aload_n (by rfl) (by rfl) dJ0_init_81219_1 ?_
  refine J_null dJ0_init_81219_2 ?_
  refine J_I20A dJ0_init_81219_3 s_J0_489 m_J0_init_db425 rfl (by exact ⟨hcl, hbl.1, trivial⟩) (by exact trivial) (c_J0_initB hh hc g hn hcb hcv (fun G1 h1 f1 e1 a1 a2 a3 a4 a5 a6 => (jK0_i fun _ => ?_)))
  exact J_retA e1 dJ0_init_81219_6 rfl (hQ G1 h1 f1 e1 a1 a2 a3 a4 a5 a6) (by decide) (by decide)
theorem c_J4_toString (hh : hOk h) (g : SB h b v cap n) (hn : n < cap)
    (hQ : ∀ (G' : jG) h' f, gEx h.length G G' → h'.length = h.length + 2 → hOk h' → (∀ j, j < h.length → h'[j]? = h[j]?) → h'[h.length]? = some (hSt (h.length + 1) 0 0) → h'[h.length + 1]? = some (ba n f) → bFit f → QA G' (.inl (some (.ref h.length))) h') : jCTA G M_J4_toString_0e30d 6 2 3004 [.ref b] h QA := by
  have hbl := g.b
  refine jCTA_of [some (.ref b)] 0 rfl (by decide +kernel) rfl rfl ?_
  refine J_newA dJ4_toString_0e30d_0 n_J4_18 hh (by exact ⟨hbl.1, trivial⟩) (by exact trivial) (by decide) (by decide) ⟨trivial, trivial, trivial, trivial, trivial⟩ (fun G1 e1 => ?_)
  obtain ⟨ml, f, hb, hvv, hf, hn0, hcap, hne⟩ := g
  have g1 : SB (h ++ [(.inr (12, [.null, .int 0, .int 0, .int 0]) : jC)]) b v cap n := ⟨ml, f, push_lo2 hb, push_lo2 hvv, hf, hn0, hcap, hne⟩
  have hbl2 : b < (h ++ [(.inr (12, [.null, .int 0, .int 0, .int 0]) : jC)]).length := by rw [push_len]; omega
  have hbl3 : h.length < (h ++ [(.inr (12, [.null, .int 0, .int 0, .int 0]) : jC)]).length := by rw [push_len]; omega
  refine J_dup (by rfl) dJ4_toString_0e30d_3 ?_
  refine J_aload_n (by rfl) (by rfl) dJ4_toString_0e30d_4 ?_
  refine J_I10A dJ4_toString_0e30d_5 s_J4_137 m_J0_init_81219 rfl (by exact ⟨hbl2, trivial⟩) (by exact ⟨hbl3, trivial⟩) (c_J0_initS (hOk.push (c := .inr (12, [.null, .int 0, .int 0, .int 0])) hh ⟨trivial, trivial, trivial, trivial, trivial⟩) push_at g1 hn (by omega) (by omega) (fun G2 h2 f2 e2 a1 a2 a3 a4 a5 a6 => (jK0_i fun _ => ?_)))
  rw [push_len] at e2 a1 a3 a4 a5
  exact J_aretA (e1.trans e2 (by omega)) dJ4_toString_0e30d_8 rfl (Or.inl ⟨_, rfl⟩) rfl (hQ G2 h2 f2 (e1.trans e2 (by omega)) (by omega) a2 (fun j hj => by rw [a3 j (by omega) (by omega), push_lo hj]) a4 a5 a6) (by decide) (by decide)
end BLD2
