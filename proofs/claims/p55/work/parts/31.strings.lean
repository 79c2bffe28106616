/-! The constants' texts: length and charAt -/
/-- the i-th constant is the text of these signs -/
def strIs (i : Nat) (W : List Nat) : Prop := ∃ q : jS_, jStr[i]? = some q ∧ q.2.2.2.1 = W.length ∧ q.2.2.2.2 = W.map nI ∧ W.length < 1000 ∧ ∀ c, c ∈ W → c < 128
theorem str_21 : strIs 21 (opn 0 ++ tal 0) := ⟨_, rfl, rfl, by decide, by decide, by decide⟩
theorem str_22 : strIs 22 (opn 1 ++ tal 1) := ⟨_, rfl, rfl, by decide, by decide, by decide⟩
theorem str_23 : strIs 23 (opn 2 ++ tal 2) := ⟨_, rfl, rfl, by decide, by decide, by decide⟩
theorem str_24 : strIs 24 (opn 3 ++ tal 3) := ⟨_, rfl, rfl, by decide, by decide, by decide⟩
theorem str_25 : strIs 25 (opn 4 ++ tal 4) := ⟨_, rfl, rfl, by decide, by decide, by decide⟩
theorem str_26 : strIs 26 (opn 5 ++ tal 5) := ⟨_, rfl, rfl, by decide, by decide, by decide⟩
theorem str_27 : strIs 27 (opn 6 ++ tal 6) := ⟨_, rfl, rfl, by decide, by decide, by decide⟩
theorem str_28 : strIs 28 (opn 7 ++ tal 7) := ⟨_, rfl, rfl, by decide, by decide, by decide⟩
theorem str_29 : strIs 29 (opn 8 ++ tal 8) := ⟨_, rfl, rfl, by decide, by decide, by decide⟩
theorem pat_is {k : Nat} (hk : k ≤ 8) : strIs (21 + k) (opn k ++ tal k) := by
  rcases (show k = 0 ∨ k = 1 ∨ k = 2 ∨ k = 3 ∨ k = 4 ∨ k = 5 ∨ k = 6 ∨ k = 7 ∨ k = 8 by omega) with rfl | rfl | rfl | rfl | rfl | rfl | rfl | rfl | rfl
  · exact str_21
  · exact str_22
  · exact str_23
  · exact str_24
  · exact str_25
  · exact str_26
  · exact str_27
  · exact str_28
  · exact str_29
theorem strIs.c {i : Nat} {W : List Nat} (h : strIs i W) {j : Nat} (hj : j < W.length) : W.getD j 0 < 128 := by
  obtain ⟨q, _, _, _, _, h5⟩ := h
  rw [List.getD_eq_getElem?_getD, List.getElem?_eq_getElem hj]
  exact h5 _ (List.getElem_mem hj)
theorem ch_n {c : Nat} (h : c < 128) : ((nI c &&& nI 255).toUInt32 % 65536).toInt32 = nI c := by
  have key : ∀ c, c < 128 → ((nI c &&& nI 255).toUInt32 % 65536).toInt32 = nI c := by decide +kernel
  exact key c h
theorem getD_map {W : List Nat} {j : Nat} (hj : j < W.length) : (W.map nI).getD j 0 = nI (W.getD j 0) := by
  rw [List.getD_eq_getElem?_getD, List.getD_eq_getElem?_getD, List.getElem?_map, List.getElem?_eq_getElem hj]
  rfl
section STR
variable {G : jG} {X : Bool} {h : jH} {Q : jQ_} {i j : Nat} {W : List Nat}
theorem c_J0_coder {q : jS_} (hq : jStr[i]? = some q) (hQ : Q (.inl (some (.int 0))) h) : jCT G M_J0_coder_7d493 1 0 0 X [.retAddr (2 * i + 2)] h Q := by
  refine jCT_of [some (.retAddr (2 * i + 2))] 0 rfl (by decide +kernel) rfl rfl ?_
  refine J_compact dJ0_coder_7d493_0 x_J0_38 ?_
  refine J_if_eq 13 dJ0_coder_7d493_3 (by decide) (fun c3 => ?_) (fun c3 => ?_)
  · exact absurd c3 (by decide)
  · refine J_aload_n (by rfl) (by rfl) dJ0_coder_7d493_6 ?_
    refine J_scod dJ0_coder_7d493_7 hq x_J0_15 ?_
    refine J_goto 14 dJ0_coder_7d493_10 (by decide) ?_
    exact J_zreturn dJ0_coder_7d493_14 rfl (by first | rfl | exact jb_n _) (hQ) (by decide) (by decide) (fun _ => rfl)
theorem c_J0_isLatin1 {q : jS_} (hq : jStr[i]? = some q) (hQ : Q (.inl (some (.int (jb true)))) h) : jCT G M_J0_isLatin1_aae02 1 0 0 X [.retAddr (2 * i + 2)] h Q := by
  refine jCT_of [some (.retAddr (2 * i + 2))] 0 rfl (by decide +kernel) rfl rfl ?_
  refine J_compact dJ0_isLatin1_aae02_0 x_J0_38 ?_
  refine J_if_eq 17 dJ0_isLatin1_aae02_3 (by decide) (fun c3 => ?_) (fun c3 => ?_)
  · exact absurd c3 (by decide)
  · refine J_aload_n (by rfl) (by rfl) dJ0_isLatin1_aae02_6 ?_
    refine J_scod dJ0_isLatin1_aae02_7 hq x_J0_15 ?_
    refine J_if_ne 17 dJ0_isLatin1_aae02_10 (by decide) (fun c10 => ?_) (fun c10 => ?_)
    · exact absurd rfl c10
    · refine J_iconst (nI 1) (by decide) dJ0_isLatin1_aae02_13 ?_
      refine J_goto 18 dJ0_isLatin1_aae02_14 (by decide) ?_
      exact J_zreturn dJ0_isLatin1_aae02_18 rfl (by first | rfl | exact jb_n _) (hQ) (by decide) (by decide) (fun _ => rfl)
theorem c_J0_length (hs : strIs i W) (hQ : Q (.inl (some (.int (nI W.length)))) h) : jCT G M_J0_length_8abf5 2 0 0 X [.retAddr (2 * i + 2)] h Q := by
  obtain ⟨q, hq, h2, h3, h4, h5⟩ := hs
  refine jCT_of [some (.retAddr (2 * i + 2))] 0 rfl (by decide +kernel) rfl rfl ?_
  refine J_aload_n (by rfl) (by rfl) dJ0_length_8abf5_0 ?_
  refine J_sval dJ0_length_8abf5_1 hq x_J0_9 ?_
  refine J_slen dJ0_length_8abf5_4 hq ?_
  refine J_aload_n (by rfl) (by rfl) dJ0_length_8abf5_5 ?_
  refine J_Str0v dJ0_length_8abf5_6 s_J0_335 m_J0_coder_7d493 rfl (by first | assumption | rfl) rfl (c_J0_coder hq (jKv_i ?_))
  refine J_ishr dJ0_length_8abf5_9 ?_
  refine J_topi (nI W.length) (by rw [h2, show (0 : Int32) &&& 31 = 0 from rfl]; simp [nI]) ?_
  exact J_ireturn dJ0_length_8abf5_10 rfl (hQ) (by decide) (by decide) (fun _ => rfl)
theorem c_J3_checkIndex {n : Nat} (hj : j < n) (hn : n < 1000) (hQ : Q (.inl (some (.int (nI j)))) h) : jCT G M_J3_checkIndex_8e157 1 0 0 X [.int (nI j), .int (nI n), .retAddr 1] h Q := by
  refine jCT_of [some (.int (nI j)), some (.int (nI n)), some (.retAddr 1)] 0 rfl (by decide +kernel) rfl rfl ?_
  refine J_iload_n (by rfl) dJ3_checkIndex_8e157_0 ?_
  refine J_if_lt_n 9 dJ3_checkIndex_8e157_1 (by decide) ?_
  refine J_iload_n (by rfl) dJ3_checkIndex_8e157_4 ?_
  refine J_iload_n (by rfl) dJ3_checkIndex_8e157_5 ?_
  refine J_icmp_lt_n 16 dJ3_checkIndex_8e157_6 (by decide) (fun c6 => ?_) (fun c6 => ?_)
  · refine J_iload_n (by rfl) dJ3_checkIndex_8e157_16 ?_
    exact J_ireturn dJ3_checkIndex_8e157_17 rfl (hQ) (by decide) (by decide) (fun _ => rfl)
  · omega
theorem c_J0_checkIndex {n : Nat} (hj : j < n) (hn : n < 1000) (hQ : Q (.inl none) h) : jCT G M_J0_checkIndex_df160 2 0 0 X [.int (nI j), .int (nI n)] h Q := by
  refine jCT_of [some (.int (nI j)), some (.int (nI n))] 0 rfl (by decide +kernel) rfl rfl ?_
  refine J_iload_n (by rfl) dJ0_checkIndex_df160_0 ?_
  refine J_iload_n (by rfl) dJ0_checkIndex_df160_1 ?_
  refine J_sioobe dJ0_checkIndex_df160_2 x_J0_1053 ?_
  refine J_S3v dJ0_checkIndex_df160_5 s_J0_1059 m_J3_checkIndex_8e157 rfl (c_J3_checkIndex hj hn (jKv_i ?_))
  refine J_pop (by rfl) dJ0_checkIndex_df160_8 ?_
  exact J_return dJ0_checkIndex_df160_9 rfl (hQ) (by decide) (by decide) (fun _ => rfl)
theorem c_J1_charAt (hs : strIs i W) (hj : j < W.length) (hQ : Q (.inl (some (.int (nI (W.getD j 0))))) h) : jCT G M_J1_charAt_3b067 3 0 0 X [.retAddr (2 * i + 3), .int (nI j)] h Q := by
  have hc := hs.c hj
  obtain ⟨q, hq, h2, h3, h4, h5⟩ := hs
  refine jCT_of [some (.retAddr (2 * i + 3)), some (.int (nI j))] 0 rfl (by decide +kernel) rfl rfl ?_
  refine J_iload_n (by rfl) dJ1_charAt_3b067_0 ?_
  refine J_aload_n (by rfl) (by rfl) dJ1_charAt_3b067_1 ?_
  refine J_slen dJ1_charAt_3b067_2 hq ?_
  refine J_topi (nI W.length) (by rw [h2]; rfl) ?_
  refine J_S20 dJ1_charAt_3b067_3 s_J1_9 m_J0_checkIndex_df160 rfl (c_J0_checkIndex hj h4 (jK0_i ?_))
  refine J_aload_n (by rfl) (by rfl) dJ1_charAt_3b067_6 ?_
  refine J_iload_n (by rfl) dJ1_charAt_3b067_7 ?_
  refine J_sbald j dJ1_charAt_3b067_8 hq rfl (by omega) (by omega) ?_
  refine J_topi (nI (W.getD j 0)) (by rw [h3, getD_map hj]) ?_
  refine J_sipush (nI 255) (by decide) dJ1_charAt_3b067_9 ?_
  refine J_iand dJ1_charAt_3b067_12 ?_
  refine J_i2c dJ1_charAt_3b067_13 ?_
  refine J_topi (nI (W.getD j 0)) (ch_n hc) ?_
  exact J_zreturn dJ1_charAt_3b067_14 rfl ((pk_charN (by omega)).1) (hQ) (by decide) (by decide) (fun _ => rfl)
theorem c_J0_charAt (hs : strIs i W) (hj : j < W.length) (hQ : Q (.inl (some (.int (nI (W.getD j 0))))) h) : jCT G M_J0_charAt_5068e 4 0 0 X [.retAddr (2 * i + 2), .int (nI j)] h Q := by
  have hc := hs.c hj
  have hs0 := hs
  obtain ⟨q, hq, h2, h3, h4, h5⟩ := hs
  refine jCT_of [some (.retAddr (2 * i + 2)), some (.int (nI j))] 0 rfl (by decide +kernel) rfl rfl ?_
  refine J_aload_n (by rfl) (by rfl) dJ0_charAt_5068e_0 ?_
  refine J_Str0v dJ0_charAt_5068e_1 s_J0_492 m_J0_isLatin1_aae02 rfl (by first | assumption | rfl) rfl (c_J0_isLatin1 hq (jKv_i ?_))
  refine J_if_eq_b 16 dJ0_charAt_5068e_4 (by decide) (fun c4 => ?_) (fun c4 => ?_)
  · exact absurd c4 (by decide)
  · refine J_aload_n (by rfl) (by rfl) dJ0_charAt_5068e_7 ?_
    refine J_sval dJ0_charAt_5068e_8 hq x_J0_9 ?_
    refine J_iload_n (by rfl) dJ0_charAt_5068e_11 ?_
    refine J_S2v dJ0_charAt_5068e_12 s_J0_495 m_J1_charAt_3b067 rfl (c_J1_charAt hs0 hj (jKv_i ?_))
    exact J_zreturn dJ0_charAt_5068e_15 rfl ((pk_charN (by omega)).1) (hQ) (by decide) (by decide) (fun _ => rfl)
end STR
