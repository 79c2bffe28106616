/-! StringBuilder, String: rows of bytes whose letters nobody asks for -/
abbrev ba (n : Nat) (f : Nat → Int32) : jC := .inl (3, n, .inl f)
def bFit (f : Nat → Int32) : Prop := ∀ i, fits .byte (.int (f i)) = true
abbrev hSb (v : Nat) (ml : Int32) (n : Nat) : jC := .inr (11, [.ref v, .int 0, .int ml, .int (nI n)])
abbrev hSt (u : Nat) (hs hz : Int32) : jC := .inr (12, [.ref u, .int 0, .int hs, .int hz])
theorem b128 : ∀ c, c < 128 → fits .byte (.int (nI c)) = true ∧ vp_nar .byte (nI c) = nI c := by decide +kernel
theorem bFit_0 : bFit (fun _ => 0) := fun _ => rfl
theorem bFit_u {f : Nat → Int32} {j : Nat} {y : Int32} (h : bFit f) (hy : fits .byte (.int y) = true) : bFit (upd f j y) := by
  intro i
  show fits .byte (.int (if i = j then y else f i)) = true
  split
  · exact hy
  · exact h i
theorem bFit_c {f g : Nat → Int32} {a b n : Nat} (hf : bFit f) (hg : bFit g) : bFit (va_cpy f g a b n) := by
  intro i
  unfold va_cpy
  split
  · exact hf _
  · exact hg i
/-- a builder at b, its row of cap bytes at v, n of them in use -/
abbrev SB (h : jH) (b v cap n : Nat) : Prop := ∃ (ml : Int32) (f : Nat → Int32), h[b]? = some (hSb v ml n) ∧ h[v]? = some (ba cap f) ∧ bFit f ∧ n ≤ cap ∧ cap ≤ 1000 ∧ b ≠ v
/-- a String of w letters: a constant's, or one that was made -/
abbrev StrV (h : jH) (x : Value) (w : Nat) : Prop := (∃ (i : Nat) (q : jS_), x = .retAddr (2 * i + 2) ∧ jStr[i]? = some q ∧ q.2.2.2.1 = w ∧ w < 1000 ∧ ∀ b ∈ q.2.2.2.2, fits .byte (.int b) = true) ∨
  (∃ (c u : Nat) (hs hz : Int32) (f : Nat → Int32), x = .ref c ∧ h[c]? = some (hSt u hs hz) ∧ h[u]? = some (ba w f) ∧ bFit f ∧ w < 1000 ∧ c ≠ u)
theorem StrV.ref {h : jH} {x : Value} {w : Nat} (hv : StrV h x w) : jref x = true := by
  rcases hv with ⟨i, q, rfl, _⟩ | ⟨c, u, hs, hz, f, rfl, _⟩ <;> rfl
theorem StrV.w {h : jH} {x : Value} {w : Nat} (hv : StrV h x w) : w < 1000 := by
  rcases hv with ⟨i, q, _, _, _, h1, _⟩ | ⟨c, u, hs, hz, f, _, _, _, _, h1, _⟩ <;> exact h1
theorem SB.b {h : jH} {b v cap n : Nat} (g : SB h b v cap n) : b < h.length ∧ v < h.length := by
  obtain ⟨ml, f, h1, h2, _⟩ := g
  exact ⟨jlt h1, jlt h2⟩
section BLD
variable {G : jG} {R : Room} {F : jF} {M : jM} {X : Bool} {kc kn pc : Nat} {lo : List (Option Value)} {st : List Value} {h : jH} {Q : jQ_} {x : Value} {w : Nat}
theorem strV_recv (hv : StrV h x w) : ∀ (s : State) (H : Heap) (locs : List Loc), jB G s → va_S (g_O G) s.heap H locs → HR G h H → ∃ b, cV G x = .ref b ∧ ∃ cellB : Cell, H[b]? = some cellB ∧ cellB.vm.isStatics = false ∧ s.vm.findClass "java/lang/String" = some cellB.cls := by
  intro s H locs hB hS hH
  rcases hv with ⟨i, q, rfl, hq, _⟩ | ⟨c, u, hs, hz, f, rfl, hc, _⟩
  · obtain ⟨a, v, e1, e2, e3, e4⟩ := jB_S hB i q hq
    exact ⟨a, e1, vk_recv e4 Nat.zero_lt_one hS⟩
  · exact ⟨_, rfl, va_recv hB.2.2.1 hH.1 (q := (RJ0, TJ0, 4)) rfl (cW_get hc)⟩
theorem J_T0v {M' : jM} {idx d mc ms : Nat} (hd : decode (m_c M) pc = .ok (.invokevirtual idx, 3)) (hs : sV (m_y M).cls idx M') (hm : mOK M' 0) (hh : m_h M' = some []) (hv : StrV h x w) (hcl : (m_y M').cls = "java/lang/String") (hc : jCT G M' d mc ms X [x] h (jKv fun r h' => J G R F M X (kc + mc) (kn + ms) (pc + 3) lo (r :: st) h'))
    (hf : jfit R (m_n M') d mc ms kc kn = true := by rfl) (hst : (st.map fun v => v.category).sum ≤ 8 := by exact Nat.le_of_ble_eq_true rfl) : J G R F M X kc kn pc lo (x :: st) h :=
  J_callV0 (as := []) hd hs hm hh hf hst (by rw [hcl]; exact strV_recv hv) hc (fun r h' q => by cases r with | none => exact q.elim | some v => exact q) (fun E h' q => q.elim)
theorem J_T1v {M' : jM} {idx d mc ms : Nat} {a1 : Value} (hd : decode (m_c M) pc = .ok (.invokevirtual idx, 3)) (hs : sV (m_y M).cls idx M') (hm : mOK M' 1) (hh : m_h M' = some []) (hv : StrV h x w) (hcl : (m_y M').cls = "java/lang/String") (hc : jCT G M' d mc ms X [x, a1] h (jKv fun r h' => J G R F M X (kc + mc) (kn + ms) (pc + 3) lo (r :: st) h'))
    (hf : jfit R (m_n M') d mc ms kc kn = true := by rfl) (hst : (st.map fun v => v.category).sum ≤ 8 := by exact Nat.le_of_ble_eq_true rfl) : J G R F M X kc kn pc lo (a1 :: x :: st) h :=
  J_callV0 (as := [a1]) hd hs hm hh hf hst (by rw [hcl]; exact strV_recv hv) hc (fun r h' q => by cases r with | none => exact q.elim | some v => exact q) (fun E h' q => q.elim)
theorem J_T30 {M' : jM} {idx d mc ms : Nat} {a1 a2 a3 : Value} (hd : decode (m_c M) pc = .ok (.invokevirtual idx, 3)) (hs : sV (m_y M).cls idx M') (hm : mOK M' 3) (hh : m_h M' = some []) (hv : StrV h x w) (hcl : (m_y M').cls = "java/lang/String") (hc : jCT G M' d mc ms X [x, a1, a2, a3] h (jK0 fun h' => J G R F M X (kc + mc) (kn + ms) (pc + 3) lo st h'))
    (hf : jfit R (m_n M') d mc ms kc kn = true := by rfl) (hst : (st.map fun v => v.category).sum ≤ 8 := by exact Nat.le_of_ble_eq_true rfl) : J G R F M X kc kn pc lo (a3 :: a2 :: a1 :: x :: st) h :=
  J_callV0 (as := [a1, a2, a3]) hd hs hm hh hf hst (by rw [hcl]; exact strV_recv hv) hc (fun r h' q => by cases r with | none => exact q | some v => exact q.elim) (fun E h' q => q.elim)
theorem J_nonnull {off : Int} (tgt : Nat) (hv : StrV h x w) (hd : decode (m_c M) pc = .ok (.ifnonnull off, 3)) (ht : (pc : Int) + off = (tgt : Int)) (k : J G R F M X kc kn tgt lo st h) : J G R F M X kc kn pc lo (x :: st) h := by
  rcases hv with ⟨i, q, rfl, hq, _⟩ | ⟨c, u, hs, hz, f, rfl, hc, _⟩
  · intro p e s m args below meth c H locs ls C hS hH hL hX
    obtain ⟨a, v, e1, e2, e3, e4⟩ := jB_S (jC_B C) i q hq
    show W p (g_l G) e R s m args below meth c H locs kc kn (F below args s) (F0 m pc ls (g_X G (2 * i + 2) :: st.map (cV G)))
    rw [e1]
    exact lv_ifnonnull C.1 C.2.1 hd ht (k p e s m args below meth c H locs ls C hS hH hL hX)
  · exact J_ifnonnull tgt hd ht k
-- ===== Math =====
theorem J_mmax {a b : Int32} {idx : Nat} (hd : decode (m_c M) pc = .ok (.invokestatic idx, 3)) (hs : sS (m_y M).cls idx M_J9_max_7cf53) (k : J G R F M X kc kn (pc + 3) lo (.int (if a < b then b else a) :: st) h) (hfr : 1 ≤ R.frames := by decide) (hlc : (st.map fun v => v.category).sum + 13 ≤ R.locals := by exact Nat.le_of_ble_eq_true rfl) (hc : kc ≤ R.cells := by exact Nat.le_of_ble_eq_true rfl) (hn : kn ≤ R.slots := by exact Nat.le_of_ble_eq_true rfl) : J G R F M X kc kn pc lo (.int b :: .int a :: st) h := by
  intro p e s m args below meth c H locs ls C hS hH hL hX
  exact va_mmax C.1 C.2.1 (by rw [C.2.2.2.1]; exact hL.1.symm) (jC_o C) (jC_w C _ hs.1) (jC_w C _ hs.2) (jC_w C _ m_J9_max_7cf53.2.1) (jC_w C _ m_J9_max_7cf53.1) hfr (by rw [jsum G (jC_X C)]; exact hlc) hc hn hd (k p e s m args below meth c H locs ls C hS hH hL hX)
theorem J_mmin {a b : Int32} {idx : Nat} (hd : decode (m_c M) pc = .ok (.invokestatic idx, 3)) (hs : sS (m_y M).cls idx M_J9_min_7cf53) (k : J G R F M X kc kn (pc + 3) lo (.int (if b < a then b else a) :: st) h) (hfr : 1 ≤ R.frames := by decide) (hlc : (st.map fun v => v.category).sum + 13 ≤ R.locals := by exact Nat.le_of_ble_eq_true rfl) (hc : kc ≤ R.cells := by exact Nat.le_of_ble_eq_true rfl) (hn : kn ≤ R.slots := by exact Nat.le_of_ble_eq_true rfl) : J G R F M X kc kn pc lo (.int b :: .int a :: st) h := by
  intro p e s m args below meth c H locs ls C hS hH hL hX
  exact va_mmin C.1 C.2.1 (by rw [C.2.2.2.1]; exact hL.1.symm) (jC_o C) (jC_w C _ hs.1) (jC_w C _ hs.2) (jC_w C _ m_J9_min_7cf53.2.1) (jC_w C _ m_J9_min_7cf53.1) hfr (by rw [jsum G (jC_X C)]; exact hlc) hc hn hd (k p e s m args below meth c H locs ls C hS hH hL hX)
theorem min_N {a b : Nat} (ha : a < 2 ^ 31) (hb : b < 2 ^ 31) : (if nI b < nI a then nI b else nI a) = nI (min a b) := by
  by_cases hlt : b < a
  · rw [if_pos (nI_lt hlt ha), Nat.min_eq_right (by omega)]
  · rw [if_neg (nI_nlt (by omega) hb), Nat.min_eq_left (by omega)]
theorem max_N {a b : Nat} (ha : a < 2 ^ 31) (hb : b < 2 ^ 31) : (if nI a < nI b then nI b else nI a) = nI (max a b) := by
  by_cases hlt : a < b
  · rw [if_pos (nI_lt hlt hb), Nat.max_eq_right (by omega)]
  · rw [if_neg (nI_nlt (by omega) ha), Nat.max_eq_left (by omega)]
-- ===== Integer =====
def szN (v : Nat) : Nat := if v < 10 then 1 else 2
theorem m10 : (-10 : Int32) = -nI 10 := by decide
theorem m100 : (-100 : Int32) = -nI 100 := by decide
theorem m9 : (-9 : Int32) = -nI 9 := by decide
theorem c_J6_stringSize {v : Nat} (hv : v < 100) (hQ : Q (.inl (some (.int (nI (szN v))))) h) : jCT G M_J6_stringSize_0f7a4 0 0 0 X [.int (nI v)] h Q := by
  refine jCT_of [some (.int (nI v)), none, none, none] 3 rfl (by decide +kernel) rfl rfl ?_
  refine J_iconst (nI 1) (by decide) dJ6_stringSize_0f7a4_0 ?_
  refine J_istore_1 dJ6_stringSize_0f7a4_1 ?_
  refine J_iload_n (by rfl) dJ6_stringSize_0f7a4_2 ?_
  refine J_if_lt_n 11 dJ6_stringSize_0f7a4_3 (by decide) ?_
  refine J_iconst (nI 0) (by decide) dJ6_stringSize_0f7a4_6 ?_
  refine J_istore_1 dJ6_stringSize_0f7a4_7 ?_
  refine J_iload_n (by rfl) dJ6_stringSize_0f7a4_8 ?_
  refine J_ineg dJ6_stringSize_0f7a4_9 ?_
  refine J_istore_0 dJ6_stringSize_0f7a4_10 ?_
  refine J_bipush (-10) (by decide) dJ6_stringSize_0f7a4_11 ?_
  refine J_istore_2 dJ6_stringSize_0f7a4_13 ?_
  refine J_iconst (nI 1) (by decide) dJ6_stringSize_0f7a4_14 ?_
  refine J_istore_3 dJ6_stringSize_0f7a4_15 ?_
  refine J_iload_n (by rfl) dJ6_stringSize_0f7a4_16 ?_
  refine J_bipush (nI 10) (by decide) dJ6_stringSize_0f7a4_17 ?_
  refine J_icmp_ge_n 42 dJ6_stringSize_0f7a4_19 (by decide) (fun c19 => ?_) (fun c19 => ?_)
  · exact absurd c19 (by omega)
  · refine J_iload_n (by rfl) dJ6_stringSize_0f7a4_22 ?_
    refine J_iload_n (by rfl) dJ6_stringSize_0f7a4_23 ?_
    refine J_icmp_le 31 dJ6_stringSize_0f7a4_24 (by decide) (fun c24 => ?_) (fun c24 => ?_)
    · rw [m10, sb_nle (by omega) (by decide)] at c24
      refine J_bipush (nI 10) (by decide) dJ6_stringSize_0f7a4_31 ?_
      refine J_iload_n (by rfl) dJ6_stringSize_0f7a4_33 ?_
      refine J_imul dJ6_stringSize_0f7a4_34 ?_
      try rw [pk_mul]
      refine J_topi (-100) (by decide) ?_
      refine J_istore_2 dJ6_stringSize_0f7a4_35 ?_
      refine J_iinc_3 (nI 1) dJ6_stringSize_0f7a4_36 (by decide) ?_
      try rw [nI_add]
      refine J_goto 16 dJ6_stringSize_0f7a4_39 (by decide) ?_
      refine J_iload_n (by rfl) dJ6_stringSize_0f7a4_16 ?_
      refine J_bipush (nI 10) (by decide) dJ6_stringSize_0f7a4_17 ?_
      refine J_icmp_ge_n 42 dJ6_stringSize_0f7a4_19 (by decide) (fun c19 => ?_) (fun c19 => ?_)
      · exact absurd c19 (by omega)
      · refine J_iload_n (by rfl) dJ6_stringSize_0f7a4_22 ?_
        refine J_iload_n (by rfl) dJ6_stringSize_0f7a4_23 ?_
        refine J_icmp_le 31 dJ6_stringSize_0f7a4_24 (by decide) (fun c24 => ?_) (fun c24 => ?_)
        · rw [m100, sb_nle (by omega) (by decide)] at c24
          omega
        · rw [show szN v = 2 by unfold szN; rw [if_neg (by omega)]] at hQ
          refine J_iload_n (by rfl) dJ6_stringSize_0f7a4_27 ?_
          refine J_iload_n (by rfl) dJ6_stringSize_0f7a4_28 ?_
          refine J_iadd dJ6_stringSize_0f7a4_29 ?_
          try rw [nI_add]
          exact J_ireturn dJ6_stringSize_0f7a4_30 rfl (hQ) (by decide) (by decide) (fun _ => rfl)
    · rw [m10, sb_nle (by omega) (by decide)] at c24
      rw [show szN v = 1 by unfold szN; rw [if_pos (by omega)]] at hQ
      refine J_iload_n (by rfl) dJ6_stringSize_0f7a4_27 ?_
      refine J_iload_n (by rfl) dJ6_stringSize_0f7a4_28 ?_
      refine J_iadd dJ6_stringSize_0f7a4_29 ?_
      try rw [nI_add]
      exact J_ireturn dJ6_stringSize_0f7a4_30 rfl (hQ) (by decide) (by decide) (fun _ => rfl)
theorem jDO_b {k : Nat} (hk : k < 100) : fits .byte (.int (jDO k)) = true ∧ vp_nar .byte (jDO k) = jDO k := b128 _ (by omega)
theorem jDT_b {k : Nat} (hk : k < 100) : fits .byte (.int (jDT k)) = true ∧ vp_nar .byte (jDT k) = jDT k := b128 _ (by omega)
theorem neg_neg {k : Nat} (hk : k < 100) : -(-nI k) = nI k := by
  have key : ∀ k, k < 100 → -(-nI k) = nI k := by decide +kernel
  exact key k hk
theorem c_J6_getChars {k p v cap : Nat} {f : Nat → Int32} (hk : k < 100) (hp : szN k ≤ p) (hc : p ≤ cap) (hc2 : cap ≤ 1000) (he : h[v]? = some (ba cap f)) (hf : bFit f) (hQ : ∀ r f', bFit f' → Q (.inl (some (.int r))) (h.set v (ba cap f'))) : jCT G M_J6_getChars_ba4f3 0 0 0 X [.int (nI k), .int (nI p), .ref v] h Q := by
  have hz : 1 ≤ p := by unfold szN at hp; split at hp <;> omega
  refine jCT_of [some (.int (nI k)), some (.int (nI p)), some (.ref v), none, none, none, none] 4 rfl (by decide +kernel) rfl rfl ?_
  refine J_iload_n (by rfl) dJ6_getChars_ba4f3_0 ?_
  refine J_istore_5 dJ6_getChars_ba4f3_1 ?_
  refine J_iload_n (by rfl) dJ6_getChars_ba4f3_3 ?_
  refine J_if_ge_n 11 dJ6_getChars_ba4f3_4 (by decide) ?_
  refine J_iconst (nI 0) (by decide) dJ6_getChars_ba4f3_11 ?_
  refine J_istore_6 dJ6_getChars_ba4f3_12 ?_
  refine J_iload (by rfl) dJ6_getChars_ba4f3_14 ?_
  refine J_if_ne_n 22 dJ6_getChars_ba4f3_16 (by decide) (fun c16 => ?_) (fun c16 => ?_)
  · exact absurd c16 (by omega)
  · refine J_iload_n (by rfl) dJ6_getChars_ba4f3_19 ?_
    refine J_ineg dJ6_getChars_ba4f3_20 ?_
    refine J_istore_0 dJ6_getChars_ba4f3_21 ?_
    refine J_iload_n (by rfl) dJ6_getChars_ba4f3_22 ?_
    refine J_bipush (-100) (by decide) dJ6_getChars_ba4f3_23 ?_
    refine J_icmp_gt 72 dJ6_getChars_ba4f3_25 (by decide) (fun c25 => ?_) (fun c25 => ?_)
    · refine J_aload_n (by rfl) (by rfl) dJ6_getChars_ba4f3_72 ?_
      refine J_iinc_5 (-1) dJ6_getChars_ba4f3_73 (by decide) ?_
      rw [sb_m1 (by omega)]
      refine J_iload (by rfl) dJ6_getChars_ba4f3_76 ?_
      refine J_dones dJ6_getChars_ba4f3_78 x_J6_83 ?_
      refine J_iload_n (by rfl) dJ6_getChars_ba4f3_81 ?_
      refine J_ineg dJ6_getChars_ba4f3_82 ?_
      refine J_topi (nI k) (neg_neg hk) ?_
      refine J_donesb k dJ6_getChars_ba4f3_83 rfl hk ?_
      refine J_bast (p - 1) dJ6_getChars_ba4f3_84 (by repeat (first | assumption | exact jget_same2 (by (try simp only [List.length_set]); exact jlt (by assumption)) | refine jget_ne (by first | decide | assumption | omega) ?_)) rfl (by omega) (jDO_b hk).2 ?_ (by omega)
      refine J_iload_n (by rfl) dJ6_getChars_ba4f3_85 ?_
      refine J_bipush (-9) (by decide) dJ6_getChars_ba4f3_86 ?_
      refine J_icmp_ge 104 dJ6_getChars_ba4f3_88 (by decide) (fun c88 => ?_) (fun c88 => ?_)
      · refine J_iload (by rfl) dJ6_getChars_ba4f3_104 ?_
        refine J_if_eq_n 118 dJ6_getChars_ba4f3_106 (by decide) (fun c106 => ?_) (fun c106 => ?_)
        · refine J_iload (by rfl) dJ6_getChars_ba4f3_118 ?_
          exact J_ireturn dJ6_getChars_ba4f3_120 rfl (hQ _ _ (bFit_u hf (jDO_b hk).1)) (by decide) (by decide) (fun _ => rfl)
        · exact absurd c106 (by omega)
      · have hk9 : 10 ≤ k := by
          rw [m9, sb_nle (by decide) (by omega)] at c88
          omega
        have hp2 : 2 ≤ p := by unfold szN at hp; rw [if_neg (by omega)] at hp; exact hp
        refine J_aload_n (by rfl) (by rfl) dJ6_getChars_ba4f3_91 ?_
        refine J_iinc_5 (-1) dJ6_getChars_ba4f3_92 (by decide) ?_
        rw [sb_m1 (by omega)]
        refine J_iload (by rfl) dJ6_getChars_ba4f3_95 ?_
        refine J_dtens dJ6_getChars_ba4f3_97 x_J6_87 ?_
        refine J_iload_n (by rfl) dJ6_getChars_ba4f3_100 ?_
        refine J_ineg dJ6_getChars_ba4f3_101 ?_
        refine J_topi (nI k) (neg_neg hk) ?_
        refine J_dtensb k dJ6_getChars_ba4f3_102 rfl hk ?_
        refine J_bast (p - 1 - 1) dJ6_getChars_ba4f3_103 (jget_same2 (jlt he)) rfl (by omega) (jDT_b hk).2 ?_ (by omega)
        rw [List.set_set]
        refine J_iload (by rfl) dJ6_getChars_ba4f3_104 ?_
        refine J_if_eq_n 118 dJ6_getChars_ba4f3_106 (by decide) (fun c106 => ?_) (fun c106 => ?_)
        · refine J_iload (by rfl) dJ6_getChars_ba4f3_118 ?_
          exact J_ireturn dJ6_getChars_ba4f3_120 rfl (hQ _ _ (bFit_u (bFit_u hf (jDO_b hk).1) (jDT_b hk).1)) (by decide) (by decide) (fun _ => rfl)
        · exact absurd c106 (by omega)
    · rw [m100, sb_nlt (by decide) (by omega)] at c25
      omega
-- ===== String =====
theorem c_coderT (hv : StrV h x w) (hQ : Q (.inl (some (.int 0))) h) : jCT G M_J0_coder_7d493 1 0 0 X [x] h Q := by
  rcases hv with ⟨i, q, rfl, hq, _⟩ | ⟨c, u, hs, hz, f, rfl, hc, _⟩
  · exact c_J0_coder hq hQ
  · refine jCT_of [some (.ref c)] 0 rfl (by decide +kernel) rfl rfl ?_
    refine J_compact dJ0_coder_7d493_0 x_J0_38 ?_
    refine J_if_eq 13 dJ0_coder_7d493_3 (by decide) (fun c3 => ?_) (fun c3 => ?_)
    · exact absurd c3 (by decide)
    · refine J_aload_n (by rfl) (by rfl) dJ0_coder_7d493_6 ?_
      refine J_get dJ0_coder_7d493_7 f_J0_15 (by repeat (first | assumption | exact jget_same2 (by (try simp only [List.length_set]); exact jlt (by assumption)) | refine jget_ne (by first | decide | assumption | omega) ?_)) (by rfl) ?_
      refine J_goto 14 dJ0_coder_7d493_10 (by decide) ?_
      exact J_zreturn dJ0_coder_7d493_14 rfl (by first | rfl | exact jb_n _) (hQ) (by decide) (by decide) (fun _ => rfl)
theorem c_isLatin1T (hv : StrV h x w) (hQ : Q (.inl (some (.int (jb true)))) h) : jCT G M_J0_isLatin1_aae02 1 0 0 X [x] h Q := by
  rcases hv with ⟨i, q, rfl, hq, _⟩ | ⟨c, u, hs, hz, f, rfl, hc, _⟩
  · exact c_J0_isLatin1 hq hQ
  · refine jCT_of [some (.ref c)] 0 rfl (by decide +kernel) rfl rfl ?_
    refine J_compact dJ0_isLatin1_aae02_0 x_J0_38 ?_
    refine J_if_eq 17 dJ0_isLatin1_aae02_3 (by decide) (fun c3 => ?_) (fun c3 => ?_)
    · exact absurd c3 (by decide)
    · refine J_aload_n (by rfl) (by rfl) dJ0_isLatin1_aae02_6 ?_
      refine J_get dJ0_isLatin1_aae02_7 f_J0_15 (by repeat (first | assumption | exact jget_same2 (by (try simp only [List.length_set]); exact jlt (by assumption)) | refine jget_ne (by first | decide | assumption | omega) ?_)) (by rfl) ?_
      refine J_if_ne 17 dJ0_isLatin1_aae02_10 (by decide) (fun c10 => ?_) (fun c10 => ?_)
      · exact absurd rfl c10
      · refine J_iconst (nI 1) (by decide) dJ0_isLatin1_aae02_13 ?_
        refine J_goto 18 dJ0_isLatin1_aae02_14 (by decide) ?_
        exact J_zreturn dJ0_isLatin1_aae02_18 rfl (by first | rfl | exact jb_n _) (hQ) (by decide) (by decide) (fun _ => rfl)
theorem c_lengthT (hv : StrV h x w) (hQ : Q (.inl (some (.int (nI w)))) h) : jCT G M_J0_length_8abf5 2 0 0 X [x] h Q := by
  have hv0 := hv
  rcases hv with ⟨i, q, rfl, hq, h2, h3, _⟩ | ⟨c, u, hs, hz, f, rfl, hc, hu, hf, hw, _⟩
  · refine jCT_of [some (.retAddr (2 * i + 2))] 0 rfl (by decide +kernel) rfl rfl ?_
    refine J_aload_n (by rfl) (by rfl) dJ0_length_8abf5_0 ?_
    refine J_sval dJ0_length_8abf5_1 hq x_J0_9 ?_
    refine J_slen dJ0_length_8abf5_4 hq ?_
    refine J_aload_n (by rfl) (by rfl) dJ0_length_8abf5_5 ?_
    refine J_Str0v dJ0_length_8abf5_6 s_J0_335 m_J0_coder_7d493 rfl (by first | assumption | rfl) rfl (c_J0_coder hq (jKv_i ?_))
    refine J_ishr dJ0_length_8abf5_9 ?_
    refine J_topi (nI w) (by rw [h2, show (0 : Int32) &&& 31 = 0 from rfl]; simp [nI]) ?_
    exact J_ireturn dJ0_length_8abf5_10 rfl (hQ) (by decide) (by decide) (fun _ => rfl)
  · refine jCT_of [some (.ref c)] 0 rfl (by decide +kernel) rfl rfl ?_
    refine J_aload_n (by rfl) (by rfl) dJ0_length_8abf5_0 ?_
    refine J_get dJ0_length_8abf5_1 f_J0_9 (by repeat (first | assumption | exact jget_same2 (by (try simp only [List.length_set]); exact jlt (by assumption)) | refine jget_ne (by first | decide | assumption | omega) ?_)) (by rfl) ?_
    refine J_alen (x := 0) dJ0_length_8abf5_4 (by repeat (first | assumption | exact jget_same2 (by (try simp only [List.length_set]); exact jlt (by assumption)) | refine jget_ne (by first | decide | assumption | omega) ?_)) (by decide) ?_
    refine J_aload_n (by rfl) (by rfl) dJ0_length_8abf5_5 ?_
    refine J_T0v dJ0_length_8abf5_6 s_J0_335 m_J0_coder_7d493 rfl (hv0) rfl (c_coderT hv0 (jKv_i ?_))
    refine J_ishr dJ0_length_8abf5_9 ?_
    refine J_topi (nI w) (sb_shr0 _) ?_
    exact J_ireturn dJ0_length_8abf5_10 rfl (hQ) (by decide) (by decide) (fun _ => rfl)
theorem c_J1_charAtT {u j : Nat} {f : Nat → Int32} (hu : h[u]? = some (ba w f)) (hw : w < 1000) (hj : j < w) (hQ : ∀ c, c < 65536 → Q (.inl (some (.int (nI c)))) h) : jCT G M_J1_charAt_3b067 3 0 0 X [.ref u, .int (nI j)] h Q := by
  refine jCT_of [some (.ref u), some (.int (nI j))] 0 rfl (by decide +kernel) rfl rfl ?_
  refine J_iload_n (by rfl) dJ1_charAt_3b067_0 ?_
  refine J_aload_n (by rfl) (by rfl) dJ1_charAt_3b067_1 ?_
  refine J_alen (x := 0) dJ1_charAt_3b067_2 (by repeat (first | assumption | exact jget_same2 (by (try simp only [List.length_set]); exact jlt (by assumption)) | refine jget_ne (by first | decide | assumption | omega) ?_)) (by decide) ?_
  refine J_S20 dJ1_charAt_3b067_3 s_J1_9 m_J0_checkIndex_df160 rfl (c_J0_checkIndex hj hw (jK0_i ?_))
  refine J_aload_n (by rfl) (by rfl) dJ1_charAt_3b067_6 ?_
  refine J_iload_n (by rfl) dJ1_charAt_3b067_7 ?_
  refine J_bald j dJ1_charAt_3b067_8 hu rfl hj ?_ (by omega)
  refine J_sipush (nI 255) (by decide) dJ1_charAt_3b067_9 ?_
  refine J_iand dJ1_charAt_3b067_12 ?_
  refine J_i2c dJ1_charAt_3b067_13 ?_
  rw [pk_char]
  have hlt : (f j &&& nI 255).toBitVec.toNat % 65536 < 65536 := Nat.mod_lt _ (by decide)
  exact J_zreturn dJ1_charAt_3b067_14 rfl ((pk_charN hlt).1) (hQ _ hlt) (by decide) (by decide) (fun _ => rfl)
theorem c_charAtT {c u j : Nat} {hs hz : Int32} {f : Nat → Int32} (hc : h[c]? = some (hSt u hs hz)) (hu : h[u]? = some (ba w f)) (hf : bFit f) (hw : w < 1000) (hcu : c ≠ u) (hj : j < w) (hQ : ∀ c, c < 65536 → Q (.inl (some (.int (nI c)))) h) : jCT G M_J0_charAt_5068e 4 0 0 X [.ref c, .int (nI j)] h Q := by
  have hv : StrV h (.ref c) w := .inr ⟨c, u, hs, hz, f, rfl, hc, hu, hf, hw, hcu⟩
  refine jCT_of [some (.ref c), some (.int (nI j))] 0 rfl (by decide +kernel) rfl rfl ?_
  refine J_aload_n (by rfl) (by rfl) dJ0_charAt_5068e_0 ?_
  refine J_T0v dJ0_charAt_5068e_1 s_J0_492 m_J0_isLatin1_aae02 rfl (hv) rfl (c_isLatin1T hv (jKv_i ?_))
  refine J_if_eq_b 16 dJ0_charAt_5068e_4 (by decide) (fun c4 => ?_) (fun c4 => ?_)
  · exact absurd c4 (by decide)
  · refine J_aload_n (by rfl) (by rfl) dJ0_charAt_5068e_7 ?_
    refine J_get dJ0_charAt_5068e_8 f_J0_9 (by repeat (first | assumption | exact jget_same2 (by (try simp only [List.length_set]); exact jlt (by assumption)) | refine jget_ne (by first | decide | assumption | omega) ?_)) (by rfl) ?_
    refine J_iload_n (by rfl) dJ0_charAt_5068e_11 ?_
    refine J_S2v dJ0_charAt_5068e_12 s_J0_495 m_J1_charAt_3b067 rfl (c_J1_charAtT hu hw hj (fun c9 hc9 => (jKv_i ?_)))
    exact J_zreturn dJ0_charAt_5068e_15 rfl ((pk_charN hc9).1) (hQ c9 hc9) (by decide) (by decide) (fun _ => rfl)
theorem c_getBytesT {v n cap : Nat} {g : Nat → Int32} (hv : StrV h x w) (hg : h[v]? = some (ba cap g)) (hgf : bFit g) (hn : n + w ≤ cap) (hc : cap ≤ 1000) (hQ : ∀ g', bFit g' → Q (.inl none) (h.set v (ba cap g'))) : jCT G M_J0_getBytes_840e7 2 0 0 X [x, .ref v, .int (nI n), .int 0] h Q := by
  have hv0 := hv
  rcases hv with ⟨i, q, rfl, hq, h2, h3, hfit⟩ | ⟨c, u, hs, hz, f, rfl, hcc, hu, hf, hw, _⟩
  · refine jCT_of [some (.retAddr (2 * i + 2)), some (.ref v), some (.int (nI n)), some (.int 0)] 0 rfl (by decide +kernel) rfl rfl ?_
    refine J_aload_n (by rfl) (by rfl) dJ0_getBytes_840e7_0 ?_
    refine J_T0v dJ0_getBytes_840e7_1 s_J0_335 m_J0_coder_7d493 rfl (hv0) rfl (c_coderT hv0 (jKv_i ?_))
    refine J_iload_n (by rfl) dJ0_getBytes_840e7_4 ?_
    refine J_icmp_ne 28 dJ0_getBytes_840e7_5 (by decide) (fun c5 => ?_) (fun c5 => ?_)
    · exact absurd rfl c5
    · refine J_aload_n (by rfl) (by rfl) dJ0_getBytes_840e7_8 ?_
      refine J_sval dJ0_getBytes_840e7_9 hq x_J0_9 ?_
      refine J_iconst (nI 0) (by decide) dJ0_getBytes_840e7_12 ?_
      refine J_aload_n (by rfl) (by rfl) dJ0_getBytes_840e7_13 ?_
      refine J_iload_n (by rfl) dJ0_getBytes_840e7_14 ?_
      refine J_iload_n (by rfl) dJ0_getBytes_840e7_15 ?_
      refine J_ishl dJ0_getBytes_840e7_16 ?_
      refine J_topi (nI n) (sb_shl0 _) ?_
      refine J_aload_n (by rfl) (by rfl) dJ0_getBytes_840e7_17 ?_
      refine J_sval dJ0_getBytes_840e7_18 hq x_J0_9 ?_
      refine J_slen dJ0_getBytes_840e7_21 hq ?_
      refine J_topi (nI w) (by rw [h2]; rfl) ?_
      refine J_copyT 0 n w dJ0_getBytes_840e7_22 ac_J0_212 aw_1 aw_2 ini_RJ10 hq hg rfl rfl rfl (by omega) (by omega) (by omega) (by omega) hfit (by decide) (by exact Nat.le_of_ble_eq_true rfl) ?_
      have hqf : bFit (fun j => q.2.2.2.2.getD j 0) := by
        intro j
        show fits .byte (.int (q.2.2.2.2.getD j 0)) = true
        rw [List.getD_eq_getElem?_getD]
        cases hj : q.2.2.2.2[j]? with
        | none => rfl
        | some b => exact hfit b (List.mem_of_getElem? hj)
      refine J_goto 43 dJ0_getBytes_840e7_25 (by decide) ?_
      exact J_return dJ0_getBytes_840e7_43 rfl (hQ _ (bFit_c hqf hgf)) (by decide) (by decide) (fun _ => rfl)
  · refine jCT_of [some (.ref c), some (.ref v), some (.int (nI n)), some (.int 0)] 0 rfl (by decide +kernel) rfl rfl ?_
    refine J_aload_n (by rfl) (by rfl) dJ0_getBytes_840e7_0 ?_
    refine J_T0v dJ0_getBytes_840e7_1 s_J0_335 m_J0_coder_7d493 rfl (hv0) rfl (c_coderT hv0 (jKv_i ?_))
    refine J_iload_n (by rfl) dJ0_getBytes_840e7_4 ?_
    refine J_icmp_ne 28 dJ0_getBytes_840e7_5 (by decide) (fun c5 => ?_) (fun c5 => ?_)
    · exact absurd rfl c5
    · refine J_aload_n (by rfl) (by rfl) dJ0_getBytes_840e7_8 ?_
      refine J_get dJ0_getBytes_840e7_9 f_J0_9 (by repeat (first | assumption | exact jget_same2 (by (try simp only [List.length_set]); exact jlt (by assumption)) | refine jget_ne (by first | decide | assumption | omega) ?_)) (by rfl) ?_
      refine J_iconst (nI 0) (by decide) dJ0_getBytes_840e7_12 ?_
      refine J_aload_n (by rfl) (by rfl) dJ0_getBytes_840e7_13 ?_
      refine J_iload_n (by rfl) dJ0_getBytes_840e7_14 ?_
      refine J_iload_n (by rfl) dJ0_getBytes_840e7_15 ?_
      refine J_ishl dJ0_getBytes_840e7_16 ?_
      refine J_topi (nI n) (sb_shl0 _) ?_
      refine J_aload_n (by rfl) (by rfl) dJ0_getBytes_840e7_17 ?_
      refine J_get dJ0_getBytes_840e7_18 f_J0_9 (by repeat (first | assumption | exact jget_same2 (by (try simp only [List.length_set]); exact jlt (by assumption)) | refine jget_ne (by first | decide | assumption | omega) ?_)) (by rfl) ?_
      refine J_alen (x := 0) dJ0_getBytes_840e7_21 (by repeat (first | assumption | exact jget_same2 (by (try simp only [List.length_set]); exact jlt (by assumption)) | refine jget_ne (by first | decide | assumption | omega) ?_)) (by decide) ?_
      refine J_copyB 0 n w dJ0_getBytes_840e7_22 ac_J0_212 aw_1 aw_2 ini_RJ10 hu hg rfl rfl rfl hf (by omega) (by omega) (by omega) (by omega) (by decide) (by exact Nat.le_of_ble_eq_true rfl) ?_
      refine J_goto 43 dJ0_getBytes_840e7_25 (by decide) ?_
      exact J_return dJ0_getBytes_840e7_43 rfl (hQ _ (bFit_c hf hgf)) (by decide) (by decide) (fun _ => rfl)
end BLD
