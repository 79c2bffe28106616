/-! The class's questions by numbers; the law's aim and beyond -/
section ASKS0
variable {G : jG} {X : Bool} {h : jH} {Q : jQ_}
theorem J_lreturn {R : Room} {M : jM} {kc kn pc mc ms : Nat} {lo : List (Option Value)} {v : Int64} (hd : decode (m_c M) pc = .ok (.lreturn, 1)) (hr : m_r M = some .long) (hq : Q (.inl (some (.long v))) h) (h1 : kc ≤ mc) (h2 : kn ≤ ms) (h3 : X = true → kc = mc) : J G R (jFin G Q X mc ms) M X kc kn pc lo [.long v] h := by
  intro p e s m args below meth c H locs ls C hS hH hL hX
  exact vx_ret (W.widen h1 h2 (W.lret C.1 C.2.1 (C.2.2.1.trans hr) (jret_q (r := some (.long v)) hS hH hX h3 hq) hS.2.2 hd C.2.2.2.2.2.2.1))
theorem J_S6v {R : Room} {F : jF} {M : jM} {kc kn pc : Nat} {lo : List (Option Value)} {st : List Value} {M' : jM} {idx d mc ms : Nat} {a1 a2 a3 a4 a5 a6 : Value} (hd : decode (m_c M) pc = .ok (.invokestatic idx, 3)) (hs : sS (m_y M).cls idx M') (hm : mOK M' 6) (hh : m_h M' = some []) (hc : jCT G M' d mc ms X [a1, a2, a3, a4, a5, a6] h (jKv fun r h' => J G R F M X (kc + mc) (kn + ms) (pc + 3) lo (r :: st) h')) (hf : jfit R (m_n M') d mc ms kc kn = true := by rfl) (hst : (st.map fun v => v.category).sum ≤ 8 := by exact Nat.le_of_ble_eq_true rfl) : J G R F M X kc kn pc lo (a6 :: a5 :: a4 :: a3 :: a2 :: a1 :: st) h :=
  J_callS (as := [a1, a2, a3, a4, a5, a6]) hd hs hm hh hf hst hc (fun r h' q => by cases r with | none => exact q.elim | some v => exact q) (fun E h' q => q.elim)
end ASKS0
section ASKS
variable {G : jG} {X : Bool} {h : jH} {Q : jQ_} {K ch ln tp : Nat} {ea fa : Int32} {sv : Bool} {s sS P lf tx : Nat → Nat}
theorem k_wx {i : Nat} (hi : i < s 0) (I : Inv K s) (cp : CPc h s sS P ch ea fa sv lf ln tx tp) (hQ : Q (.inl (some (.int (nI (pX s i))))) h) : jCT G M_X10_waypointX 7 1 6 false [.ref 0, .int (nI i)] h Q := by
  have hn := I.n12
  exact c_X10_waypointX (nI i) I cp (fun _ => by rw [nP_nI (by omega)]; exact hQ) (fun q => by rw [isIx_n hi (by omega)] at q; cases q)
theorem k_wy {i : Nat} (hi : i < s 0) (I : Inv K s) (cp : CPc h s sS P ch ea fa sv lf ln tx tp) (hQ : Q (.inl (some (.int (nI (pY s i))))) h) : jCT G M_X10_waypointY 7 1 6 false [.ref 0, .int (nI i)] h Q := by
  have hn := I.n12
  exact c_X10_waypointY (nI i) I cp (fun _ => by rw [nP_nI (by omega)]; exact hQ) (fun q => by rw [isIx_n hi (by omega)] at q; cases q)
theorem k_wr {i : Nat} (hi : i < s 0) (I : Inv K s) (cp : CPc h s sS P ch ea fa sv lf ln tx tp) (hQ : Q (.inl (some (.int (nI (pR s i))))) h) : jCT G M_X10_radius 7 1 6 false [.ref 0, .int (nI i)] h Q := by
  have hn := I.n12
  exact c_X10_radius (nI i) I cp (fun _ => by rw [nP_nI (by omega)]; exact hQ) (fun q => by rw [isIx_n hi (by omega)] at q; cases q)
theorem both_n {i j : Nat} (hi : i < s 0) (hj : j < s 0) (hn : s 0 ≤ 12) : both s (nI i) (nI j) = true := by unfold both; rw [isIx_n hi (by omega), isIx_n hj (by omega)]; rfl
theorem k_has {i j : Nat} (hi : i < s 0) (hj : j < s 0) (I : Inv K s) (cp : CPc h s sS P ch ea fa sv lf ln tx tp) (hQ : Q (.inl (some (.int (jb (decide (0 < wS s (i * 12 + j))))))) h) : jCT G M_X10_hasTrail 7 2 12 false [.ref 0, .int (nI i), .int (nI j)] h Q := by
  have hn := I.n12
  exact c_X10_hasTrail (nI i) (nI j) I cp (fun _ => by rw [nP_nI (by omega), nP_nI (by omega)]; exact hQ) (fun q => by rw [both_n hi hj hn] at q; cases q)
theorem k_len {i j : Nat} (hi : i < s 0) (hj : j < s 0) (hp : 0 < wS s (i * 12 + j)) (I : Inv K s) (cp : CPc h s sS P ch ea fa sv lf ln tx tp) (hQ : Q (.inl (some (.int (nI (wS s (i * 12 + j)))))) h) : jCT G M_X10_trailLength 7 3 18 false [.ref 0, .int (nI i), .int (nI j)] h Q := by
  have hn := I.n12
  have hT : T2 s (nI i) (nI j) = 0 := by unfold T2; rw [if_pos (both_n hi hj hn), nP_nI (by omega), nP_nI (by omega), if_neg (by omega)]
  exact c_X10_trailLength (nI i) (nI j) I cp (fun _ => by rw [nP_nI (by omega), nP_nI (by omega)]; exact hQ) (fun q => by rw [hT] at q; cases q) (fun q => by rw [hT] at q; cases q)
theorem k_route {i : Nat} (h0 : 0 < s 1) (hi : i < s 1) (I : Inv K s) (cp : CPc h s sS P ch ea fa sv lf ln tx tp) (hQ : Q (.inl (some (.int (nI (s (192 + i)))))) h) : jCT G M_X10_routeWaypoint 7 2 12 false [.ref 0, .int (nI i)] h Q := by
  have hn := I.s1
  have hT : Tri s (nI i) = 0 := by unfold Tri; rw [if_pos h0, if_pos (isIx_n hi (by omega))]
  exact c_X10_routeWaypoint (nI i) I cp (fun _ => by rw [nP_nI (by omega)]; exact hQ) (fun q => by rw [hT] at q; cases q) (fun q => by rw [hT] at q; cases q)
theorem k_rlen (h0 : 0 < s 1) (I : Inv K s) (cp : CPc h s sS P ch ea fa sv lf ln tx tp) (hQ : Q (.inl (some (.int (nI (s 1))))) h) : jCT G M_X10_routeLength 7 1 6 false [.ref 0] h Q := c_X10_routeLength I cp (fun _ => hQ) (fun q => absurd h0 q)
theorem k_target (h0 : 0 < s 1) (I : Inv K s) (cp : CPc h s sS P ch ea fa sv lf ln tx tp) (hQ : Q (.inl (some (.int (nI (aimS s))))) h) : jCT G M_X10_target 7 1 6 false [.ref 0] h Q := c_X10_target I cp (fun _ => hQ) (fun q => absurd h0 q)
theorem k_hx (h0 : 0 < s 1) (I : Inv K s) (cp : CPc h s sS P ch ea fa sv lf ln tx tp) (hQ : Q (.inl (some (.int (nI (s 3))))) h) : jCT G M_X10_hikerX 7 1 6 false [.ref 0] h Q := c_X10_hikerX I cp (fun _ => hQ) (fun q => absurd h0 q)
theorem k_hy (h0 : 0 < s 1) (I : Inv K s) (cp : CPc h s sS P ch ea fa sv lf ln tx tp) (hQ : Q (.inl (some (.int (nI (s 4))))) h) : jCT G M_X10_hikerY 7 1 6 false [.ref 0] h Q := c_X10_hikerY I cp (fun _ => hQ) (fun q => absurd h0 q)
/-- which place of the route is the target's -/
theorem aim_at {s : Nat → Nat} (R : Rt s) (h0 : 0 < s 1) (h2 : s 2 < s 1) {i : Nat} (hi : i < s 1) (e : s (192 + i) = aimS s) : i = s 2 := by
  unfold aimS at e
  rcases Nat.lt_trichotomy i (s 2) with q | q | q
  · exact absurd e (R h0 i (s 2) q h2)
  · exact q
  · exact absurd e.symm (R h0 (s 2) i q hi)
theorem l_aim (h0 : 0 < s 1) (R : Rt s) (I : Inv K s) (cp : CPc h s sS P ch ea fa sv lf ln tx tp) (hQ : Q (.inl (some (.int (nI (s 2))))) h) : jCT G M_L_aim 8 60 360 false [.ref 0] h Q := by
  obtain ⟨t1, t2, t3, t4, t5, t6, t7⟩ := I.t h0
  have c0 := cp.c0
  refine jCT_of [some (.ref 0), none] 1 rfl (by decide +kernel) rfl rfl ?_
  refine J_iconst (nI 1) (by decide) dL_aim_0 ?_
  refine J_istore_1 dL_aim_1 ?_
  suffices loop : ∀ n i kc kn, n + i = s 2 → kc + 4 * n + 4 ≤ 60 → kn + 24 * n + 24 ≤ 360 → 1 ≤ i → J G (jR 8 60 360) (jFin G Q false 60 360) M_L_aim false kc kn 2 [some (.ref 0), some (.int (nI i))] [] h by
    exact loop (s 2 - 1) 1 0 0 (by omega) (by omega) (by omega) (by omega)
  have hb : ∀ q, q < s 1 → s (192 + q) < 12 := fun q hq => by have := t7 q hq; have := I.n12; omega
  have hb2 := hb (s 2) t4
  intro n
  induction n with
  | zero =>
    intro i kc kn hi h1 h2 h3
    have hb1 := hb i (by omega)
    refine J_iload_n (by rfl) dL_aim_2 ?_
    refine J_aload_n (by rfl) (by rfl) dL_aim_3 ?_
    refine J_V0v (ci := 10) dL_aim_4 s_L_211 m_X10_routeLength rfl (by repeat (first | assumption | exact jget_same2 (by (try simp only [List.length_set]); exact jlt (by assumption)) | refine jget_ne (by first | decide | assumption | omega) ?_)) rfl (k_rlen h0 I cp (jKv_i ?_)) (hf := jfit_j (by rfl) (by rfl) (by omega) (by omega))
    refine J_icmp_ge_n 28 dL_aim_7 (by decide) (fun c7 => ?_) (fun c7 => ?_)
    · omega
    · refine J_aload_n (by rfl) (by rfl) dL_aim_10 ?_
      refine J_iload_n (by rfl) dL_aim_11 ?_
      refine J_V1v (ci := 10) dL_aim_12 s_L_220 m_X10_routeWaypoint rfl (by repeat (first | assumption | exact jget_same2 (by (try simp only [List.length_set]); exact jlt (by assumption)) | refine jget_ne (by first | decide | assumption | omega) ?_)) rfl (k_route h0 (by omega) I cp (jKv_i ?_)) (hf := jfit_j (by rfl) (by rfl) (by omega) (by omega))
      refine J_aload_n (by rfl) (by rfl) dL_aim_15 ?_
      refine J_V0v (ci := 10) dL_aim_16 s_L_60 m_X10_target rfl (by repeat (first | assumption | exact jget_same2 (by (try simp only [List.length_set]); exact jlt (by assumption)) | refine jget_ne (by first | decide | assumption | omega) ?_)) rfl (k_target h0 I cp (jKv_i ?_)) (hf := jfit_j (by rfl) (by rfl) (by omega) (by omega))
      refine J_icmp_eq_n 28 dL_aim_19 (by decide) (fun c19 => ?_) (fun c19 => ?_) (by omega) (by unfold aimS; omega)
      · rw [show i = s 2 by omega]
        refine J_iload_n (by rfl) dL_aim_28 ?_
        exact J_ireturn dL_aim_29 rfl hQ (by omega) (by omega) (fun q => by cases q)
      · exact absurd (by unfold aimS; rw [show i = s 2 by omega]) c19
  | succ n ih =>
    intro i kc kn hi h1 h2 h3
    have hb1 := hb i (by omega)
    refine J_iload_n (by rfl) dL_aim_2 ?_
    refine J_aload_n (by rfl) (by rfl) dL_aim_3 ?_
    refine J_V0v (ci := 10) dL_aim_4 s_L_211 m_X10_routeLength rfl (by repeat (first | assumption | exact jget_same2 (by (try simp only [List.length_set]); exact jlt (by assumption)) | refine jget_ne (by first | decide | assumption | omega) ?_)) rfl (k_rlen h0 I cp (jKv_i ?_)) (hf := jfit_j (by rfl) (by rfl) (by omega) (by omega))
    refine J_icmp_ge_n 28 dL_aim_7 (by decide) (fun c7 => ?_) (fun c7 => ?_)
    · omega
    · refine J_aload_n (by rfl) (by rfl) dL_aim_10 ?_
      refine J_iload_n (by rfl) dL_aim_11 ?_
      refine J_V1v (ci := 10) dL_aim_12 s_L_220 m_X10_routeWaypoint rfl (by repeat (first | assumption | exact jget_same2 (by (try simp only [List.length_set]); exact jlt (by assumption)) | refine jget_ne (by first | decide | assumption | omega) ?_)) rfl (k_route h0 (by omega) I cp (jKv_i ?_)) (hf := jfit_j (by rfl) (by rfl) (by omega) (by omega))
      refine J_aload_n (by rfl) (by rfl) dL_aim_15 ?_
      refine J_V0v (ci := 10) dL_aim_16 s_L_60 m_X10_target rfl (by repeat (first | assumption | exact jget_same2 (by (try simp only [List.length_set]); exact jlt (by assumption)) | refine jget_ne (by first | decide | assumption | omega) ?_)) rfl (k_target h0 I cp (jKv_i ?_)) (hf := jfit_j (by rfl) (by rfl) (by omega) (by omega))
      refine J_icmp_eq_n 28 dL_aim_19 (by decide) (fun c19 => ?_) (fun c19 => ?_) (by omega) (by unfold aimS; omega)
      · have := aim_at R h0 t4 (by omega) c19
        omega
      · refine J_iinc_1 (nI 1) dL_aim_22 (by decide) ?_
        try rw [nI_add]
        refine J_goto 2 dL_aim_25 (by decide) ?_
        exact ih (i + 1) _ _ (by omega) (by omega) (by omega) (by omega)
/-- how far beyond m from the leg the way's end lies: the square, less m's (times the leg's where the foot lies on it) -/
def beyZ (a b c d : Int) (m : Nat) : Int := if dAlong a b c d ≤ 0 then a * a + b * b - (m : Int) * m else if dWhole c d ≤ dAlong a b c d then (a - c) * (a - c) + (b - d) * (b - d) - (m : Int) * m else (a * d - b * c) * (a * d - b * c) - (m : Int) * m * dWhole c d
theorem beyZ_eq (a b c d : Int) (m : Nat) : beyZ a b c d m = (dNum a b c d : Int) - (m : Int) * m * (dDen a b c d : Int) := by
  have hw := dWhole_n c d
  unfold beyZ dNum dDen
  by_cases h1 : dAlong a b c d ≤ 0
  · rw [if_pos h1, if_pos h1, if_pos h1, Int.natCast_add, Int.natAbs_mul_self, Int.natAbs_mul_self]
    omega
  · rw [if_neg h1, if_neg h1, if_neg h1]
    by_cases h2 : dWhole c d ≤ dAlong a b c d
    · rw [if_pos h2, if_pos h2, if_pos h2, Int.natCast_add, Int.natAbs_mul_self, Int.natAbs_mul_self]
      omega
    · rw [if_neg h2, if_neg h2, if_neg h2, Int.natAbs_mul_self]
      have e1 : dCross a b c d = -(a * d - b * c) := by unfold dCross; rw [Int.mul_comm c b, Int.mul_comm d a]; omega
      have e2 : ((dWhole c d).natAbs : Int) = dWhole c d := by have := dWhole_0 c d; omega
      rw [e1, Int.neg_mul_neg, e2]
theorem beyZ_b {a b c d : Int} {m : Nat} (ha : -99 ≤ a ∧ a ≤ 99) (hb : -99 ≤ b ∧ b ≤ 99) (hc : -99 ≤ c ∧ c ≤ 99) (hd : -99 ≤ d ∧ d ≤ 99) (hm : m ≤ 20001) : -2 ^ 62 ≤ beyZ a b c d m ∧ beyZ a b c d m < 2 ^ 62 := by
  rw [beyZ_eq]
  have h1 := dNum_b ha hb hc hd
  have h2 := dDen_b (a := a) (b := b) hc hd
  have h3 : m * m ≤ 20001 * 20001 := Nat.mul_le_mul hm hm
  have h4 : m * m * dDen a b c d ≤ 20001 * 20001 * 19602 := Nat.mul_le_mul h3 h2.2
  have h5 : (m : Int) * m * (dDen a b c d : Int) = ((m * m * dDen a b c d : Nat) : Int) := by rw [Int.natCast_mul, Int.natCast_mul]
  rw [h5]
  omega
theorem lI_add (a b : Int) : lI a + lI b = lI (a + b) := (Int64.ofInt_add a b).symm
theorem lI_toInt {z : Int} (h1 : -2 ^ 63 ≤ z) (h2 : z < 2 ^ 63) : (lI z).toInt = z := by unfold lI; exact Int64.toInt_ofInt_of_le h1 h2
theorem lI_lt {a b : Int} (ha : -2 ^ 62 ≤ a ∧ a < 2 ^ 62) (hb : -2 ^ 62 ≤ b ∧ b < 2 ^ 62) : (lI a < lI b) ↔ a < b := by rw [Int64.lt_iff_toInt_lt, lI_toInt (by omega) (by omega), lI_toInt (by omega) (by omega)]
theorem cmp_lt {a b : Int} (ha : -2 ^ 62 ≤ a ∧ a < 2 ^ 62) (hb : -2 ^ 62 ≤ b ∧ b < 2 ^ 62) : lg_cmp (lI a) (lI b) < 0 ↔ a < b := (lg_cmp_lt _ _).trans (lI_lt ha hb)
theorem cmp_gt {a b : Int} (ha : -2 ^ 62 ≤ a ∧ a < 2 ^ 62) (hb : -2 ^ 62 ≤ b ∧ b < 2 ^ 62) : 0 < lg_cmp (lI a) (lI b) ↔ b < a := (lg_cmp_gt _ _).trans (lI_lt hb ha)
theorem l_beyond {i j x y m : Nat} (hi : i < s 0) (hj : j < s 0) (hx : x ≤ 99) (hy : y ≤ 99) (hm : m ≤ 20001) (I : Inv K s) (cp : CPc h s sS P ch ea fa sv lf ln tx tp) (hQ : Q (.inl (some (.long (lI (beyZ ((x : Int) - pX s i) ((y : Int) - pY s i) ((pX s j : Int) - pX s i) ((pY s j : Int) - pY s i) m))))) h) : jCT G M_L_beyond 8 8 48 false [.ref 0, .int (nI i), .int (nI j), .int (nI x), .int (nI y), .int (nI m)] h Q := by
  have hn := I.n12
  have pi := I.p i (by omega)
  have pj := I.p j (by omega)
  have c0 := cp.c0
  obtain ⟨a, ha⟩ : ∃ a : Int, a = (x : Int) - pX s i := ⟨_, rfl⟩
  obtain ⟨b, hb⟩ : ∃ b : Int, b = (y : Int) - pY s i := ⟨_, rfl⟩
  obtain ⟨c, hc⟩ : ∃ c : Int, c = (pX s j : Int) - pX s i := ⟨_, rfl⟩
  obtain ⟨d, hd⟩ : ∃ d : Int, d = (pY s j : Int) - pY s i := ⟨_, rfl⟩
  rw [← ha, ← hb, ← hc, ← hd] at hQ
  have ba : -99 ≤ a ∧ a ≤ 99 := by omega
  have bb : -99 ≤ b ∧ b ≤ 99 := by omega
  have bc : -99 ≤ c ∧ c ≤ 99 := by omega
  have bd : -99 ≤ d ∧ d ≤ 99 := by omega
  obtain ⟨e1, e2⟩ := mul_bd ba.1 ba.2 bc.1 bc.2
  obtain ⟨e3, e4⟩ := mul_bd bb.1 bb.2 bd.1 bd.2
  obtain ⟨e5, e6⟩ := mul_bd bc.1 bc.2 bc.1 bc.2
  obtain ⟨e7, e8⟩ := mul_bd bd.1 bd.2 bd.1 bd.2
  have bA : -2 ^ 62 ≤ dAlong a b c d ∧ dAlong a b c d < 2 ^ 62 := by unfold dAlong; omega
  have bW : -2 ^ 62 ≤ dWhole c d ∧ dWhole c d < 2 ^ 62 := by unfold dWhole; omega
  refine jCT_of [some (.ref 0), some (.int (nI i)), some (.int (nI j)), some (.int (nI x)), some (.int (nI y)), some (.int (nI m)), none, none, none, none, none, none, none, none, none, none, none, none, none, none, none, none] 16 rfl (by decide +kernel) rfl rfl ?_
  refine J_aload_n (by rfl) (by rfl) dL_beyond_0 ?_
  refine J_iload_n (by rfl) dL_beyond_1 ?_
  refine J_V1v (ci := 10) dL_beyond_2 s_L_127 m_X10_waypointX rfl (by repeat (first | assumption | exact jget_same2 (by (try simp only [List.length_set]); exact jlt (by assumption)) | refine jget_ne (by first | decide | assumption | omega) ?_)) rfl (k_wx hj I cp (jKv_i ?_))
  refine J_aload_n (by rfl) (by rfl) dL_beyond_5 ?_
  refine J_iload_n (by rfl) dL_beyond_6 ?_
  refine J_V1v (ci := 10) dL_beyond_7 s_L_127 m_X10_waypointX rfl (by repeat (first | assumption | exact jget_same2 (by (try simp only [List.length_set]); exact jlt (by assumption)) | refine jget_ne (by first | decide | assumption | omega) ?_)) rfl (k_wx hi I cp (jKv_i ?_))
  refine J_isub dL_beyond_10 ?_
  refine J_topi (iI c) (by rw [hc]; exact nI_sub _ _) ?_
  refine J_i2l dL_beyond_11 ?_
  refine J_topl (lI c) (iI_l (by omega) (by omega)) ?_
  refine J_lstore dL_beyond_12 (by decide) ?_
  show J G _ _ _ _ _ _ _ [some (.ref 0), some (.int (nI i)), some (.int (nI j)), some (.int (nI x)), some (.int (nI y)), some (.int (nI m)), some (.long (lI c)), none, none, none, none, none, none, none, none, none, none, none, none, none, none, none] _ _
  refine J_aload_n (by rfl) (by rfl) dL_beyond_14 ?_
  refine J_iload_n (by rfl) dL_beyond_15 ?_
  refine J_V1v (ci := 10) dL_beyond_16 s_L_135 m_X10_waypointY rfl (by repeat (first | assumption | exact jget_same2 (by (try simp only [List.length_set]); exact jlt (by assumption)) | refine jget_ne (by first | decide | assumption | omega) ?_)) rfl (k_wy hj I cp (jKv_i ?_))
  refine J_aload_n (by rfl) (by rfl) dL_beyond_19 ?_
  refine J_iload_n (by rfl) dL_beyond_20 ?_
  refine J_V1v (ci := 10) dL_beyond_21 s_L_135 m_X10_waypointY rfl (by repeat (first | assumption | exact jget_same2 (by (try simp only [List.length_set]); exact jlt (by assumption)) | refine jget_ne (by first | decide | assumption | omega) ?_)) rfl (k_wy hi I cp (jKv_i ?_))
  refine J_isub dL_beyond_24 ?_
  refine J_topi (iI d) (by rw [hd]; exact nI_sub _ _) ?_
  refine J_i2l dL_beyond_25 ?_
  refine J_topl (lI d) (iI_l (by omega) (by omega)) ?_
  refine J_lstore dL_beyond_26 (by decide) ?_
  show J G _ _ _ _ _ _ _ [some (.ref 0), some (.int (nI i)), some (.int (nI j)), some (.int (nI x)), some (.int (nI y)), some (.int (nI m)), some (.long (lI c)), none, some (.long (lI d)), none, none, none, none, none, none, none, none, none, none, none, none, none] _ _
  refine J_iload_n (by rfl) dL_beyond_28 ?_
  refine J_aload_n (by rfl) (by rfl) dL_beyond_29 ?_
  refine J_iload_n (by rfl) dL_beyond_30 ?_
  refine J_V1v (ci := 10) dL_beyond_31 s_L_127 m_X10_waypointX rfl (by repeat (first | assumption | exact jget_same2 (by (try simp only [List.length_set]); exact jlt (by assumption)) | refine jget_ne (by first | decide | assumption | omega) ?_)) rfl (k_wx hi I cp (jKv_i ?_))
  refine J_isub dL_beyond_34 ?_
  refine J_topi (iI a) (by rw [ha]; exact nI_sub _ _) ?_
  refine J_i2l dL_beyond_35 ?_
  refine J_topl (lI a) (iI_l (by omega) (by omega)) ?_
  refine J_lstore dL_beyond_36 (by decide) ?_
  show J G _ _ _ _ _ _ _ [some (.ref 0), some (.int (nI i)), some (.int (nI j)), some (.int (nI x)), some (.int (nI y)), some (.int (nI m)), some (.long (lI c)), none, some (.long (lI d)), none, some (.long (lI a)), none, none, none, none, none, none, none, none, none, none, none] _ _
  refine J_iload (by rfl) dL_beyond_38 ?_
  refine J_aload_n (by rfl) (by rfl) dL_beyond_40 ?_
  refine J_iload_n (by rfl) dL_beyond_41 ?_
  refine J_V1v (ci := 10) dL_beyond_42 s_L_135 m_X10_waypointY rfl (by repeat (first | assumption | exact jget_same2 (by (try simp only [List.length_set]); exact jlt (by assumption)) | refine jget_ne (by first | decide | assumption | omega) ?_)) rfl (k_wy hi I cp (jKv_i ?_))
  refine J_isub dL_beyond_45 ?_
  refine J_topi (iI b) (by rw [hb]; exact nI_sub _ _) ?_
  refine J_i2l dL_beyond_46 ?_
  refine J_topl (lI b) (iI_l (by omega) (by omega)) ?_
  refine J_lstore dL_beyond_47 (by decide) ?_
  show J G _ _ _ _ _ _ _ [some (.ref 0), some (.int (nI i)), some (.int (nI j)), some (.int (nI x)), some (.int (nI y)), some (.int (nI m)), some (.long (lI c)), none, some (.long (lI d)), none, some (.long (lI a)), none, some (.long (lI b)), none, none, none, none, none, none, none, none, none] _ _
  refine J_lload (by rfl) dL_beyond_49 ?_
  refine J_lload (by rfl) dL_beyond_51 ?_
  refine J_lmul dL_beyond_53 ?_
  refine J_lload (by rfl) dL_beyond_54 ?_
  refine J_lload (by rfl) dL_beyond_56 ?_
  refine J_lmul dL_beyond_58 ?_
  refine J_ladd dL_beyond_59 ?_
  refine J_topl (lI (dAlong a b c d)) (by simp only [lI_mul, lI_add]; rfl) ?_
  refine J_lstore dL_beyond_60 (by decide) ?_
  show J G _ _ _ _ _ _ _ [some (.ref 0), some (.int (nI i)), some (.int (nI j)), some (.int (nI x)), some (.int (nI y)), some (.int (nI m)), some (.long (lI c)), none, some (.long (lI d)), none, some (.long (lI a)), none, some (.long (lI b)), none, some (.long (lI (dAlong a b c d))), none, none, none, none, none, none, none] _ _
  refine J_lload (by rfl) dL_beyond_62 ?_
  refine J_lload (by rfl) dL_beyond_64 ?_
  refine J_lmul dL_beyond_66 ?_
  refine J_lload (by rfl) dL_beyond_67 ?_
  refine J_lload (by rfl) dL_beyond_69 ?_
  refine J_lmul dL_beyond_71 ?_
  refine J_ladd dL_beyond_72 ?_
  refine J_topl (lI (dWhole c d)) (by simp only [lI_mul, lI_add]; rfl) ?_
  refine J_lstore dL_beyond_73 (by decide) ?_
  show J G _ _ _ _ _ _ _ [some (.ref 0), some (.int (nI i)), some (.int (nI j)), some (.int (nI x)), some (.int (nI y)), some (.int (nI m)), some (.long (lI c)), none, some (.long (lI d)), none, some (.long (lI a)), none, some (.long (lI b)), none, some (.long (lI (dAlong a b c d))), none, some (.long (lI (dWhole c d))), none, none, none, none, none] _ _
  refine J_iload (by rfl) dL_beyond_75 ?_
  refine J_i2l dL_beyond_77 ?_
  refine J_iload (by rfl) dL_beyond_78 ?_
  refine J_i2l dL_beyond_80 ?_
  refine J_lmul dL_beyond_81 ?_
  refine J_topl (lI ((m : Int) * m)) (by rw [nI_l (by omega), lN_mul, ← lI_n, Int.natCast_mul]) ?_
  refine J_lstore dL_beyond_82 (by decide) ?_
  show J G _ _ _ _ _ _ _ [some (.ref 0), some (.int (nI i)), some (.int (nI j)), some (.int (nI x)), some (.int (nI y)), some (.int (nI m)), some (.long (lI c)), none, some (.long (lI d)), none, some (.long (lI a)), none, some (.long (lI b)), none, some (.long (lI (dAlong a b c d))), none, some (.long (lI (dWhole c d))), none, some (.long (lI ((m : Int) * m))), none, none, none] _ _
  refine J_lload (by rfl) dL_beyond_84 ?_
  refine J_lconst (lN 0) (by decide) dL_beyond_86 ?_
  refine J_lcmp dL_beyond_87 ?_
  rw [← lI_n]
  refine J_if_gt 106 dL_beyond_88 (by decide) (fun c88 => ?_) (fun c88 => ?_)
  · rw [cmp_gt bA (by decide)] at c88
    have h1 : ¬ dAlong a b c d ≤ 0 := by omega
    refine J_lload (by rfl) dL_beyond_106 ?_
    refine J_lload (by rfl) dL_beyond_108 ?_
    refine J_lcmp dL_beyond_110 ?_
    refine J_if_lt 141 dL_beyond_111 (by decide) (fun c111 => ?_) (fun c111 => ?_)
    · rw [cmp_lt bA bW] at c111
      have h2 : ¬ dWhole c d ≤ dAlong a b c d := by omega
      refine J_lload (by rfl) dL_beyond_141 ?_
      refine J_lload (by rfl) dL_beyond_143 ?_
      refine J_lmul dL_beyond_145 ?_
      refine J_lload (by rfl) dL_beyond_146 ?_
      refine J_lload (by rfl) dL_beyond_148 ?_
      refine J_lmul dL_beyond_150 ?_
      refine J_lsub dL_beyond_151 ?_
      refine J_topl (lI (a * d - b * c)) (by simp only [lI_mul, lI_sub]) ?_
      refine J_lstore dL_beyond_152 (by decide) ?_
      show J G _ _ _ _ _ _ _ [some (.ref 0), some (.int (nI i)), some (.int (nI j)), some (.int (nI x)), some (.int (nI y)), some (.int (nI m)), some (.long (lI c)), none, some (.long (lI d)), none, some (.long (lI a)), none, some (.long (lI b)), none, some (.long (lI (dAlong a b c d))), none, some (.long (lI (dWhole c d))), none, some (.long (lI ((m : Int) * m))), none, some (.long (lI (a * d - b * c))), none] _ _
      refine J_lload (by rfl) dL_beyond_154 ?_
      refine J_lload (by rfl) dL_beyond_156 ?_
      refine J_lmul dL_beyond_158 ?_
      refine J_lload (by rfl) dL_beyond_159 ?_
      refine J_lload (by rfl) dL_beyond_161 ?_
      refine J_lmul dL_beyond_163 ?_
      refine J_lsub dL_beyond_164 ?_
      refine J_topl (lI (beyZ a b c d m)) (by simp only [lI_mul, lI_sub]; unfold beyZ; rw [if_neg h1, if_neg h2]) ?_
      exact J_lreturn dL_beyond_165 rfl hQ (by decide) (by decide) (fun q => by cases q)
    · rw [cmp_lt bA bW] at c111
      have h2 : dWhole c d ≤ dAlong a b c d := by omega
      refine J_lload (by rfl) dL_beyond_114 ?_
      refine J_lload (by rfl) dL_beyond_116 ?_
      refine J_lsub dL_beyond_118 ?_
      refine J_lload (by rfl) dL_beyond_119 ?_
      refine J_lload (by rfl) dL_beyond_121 ?_
      refine J_lsub dL_beyond_123 ?_
      refine J_lmul dL_beyond_124 ?_
      refine J_lload (by rfl) dL_beyond_125 ?_
      refine J_lload (by rfl) dL_beyond_127 ?_
      refine J_lsub dL_beyond_129 ?_
      refine J_lload (by rfl) dL_beyond_130 ?_
      refine J_lload (by rfl) dL_beyond_132 ?_
      refine J_lsub dL_beyond_134 ?_
      refine J_lmul dL_beyond_135 ?_
      refine J_ladd dL_beyond_136 ?_
      refine J_lload (by rfl) dL_beyond_137 ?_
      refine J_lsub dL_beyond_139 ?_
      refine J_topl (lI (beyZ a b c d m)) (by simp only [lI_mul, lI_sub, lI_add]; unfold beyZ; rw [if_neg h1, if_pos h2]) ?_
      exact J_lreturn dL_beyond_140 rfl hQ (by decide) (by decide) (fun q => by cases q)
  · rw [cmp_gt bA (by decide)] at c88
    have h1 : dAlong a b c d ≤ 0 := by omega
    refine J_lload (by rfl) dL_beyond_91 ?_
    refine J_lload (by rfl) dL_beyond_93 ?_
    refine J_lmul dL_beyond_95 ?_
    refine J_lload (by rfl) dL_beyond_96 ?_
    refine J_lload (by rfl) dL_beyond_98 ?_
    refine J_lmul dL_beyond_100 ?_
    refine J_ladd dL_beyond_101 ?_
    refine J_lload (by rfl) dL_beyond_102 ?_
    refine J_lsub dL_beyond_104 ?_
    refine J_topl (lI (beyZ a b c d m)) (by simp only [lI_mul, lI_sub, lI_add]; unfold beyZ; rw [if_pos h1]) ?_
    exact J_lreturn dL_beyond_105 rfl hQ (by decide) (by decide) (fun q => by cases q)
end ASKS
