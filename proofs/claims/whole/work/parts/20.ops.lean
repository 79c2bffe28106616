/-! The reference: what each command does -/
theorem iI_gt0 {z : Int} (h1 : -2 ^ 31 ≤ z) (h2 : z < 2 ^ 31) : (0 : Int32) < iI z ↔ 0 < z := by rw [show (0 : Int32) = iI 0 from rfl, iI_lt (by omega) (by omega) h1 h2]
theorem iI_lt0 {z : Int} (h1 : -2 ^ 31 ≤ z) (h2 : z < 2 ^ 31) : iI z < (0 : Int32) ↔ z < 0 := by rw [show (0 : Int32) = iI 0 from rfl, iI_lt h1 h2 (by omega) (by omega)]
/-- the places that a leg's ends take -/
abbrev legOk (s : Nat → Nat) : Prop := 1 ≤ s 2 ∧ s 2 < 12 ∧ aimS s < 12 ∧ begS s < 12 ∧ ∀ i, i < 12 → pX s i ≤ 99 ∧ pY s i ≤ 99 ∧ pR s i ≤ 9
theorem dNum_b {a b c d : Int} (ha : -99 ≤ a ∧ a ≤ 99) (hb : -99 ≤ b ∧ b ≤ 99) (hc : -99 ≤ c ∧ c ≤ 99) (hd : -99 ≤ d ∧ d ≤ 99) : dNum a b c d ≤ 384238404 := by
  obtain ⟨e9, e10⟩ := mul_bd hc.1 hc.2 hb.1 hb.2
  obtain ⟨e11, e12⟩ := mul_bd hd.1 hd.2 ha.1 ha.2
  unfold dNum
  split
  · have h1 : a.natAbs * a.natAbs ≤ 99 * 99 := Nat.mul_le_mul (by omega) (by omega)
    have h2 : b.natAbs * b.natAbs ≤ 99 * 99 := Nat.mul_le_mul (by omega) (by omega)
    omega
  · split
    · have h1 : (a - c).natAbs * (a - c).natAbs ≤ 198 * 198 := Nat.mul_le_mul (by omega) (by omega)
      have h2 : (b - d).natAbs * (b - d).natAbs ≤ 198 * 198 := Nat.mul_le_mul (by omega) (by omega)
      omega
    · have h1 : (dCross a b c d).natAbs * (dCross a b c d).natAbs ≤ 19602 * 19602 := Nat.mul_le_mul (by unfold dCross; omega) (by unfold dCross; omega)
      omega
theorem dWhole_0 (c d : Int) : (0 : Int) ≤ dWhole c d := by unfold dWhole; rw [← Int.natAbs_mul_self (a := c), ← Int.natAbs_mul_self (a := d)]; omega
theorem dWhole_n (c d : Int) : dWhole c d = ((c.natAbs * c.natAbs + d.natAbs * d.natAbs : Nat) : Int) := by
  unfold dWhole; rw [← Int.natAbs_mul_self (a := c), ← Int.natAbs_mul_self (a := d)]; omega
theorem dDen_b {a b c d : Int} (hc : -99 ≤ c ∧ c ≤ 99) (hd : -99 ≤ d ∧ d ≤ 99) : 1 ≤ dDen a b c d ∧ dDen a b c d ≤ 19602 := by
  have h0 := dWhole_n c d
  have h1 : c.natAbs * c.natAbs ≤ 99 * 99 := Nat.mul_le_mul (by omega) (by omega)
  have h2 : d.natAbs * d.natAbs ≤ 99 * 99 := Nat.mul_le_mul (by omega) (by omega)
  unfold dDen
  split
  · omega
  · split <;> omega
theorem num_b {s : Nat → Nat} {x y : Nat} (hL : legOk s) (hx : x ≤ 99) (hy : y ≤ 99) : numS s x y ≤ 384238404 ∧ 1 ≤ denS s x y ∧ denS s x y ≤ 19602 := by
  obtain ⟨h1, h2, h3, h4, h5⟩ := hL
  have ha := h5 _ h3
  have hb := h5 _ h4
  exact ⟨dNum_b (by omega) (by omega) (by omega) (by omega), dDen_b (by omega) (by omega)⟩
section MODEL3
variable {G : jG} {X : Bool} {h : jH} {Q : jQ_} {ch th ln tp he cm n : Nat} {ea fa an : Int32} {sv : Bool} {s w F D : Nat → Nat}
theorem hS_id {c : jC} (hS : h[117]? = some (ia 204 s)) : (h.set 116 c).set 117 (ia 204 s) = h.set 116 c := hset_id (by rw [List.getElem?_set_ne (by decide)]; exact hS)
theorem c_X11_compared {x y m : Nat} (hL : legOk s) (hx : x ≤ 99) (hy : y ≤ 99) (hm : m ≤ 150) (hM : h[116]? = some (hMo ch th ea fa an sv ln tp he cm)) (hS : h[117]? = some (ia 204 s))
    (hQ : Q (.inl (some (.int (iI ((numS s x y : Int) - (m * m * denS s x y : Nat)))))) h) : jCT G M_X11_compared 2 0 0 X [.ref 116, .int (nI x), .int (nI y), .int (nI m)] h Q := by
  refine jCT_of [some (.ref 116), some (.int (nI x)), some (.int (nI y)), some (.int (nI m)), none, none, none, none, none, none, none, none, none] 9 rfl (by decide +kernel) rfl rfl ?_
  obtain ⟨h1, h2, h3, h4, h5⟩ := hL
  have hA := h5 _ h3
  have hB := h5 _ h4
  obtain ⟨a, ea9⟩ : ∃ a : Int, a = (x : Int) - pX s (begS s) := ⟨_, rfl⟩
  obtain ⟨b, eb9⟩ : ∃ b : Int, b = (y : Int) - pY s (begS s) := ⟨_, rfl⟩
  obtain ⟨c, ec9⟩ : ∃ c : Int, c = (pX s (aimS s) : Int) - pX s (begS s) := ⟨_, rfl⟩
  obtain ⟨d, ed9⟩ : ∃ d : Int, d = (pY s (aimS s) : Int) - pY s (begS s) := ⟨_, rfl⟩
  unfold numS denS at hQ
  rw [← ea9, ← eb9, ← ec9, ← ed9] at hQ
  have ha : -99 ≤ a ∧ a ≤ 99 := by omega
  have hb : -99 ≤ b ∧ b ≤ 99 := by omega
  have hc : -99 ≤ c ∧ c ≤ 99 := by omega
  have hd : -99 ≤ d ∧ d ≤ 99 := by omega
  obtain ⟨e1, e2⟩ := mul_bd ha.1 ha.2 hc.1 hc.2
  obtain ⟨e3, e4⟩ := mul_bd hb.1 hb.2 hd.1 hd.2
  obtain ⟨e9, e10⟩ := mul_bd hc.1 hc.2 hb.1 hb.2
  obtain ⟨e11, e12⟩ := mul_bd hd.1 hd.2 ha.1 ha.2
  have hw0 := dWhole_n c d
  have hq1 : c.natAbs * c.natAbs ≤ 99 * 99 := Nat.mul_le_mul (by omega) (by omega)
  have hq2 : d.natAbs * d.natAbs ≤ 99 * 99 := Nat.mul_le_mul (by omega) (by omega)
  refine J_aload_n (by rfl) (by rfl) dX11_compared_0 ?_
  refine J_get dX11_compared_1 f_X11_9 (by repeat (first | assumption | exact jget_same2 (by (try simp only [List.length_set]); exact jlt (by assumption)) | refine jget_ne (by first | decide | assumption | omega) ?_)) (by rfl) ?_
  refine J_sipush (nI 192) (by decide) dX11_compared_4 ?_
  refine J_aload_n (by rfl) (by rfl) dX11_compared_7 ?_
  refine J_get dX11_compared_8 f_X11_9 (by repeat (first | assumption | exact jget_same2 (by (try simp only [List.length_set]); exact jlt (by assumption)) | refine jget_ne (by first | decide | assumption | omega) ?_)) (by rfl) ?_
  refine J_iconst (nI 2) (by decide) dX11_compared_11 ?_
  refine J_iald_n (2) dX11_compared_12 (by repeat (first | assumption | exact jget_same2 (by (try simp only [List.length_set]); exact jlt (by assumption)) | refine jget_ne (by first | decide | assumption | omega) ?_)) (by first | rfl | (simp only [pk_mul, nI_add]; done) | (simp only [pk_mul, nI_add]; congr 1; omega) | (congr 1; omega)) (by omega) ?_
  refine J_iadd dX11_compared_13 ?_
  try rw [nI_add]
  refine J_iconst (nI 1) (by decide) dX11_compared_14 ?_
  refine J_isub_n (by omega) dX11_compared_15 ?_
  refine J_iald_n (192 + s 2 - 1) dX11_compared_16 (by repeat (first | assumption | exact jget_same2 (by (try simp only [List.length_set]); exact jlt (by assumption)) | refine jget_ne (by first | decide | assumption | omega) ?_)) (by first | rfl | (simp only [pk_mul, nI_add]; done) | (simp only [pk_mul, nI_add]; congr 1; omega) | (congr 1; omega)) (by omega) ?_
  refine J_topi (nI (begS s)) (by unfold begS; congr 2; omega) ?_
  refine J_istore_4 dX11_compared_17 ?_
  refine J_aload_n (by rfl) (by rfl) dX11_compared_19 ?_
  refine J_V0v (ci := 11) dX11_compared_20 s_X11_120 m_X11_aim rfl (by repeat (first | assumption | exact jget_same2 (by (try simp only [List.length_set]); exact jlt (by assumption)) | refine jget_ne (by first | decide | assumption | omega) ?_)) rfl (c_X11_aim h2 hM hS (jKv_i ?_))
  refine J_istore_5 dX11_compared_23 ?_
  refine J_aload_n (by rfl) (by rfl) dX11_compared_25 ?_
  refine J_iload (by rfl) dX11_compared_26 ?_
  refine J_iconst (nI 0) (by decide) dX11_compared_28 ?_
  refine J_V2v (ci := 11) dX11_compared_29 s_X11_108 m_X11_of rfl (by repeat (first | assumption | exact jget_same2 (by (try simp only [List.length_set]); exact jlt (by assumption)) | refine jget_ne (by first | decide | assumption | omega) ?_)) rfl (c_X11_of (by omega) hM hS (jKv_i ?_))
  refine J_topi (nI (pX s (aimS s))) rfl ?_
  refine J_aload_n (by rfl) (by rfl) dX11_compared_32 ?_
  refine J_iload (by rfl) dX11_compared_33 ?_
  refine J_iconst (nI 0) (by decide) dX11_compared_35 ?_
  refine J_V2v (ci := 11) dX11_compared_36 s_X11_108 m_X11_of rfl (by repeat (first | assumption | exact jget_same2 (by (try simp only [List.length_set]); exact jlt (by assumption)) | refine jget_ne (by first | decide | assumption | omega) ?_)) rfl (c_X11_of (by omega) hM hS (jKv_i ?_))
  refine J_topi (nI (pX s (begS s))) rfl ?_
  refine J_isub dX11_compared_39 ?_
  refine J_topi (iI c) (by rw [nI_sub, ec9]) ?_
  refine J_istore_6 dX11_compared_40 ?_
  refine J_aload_n (by rfl) (by rfl) dX11_compared_42 ?_
  refine J_iload (by rfl) dX11_compared_43 ?_
  refine J_iconst (nI 1) (by decide) dX11_compared_45 ?_
  refine J_V2v (ci := 11) dX11_compared_46 s_X11_108 m_X11_of rfl (by repeat (first | assumption | exact jget_same2 (by (try simp only [List.length_set]); exact jlt (by assumption)) | refine jget_ne (by first | decide | assumption | omega) ?_)) rfl (c_X11_of (by omega) hM hS (jKv_i ?_))
  refine J_topi (nI (pY s (aimS s))) rfl ?_
  refine J_aload_n (by rfl) (by rfl) dX11_compared_49 ?_
  refine J_iload (by rfl) dX11_compared_50 ?_
  refine J_iconst (nI 1) (by decide) dX11_compared_52 ?_
  refine J_V2v (ci := 11) dX11_compared_53 s_X11_108 m_X11_of rfl (by repeat (first | assumption | exact jget_same2 (by (try simp only [List.length_set]); exact jlt (by assumption)) | refine jget_ne (by first | decide | assumption | omega) ?_)) rfl (c_X11_of (by omega) hM hS (jKv_i ?_))
  refine J_topi (nI (pY s (begS s))) rfl ?_
  refine J_isub dX11_compared_56 ?_
  refine J_topi (iI d) (by rw [nI_sub, ed9]) ?_
  refine J_istore_7 dX11_compared_57 ?_
  refine J_iload_n (by rfl) dX11_compared_59 ?_
  refine J_aload_n (by rfl) (by rfl) dX11_compared_60 ?_
  refine J_iload (by rfl) dX11_compared_61 ?_
  refine J_iconst (nI 0) (by decide) dX11_compared_63 ?_
  refine J_V2v (ci := 11) dX11_compared_64 s_X11_108 m_X11_of rfl (by repeat (first | assumption | exact jget_same2 (by (try simp only [List.length_set]); exact jlt (by assumption)) | refine jget_ne (by first | decide | assumption | omega) ?_)) rfl (c_X11_of (by omega) hM hS (jKv_i ?_))
  refine J_topi (nI (pX s (begS s))) rfl ?_
  refine J_isub dX11_compared_67 ?_
  refine J_topi (iI a) (by rw [nI_sub, ea9]) ?_
  refine J_istore_8 dX11_compared_68 ?_
  refine J_iload_n (by rfl) dX11_compared_70 ?_
  refine J_aload_n (by rfl) (by rfl) dX11_compared_71 ?_
  refine J_iload (by rfl) dX11_compared_72 ?_
  refine J_iconst (nI 1) (by decide) dX11_compared_74 ?_
  refine J_V2v (ci := 11) dX11_compared_75 s_X11_108 m_X11_of rfl (by repeat (first | assumption | exact jget_same2 (by (try simp only [List.length_set]); exact jlt (by assumption)) | refine jget_ne (by first | decide | assumption | omega) ?_)) rfl (c_X11_of (by omega) hM hS (jKv_i ?_))
  refine J_topi (nI (pY s (begS s))) rfl ?_
  refine J_isub dX11_compared_78 ?_
  refine J_topi (iI b) (by rw [nI_sub, eb9]) ?_
  refine J_istore_9 dX11_compared_79 ?_
  refine J_iload (by rfl) dX11_compared_81 ?_
  refine J_iload (by rfl) dX11_compared_83 ?_
  refine J_imul dX11_compared_85 ?_
  try rw [pk_mul]
  refine J_iload (by rfl) dX11_compared_86 ?_
  refine J_iload (by rfl) dX11_compared_88 ?_
  refine J_imul dX11_compared_90 ?_
  try rw [pk_mul]
  refine J_iadd dX11_compared_91 ?_
  try rw [nI_add]
  refine J_topi (iI (dAlong a b c d)) (by simp only [iI_mul, iI_add]; rfl) ?_
  refine J_istore_10 dX11_compared_92 ?_
  refine J_iload (by rfl) dX11_compared_94 ?_
  refine J_iload (by rfl) dX11_compared_96 ?_
  refine J_S2v dX11_compared_98 s_X11_123 m_X11_square rfl (c_X11_square c d (jKv_i ?_))
  refine J_istore_11 dX11_compared_101 ?_
  refine J_iload (by rfl) dX11_compared_103 ?_
  refine J_if_gt 120 dX11_compared_105 (by decide) (fun c105 => ?_) (fun c105 => ?_)
  · have c105 : ¬ dAlong a b c d ≤ 0 := by rw [iI_gt0 (by unfold dAlong; omega) (by unfold dAlong; omega)] at c105; omega
    refine J_iload (by rfl) dX11_compared_120 ?_
    refine J_iload (by rfl) dX11_compared_122 ?_
    refine J_topi (iI (dWhole c d)) (by rw [hw0, iI_n]) ?_
    refine J_icmp_lt 153 dX11_compared_124 (by decide) (fun c124 => ?_) (fun c124 => ?_)
    · have c124 : ¬ dWhole c d ≤ dAlong a b c d := by rw [iI_lt (by unfold dAlong; omega) (by unfold dAlong; omega) (by omega) (by omega)] at c124; omega
      refine J_iload (by rfl) dX11_compared_153 ?_
      refine J_iload (by rfl) dX11_compared_155 ?_
      refine J_imul dX11_compared_157 ?_
      try rw [pk_mul]
      refine J_iload (by rfl) dX11_compared_158 ?_
      refine J_iload (by rfl) dX11_compared_160 ?_
      refine J_imul dX11_compared_162 ?_
      try rw [pk_mul]
      refine J_isub dX11_compared_163 ?_
      refine J_topi (iI (a * d - b * c)) (by rw [iI_mul, iI_mul, iI_sub]) ?_
      refine J_istore_12 dX11_compared_164 ?_
      refine J_iload (by rfl) dX11_compared_166 ?_
      refine J_iload (by rfl) dX11_compared_168 ?_
      refine J_imul dX11_compared_170 ?_
      try rw [pk_mul]
      refine J_topi (nI ((dCross a b c d).natAbs * (dCross a b c d).natAbs)) (by
        rw [iI_sq, show dCross a b c d = -(a * d - b * c) by unfold dCross; rw [Int.mul_comm c b, Int.mul_comm d a]; omega, Int.natAbs_neg]) ?_
      refine J_iload_n (by rfl) dX11_compared_171 ?_
      refine J_iload_n (by rfl) dX11_compared_172 ?_
      refine J_imul dX11_compared_173 ?_
      try rw [pk_mul]
      refine J_iload (by rfl) dX11_compared_174 ?_
      refine J_imul dX11_compared_176 ?_
      try rw [pk_mul]
      refine J_isub dX11_compared_177 ?_
      refine J_topi (iI ((dNum a b c d : Int) - (m * m * dDen a b c d : Nat))) (by
        rw [nI_sub, show dNum a b c d = (dCross a b c d).natAbs * (dCross a b c d).natAbs by unfold dNum; rw [if_neg c105, if_neg c124], show dDen a b c d = c.natAbs * c.natAbs + d.natAbs * d.natAbs by unfold dDen; rw [if_neg c105, if_neg c124, hw0]; rfl]) ?_
      exact J_ireturn dX11_compared_178 rfl (hQ) (by decide) (by decide) (fun _ => rfl)
    · have c124 : dWhole c d ≤ dAlong a b c d := by rw [iI_lt (by unfold dAlong; omega) (by unfold dAlong; omega) (by omega) (by omega)] at c124; omega
      refine J_iload_n (by rfl) dX11_compared_127 ?_
      refine J_aload_n (by rfl) (by rfl) dX11_compared_128 ?_
      refine J_iload (by rfl) dX11_compared_129 ?_
      refine J_iconst (nI 0) (by decide) dX11_compared_131 ?_
      refine J_V2v (ci := 11) dX11_compared_132 s_X11_108 m_X11_of rfl (by repeat (first | assumption | exact jget_same2 (by (try simp only [List.length_set]); exact jlt (by assumption)) | refine jget_ne (by first | decide | assumption | omega) ?_)) rfl (c_X11_of (by omega) hM hS (jKv_i ?_))
      refine J_topi (nI (pX s (aimS s))) rfl ?_
      refine J_isub dX11_compared_135 ?_
      refine J_topi (iI (a - c)) (by rw [nI_sub]; congr 1; omega) ?_
      refine J_iload_n (by rfl) dX11_compared_136 ?_
      refine J_aload_n (by rfl) (by rfl) dX11_compared_137 ?_
      refine J_iload (by rfl) dX11_compared_138 ?_
      refine J_iconst (nI 1) (by decide) dX11_compared_140 ?_
      refine J_V2v (ci := 11) dX11_compared_141 s_X11_108 m_X11_of rfl (by repeat (first | assumption | exact jget_same2 (by (try simp only [List.length_set]); exact jlt (by assumption)) | refine jget_ne (by first | decide | assumption | omega) ?_)) rfl (c_X11_of (by omega) hM hS (jKv_i ?_))
      refine J_topi (nI (pY s (aimS s))) rfl ?_
      refine J_isub dX11_compared_144 ?_
      refine J_topi (iI (b - d)) (by rw [nI_sub]; congr 1; omega) ?_
      refine J_S2v dX11_compared_145 s_X11_123 m_X11_square rfl (c_X11_square (a - c) (b - d) (jKv_i ?_))
      refine J_iload_n (by rfl) dX11_compared_148 ?_
      refine J_iload_n (by rfl) dX11_compared_149 ?_
      refine J_imul dX11_compared_150 ?_
      try rw [pk_mul]
      refine J_isub dX11_compared_151 ?_
      refine J_topi (iI ((dNum a b c d : Int) - (m * m * dDen a b c d : Nat))) (by
        rw [nI_sub, show dNum a b c d = (a - c).natAbs * (a - c).natAbs + (b - d).natAbs * (b - d).natAbs by unfold dNum; rw [if_neg c105, if_pos c124], show dDen a b c d = 1 by unfold dDen; rw [if_neg c105, if_pos c124], Nat.mul_one]) ?_
      exact J_ireturn dX11_compared_152 rfl (hQ) (by decide) (by decide) (fun _ => rfl)
  · have c105 : dAlong a b c d ≤ 0 := by rw [iI_gt0 (by unfold dAlong; omega) (by unfold dAlong; omega)] at c105; omega
    refine J_iload (by rfl) dX11_compared_108 ?_
    refine J_iload (by rfl) dX11_compared_110 ?_
    refine J_S2v dX11_compared_112 s_X11_123 m_X11_square rfl (c_X11_square a b (jKv_i ?_))
    refine J_iload_n (by rfl) dX11_compared_115 ?_
    refine J_iload_n (by rfl) dX11_compared_116 ?_
    refine J_imul dX11_compared_117 ?_
    try rw [pk_mul]
    refine J_isub dX11_compared_118 ?_
    refine J_topi (iI ((dNum a b c d : Int) - (m * m * dDen a b c d : Nat))) (by
      rw [nI_sub, show dNum a b c d = a.natAbs * a.natAbs + b.natAbs * b.natAbs by unfold dNum; rw [if_pos c105], show dDen a b c d = 1 by unfold dDen; rw [if_pos c105], Nat.mul_one]) ?_
    exact J_ireturn dX11_compared_119 rfl (hQ) (by decide) (by decide) (fun _ => rfl)
theorem mm_b {m d : Nat} (hm : m ≤ 150) (hd : d ≤ 19602) : m * m * d ≤ 441045000 := Nat.mul_le_mul (Nat.mul_le_mul hm hm) hd
theorem c_X11_isBeyond {x y m : Nat} (hL : legOk s) (hx : x ≤ 99) (hy : y ≤ 99) (hm : m ≤ 150) (hM : h[116]? = some (hMo ch th ea fa an sv ln tp he cm)) (hS : h[117]? = some (ia 204 s))
    (hQ : Q (.inl (some (.int (jb (decide (m * m * denS s x y ≤ numS s x y)))))) h) : jCT G M_X11_isBeyond 3 0 0 X [.ref 116, .int (nI x), .int (nI y), .int (nI m)] h Q := by
  refine jCT_of [some (.ref 116), some (.int (nI x)), some (.int (nI y)), some (.int (nI m))] 0 rfl (by decide +kernel) rfl rfl ?_
  obtain ⟨b1, b2, b3⟩ := num_b hL hx hy
  have b4 := mm_b hm b3
  refine J_aload_n (by rfl) (by rfl) dX11_isBeyond_0 ?_
  refine J_iload_n (by rfl) dX11_isBeyond_1 ?_
  refine J_iload_n (by rfl) dX11_isBeyond_2 ?_
  refine J_iload_n (by rfl) dX11_isBeyond_3 ?_
  refine J_V3v (ci := 11) dX11_isBeyond_4 s_X11_126 m_X11_compared rfl (by repeat (first | assumption | exact jget_same2 (by (try simp only [List.length_set]); exact jlt (by assumption)) | refine jget_ne (by first | decide | assumption | omega) ?_)) rfl (c_X11_compared hL hx hy hm hM hS (jKv_i ?_))
  refine J_if_lt 14 dX11_isBeyond_7 (by decide) (fun c7 => ?_) (fun c7 => ?_)
  · rw [iI_lt0 (by omega) (by omega)] at c7
    refine J_iconst (nI 0) (by decide) dX11_isBeyond_14 ?_
    exact J_zreturn dX11_isBeyond_15 rfl (by rfl) (by rw [show decide (m * m * denS s x y ≤ numS s x y) = false by simp; omega] at hQ; exact hQ) (by decide) (by decide) (fun _ => rfl)
  · rw [iI_lt0 (by omega) (by omega)] at c7
    refine J_iconst (nI 1) (by decide) dX11_isBeyond_10 ?_
    refine J_goto 15 dX11_isBeyond_11 (by decide) ?_
    exact J_zreturn dX11_isBeyond_15 rfl (by rfl) (by rw [show decide (m * m * denS s x y ≤ numS s x y) = true by simp; omega] at hQ; exact hQ) (by decide) (by decide) (fun _ => rfl)
theorem c_X11_isWithin {x y m : Nat} (hL : legOk s) (hx : x ≤ 99) (hy : y ≤ 99) (hm : m ≤ 150) (hM : h[116]? = some (hMo ch th ea fa an sv ln tp he cm)) (hS : h[117]? = some (ia 204 s))
    (hQ : Q (.inl (some (.int (jb (!farS s x y m))))) h) : jCT G M_X11_isWithin 3 0 0 X [.ref 116, .int (nI x), .int (nI y), .int (nI m)] h Q := by
  refine jCT_of [some (.ref 116), some (.int (nI x)), some (.int (nI y)), some (.int (nI m))] 0 rfl (by decide +kernel) rfl rfl ?_
  obtain ⟨b1, b2, b3⟩ := num_b hL hx hy
  have b4 := mm_b hm b3
  refine J_aload_n (by rfl) (by rfl) dX11_isWithin_0 ?_
  refine J_iload_n (by rfl) dX11_isWithin_1 ?_
  refine J_iload_n (by rfl) dX11_isWithin_2 ?_
  refine J_iload_n (by rfl) dX11_isWithin_3 ?_
  refine J_V3v (ci := 11) dX11_isWithin_4 s_X11_126 m_X11_compared rfl (by repeat (first | assumption | exact jget_same2 (by (try simp only [List.length_set]); exact jlt (by assumption)) | refine jget_ne (by first | decide | assumption | omega) ?_)) rfl (c_X11_compared hL hx hy hm hM hS (jKv_i ?_))
  refine J_if_gt 14 dX11_isWithin_7 (by decide) (fun c7 => ?_) (fun c7 => ?_)
  · rw [iI_gt0 (by omega) (by omega)] at c7
    refine J_iconst (nI 0) (by decide) dX11_isWithin_14 ?_
    exact J_zreturn dX11_isWithin_15 rfl (by rfl) (by rw [show farS s x y m = true by simp [farS]; omega] at hQ; exact hQ) (by decide) (by decide) (fun _ => rfl)
  · rw [iI_gt0 (by omega) (by omega)] at c7
    refine J_iconst (nI 1) (by decide) dX11_isWithin_10 ?_
    refine J_goto 15 dX11_isWithin_11 (by decide) ?_
    exact J_zreturn dX11_isWithin_15 rfl (by rfl) (by rw [show farS s x y m = false by simp [farS]; omega] at hQ; exact hQ) (by decide) (by decide) (fun _ => rfl)
theorem c_X11_reaches {x y : Nat} (ht : s 2 < 12) (ha : aimS s < 12) (hP : ∀ i, i < 12 → pX s i ≤ 99 ∧ pY s i ≤ 99 ∧ pR s i ≤ 9) (hx : x ≤ 99) (hy : y ≤ 99) (hM : h[116]? = some (hMo ch th ea fa an sv ln tp he cm)) (hS : h[117]? = some (ia 204 s))
    (hQ : Q (.inl (some (.int (jb (reachS s x y))))) h) : jCT G M_X11_reaches 2 0 0 X [.ref 116, .int (nI x), .int (nI y)] h Q := by
  refine jCT_of [some (.ref 116), some (.int (nI x)), some (.int (nI y)), none] 1 rfl (by decide +kernel) rfl rfl ?_
  have hA := hP _ ha
  have s1 := sq2_le hx hA.1
  have s2 := sq2_le hy hA.2.1
  have s3 : pR s (aimS s) * pR s (aimS s) ≤ 9 * 9 := Nat.mul_le_mul hA.2.2 hA.2.2
  unfold reachS at hQ
  refine J_aload_n (by rfl) (by rfl) dX11_reaches_0 ?_
  refine J_V0v (ci := 11) dX11_reaches_1 s_X11_120 m_X11_aim rfl (by repeat (first | assumption | exact jget_same2 (by (try simp only [List.length_set]); exact jlt (by assumption)) | refine jget_ne (by first | decide | assumption | omega) ?_)) rfl (c_X11_aim ht hM hS (jKv_i ?_))
  refine J_istore_3 dX11_reaches_4 ?_
  refine J_iload_n (by rfl) dX11_reaches_5 ?_
  refine J_aload_n (by rfl) (by rfl) dX11_reaches_6 ?_
  refine J_iload_n (by rfl) dX11_reaches_7 ?_
  refine J_iconst (nI 0) (by decide) dX11_reaches_8 ?_
  refine J_V2v (ci := 11) dX11_reaches_9 s_X11_108 m_X11_of rfl (by repeat (first | assumption | exact jget_same2 (by (try simp only [List.length_set]); exact jlt (by assumption)) | refine jget_ne (by first | decide | assumption | omega) ?_)) rfl (c_X11_of (by omega) hM hS (jKv_i ?_))
  refine J_topi (nI (pX s (aimS s))) rfl ?_
  refine J_isub dX11_reaches_12 ?_
  refine J_topi (iI ((x : Int) - pX s (aimS s))) (nI_sub _ _) ?_
  refine J_iload_n (by rfl) dX11_reaches_13 ?_
  refine J_aload_n (by rfl) (by rfl) dX11_reaches_14 ?_
  refine J_iload_n (by rfl) dX11_reaches_15 ?_
  refine J_iconst (nI 1) (by decide) dX11_reaches_16 ?_
  refine J_V2v (ci := 11) dX11_reaches_17 s_X11_108 m_X11_of rfl (by repeat (first | assumption | exact jget_same2 (by (try simp only [List.length_set]); exact jlt (by assumption)) | refine jget_ne (by first | decide | assumption | omega) ?_)) rfl (c_X11_of (by omega) hM hS (jKv_i ?_))
  refine J_topi (nI (pY s (aimS s))) rfl ?_
  refine J_isub dX11_reaches_20 ?_
  refine J_topi (iI ((y : Int) - pY s (aimS s))) (nI_sub _ _) ?_
  refine J_S2v dX11_reaches_21 s_X11_123 m_X11_square rfl (c_X11_square _ _ (jKv_i ?_))
  refine J_topi (nI (sq2 x (pX s (aimS s)) + sq2 y (pY s (aimS s)))) rfl ?_
  refine J_aload_n (by rfl) (by rfl) dX11_reaches_24 ?_
  refine J_iload_n (by rfl) dX11_reaches_25 ?_
  refine J_iconst (nI 2) (by decide) dX11_reaches_26 ?_
  refine J_V2v (ci := 11) dX11_reaches_27 s_X11_108 m_X11_of rfl (by repeat (first | assumption | exact jget_same2 (by (try simp only [List.length_set]); exact jlt (by assumption)) | refine jget_ne (by first | decide | assumption | omega) ?_)) rfl (c_X11_of (by omega) hM hS (jKv_i ?_))
  refine J_aload_n (by rfl) (by rfl) dX11_reaches_30 ?_
  refine J_iload_n (by rfl) dX11_reaches_31 ?_
  refine J_iconst (nI 2) (by decide) dX11_reaches_32 ?_
  refine J_V2v (ci := 11) dX11_reaches_33 s_X11_108 m_X11_of rfl (by repeat (first | assumption | exact jget_same2 (by (try simp only [List.length_set]); exact jlt (by assumption)) | refine jget_ne (by first | decide | assumption | omega) ?_)) rfl (c_X11_of (by omega) hM hS (jKv_i ?_))
  refine J_imul dX11_reaches_36 ?_
  try rw [pk_mul]
  refine J_topi (nI (pR s (aimS s) * pR s (aimS s))) rfl ?_
  refine J_icmp_gt_n 44 dX11_reaches_37 (by decide) (fun c37 => ?_) (fun c37 => ?_)
  · refine J_iconst (nI 0) (by decide) dX11_reaches_44 ?_
    exact J_zreturn dX11_reaches_45 rfl (by rfl) (by rw [show decide (sq2 x (pX s (aimS s)) + sq2 y (pY s (aimS s)) ≤ pR s (aimS s) * pR s (aimS s)) = false by simp; omega] at hQ; exact hQ) (by decide) (by decide) (fun _ => rfl)
  · refine J_iconst (nI 1) (by decide) dX11_reaches_40 ?_
    refine J_goto 45 dX11_reaches_41 (by decide) ?_
    exact J_zreturn dX11_reaches_45 rfl (by rfl) (by rw [show decide (sq2 x (pX s (aimS s)) + sq2 y (pY s (aimS s)) ≤ pR s (aimS s) * pR s (aimS s)) = true by simp; omega] at hQ; exact hQ) (by decide) (by decide) (fun _ => rfl)
theorem c_X11_watches (hL : legOk s) (h3 : s 3 ≤ 99) (h4 : s 4 ≤ 99) (h8 : s 8 ≤ 30) (h5 : s 5 ≤ 1) (h6 : s 6 ≤ 1000) (hM : h[116]? = some (hMo ch th ea fa an sv ln tp he cm)) (hS : h[117]? = some (ia 204 s))
    (hQ : Q (.inl none) (h.set 117 (ia 204 (watchS s)))) : jCT G M_X11_watches 4 0 0 X [.ref 116] h Q := by
  refine jCT_of [some (.ref 116), none] 1 rfl (by decide +kernel) rfl rfl ?_
  unfold watchS at hQ
  refine J_aload_n (by rfl) (by rfl) dX11_watches_0 ?_
  refine J_aload_n (by rfl) (by rfl) dX11_watches_1 ?_
  refine J_get dX11_watches_2 f_X11_9 (by repeat (first | assumption | exact jget_same2 (by (try simp only [List.length_set]); exact jlt (by assumption)) | refine jget_ne (by first | decide | assumption | omega) ?_)) (by rfl) ?_
  refine J_iconst (nI 3) (by decide) dX11_watches_5 ?_
  refine J_iald_n (3) dX11_watches_6 (by repeat (first | assumption | exact jget_same2 (by (try simp only [List.length_set]); exact jlt (by assumption)) | refine jget_ne (by first | decide | assumption | omega) ?_)) (by first | rfl | (simp only [pk_mul, nI_add]; done) | (simp only [pk_mul, nI_add]; congr 1; omega) | (congr 1; omega)) (by omega) ?_
  refine J_aload_n (by rfl) (by rfl) dX11_watches_7 ?_
  refine J_get dX11_watches_8 f_X11_9 (by repeat (first | assumption | exact jget_same2 (by (try simp only [List.length_set]); exact jlt (by assumption)) | refine jget_ne (by first | decide | assumption | omega) ?_)) (by rfl) ?_
  refine J_iconst (nI 4) (by decide) dX11_watches_11 ?_
  refine J_iald_n (4) dX11_watches_12 (by repeat (first | assumption | exact jget_same2 (by (try simp only [List.length_set]); exact jlt (by assumption)) | refine jget_ne (by first | decide | assumption | omega) ?_)) (by first | rfl | (simp only [pk_mul, nI_add]; done) | (simp only [pk_mul, nI_add]; congr 1; omega) | (congr 1; omega)) (by omega) ?_
  refine J_aload_n (by rfl) (by rfl) dX11_watches_13 ?_
  refine J_get dX11_watches_14 f_X11_9 (by repeat (first | assumption | exact jget_same2 (by (try simp only [List.length_set]); exact jlt (by assumption)) | refine jget_ne (by first | decide | assumption | omega) ?_)) (by rfl) ?_
  refine J_bipush (nI 8) (by decide) dX11_watches_17 ?_
  refine J_iald_n (8) dX11_watches_19 (by repeat (first | assumption | exact jget_same2 (by (try simp only [List.length_set]); exact jlt (by assumption)) | refine jget_ne (by first | decide | assumption | omega) ?_)) (by first | rfl | (simp only [pk_mul, nI_add]; done) | (simp only [pk_mul, nI_add]; congr 1; omega) | (congr 1; omega)) (by omega) ?_
  refine J_V3v (ci := 11) dX11_watches_20 s_X11_129 m_X11_isWithin rfl (by repeat (first | assumption | exact jget_same2 (by (try simp only [List.length_set]); exact jlt (by assumption)) | refine jget_ne (by first | decide | assumption | omega) ?_)) rfl (c_X11_isWithin hL h3 h4 (by omega) hM hS (jKv_i ?_))
  cases hf : farS s (s 3) (s 4) (s 8) with
  | false =>
    rw [hf] at hQ
    simp only [Bool.false_eq_true, false_and, if_false] at hQ
    refine J_topi (jb true) rfl ?_
    refine J_if_ne_b 30 dX11_watches_23 (by decide) (fun c23 => ?_) (fun c23 => ?_)
    · refine J_iconst (nI 0) (by decide) dX11_watches_30 ?_
      refine J_istore_1 dX11_watches_31 ?_
      refine J_iload_n (by rfl) dX11_watches_32 ?_
      refine J_if_eq_n 61 dX11_watches_33 (by decide) (fun c33 => ?_) (fun c33 => ?_)
      · refine J_aload_n (by rfl) (by rfl) dX11_watches_61 ?_
        refine J_get dX11_watches_62 f_X11_9 (by repeat (first | assumption | exact jget_same2 (by (try simp only [List.length_set]); exact jlt (by assumption)) | refine jget_ne (by first | decide | assumption | omega) ?_)) (by rfl) ?_
        refine J_iconst (nI 5) (by decide) dX11_watches_65 ?_
        refine J_iload_n (by rfl) dX11_watches_66 ?_
        refine J_if_eq_n 74 dX11_watches_67 (by decide) (fun c67 => ?_) (fun c67 => ?_)
        · refine J_iconst (nI 0) (by decide) dX11_watches_74 ?_
          refine J_iast_n (5) dX11_watches_75 (by repeat (first | assumption | exact jget_same2 (by (try simp only [List.length_set]); exact jlt (by assumption)) | refine jget_ne (by first | decide | assumption | omega) ?_)) (by first | rfl | (simp only [pk_mul, nI_add]; done) | (simp only [pk_mul, nI_add]; congr 1; omega) | (congr 1; omega)) (by omega) ?_
          exact J_return dX11_watches_76 rfl (hQ) (by decide) (by decide) (fun _ => rfl)
        · exact absurd c67 (by decide)
      · exact absurd c33 (by decide)
    · exact absurd c23 (by decide)
  | true =>
    rw [hf] at hQ
    simp only [true_and, if_true] at hQ
    refine J_topi (jb false) rfl ?_
    refine J_if_ne_b 30 dX11_watches_23 (by decide) (fun c23 => ?_) (fun c23 => ?_)
    · exact absurd c23 (by decide)
    · refine J_iconst (nI 1) (by decide) dX11_watches_26 ?_
      refine J_goto 31 dX11_watches_27 (by decide) ?_
      refine J_istore_1 dX11_watches_31 ?_
      refine J_iload_n (by rfl) dX11_watches_32 ?_
      refine J_if_eq_n 61 dX11_watches_33 (by decide) (fun c33 => ?_) (fun c33 => ?_)
      · exact absurd c33 (by decide)
      · refine J_aload_n (by rfl) (by rfl) dX11_watches_36 ?_
        refine J_get dX11_watches_37 f_X11_9 (by repeat (first | assumption | exact jget_same2 (by (try simp only [List.length_set]); exact jlt (by assumption)) | refine jget_ne (by first | decide | assumption | omega) ?_)) (by rfl) ?_
        refine J_iconst (nI 5) (by decide) dX11_watches_40 ?_
        refine J_iald_n (5) dX11_watches_41 (by repeat (first | assumption | exact jget_same2 (by (try simp only [List.length_set]); exact jlt (by assumption)) | refine jget_ne (by first | decide | assumption | omega) ?_)) (by first | rfl | (simp only [pk_mul, nI_add]; done) | (simp only [pk_mul, nI_add]; congr 1; omega) | (congr 1; omega)) (by omega) ?_
        refine J_if_ne_n 61 dX11_watches_42 (by decide) (fun c42 => ?_) (fun c42 => ?_)
        · rw [if_neg (by omega)] at hQ
          refine J_aload_n (by rfl) (by rfl) dX11_watches_61 ?_
          refine J_get dX11_watches_62 f_X11_9 (by repeat (first | assumption | exact jget_same2 (by (try simp only [List.length_set]); exact jlt (by assumption)) | refine jget_ne (by first | decide | assumption | omega) ?_)) (by rfl) ?_
          refine J_iconst (nI 5) (by decide) dX11_watches_65 ?_
          refine J_iload_n (by rfl) dX11_watches_66 ?_
          refine J_if_eq_n 74 dX11_watches_67 (by decide) (fun c67 => ?_) (fun c67 => ?_)
          · exact absurd c67 (by decide)
          · refine J_iconst (nI 1) (by decide) dX11_watches_70 ?_
            refine J_goto 75 dX11_watches_71 (by decide) ?_
            refine J_iast_n (5) dX11_watches_75 (by repeat (first | assumption | exact jget_same2 (by (try simp only [List.length_set]); exact jlt (by assumption)) | refine jget_ne (by first | decide | assumption | omega) ?_)) (by first | rfl | (simp only [pk_mul, nI_add]; done) | (simp only [pk_mul, nI_add]; congr 1; omega) | (congr 1; omega)) (by omega) ?_
            exact J_return dX11_watches_76 rfl (hQ) (by decide) (by decide) (fun _ => rfl)
        · rw [if_pos c42] at hQ
          refine J_aload_n (by rfl) (by rfl) dX11_watches_45 ?_
          refine J_get dX11_watches_46 f_X11_9 (by repeat (first | assumption | exact jget_same2 (by (try simp only [List.length_set]); exact jlt (by assumption)) | refine jget_ne (by first | decide | assumption | omega) ?_)) (by rfl) ?_
          refine J_bipush (nI 10) (by decide) dX11_watches_49 ?_
          refine J_dup2 (by rfl) (by rfl) dX11_watches_51 ?_
          refine J_iald_n (10) dX11_watches_52 (by repeat (first | assumption | exact jget_same2 (by (try simp only [List.length_set]); exact jlt (by assumption)) | refine jget_ne (by first | decide | assumption | omega) ?_)) (by first | rfl | (simp only [pk_mul, nI_add]; done) | (simp only [pk_mul, nI_add]; congr 1; omega) | (congr 1; omega)) (by omega) ?_
          refine J_iconst (nI 1) (by decide) dX11_watches_53 ?_
          refine J_iadd dX11_watches_54 ?_
          try rw [nI_add]
          refine J_iast_n (10) dX11_watches_55 (by repeat (first | assumption | exact jget_same2 (by (try simp only [List.length_set]); exact jlt (by assumption)) | refine jget_ne (by first | decide | assumption | omega) ?_)) (by first | rfl | (simp only [pk_mul, nI_add]; done) | (simp only [pk_mul, nI_add]; congr 1; omega) | (congr 1; omega)) (by omega) ?_
          refine J_aload_n (by rfl) (by rfl) dX11_watches_56 ?_
          refine J_iconst (nI 5) (by decide) dX11_watches_57 ?_
          refine J_V10 (ci := 11) dX11_watches_58 s_X11_132 m_X11_drains rfl (by repeat (first | assumption | exact jget_same2 (by (try simp only [List.length_set]); exact jlt (by assumption)) | refine jget_ne (by first | decide | assumption | omega) ?_)) rfl (c_X11_drains (s := updN s 10 (s 10 + 1)) (v := 5) (by rw [updN_n (by decide)]; exact h6) (by omega) (by repeat (first | assumption | exact jget_same2 (by (try simp only [List.length_set]); exact jlt (by assumption)) | refine jget_ne (by first | decide | assumption | omega) ?_)) (by repeat (first | assumption | exact jget_same2 (by (try simp only [List.length_set]); exact jlt (by assumption)) | refine jget_ne (by first | decide | assumption | omega) ?_)) (jK0_i ?_))
          simp only [List.set_set, jsw (i := 116) (j := 117) (by decide), jsw (i := 116) (j := 118) (by decide), jsw (i := 116) (j := 120) (by decide), jsw (i := 116) (j := 121) (by decide), jsw (i := 117) (j := 118) (by decide), jsw (i := 117) (j := 120) (by decide), jsw (i := 117) (j := 121) (by decide), jsw (i := 118) (j := 120) (by decide), jsw (i := 118) (j := 121) (by decide), jsw (i := 120) (j := 121) (by decide)]
          refine J_aload_n (by rfl) (by rfl) dX11_watches_61 ?_
          refine J_get dX11_watches_62 f_X11_9 (by repeat (first | assumption | exact jget_same2 (by (try simp only [List.length_set]); exact jlt (by assumption)) | refine jget_ne (by first | decide | assumption | omega) ?_)) (by rfl) ?_
          refine J_iconst (nI 5) (by decide) dX11_watches_65 ?_
          refine J_iload_n (by rfl) dX11_watches_66 ?_
          refine J_if_eq_n 74 dX11_watches_67 (by decide) (fun c67 => ?_) (fun c67 => ?_)
          · exact absurd c67 (by decide)
          · refine J_iconst (nI 1) (by decide) dX11_watches_70 ?_
            refine J_goto 75 dX11_watches_71 (by decide) ?_
            refine J_iast_n (5) dX11_watches_75 (by repeat (first | assumption | exact jget_same2 (by (try simp only [List.length_set]); exact jlt (by assumption)) | refine jget_ne (by first | decide | assumption | omega) ?_)) (by first | rfl | (simp only [pk_mul, nI_add]; done) | (simp only [pk_mul, nI_add]; congr 1; omega) | (congr 1; omega)) (by omega) ?_
            exact J_return dX11_watches_76 rfl (by simp only [List.set_set, jsw (i := 116) (j := 117) (by decide), jsw (i := 116) (j := 118) (by decide), jsw (i := 116) (j := 120) (by decide), jsw (i := 116) (j := 121) (by decide), jsw (i := 117) (j := 118) (by decide), jsw (i := 117) (j := 120) (by decide), jsw (i := 117) (j := 121) (by decide), jsw (i := 118) (j := 120) (by decide), jsw (i := 118) (j := 121) (by decide), jsw (i := 120) (j := 121) (by decide)]; exact hQ) (by decide) (by decide) (fun _ => rfl)
end MODEL3
