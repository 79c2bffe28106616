/-! Sums of lengths; the alarm rate and the mean length of a trail, on both sides -/
theorem fdiv_vf {x y : Int32} (hy : y ≠ 0) : vf_n32 (FP.fdiv (FP.i2f x) (FP.i2f y)) := by
  have h : Jvm.FP.Core.fIsNaN (Jvm.FP.Core.fdiv (Jvm.FP.Core.i2f x) (Jvm.FP.Core.i2f y)) = false := Jvm.FP.Core.fdiv_out (Jvm.FP.Core.i2f_fin x).notNaN (Jvm.FP.Core.i2f_fin y) (fun z => Jvm.FP.Core.i2f_ne_zero hy ((Jvm.FP.Core.zero_bits232 _).mp z))
  have h2 : ¬ 2139095040 < (Jvm.FP.Core.fdiv (Jvm.FP.Core.i2f x) (Jvm.FP.Core.i2f y)).toNat % 2 ^ 31 := fun q => by rw [(Jvm.FP.Core.isNaN_bits32 _).mpr q] at h; cases h
  show Jvm.FP.Core.fdiv (Jvm.FP.Core.i2f x) (Jvm.FP.Core.i2f y) &&& 0x7fffffff ≤ 0x7f800000
  rw [UInt32.le_iff_toNat_le, UInt32.toNat_and]
  show _ &&& (2 ^ 31 - 1) ≤ 2139095040
  rw [Nat.and_two_pow_sub_one_eq_mod]
  omega
theorem ddiv_vf {x y : Int32} (hy : y ≠ 0) : vf_n64 (FP.ddiv (FP.i2d x) (FP.i2d y)) := by
  have h : Jvm.FP.Core.dIsNaN (Jvm.FP.Core.ddiv (Jvm.FP.Core.i2d x) (Jvm.FP.Core.i2d y)) = false := Jvm.FP.Core.ddiv_out (Jvm.FP.Core.i2d_fin x).notNaN (Jvm.FP.Core.i2d_fin y) (fun z => Jvm.FP.Core.i2d_ne_zero hy ((Jvm.FP.Core.zero_bits2 _).mp z))
  have h2 : ¬ 9218868437227405312 < (Jvm.FP.Core.ddiv (Jvm.FP.Core.i2d x) (Jvm.FP.Core.i2d y)).toNat % 2 ^ 63 := fun q => by rw [(Jvm.FP.Core.isNaN_bits _).mpr q] at h; cases h
  show Jvm.FP.Core.ddiv (Jvm.FP.Core.i2d x) (Jvm.FP.Core.i2d y) &&& 0x7fffffffffffffff ≤ 0x7ff0000000000000
  rw [UInt64.le_iff_toNat_le, UInt64.toNat_and]
  show _ &&& (2 ^ 63 - 1) ≤ 9218868437227405312
  rw [Nat.and_two_pow_sub_one_eq_mod]
  omega
def sum0 (f : Nat → Nat) : Nat → Nat
  | 0 => 0
  | k + 1 => sum0 f k + f k
theorem sum0_congr {f g : Nat → Nat} : ∀ k, (∀ i, i < k → f i = g i) → sum0 f k = sum0 g k
  | 0, _ => rfl
  | k + 1, h => by unfold sum0; rw [sum0_congr k (fun i hi => h i (by omega)), h k (by omega)]
theorem sum0_add (f g : Nat → Nat) : ∀ k, sum0 (fun i => f i + g i) k = sum0 f k + sum0 g k
  | 0 => rfl
  | k + 1 => by
    have := sum0_add f g k
    show sum0 (fun i => f i + g i) k + (f k + g k) = (sum0 f k + f k) + (sum0 g k + g k)
    omega
theorem sum0_le {f : Nat → Nat} {c : Nat} : ∀ k, (∀ i, i < k → f i ≤ c) → sum0 f k ≤ k * c
  | 0, _ => Nat.zero_le _
  | k + 1, h => by
    have h1 := sum0_le k (fun i hi => h i (by omega))
    have h2 := h k (by omega)
    show sum0 f k + f k ≤ (k + 1) * c
    rw [Nat.succ_mul]
    omega
theorem sum0_z {f : Nat → Nat} : ∀ k, sum0 f k = 0 ↔ ∀ i, i < k → f i = 0
  | 0 => ⟨fun _ i hi => absurd hi (Nat.not_lt_zero _), fun _ => rfl⟩
  | k + 1 => by
    have ih := sum0_z (f := f) k
    show sum0 f k + f k = 0 ↔ _
    constructor
    · intro h i hi
      by_cases e : i = k
      · subst e; omega
      · exact ih.mp (by omega) i (by omega)
    · intro h
      have h1 := ih.mpr (fun i hi => h i (by omega))
      have h2 := h k (by omega)
      omega
theorem sumR_z {f : Nat → Nat} : ∀ k, sumR f 0 k = 0 ↔ ∀ i, i < k → f i = 0
  | 0 => ⟨fun _ i hi => absurd hi (Nat.not_lt_zero _), fun _ => rfl⟩
  | k + 1 => by
    have ih := sumR_z (f := f) k
    unfold sumR
    rw [Nat.zero_add]
    constructor
    · intro h i hi
      by_cases e : i = k
      · subst e; omega
      · exact ih.mp (by omega) i (by omega)
    · intro h
      have h1 := ih.mpr (fun i hi => h i (by omega))
      have h2 := h k (by omega)
      omega
theorem cnt_z {f : Nat → Bool} : ∀ k, cnt f k = 0 ↔ ∀ i, i < k → f i = false
  | 0 => ⟨fun _ i hi => absurd hi (Nat.not_lt_zero _), fun _ => rfl⟩
  | k + 1 => by
    have ih := cnt_z (f := f) k
    show cnt f k + (if f k = true then 1 else 0) = 0 ↔ _
    constructor
    · intro h i hi
      by_cases e : i = k
      · subst e
        cases hf : f i with
        | false => rfl
        | true => rw [hf, if_pos rfl] at h; omega
      · exact ih.mp (by omega) i (by omega)
    · intro h
      have h1 := ih.mpr (fun i hi => h i (by omega))
      rw [h1, h k (by omega)]
      rfl
def lowS (w : Nat → Nat) (n : Nat) : Nat := sum0 (fun i => sum0 (fun j => w (i * 12 + j)) i) n
def upS (w : Nat → Nat) (n m : Nat) : Nat := sum0 (fun i => sum0 (fun t => w (i * 12 + (i + 1 + t))) (n - (i + 1))) m
theorem up_low {w : Nat → Nat} (hs : ∀ i j, i < 12 → j < 12 → w (i * 12 + j) = w (j * 12 + i)) : ∀ n, n ≤ 12 → upS w n n = lowS w n
  | 0, _ => rfl
  | n + 1, h => by
    have ih := up_low hs n (by omega)
    have e1 : upS w (n + 1) (n + 1) = sum0 (fun i => sum0 (fun t => w (i * 12 + (i + 1 + t))) (n + 1 - (i + 1))) n + sum0 (fun t => w (n * 12 + (n + 1 + t))) (n + 1 - (n + 1)) := rfl
    have e2 : sum0 (fun i => sum0 (fun t => w (i * 12 + (i + 1 + t))) (n + 1 - (i + 1))) n = sum0 (fun i => sum0 (fun t => w (i * 12 + (i + 1 + t))) (n - (i + 1)) + w (n * 12 + i)) n := sum0_congr n (fun i hi => by
      show sum0 (fun t => w (i * 12 + (i + 1 + t))) (n + 1 - (i + 1)) = sum0 (fun t => w (i * 12 + (i + 1 + t))) (n - (i + 1)) + w (n * 12 + i)
      rw [show n + 1 - (i + 1) = (n - (i + 1)) + 1 by omega]
      show sum0 (fun t => w (i * 12 + (i + 1 + t))) (n - (i + 1)) + w (i * 12 + (i + 1 + (n - (i + 1)))) = _
      rw [show i + 1 + (n - (i + 1)) = n by omega, hs i n (by omega) (by omega)])
    have e3 := sum0_add (fun i => sum0 (fun t => w (i * 12 + (i + 1 + t))) (n - (i + 1))) (fun i => w (n * 12 + i)) n
    have e4 : sum0 (fun t => w (n * 12 + (n + 1 + t))) (n + 1 - (n + 1)) = 0 := by rw [Nat.sub_self]; rfl
    have e5 : lowS w (n + 1) = lowS w n + sum0 (fun j => w (n * 12 + j)) n := rfl
    have e6 : upS w n n = sum0 (fun i => sum0 (fun t => w (i * 12 + (i + 1 + t))) (n - (i + 1))) n := rfl
    rw [e1, e2, e3, e4, e5, ← ih, e6]
    rfl
theorem low_cut {w : Nat → Nat} {n : Nat} (g : Gr n w) : ∀ k, n + k ≤ 12 → lowS w (n + k) = lowS w n
  | 0, _ => rfl
  | k + 1, h => by
    have ih := low_cut g k (by omega)
    have e1 : lowS w (n + (k + 1)) = lowS w (n + k) + sum0 (fun j => w ((n + k) * 12 + j)) (n + k) := rfl
    have e2 : sum0 (fun j => w ((n + k) * 12 + j)) (n + k) = 0 := (sum0_z _).mpr (fun i hi => by
      show w ((n + k) * 12 + i) = 0
      refine Nat.eq_zero_of_not_pos (fun hp => ?_)
      have := (g.inn (n + k) i (by omega) (by omega) hp).1
      omega)
    omega
theorem up_12 {w : Nat → Nat} {n : Nat} (g : Gr n w) : upS w n n = lowS w 12 := by
  have hn := g.n12
  rw [up_low g.sym n hn]
  have := low_cut g (12 - n) (by omega)
  rw [show n + (12 - n) = 12 by omega] at this
  exact this.symm
theorem low_le {w : Nat → Nat} (h : ∀ i j, i < 12 → j < 12 → w (i * 12 + j) ≤ 99) (m : Nat) (hm : m ≤ 12) : lowS w m ≤ m * 1188 := sum0_le m (fun i hi => Nat.le_trans (sum0_le i (fun j hj => h i j (by omega) (by omega))) (by omega))
theorem low_congr {w v : Nat → Nat} (h : ∀ k, k < 144 → w k = v k) : lowS w 12 = lowS v 12 := sum0_congr 12 (fun i hi => sum0_congr i (fun j hj => h _ (by omega)))
theorem mT_le (w : Nat → Nat) : mT w ≤ 144 := by
  unfold mT
  have : ∀ k, k ≤ 12 → sumR (fun i => cnt (fun j => decide (0 < w (i * 12 + j))) i) 0 k ≤ 12 * k := by
    intro k
    induction k with
    | zero => intro _; exact Nat.le_refl _
    | succ k ih =>
      intro hk
      have h1 := ih (by omega)
      unfold sumR
      have h2 := cnt_le (fun j => decide (0 < w ((0 + k) * 12 + j))) (0 + k)
      omega
  exact this 12 (Nat.le_refl _)
theorem low_mT (w : Nat → Nat) : lowS w 12 = 0 ↔ mT w = 0 := by
  unfold lowS mT
  rw [sum0_z, sumR_z]
  refine forall_congr' fun i => forall_congr' fun hi => ?_
  show sum0 (fun j => w (i * 12 + j)) i = 0 ↔ cnt (fun j => decide (0 < w (i * 12 + j))) i = 0
  rw [sum0_z, cnt_z]
  refine forall_congr' fun j => forall_congr' fun hj => ?_
  show w (i * 12 + j) = 0 ↔ decide (0 < w (i * 12 + j)) = false
  rw [decide_eq_false_iff_not]
  omega
section FLO
variable {G : jG} {X : Bool} {h : jH} {Q : jQ_} {ch th ln tp K n t : Nat} {ea fa : Int32} {sv : Bool} {s sS P lf tx w : Nat → Nat}
theorem c_X9_sumLow (g : Gr n w) (hM : h[3]? = some (hMap n t)) (hA : h[7]? = some (ia 144 w)) (hQ : Q (.inl (some (.int (nI (lowS w 12))))) h) : jCT G M_X9_sumOfLengths 2 0 0 X [.ref 3] h Q := by
  refine jCT_of [some (.ref 3), none, none, none] 3 rfl (by decide +kernel) rfl rfl ?_
  have hn := g.n12
  rw [← up_12 g] at hQ
  refine J_iconst (nI 0) (by decide) dX9_sumOfLengths_0 ?_
  refine J_istore_1 dX9_sumOfLengths_1 ?_
  refine J_iconst (nI 0) (by decide) dX9_sumOfLengths_2 ?_
  refine J_istore_2 dX9_sumOfLengths_3 ?_
  suffices loop : ∀ i, i ≤ n → ∀ l3, J G (jR 2 0 0) (jFin G Q X 0 0) M_X9_sumOfLengths X 0 0 4 [some (.ref 3), some (.int (nI (upS w n i))), some (.int (nI i)), l3] [] h by
    exact loop 0 (by omega) _
  refine up_ind n (fun i hi ih l3 => ?_)
  refine J_iload_n (by rfl) dX9_sumOfLengths_4 ?_
  refine J_aload_n (by rfl) (by rfl) dX9_sumOfLengths_5 ?_
  refine J_get dX9_sumOfLengths_6 f_X9_30 (by repeat (first | assumption | exact jget_same2 (by (try simp only [List.length_set]); exact jlt (by assumption)) | refine jget_ne (by first | decide | assumption | omega) ?_)) (by rfl) ?_
  refine J_icmp_ge_n 45 dX9_sumOfLengths_9 (by decide) (fun c9 => ?_) (fun c9 => ?_)
  · have hin : i = n := by omega
    rw [hin]
    refine J_iload_n (by rfl) dX9_sumOfLengths_45 ?_
    exact J_ireturn dX9_sumOfLengths_46 rfl (hQ) (by decide) (by decide) (fun _ => rfl)
  · refine J_iload_n (by rfl) dX9_sumOfLengths_12 ?_
    refine J_iconst (nI 1) (by decide) dX9_sumOfLengths_13 ?_
    refine J_iadd dX9_sumOfLengths_14 ?_
    try rw [nI_add]
    refine J_istore_3 dX9_sumOfLengths_15 ?_
    suffices inner : ∀ t, t ≤ n - (i + 1) → J G (jR 2 0 0) (jFin G Q X 0 0) M_X9_sumOfLengths X 0 0 16 [some (.ref 3), some (.int (nI (upS w n i + sum0 (fun t => w (i * 12 + (i + 1 + t))) t))), some (.int (nI i)), some (.int (nI (i + 1 + t)))] [] h by
      exact inner 0 (by omega)
    refine up_ind (n - (i + 1)) (fun t ht ih2 => ?_)
    refine J_iload_n (by rfl) dX9_sumOfLengths_16 ?_
    refine J_aload_n (by rfl) (by rfl) dX9_sumOfLengths_17 ?_
    refine J_get dX9_sumOfLengths_18 f_X9_30 (by repeat (first | assumption | exact jget_same2 (by (try simp only [List.length_set]); exact jlt (by assumption)) | refine jget_ne (by first | decide | assumption | omega) ?_)) (by rfl) ?_
    refine J_icmp_ge_n 39 dX9_sumOfLengths_21 (by decide) (fun c21 => ?_) (fun c21 => ?_)
    · refine J_iinc_2 (nI 1) dX9_sumOfLengths_39 (by decide) ?_
      try rw [nI_add]
      refine J_goto 4 dX9_sumOfLengths_42 (by decide) ?_
      have he : t = n - (i + 1) := by omega
      subst he
      exact ih (by omega) _
    · refine J_iload_n (by rfl) dX9_sumOfLengths_24 ?_
      refine J_aload_n (by rfl) (by rfl) dX9_sumOfLengths_25 ?_
      refine J_iload_n (by rfl) dX9_sumOfLengths_26 ?_
      refine J_iload_n (by rfl) dX9_sumOfLengths_27 ?_
      refine J_V2v (ci := 9) dX9_sumOfLengths_28 s_X9_37 m_X9_lengthBetween rfl (by repeat (first | assumption | exact jget_same2 (by (try simp only [List.length_set]); exact jlt (by assumption)) | refine jget_ne (by first | decide | assumption | omega) ?_)) rfl (c_X9_lengthBetween (i := i) (j := i + 1 + t) (by omega) (by omega) hM hA (jKv_i ?_))
      refine J_iadd dX9_sumOfLengths_31 ?_
      try rw [nI_add]
      refine J_istore_1 dX9_sumOfLengths_32 ?_
      refine J_iinc_3 (nI 1) dX9_sumOfLengths_33 (by decide) ?_
      try rw [nI_add]
      refine J_goto 16 dX9_sumOfLengths_36 (by decide) ?_
      have e : upS w n i + sum0 (fun t => w (i * 12 + (i + 1 + t))) (t + 1) = upS w n i + sum0 (fun t => w (i * 12 + (i + 1 + t))) t + w (i * 12 + (i + 1 + t)) := (Nat.add_assoc _ _ _).symm
      have := ih2 (by omega)
      rw [e] at this
      exact this
theorem c_X10_alarmRate (I : Inv K s) (cp : CPc h s sS P ch ea fa sv lf ln tx tp)
    (hK : K < 2 ^ 30) (hQ1 : 0 < s 9 → Q (.inl (some (.float (FP.fdiv (FP.i2f (nI (s 10))) (FP.i2f (nI (s 9))))))) h) (hQ2 : s 9 = 0 → Q (.inr "java/lang/ArithmeticException") h) : jCT G M_X10_alarmRate 7 1 6 false [.ref 0] h Q := by
  refine jCT_of [some (.ref 0), none] 1 rfl (by decide +kernel) rfl rfl ?_
  obtain ⟨c0, gs, hhs, hsa, hbe, hpg, hli⟩ := cp
  have cp : CPc h s sS P ch ea fa sv lf ln tx tp := ⟨c0, gs, hhs, hsa, hbe, hpg, hli⟩
  obtain ⟨fx, fy, fr, w, rt, ti, x9, y9, D, E, L, m, num, den, g⟩ := gs
  have g0 := g
  have hgr := g.gr I
  obtain ⟨g1, g2, g3, g4, g5, g6, g7, g8, g9, g10, g11, g12, g13, g14, g15, g16, e1, e2, e3⟩ := g
  have hn := I.n12
  have hs1 := I.s1
  have hu := I.u
  have h9 : s 9 < 2 ^ 31 := by omega
  refine J_aload_n (by rfl) (by rfl) dX10_alarmRate_0 ?_
  refine J_get dX10_alarmRate_1 f_X10_12 (by repeat (first | assumption | exact jget_same2 (by (try simp only [List.length_set]); exact jlt (by assumption)) | refine jget_ne (by first | decide | assumption | omega) ?_)) (by rfl) ?_
  refine J_get dX10_alarmRate_4 f_X10_62 (by repeat (first | assumption | exact jget_same2 (by (try simp only [List.length_set]); exact jlt (by assumption)) | refine jget_ne (by first | decide | assumption | omega) ?_)) (by rfl) ?_
  refine J_get dX10_alarmRate_7 f_X10_202 (by repeat (first | assumption | exact jget_same2 (by (try simp only [List.length_set]); exact jlt (by assumption)) | refine jget_ne (by first | decide | assumption | omega) ?_)) (by rfl) ?_
  refine J_get dX10_alarmRate_10 f_X10_226 (by repeat (first | assumption | exact jget_same2 (by (try simp only [List.length_set]); exact jlt (by assumption)) | refine jget_ne (by first | decide | assumption | omega) ?_)) (by rfl) ?_
  refine J_istore_1 dX10_alarmRate_13 ?_
  refine J_iload_n (by rfl) dX10_alarmRate_14 ?_
  · refine J_if_ne_n 28 dX10_alarmRate_15 (by decide) (fun c15 => ?_) (fun c15 => ?_)
    · refine J_aload_n (by rfl) (by rfl) dX10_alarmRate_28 ?_
      refine J_get dX10_alarmRate_29 f_X10_12 (by repeat (first | assumption | exact jget_same2 (by (try simp only [List.length_set]); exact jlt (by assumption)) | refine jget_ne (by first | decide | assumption | omega) ?_)) (by rfl) ?_
      refine J_get dX10_alarmRate_32 f_X10_62 (by repeat (first | assumption | exact jget_same2 (by (try simp only [List.length_set]); exact jlt (by assumption)) | refine jget_ne (by first | decide | assumption | omega) ?_)) (by rfl) ?_
      refine J_get dX10_alarmRate_35 f_X10_202 (by repeat (first | assumption | exact jget_same2 (by (try simp only [List.length_set]); exact jlt (by assumption)) | refine jget_ne (by first | decide | assumption | omega) ?_)) (by rfl) ?_
      refine J_get dX10_alarmRate_38 f_X10_229 (by repeat (first | assumption | exact jget_same2 (by (try simp only [List.length_set]); exact jlt (by assumption)) | refine jget_ne (by first | decide | assumption | omega) ?_)) (by rfl) ?_
      refine J_i2f dX10_alarmRate_41 ?_
      refine J_iload_n (by rfl) dX10_alarmRate_42 ?_
      refine J_i2f dX10_alarmRate_43 ?_
      refine J_fdiv (fdiv_vf (nI_ne0 (by omega) h9)) dX10_alarmRate_44 ?_
      exact J_freturn dX10_alarmRate_45 rfl (hQ1 (by omega)) (by decide) (by decide) (fun q => by cases q)
    · exact J_throw (i := 12) t_X10_235_239 dX10_alarmRate_18 dX10_alarmRate_21 dX10_alarmRate_22 dX10_alarmRate_24 dX10_alarmRate_27 rfl rfl rfl rfl (by decide) (by exact Nat.le_of_ble_eq_true rfl) (by decide) (by decide) (by decide) (by decide) (hQ2 (by omega))
theorem c_X10_meanTrailLength (I : Inv K s) (cp : CPc h s sS P ch ea fa sv lf ln tx tp)
    (hQ1 : 0 < mT (wS s) → Q (.inl (some (.double (FP.ddiv (FP.i2d (nI (lowS (wS s) 12))) (FP.i2d (nI (mT (wS s)))))))) h) (hQ2 : mT (wS s) = 0 → Q (.inr "java/lang/ArithmeticException") h) : jCT G M_X10_meanTrailLength 7 1 6 false [.ref 0] h Q := by
  refine jCT_of [some (.ref 0), none] 1 rfl (by decide +kernel) rfl rfl ?_
  obtain ⟨c0, gs, hhs, hsa, hbe, hpg, hli⟩ := cp
  have cp : CPc h s sS P ch ea fa sv lf ln tx tp := ⟨c0, gs, hhs, hsa, hbe, hpg, hli⟩
  obtain ⟨fx, fy, fr, w, rt, ti, x9, y9, D, E, L, m, num, den, g⟩ := gs
  have g0 := g
  have hgr := g.gr I
  obtain ⟨g1, g2, g3, g4, g5, g6, g7, g8, g9, g10, g11, g12, g13, g14, g15, g16, e1, e2, e3⟩ := g
  have hn := I.n12
  have hs1 := I.s1
  have hml := mT_le (wS s)
  refine J_aload_n (by rfl) (by rfl) dX10_meanTrailLength_0 ?_
  refine J_get dX10_meanTrailLength_1 f_X10_12 (by repeat (first | assumption | exact jget_same2 (by (try simp only [List.length_set]); exact jlt (by assumption)) | refine jget_ne (by first | decide | assumption | omega) ?_)) (by rfl) ?_
  refine J_get dX10_meanTrailLength_4 f_X10_62 (by repeat (first | assumption | exact jget_same2 (by (try simp only [List.length_set]); exact jlt (by assumption)) | refine jget_ne (by first | decide | assumption | omega) ?_)) (by rfl) ?_
  refine J_get dX10_meanTrailLength_7 f_X10_65 (by repeat (first | assumption | exact jget_same2 (by (try simp only [List.length_set]); exact jlt (by assumption)) | refine jget_ne (by first | decide | assumption | omega) ?_)) (by rfl) ?_
  refine J_get dX10_meanTrailLength_10 f_X10_88 (by repeat (first | assumption | exact jget_same2 (by (try simp only [List.length_set]); exact jlt (by assumption)) | refine jget_ne (by first | decide | assumption | omega) ?_)) (by rfl) ?_
  refine J_istore_1 dX10_meanTrailLength_13 ?_
  refine J_iload_n (by rfl) dX10_meanTrailLength_14 ?_
  · refine J_if_ne_n 28 dX10_meanTrailLength_15 (by decide) (fun c15 => ?_) (fun c15 => ?_)
    · refine J_aload_n (by rfl) (by rfl) dX10_meanTrailLength_28 ?_
      refine J_get dX10_meanTrailLength_29 f_X10_12 (by repeat (first | assumption | exact jget_same2 (by (try simp only [List.length_set]); exact jlt (by assumption)) | refine jget_ne (by first | decide | assumption | omega) ?_)) (by rfl) ?_
      refine J_get dX10_meanTrailLength_32 f_X10_62 (by repeat (first | assumption | exact jget_same2 (by (try simp only [List.length_set]); exact jlt (by assumption)) | refine jget_ne (by first | decide | assumption | omega) ?_)) (by rfl) ?_
      refine J_get dX10_meanTrailLength_35 f_X10_65 (by repeat (first | assumption | exact jget_same2 (by (try simp only [List.length_set]); exact jlt (by assumption)) | refine jget_ne (by first | decide | assumption | omega) ?_)) (by rfl) ?_
      refine J_V0v (ci := 9) dX10_meanTrailLength_38 s_X10_242 m_X9_sumOfLengths rfl (by repeat (first | assumption | exact jget_same2 (by (try simp only [List.length_set]); exact jlt (by assumption)) | refine jget_ne (by first | decide | assumption | omega) ?_)) rfl (c_X9_sumLow hgr g3 g7 (jKv_i ?_))
      refine J_topi (nI (lowS (wS s) 12)) (by rw [low_congr e2]) ?_
      refine J_i2d dX10_meanTrailLength_41 ?_
      refine J_iload_n (by rfl) dX10_meanTrailLength_42 ?_
      refine J_i2d dX10_meanTrailLength_43 ?_
      refine J_ddiv (ddiv_vf (nI_ne0 (by omega) (by omega))) dX10_meanTrailLength_44 ?_
      exact J_dreturn dX10_meanTrailLength_45 rfl (hQ1 (by omega)) (by decide) (by decide) (fun q => by cases q)
    · exact J_throw (i := 13) t_X10_235_239 dX10_meanTrailLength_18 dX10_meanTrailLength_21 dX10_meanTrailLength_22 dX10_meanTrailLength_24 dX10_meanTrailLength_27 rfl rfl rfl rfl (by decide) (by exact Nat.le_of_ble_eq_true rfl) (by decide) (by decide) (by decide) (by decide) (hQ2 (by omega))
theorem c_X11_alarmRate (hI : Inv K s) (hm : MPc h s sS P ch th ea fa sv lf ln tx tp) (hK : K < 2 ^ 30)
    (hQ1 : 0 < s 9 → ∀ h', jFr mC h h' → MPc h' s sS P ch 0 ea fa sv lf ln tx tp → Q (.inl (some (.float (FP.fdiv (FP.i2f (nI (s 10))) (FP.i2f (nI (s 9))))))) h')
    (hQ2 : s 9 = 0 → ∀ h', jFr mC h h' → MPc h' s sS P ch 1 ea fa sv lf ln tx tp → Q (.inl (some (.float 0))) h') : jCT G M_X11_alarmRate 2 0 0 X [.ref 116] h Q := by
  refine jCT_of [some (.ref 116)] 0 rfl (by decide +kernel) rfl rfl ?_
  obtain ⟨an, he, cm, W, F, C, h1, h2, h3, h4, h5, h6, h7, h8, h9⟩ := hm
  have hu := hI.u
  have hs9 : s 9 < 2 ^ 31 := by omega
  refine J_aload_n (by rfl) (by rfl) dX11_alarmRate_0 ?_
  refine J_aload_n (by rfl) (by rfl) dX11_alarmRate_1 ?_
  refine J_get dX11_alarmRate_2 f_X11_9 (by repeat (first | assumption | exact jget_same2 (by (try simp only [List.length_set]); exact jlt (by assumption)) | refine jget_ne (by first | decide | assumption | omega) ?_)) (by rfl) ?_
  refine J_bipush (nI 9) (by decide) dX11_alarmRate_5 ?_
  refine J_iald_n (9) dX11_alarmRate_7 (by repeat (first | assumption | exact jget_same2 (by (try simp only [List.length_set]); exact jlt (by assumption)) | refine jget_ne (by first | decide | assumption | omega) ?_)) (by first | rfl | (simp only [pk_mul, nI_add]; done) | (simp only [pk_mul, nI_add]; congr 1; omega) | (congr 1; omega)) (by omega) ?_
  refine J_if_ne_n 15 dX11_alarmRate_8 (by decide) (fun c8 => ?_) (fun c8 => ?_)
  · refine J_iconst (nI 0) (by decide) dX11_alarmRate_15 ?_
    refine J_iconst (nI 1) (by decide) dX11_alarmRate_16 ?_
    refine J_V2v (ci := 11) dX11_alarmRate_17 s_X11_63 m_X11_isThrown rfl (by repeat (first | assumption | exact jget_same2 (by (try simp only [List.length_set]); exact jlt (by assumption)) | refine jget_ne (by first | decide | assumption | omega) ?_)) rfl (c_X11_isThrown false (by repeat (first | assumption | exact jget_same2 (by (try simp only [List.length_set]); exact jlt (by assumption)) | refine jget_ne (by first | decide | assumption | omega) ?_)) (jKv_i ?_))
    refine J_if_eq_b 27 dX11_alarmRate_20 (by decide) (fun c20 => ?_) (fun c20 => ?_)
    · refine J_aload_n (by rfl) (by rfl) dX11_alarmRate_27 ?_
      refine J_get dX11_alarmRate_28 f_X11_9 (by repeat (first | assumption | exact jget_same2 (by (try simp only [List.length_set]); exact jlt (by assumption)) | refine jget_ne (by first | decide | assumption | omega) ?_)) (by rfl) ?_
      refine J_bipush (nI 10) (by decide) dX11_alarmRate_31 ?_
      refine J_iald_n (10) dX11_alarmRate_33 (by repeat (first | assumption | exact jget_same2 (by (try simp only [List.length_set]); exact jlt (by assumption)) | refine jget_ne (by first | decide | assumption | omega) ?_)) (by first | rfl | (simp only [pk_mul, nI_add]; done) | (simp only [pk_mul, nI_add]; congr 1; omega) | (congr 1; omega)) (by omega) ?_
      refine J_i2f dX11_alarmRate_34 ?_
      refine J_aload_n (by rfl) (by rfl) dX11_alarmRate_35 ?_
      refine J_get dX11_alarmRate_36 f_X11_9 (by repeat (first | assumption | exact jget_same2 (by (try simp only [List.length_set]); exact jlt (by assumption)) | refine jget_ne (by first | decide | assumption | omega) ?_)) (by rfl) ?_
      refine J_bipush (nI 9) (by decide) dX11_alarmRate_39 ?_
      refine J_iald_n (9) dX11_alarmRate_41 (by repeat (first | assumption | exact jget_same2 (by (try simp only [List.length_set]); exact jlt (by assumption)) | refine jget_ne (by first | decide | assumption | omega) ?_)) (by first | rfl | (simp only [pk_mul, nI_add]; done) | (simp only [pk_mul, nI_add]; congr 1; omega) | (congr 1; omega)) (by omega) ?_
      refine J_i2f dX11_alarmRate_42 ?_
      refine J_fdiv (fdiv_vf (nI_ne0 (by omega) hs9)) dX11_alarmRate_43 ?_
      exact J_freturn dX11_alarmRate_44 rfl (hQ1 (by omega) _ (jFr.refl.set 116 _ (by decide)) ⟨an, he, cm, W, F, C, (by repeat (first | assumption | exact jget_same2 (by (try simp only [List.length_set]); exact jlt (by assumption)) | refine jget_ne (by first | decide | assumption | omega) ?_)), (by repeat (first | assumption | exact jget_same2 (by (try simp only [List.length_set]); exact jlt (by assumption)) | refine jget_ne (by first | decide | assumption | omega) ?_)), (by repeat (first | assumption | exact jget_same2 (by (try simp only [List.length_set]); exact jlt (by assumption)) | refine jget_ne (by first | decide | assumption | omega) ?_)), (by repeat (first | assumption | exact jget_same2 (by (try simp only [List.length_set]); exact jlt (by assumption)) | refine jget_ne (by first | decide | assumption | omega) ?_)), (by repeat (first | assumption | exact jget_same2 (by (try simp only [List.length_set]); exact jlt (by assumption)) | refine jget_ne (by first | decide | assumption | omega) ?_)), (by repeat (first | assumption | exact jget_same2 (by (try simp only [List.length_set]); exact jlt (by assumption)) | refine jget_ne (by first | decide | assumption | omega) ?_)), (by repeat (first | assumption | exact jget_same2 (by (try simp only [List.length_set]); exact jlt (by assumption)) | refine jget_ne (by first | decide | assumption | omega) ?_)), (by repeat (first | assumption | exact jget_same2 (by (try simp only [List.length_set]); exact jlt (by assumption)) | refine jget_ne (by first | decide | assumption | omega) ?_)), (by repeat (first | assumption | exact jget_same2 (by (try simp only [List.length_set]); exact jlt (by assumption)) | refine jget_ne (by first | decide | assumption | omega) ?_))⟩) (by decide) (by decide) (fun _ => rfl)
    · exact absurd c20 (by decide)
  · refine J_iconst (nI 1) (by decide) dX11_alarmRate_11 ?_
    refine J_goto 16 dX11_alarmRate_12 (by decide) ?_
    refine J_iconst (nI 1) (by decide) dX11_alarmRate_16 ?_
    refine J_V2v (ci := 11) dX11_alarmRate_17 s_X11_63 m_X11_isThrown rfl (by repeat (first | assumption | exact jget_same2 (by (try simp only [List.length_set]); exact jlt (by assumption)) | refine jget_ne (by first | decide | assumption | omega) ?_)) rfl (c_X11_isThrown true (by repeat (first | assumption | exact jget_same2 (by (try simp only [List.length_set]); exact jlt (by assumption)) | refine jget_ne (by first | decide | assumption | omega) ?_)) (jKv_i ?_))
    refine J_if_eq_b 27 dX11_alarmRate_20 (by decide) (fun c20 => ?_) (fun c20 => ?_)
    · exact absurd c20 (by decide)
    · refine J_fconst0 dX11_alarmRate_23 ?_
      refine J_goto 44 dX11_alarmRate_24 (by decide) ?_
      exact J_freturn dX11_alarmRate_44 rfl (hQ2 (by omega) _ (jFr.refl.set 116 _ (by decide)) ⟨an, he, cm, W, F, C, (by repeat (first | assumption | exact jget_same2 (by (try simp only [List.length_set]); exact jlt (by assumption)) | refine jget_ne (by first | decide | assumption | omega) ?_)), (by repeat (first | assumption | exact jget_same2 (by (try simp only [List.length_set]); exact jlt (by assumption)) | refine jget_ne (by first | decide | assumption | omega) ?_)), (by repeat (first | assumption | exact jget_same2 (by (try simp only [List.length_set]); exact jlt (by assumption)) | refine jget_ne (by first | decide | assumption | omega) ?_)), (by repeat (first | assumption | exact jget_same2 (by (try simp only [List.length_set]); exact jlt (by assumption)) | refine jget_ne (by first | decide | assumption | omega) ?_)), (by repeat (first | assumption | exact jget_same2 (by (try simp only [List.length_set]); exact jlt (by assumption)) | refine jget_ne (by first | decide | assumption | omega) ?_)), (by repeat (first | assumption | exact jget_same2 (by (try simp only [List.length_set]); exact jlt (by assumption)) | refine jget_ne (by first | decide | assumption | omega) ?_)), (by repeat (first | assumption | exact jget_same2 (by (try simp only [List.length_set]); exact jlt (by assumption)) | refine jget_ne (by first | decide | assumption | omega) ?_)), (by repeat (first | assumption | exact jget_same2 (by (try simp only [List.length_set]); exact jlt (by assumption)) | refine jget_ne (by first | decide | assumption | omega) ?_)), (by repeat (first | assumption | exact jget_same2 (by (try simp only [List.length_set]); exact jlt (by assumption)) | refine jget_ne (by first | decide | assumption | omega) ?_))⟩) (by decide) (by decide) (fun _ => rfl)
theorem c_X11_meanTrailLength (hI : Inv K s) (hm : MPc h s sS P ch th ea fa sv lf ln tx tp)
    (hQ1 : 0 < mT (wS s) → ∀ h', jFr mC h h' → MPc h' s sS P ch 0 ea fa sv lf ln tx tp → Q (.inl (some (.double (FP.ddiv (FP.i2d (nI (lowS (wS s) 12))) (FP.i2d (nI (mT (wS s)))))))) h')
    (hQ2 : mT (wS s) = 0 → ∀ h', jFr mC h h' → MPc h' s sS P ch 1 ea fa sv lf ln tx tp → Q (.inl (some (.double 0))) h') : jCT G M_X11_meanTrailLength 3 0 0 X [.ref 116] h Q := by
  refine jCT_of [some (.ref 116), none, none, none] 3 rfl (by decide +kernel) rfl rfl ?_
  obtain ⟨an, he, cm, W, F, C, h1, h2, h3, h4, h5, h6, h7, h8, h9⟩ := hm
  have hml := mT_le (wS s)
  have hlm := low_mT (wS s)
  have hll := low_le hI.g.le 12 (Nat.le_refl _)
  refine J_iconst (nI 0) (by decide) dX11_meanTrailLength_0 ?_
  refine J_istore_1 dX11_meanTrailLength_1 ?_
  refine J_iconst (nI 0) (by decide) dX11_meanTrailLength_2 ?_
  refine J_istore_2 dX11_meanTrailLength_3 ?_
  suffices loop : ∀ i, i ≤ 12 → ∀ l3, J G (jR 3 0 0) (jFin G Q X 0 0) M_X11_meanTrailLength X 0 0 4 [some (.ref 116), some (.int (nI (lowS (wS s) i))), some (.int (nI i)), l3] [] h by
    exact loop 0 (by omega) _
  refine up_ind 12 (fun i hi ih l3 => ?_)
  refine J_iload_n (by rfl) dX11_meanTrailLength_4 ?_
  refine J_bipush (nI 12) (by decide) dX11_meanTrailLength_5 ?_
  refine J_icmp_ge_n 38 dX11_meanTrailLength_7 (by decide) (fun c7 => ?_) (fun c7 => ?_)
  · have hi12 : i = 12 := by omega
    subst hi12
    refine J_aload_n (by rfl) (by rfl) dX11_meanTrailLength_38 ?_
    refine J_iload_n (by rfl) dX11_meanTrailLength_39 ?_
    refine J_if_ne_n 47 dX11_meanTrailLength_40 (by decide) (fun c40 => ?_) (fun c40 => ?_)
    · refine J_iconst (nI 0) (by decide) dX11_meanTrailLength_47 ?_
      refine J_iconst (nI 1) (by decide) dX11_meanTrailLength_48 ?_
      refine J_V2v (ci := 11) dX11_meanTrailLength_49 s_X11_63 m_X11_isThrown rfl (by repeat (first | assumption | exact jget_same2 (by (try simp only [List.length_set]); exact jlt (by assumption)) | refine jget_ne (by first | decide | assumption | omega) ?_)) rfl (c_X11_isThrown false (by repeat (first | assumption | exact jget_same2 (by (try simp only [List.length_set]); exact jlt (by assumption)) | refine jget_ne (by first | decide | assumption | omega) ?_)) (jKv_i ?_))
      refine J_if_eq_b 59 dX11_meanTrailLength_52 (by decide) (fun c52 => ?_) (fun c52 => ?_)
      · refine J_iload_n (by rfl) dX11_meanTrailLength_59 ?_
        refine J_i2d dX11_meanTrailLength_60 ?_
        refine J_aload_n (by rfl) (by rfl) dX11_meanTrailLength_61 ?_
        refine J_V0v (ci := 11) dX11_meanTrailLength_62 s_X11_86 m_X11_manyTrails rfl (by repeat (first | assumption | exact jget_same2 (by (try simp only [List.length_set]); exact jlt (by assumption)) | refine jget_ne (by first | decide | assumption | omega) ?_)) rfl (c_X11_manyTrails (w := wS s) hI.lt (fun _ _ => rfl) (by repeat (first | assumption | exact jget_same2 (by (try simp only [List.length_set]); exact jlt (by assumption)) | refine jget_ne (by first | decide | assumption | omega) ?_)) (by repeat (first | assumption | exact jget_same2 (by (try simp only [List.length_set]); exact jlt (by assumption)) | refine jget_ne (by first | decide | assumption | omega) ?_)) (jKv_i ?_))
        refine J_i2d dX11_meanTrailLength_65 ?_
        refine J_ddiv (ddiv_vf (nI_ne0 (by omega) (by omega))) dX11_meanTrailLength_66 ?_
        exact J_dreturn dX11_meanTrailLength_67 rfl (hQ1 (by omega) _ (jFr.refl.set 116 _ (by decide)) ⟨an, he, cm, W, F, C, (by repeat (first | assumption | exact jget_same2 (by (try simp only [List.length_set]); exact jlt (by assumption)) | refine jget_ne (by first | decide | assumption | omega) ?_)), (by repeat (first | assumption | exact jget_same2 (by (try simp only [List.length_set]); exact jlt (by assumption)) | refine jget_ne (by first | decide | assumption | omega) ?_)), (by repeat (first | assumption | exact jget_same2 (by (try simp only [List.length_set]); exact jlt (by assumption)) | refine jget_ne (by first | decide | assumption | omega) ?_)), (by repeat (first | assumption | exact jget_same2 (by (try simp only [List.length_set]); exact jlt (by assumption)) | refine jget_ne (by first | decide | assumption | omega) ?_)), (by repeat (first | assumption | exact jget_same2 (by (try simp only [List.length_set]); exact jlt (by assumption)) | refine jget_ne (by first | decide | assumption | omega) ?_)), (by repeat (first | assumption | exact jget_same2 (by (try simp only [List.length_set]); exact jlt (by assumption)) | refine jget_ne (by first | decide | assumption | omega) ?_)), (by repeat (first | assumption | exact jget_same2 (by (try simp only [List.length_set]); exact jlt (by assumption)) | refine jget_ne (by first | decide | assumption | omega) ?_)), (by repeat (first | assumption | exact jget_same2 (by (try simp only [List.length_set]); exact jlt (by assumption)) | refine jget_ne (by first | decide | assumption | omega) ?_)), (by repeat (first | assumption | exact jget_same2 (by (try simp only [List.length_set]); exact jlt (by assumption)) | refine jget_ne (by first | decide | assumption | omega) ?_))⟩) (by decide) (by decide) (fun _ => rfl)
      · exact absurd c52 (by decide)
    · refine J_iconst (nI 1) (by decide) dX11_meanTrailLength_43 ?_
      refine J_goto 48 dX11_meanTrailLength_44 (by decide) ?_
      refine J_iconst (nI 1) (by decide) dX11_meanTrailLength_48 ?_
      refine J_V2v (ci := 11) dX11_meanTrailLength_49 s_X11_63 m_X11_isThrown rfl (by repeat (first | assumption | exact jget_same2 (by (try simp only [List.length_set]); exact jlt (by assumption)) | refine jget_ne (by first | decide | assumption | omega) ?_)) rfl (c_X11_isThrown true (by repeat (first | assumption | exact jget_same2 (by (try simp only [List.length_set]); exact jlt (by assumption)) | refine jget_ne (by first | decide | assumption | omega) ?_)) (jKv_i ?_))
      refine J_if_eq_b 59 dX11_meanTrailLength_52 (by decide) (fun c52 => ?_) (fun c52 => ?_)
      · exact absurd c52 (by decide)
      · refine J_dconst0 dX11_meanTrailLength_55 ?_
        refine J_goto 67 dX11_meanTrailLength_56 (by decide) ?_
        exact J_dreturn dX11_meanTrailLength_67 rfl (hQ2 (by omega) _ (jFr.refl.set 116 _ (by decide)) ⟨an, he, cm, W, F, C, (by repeat (first | assumption | exact jget_same2 (by (try simp only [List.length_set]); exact jlt (by assumption)) | refine jget_ne (by first | decide | assumption | omega) ?_)), (by repeat (first | assumption | exact jget_same2 (by (try simp only [List.length_set]); exact jlt (by assumption)) | refine jget_ne (by first | decide | assumption | omega) ?_)), (by repeat (first | assumption | exact jget_same2 (by (try simp only [List.length_set]); exact jlt (by assumption)) | refine jget_ne (by first | decide | assumption | omega) ?_)), (by repeat (first | assumption | exact jget_same2 (by (try simp only [List.length_set]); exact jlt (by assumption)) | refine jget_ne (by first | decide | assumption | omega) ?_)), (by repeat (first | assumption | exact jget_same2 (by (try simp only [List.length_set]); exact jlt (by assumption)) | refine jget_ne (by first | decide | assumption | omega) ?_)), (by repeat (first | assumption | exact jget_same2 (by (try simp only [List.length_set]); exact jlt (by assumption)) | refine jget_ne (by first | decide | assumption | omega) ?_)), (by repeat (first | assumption | exact jget_same2 (by (try simp only [List.length_set]); exact jlt (by assumption)) | refine jget_ne (by first | decide | assumption | omega) ?_)), (by repeat (first | assumption | exact jget_same2 (by (try simp only [List.length_set]); exact jlt (by assumption)) | refine jget_ne (by first | decide | assumption | omega) ?_)), (by repeat (first | assumption | exact jget_same2 (by (try simp only [List.length_set]); exact jlt (by assumption)) | refine jget_ne (by first | decide | assumption | omega) ?_))⟩) (by decide) (by decide) (fun _ => rfl)
  · refine J_iconst (nI 0) (by decide) dX11_meanTrailLength_10 ?_
    refine J_istore_3 dX11_meanTrailLength_11 ?_
    suffices inner : ∀ j, j ≤ i → J G (jR 3 0 0) (jFin G Q X 0 0) M_X11_meanTrailLength X 0 0 12 [some (.ref 116), some (.int (nI (lowS (wS s) i + sum0 (fun j => wS s (i * 12 + j)) j))), some (.int (nI i)), some (.int (nI j))] [] h by
      exact inner 0 (by omega)
    refine up_ind i (fun j hj ih2 => ?_)
    refine J_iload_n (by rfl) dX11_meanTrailLength_12 ?_
    refine J_iload_n (by rfl) dX11_meanTrailLength_13 ?_
    refine J_icmp_ge_n 32 dX11_meanTrailLength_14 (by decide) (fun c14 => ?_) (fun c14 => ?_)
    · refine J_iinc_2 (nI 1) dX11_meanTrailLength_32 (by decide) ?_
      try rw [nI_add]
      refine J_goto 4 dX11_meanTrailLength_35 (by decide) ?_
      have he9 : j = i := by omega
      subst he9
      exact ih (by omega) _
    · refine J_iload_n (by rfl) dX11_meanTrailLength_17 ?_
      refine J_aload_n (by rfl) (by rfl) dX11_meanTrailLength_18 ?_
      refine J_iload_n (by rfl) dX11_meanTrailLength_19 ?_
      refine J_iload_n (by rfl) dX11_meanTrailLength_20 ?_
      refine J_V2v (ci := 11) dX11_meanTrailLength_21 s_X11_55 m_X11_trail rfl (by repeat (first | assumption | exact jget_same2 (by (try simp only [List.length_set]); exact jlt (by assumption)) | refine jget_ne (by first | decide | assumption | omega) ?_)) rfl (c_X11_trail (w := wS s) (i := i) (j := j) (by omega) (by omega) (fun _ _ => rfl) (by repeat (first | assumption | exact jget_same2 (by (try simp only [List.length_set]); exact jlt (by assumption)) | refine jget_ne (by first | decide | assumption | omega) ?_)) (by repeat (first | assumption | exact jget_same2 (by (try simp only [List.length_set]); exact jlt (by assumption)) | refine jget_ne (by first | decide | assumption | omega) ?_)) (jKv_i ?_))
      refine J_iadd dX11_meanTrailLength_24 ?_
      try rw [nI_add]
      refine J_istore_1 dX11_meanTrailLength_25 ?_
      refine J_iinc_3 (nI 1) dX11_meanTrailLength_26 (by decide) ?_
      try rw [nI_add]
      refine J_goto 12 dX11_meanTrailLength_29 (by decide) ?_
      have e : lowS (wS s) i + sum0 (fun j => wS s (i * 12 + j)) (j + 1) = lowS (wS s) i + sum0 (fun j => wS s (i * 12 + j)) j + wS s (i * 12 + j) := (Nat.add_assoc _ _ _).symm
      have := ih2 (by omega)
      rw [e] at this
      exact this
end FLO
