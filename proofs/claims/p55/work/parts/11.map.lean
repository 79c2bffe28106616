/-! TrailMap: its methods on the map of the guide's state (places 3..7) -/
/-- the map's cells: x, y, radii, lengths, how many points, how many trails -/
abbrev hMap (n t : Nat) : jC := .inr (9, [.ref 4, .ref 5, .ref 6, .ref 7, .int (nI n), .int (nI t)])
def sumR (f : Nat → Nat) (a : Nat) : Nat → Nat
  | 0 => 0
  | k + 1 => sumR f a k + f (a + k)
def sumT (w : Nat → Nat) (n : Nat) : Nat := sumR (fun i => sumR (fun j => w (i * 12 + j)) (i + 1) (n - (i + 1))) 0 n
def sq2 (a b : Nat) : Nat := ((a : Int) - b).natAbs * ((a : Int) - b).natAbs
def sqd (fx fy : Nat → Nat) (x y i : Nat) : Nat := sq2 x (fx i) + sq2 y (fy i)
theorem sq2_le {a b : Nat} (ha : a ≤ 99) (hb : b ≤ 99) : sq2 a b ≤ 9801 := by
  have h1 : ((a : Int) - b).natAbs ≤ 99 := by omega
  exact Nat.mul_le_mul h1 h1
theorem sq2_nI (a b : Nat) : (nI a - nI b) * (nI a - nI b) = nI (sq2 a b) := by rw [nI_sub, iI_sq]; rfl
/-- the first of the smallest of 0 .. k -/
def amin (f : Nat → Nat) : Nat → Nat
  | 0 => 0
  | k + 1 => if f (k + 1) < f (amin f k) then k + 1 else amin f k
theorem amin_le (f : Nat → Nat) : ∀ k, amin f k ≤ k
  | 0 => Nat.le_refl _
  | k + 1 => by
    have := amin_le f k
    unfold amin
    split <;> omega
section MAP
variable {G : jG} {X : Bool} {h : jH} {Q : jQ_} {n t : Nat} {fx fy fr w : Nat → Nat}
theorem c_X9_isFull (hM : h[3]? = some (hMap n t)) (hn : n ≤ 12) (hQ : Q (.inl (some (.int (jb (decide (12 ≤ n)))))) h) : jCT G M_X9_isFull 1 0 0 X [.ref 3] h Q := by
  refine jCT_of [some (.ref 3)] 0 rfl (by decide +kernel) rfl rfl ?_
  refine J_aload_n (by rfl) (by rfl) dX9_isFull_0 ?_
  refine J_get dX9_isFull_1 f_X9_30 (by repeat (first | assumption | exact jget_same2 (by (try simp only [List.length_set]); exact jlt (by assumption)) | refine jget_ne (by first | decide | assumption | omega) ?_)) (by rfl) ?_
  refine J_bipush (nI 12) (by decide) dX9_isFull_4 ?_
  refine J_icmp_lt_n 13 dX9_isFull_6 (by decide) (fun c6 => ?_) (fun c6 => ?_)
  · refine J_iconst (nI 0) (by decide) dX9_isFull_13 ?_
    exact J_zreturn dX9_isFull_14 rfl (by first | rfl | exact jb_n _) (by rw [show decide (12 ≤ n) = false by simp; omega] at hQ; exact hQ) (by decide) (by decide) (fun _ => rfl)
  · refine J_iconst (nI 1) (by decide) dX9_isFull_9 ?_
    refine J_goto 14 dX9_isFull_10 (by decide) ?_
    exact J_zreturn dX9_isFull_14 rfl (by first | rfl | exact jb_n _) (by rw [show decide (12 ≤ n) = true by simp; omega] at hQ; exact hQ) (by decide) (by decide) (fun _ => rfl)
theorem c_X9_exists (x : Int32) (hM : h[3]? = some (hMap n t)) (hQ : Q (.inl (some (.int (jb (isIx x n))))) h) : jCT G M_X9_exists 1 0 0 X [.ref 3, .int x] h Q := by
  refine jCT_of [some (.ref 3), some (.int x)] 0 rfl (by decide +kernel) rfl rfl ?_
  refine J_iload_n (by rfl) dX9_exists_0 ?_
  refine J_if_lt 16 dX9_exists_1 (by decide) (fun c1 => ?_) (fun c1 => ?_)
  · refine J_iconst (nI 0) (by decide) dX9_exists_16 ?_
    exact J_zreturn dX9_exists_17 rfl (by first | rfl | exact jb_n _) (by rw [show isIx x n = false by simp [isIx, c1]] at hQ; exact hQ) (by decide) (by decide) (fun _ => rfl)
  · refine J_iload_n (by rfl) dX9_exists_4 ?_
    refine J_aload_n (by rfl) (by rfl) dX9_exists_5 ?_
    refine J_get dX9_exists_6 f_X9_30 (by repeat (first | assumption | exact jget_same2 (by (try simp only [List.length_set]); exact jlt (by assumption)) | refine jget_ne (by first | decide | assumption | omega) ?_)) (by rfl) ?_
    refine J_icmp_ge 16 dX9_exists_9 (by decide) (fun c9 => ?_) (fun c9 => ?_)
    · refine J_iconst (nI 0) (by decide) dX9_exists_16 ?_
      exact J_zreturn dX9_exists_17 rfl (by first | rfl | exact jb_n _) (by rw [show isIx x n = false by simp only [isIx, decide_eq_false_iff_not]; intro z; exact absurd z.2 (Int32.not_lt.mpr c9)] at hQ; exact hQ) (by decide) (by decide) (fun _ => rfl)
    · refine J_iconst (nI 1) (by decide) dX9_exists_12 ?_
      refine J_goto 17 dX9_exists_13 (by decide) ?_
      exact J_zreturn dX9_exists_17 rfl (by first | rfl | exact jb_n _) (by rw [show isIx x n = true by simp only [isIx, decide_eq_true_eq]; exact ⟨c1, Int32.not_le.mp c9⟩] at hQ; exact hQ) (by decide) (by decide) (fun _ => rfl)
theorem c_X9_xOf {i : Nat} (hi : i < 12) (hM : h[3]? = some (hMap n t)) (hA : h[4]? = some (ia 12 fx)) (hQ : Q (.inl (some (.int (nI (fx i))))) h) : jCT G M_X9_xOf 1 0 0 X [.ref 3, .int (nI i)] h Q := by
  refine jCT_of [some (.ref 3), some (.int (nI i))] 0 rfl (by decide +kernel) rfl rfl ?_
  refine J_iload_n (by rfl) dX9_xOf_0 ?_
  refine J_if_lt_n 19 dX9_xOf_1 (by decide) ?_
  refine J_iload_n (by rfl) dX9_xOf_4 ?_
  refine J_bipush (nI 12) (by decide) dX9_xOf_5 ?_
  refine J_icmp_ge_n 19 dX9_xOf_7 (by decide) (fun c7 => ?_) (fun c7 => ?_)
  · omega
  · refine J_aload_n (by rfl) (by rfl) dX9_xOf_10 ?_
    refine J_get dX9_xOf_11 f_X9_9 (by repeat (first | assumption | exact jget_same2 (by (try simp only [List.length_set]); exact jlt (by assumption)) | refine jget_ne (by first | decide | assumption | omega) ?_)) (by rfl) ?_
    refine J_iload_n (by rfl) dX9_xOf_14 ?_
    refine J_iald_n (i) dX9_xOf_15 (by repeat (first | assumption | exact jget_same2 (by (try simp only [List.length_set]); exact jlt (by assumption)) | refine jget_ne (by first | decide | assumption | omega) ?_)) (by first | rfl | (simp only [pk_mul, nI_add]; done) | (simp only [pk_mul, nI_add]; congr 1; omega) | (congr 1; omega)) (by omega) ?_
    refine J_goto 20 dX9_xOf_16 (by decide) ?_
    exact J_ireturn dX9_xOf_20 rfl (hQ) (by decide) (by decide) (fun _ => rfl)
theorem c_X9_yOf {i : Nat} (hi : i < 12) (hM : h[3]? = some (hMap n t)) (hA : h[5]? = some (ia 12 fy)) (hQ : Q (.inl (some (.int (nI (fy i))))) h) : jCT G M_X9_yOf 1 0 0 X [.ref 3, .int (nI i)] h Q := by
  refine jCT_of [some (.ref 3), some (.int (nI i))] 0 rfl (by decide +kernel) rfl rfl ?_
  refine J_iload_n (by rfl) dX9_yOf_0 ?_
  refine J_if_lt_n 19 dX9_yOf_1 (by decide) ?_
  refine J_iload_n (by rfl) dX9_yOf_4 ?_
  refine J_bipush (nI 12) (by decide) dX9_yOf_5 ?_
  refine J_icmp_ge_n 19 dX9_yOf_7 (by decide) (fun c7 => ?_) (fun c7 => ?_)
  · omega
  · refine J_aload_n (by rfl) (by rfl) dX9_yOf_10 ?_
    refine J_get dX9_yOf_11 f_X9_15 (by repeat (first | assumption | exact jget_same2 (by (try simp only [List.length_set]); exact jlt (by assumption)) | refine jget_ne (by first | decide | assumption | omega) ?_)) (by rfl) ?_
    refine J_iload_n (by rfl) dX9_yOf_14 ?_
    refine J_iald_n (i) dX9_yOf_15 (by repeat (first | assumption | exact jget_same2 (by (try simp only [List.length_set]); exact jlt (by assumption)) | refine jget_ne (by first | decide | assumption | omega) ?_)) (by first | rfl | (simp only [pk_mul, nI_add]; done) | (simp only [pk_mul, nI_add]; congr 1; omega) | (congr 1; omega)) (by omega) ?_
    refine J_goto 20 dX9_yOf_16 (by decide) ?_
    exact J_ireturn dX9_yOf_20 rfl (hQ) (by decide) (by decide) (fun _ => rfl)
theorem c_X9_radiusOf {i : Nat} (hi : i < 12) (hM : h[3]? = some (hMap n t)) (hA : h[6]? = some (ia 12 fr)) (hQ : Q (.inl (some (.int (nI (fr i))))) h) : jCT G M_X9_radiusOf 1 0 0 X [.ref 3, .int (nI i)] h Q := by
  refine jCT_of [some (.ref 3), some (.int (nI i))] 0 rfl (by decide +kernel) rfl rfl ?_
  refine J_iload_n (by rfl) dX9_radiusOf_0 ?_
  refine J_if_lt_n 19 dX9_radiusOf_1 (by decide) ?_
  refine J_iload_n (by rfl) dX9_radiusOf_4 ?_
  refine J_bipush (nI 12) (by decide) dX9_radiusOf_5 ?_
  refine J_icmp_ge_n 19 dX9_radiusOf_7 (by decide) (fun c7 => ?_) (fun c7 => ?_)
  · omega
  · refine J_aload_n (by rfl) (by rfl) dX9_radiusOf_10 ?_
    refine J_get dX9_radiusOf_11 f_X9_18 (by repeat (first | assumption | exact jget_same2 (by (try simp only [List.length_set]); exact jlt (by assumption)) | refine jget_ne (by first | decide | assumption | omega) ?_)) (by rfl) ?_
    refine J_iload_n (by rfl) dX9_radiusOf_14 ?_
    refine J_iald_n (i) dX9_radiusOf_15 (by repeat (first | assumption | exact jget_same2 (by (try simp only [List.length_set]); exact jlt (by assumption)) | refine jget_ne (by first | decide | assumption | omega) ?_)) (by first | rfl | (simp only [pk_mul, nI_add]; done) | (simp only [pk_mul, nI_add]; congr 1; omega) | (congr 1; omega)) (by omega) ?_
    refine J_goto 20 dX9_radiusOf_16 (by decide) ?_
    exact J_ireturn dX9_radiusOf_20 rfl (hQ) (by decide) (by decide) (fun _ => rfl)
theorem c_X9_lengthBetween {i j : Nat} (hi : i < 12) (hj : j < 12) (hM : h[3]? = some (hMap n t)) (hA : h[7]? = some (ia 144 w)) (hQ : Q (.inl (some (.int (nI (w (i * 12 + j)))))) h) : jCT G M_X9_lengthBetween 1 0 0 X [.ref 3, .int (nI i), .int (nI j)] h Q := by
  refine jCT_of [some (.ref 3), some (.int (nI i)), some (.int (nI j))] 0 rfl (by decide +kernel) rfl rfl ?_
  refine J_iload_n (by rfl) dX9_lengthBetween_0 ?_
  refine J_if_lt_n 20 dX9_lengthBetween_1 (by decide) ?_
  refine J_iload_n (by rfl) dX9_lengthBetween_4 ?_
  refine J_bipush (nI 12) (by decide) dX9_lengthBetween_5 ?_
  refine J_icmp_ge_n 20 dX9_lengthBetween_7 (by decide) (fun c7 => ?_) (fun c7 => ?_)
  · omega
  · refine J_iload_n (by rfl) dX9_lengthBetween_10 ?_
    refine J_if_lt_n 20 dX9_lengthBetween_11 (by decide) ?_
    refine J_iload_n (by rfl) dX9_lengthBetween_14 ?_
    refine J_bipush (nI 12) (by decide) dX9_lengthBetween_15 ?_
    refine J_icmp_lt_n 22 dX9_lengthBetween_17 (by decide) (fun c17 => ?_) (fun c17 => ?_)
    · refine J_aload_n (by rfl) (by rfl) dX9_lengthBetween_22 ?_
      refine J_get dX9_lengthBetween_23 f_X9_21 (by repeat (first | assumption | exact jget_same2 (by (try simp only [List.length_set]); exact jlt (by assumption)) | refine jget_ne (by first | decide | assumption | omega) ?_)) (by rfl) ?_
      refine J_iload_n (by rfl) dX9_lengthBetween_26 ?_
      refine J_bipush (nI 12) (by decide) dX9_lengthBetween_27 ?_
      refine J_imul dX9_lengthBetween_29 ?_
      try rw [pk_mul]
      refine J_iload_n (by rfl) dX9_lengthBetween_30 ?_
      refine J_iadd dX9_lengthBetween_31 ?_
      try rw [nI_add]
      refine J_iald_n (i * 12 + j) dX9_lengthBetween_32 (by repeat (first | assumption | exact jget_same2 (by (try simp only [List.length_set]); exact jlt (by assumption)) | refine jget_ne (by first | decide | assumption | omega) ?_)) (by first | rfl | (simp only [pk_mul, nI_add]; done) | (simp only [pk_mul, nI_add]; congr 1; omega) | (congr 1; omega)) (by omega) ?_
      exact J_ireturn dX9_lengthBetween_33 rfl (hQ) (by decide) (by decide) (fun _ => rfl)
    · omega
theorem c_X9_areJoined {i j : Nat} (hi : i < 12) (hj : j < 12) (hM : h[3]? = some (hMap n t)) (hA : h[7]? = some (ia 144 w)) (hw : w (i * 12 + j) < 2 ^ 31) (hQ : Q (.inl (some (.int (jb (decide (0 < w (i * 12 + j))))))) h) : jCT G M_X9_areJoined 2 0 0 X [.ref 3, .int (nI i), .int (nI j)] h Q := by
  refine jCT_of [some (.ref 3), some (.int (nI i)), some (.int (nI j))] 0 rfl (by decide +kernel) rfl rfl ?_
  refine J_aload_n (by rfl) (by rfl) dX9_areJoined_0 ?_
  refine J_iload_n (by rfl) dX9_areJoined_1 ?_
  refine J_iload_n (by rfl) dX9_areJoined_2 ?_
  refine J_V2v (ci := 9) dX9_areJoined_3 s_X9_37 m_X9_lengthBetween rfl (by repeat (first | assumption | exact jget_same2 (by (try simp only [List.length_set]); exact jlt (by assumption)) | refine jget_ne (by first | decide | assumption | omega) ?_)) rfl (c_X9_lengthBetween hi hj hM hA (jKv_i ?_))
  refine J_if_le_n 13 dX9_areJoined_6 (by decide) (fun c6 => ?_) (fun c6 => ?_)
  · refine J_iconst (nI 0) (by decide) dX9_areJoined_13 ?_
    exact J_zreturn dX9_areJoined_14 rfl (by first | rfl | exact jb_n _) (by rw [show decide (0 < w (i * 12 + j)) = false by simp; omega] at hQ; exact hQ) (by decide) (by decide) (fun _ => rfl)
  · refine J_iconst (nI 1) (by decide) dX9_areJoined_9 ?_
    refine J_goto 14 dX9_areJoined_10 (by decide) ?_
    exact J_zreturn dX9_areJoined_14 rfl (by first | rfl | exact jb_n _) (by rw [show decide (0 < w (i * 12 + j)) = true by simp; omega] at hQ; exact hQ) (by decide) (by decide) (fun _ => rfl)
theorem c_X9_append {x y r : Nat} (hn : n < 12) (hM : h[3]? = some (hMap n t)) (hA : h[4]? = some (ia 12 fx)) (hB : h[5]? = some (ia 12 fy)) (hC : h[6]? = some (ia 12 fr))
    (hQ : Q (.inl (some (.int (nI n)))) ((((h.set 4 (ia 12 (updN fx n x))).set 5 (ia 12 (updN fy n y))).set 6 (ia 12 (updN fr n r))).set 3 (hMap (n + 1) t))) : jCT G M_X9_append 1 0 0 X [.ref 3, .int (nI x), .int (nI y), .int (nI r)] h Q := by
  refine jCT_of [some (.ref 3), some (.int (nI x)), some (.int (nI y)), some (.int (nI r)), none] 1 rfl (by decide +kernel) rfl rfl ?_
  refine J_aload_n (by rfl) (by rfl) dX9_append_0 ?_
  refine J_get dX9_append_1 f_X9_30 (by repeat (first | assumption | exact jget_same2 (by (try simp only [List.length_set]); exact jlt (by assumption)) | refine jget_ne (by first | decide | assumption | omega) ?_)) (by rfl) ?_
  refine J_istore_4 dX9_append_4 ?_
  refine J_iload (by rfl) dX9_append_6 ?_
  refine J_if_lt_n 18 dX9_append_8 (by decide) ?_
  refine J_iload (by rfl) dX9_append_11 ?_
  refine J_bipush (nI 12) (by decide) dX9_append_13 ?_
  refine J_icmp_lt_n 20 dX9_append_15 (by decide) (fun c15 => ?_) (fun c15 => ?_)
  · refine J_aload_n (by rfl) (by rfl) dX9_append_20 ?_
    refine J_get dX9_append_21 f_X9_9 (by repeat (first | assumption | exact jget_same2 (by (try simp only [List.length_set]); exact jlt (by assumption)) | refine jget_ne (by first | decide | assumption | omega) ?_)) (by rfl) ?_
    refine J_iload (by rfl) dX9_append_24 ?_
    refine J_iload_n (by rfl) dX9_append_26 ?_
    refine J_iast_n (n) dX9_append_27 (by repeat (first | assumption | exact jget_same2 (by (try simp only [List.length_set]); exact jlt (by assumption)) | refine jget_ne (by first | decide | assumption | omega) ?_)) (by first | rfl | (simp only [pk_mul, nI_add]; done) | (simp only [pk_mul, nI_add]; congr 1; omega) | (congr 1; omega)) (by omega) ?_
    refine J_aload_n (by rfl) (by rfl) dX9_append_28 ?_
    refine J_get dX9_append_29 f_X9_15 (by repeat (first | assumption | exact jget_same2 (by (try simp only [List.length_set]); exact jlt (by assumption)) | refine jget_ne (by first | decide | assumption | omega) ?_)) (by rfl) ?_
    refine J_iload (by rfl) dX9_append_32 ?_
    refine J_iload_n (by rfl) dX9_append_34 ?_
    refine J_iast_n (n) dX9_append_35 (by repeat (first | assumption | exact jget_same2 (by (try simp only [List.length_set]); exact jlt (by assumption)) | refine jget_ne (by first | decide | assumption | omega) ?_)) (by first | rfl | (simp only [pk_mul, nI_add]; done) | (simp only [pk_mul, nI_add]; congr 1; omega) | (congr 1; omega)) (by omega) ?_
    refine J_aload_n (by rfl) (by rfl) dX9_append_36 ?_
    refine J_get dX9_append_37 f_X9_18 (by repeat (first | assumption | exact jget_same2 (by (try simp only [List.length_set]); exact jlt (by assumption)) | refine jget_ne (by first | decide | assumption | omega) ?_)) (by rfl) ?_
    refine J_iload (by rfl) dX9_append_40 ?_
    refine J_iload_n (by rfl) dX9_append_42 ?_
    refine J_iast_n (n) dX9_append_43 (by repeat (first | assumption | exact jget_same2 (by (try simp only [List.length_set]); exact jlt (by assumption)) | refine jget_ne (by first | decide | assumption | omega) ?_)) (by first | rfl | (simp only [pk_mul, nI_add]; done) | (simp only [pk_mul, nI_add]; congr 1; omega) | (congr 1; omega)) (by omega) ?_
    refine J_aload_n (by rfl) (by rfl) dX9_append_44 ?_
    refine J_dup (by rfl) dX9_append_45 ?_
    refine J_get dX9_append_46 f_X9_30 (by repeat (first | assumption | exact jget_same2 (by (try simp only [List.length_set]); exact jlt (by assumption)) | refine jget_ne (by first | decide | assumption | omega) ?_)) (by rfl) ?_
    refine J_iconst (nI 1) (by decide) dX9_append_49 ?_
    refine J_iadd dX9_append_50 ?_
    try rw [nI_add]
    refine J_put_4 dX9_append_51 p_X9_30 (by repeat (first | assumption | exact jget_same2 (by (try simp only [List.length_set]); exact jlt (by assumption)) | refine jget_ne (by first | decide | assumption | omega) ?_)) ?_
    refine J_iload (by rfl) dX9_append_54 ?_
    exact J_ireturn dX9_append_56 rfl (hQ) (by decide) (by decide) (fun _ => rfl)
  · omega
theorem c_X9_setLength {i j v : Nat} (hi : i < 12) (hj : j < 12) (hM : h[3]? = some (hMap n t)) (hA : h[7]? = some (ia 144 w))
    (hQ : Q (.inl none) ((h.set 7 (ia 144 (updN w (i * 12 + j) v))).set 7 (ia 144 (updN (updN w (i * 12 + j) v) (j * 12 + i) v)))) : jCT G M_X9_setLength 1 0 0 X [.ref 3, .int (nI i), .int (nI j), .int (nI v)] h Q := by
  refine jCT_of [some (.ref 3), some (.int (nI i)), some (.int (nI j)), some (.int (nI v))] 0 rfl (by decide +kernel) rfl rfl ?_
  refine J_iload_n (by rfl) dX9_setLength_0 ?_
  refine J_if_lt_n 44 dX9_setLength_1 (by decide) ?_
  refine J_iload_n (by rfl) dX9_setLength_4 ?_
  refine J_bipush (nI 12) (by decide) dX9_setLength_5 ?_
  refine J_icmp_ge_n 44 dX9_setLength_7 (by decide) (fun c7 => ?_) (fun c7 => ?_)
  · omega
  · refine J_iload_n (by rfl) dX9_setLength_10 ?_
    refine J_if_lt_n 44 dX9_setLength_11 (by decide) ?_
    refine J_iload_n (by rfl) dX9_setLength_14 ?_
    refine J_bipush (nI 12) (by decide) dX9_setLength_15 ?_
    refine J_icmp_ge_n 44 dX9_setLength_17 (by decide) (fun c17 => ?_) (fun c17 => ?_)
    · omega
    · refine J_aload_n (by rfl) (by rfl) dX9_setLength_20 ?_
      refine J_get dX9_setLength_21 f_X9_21 (by repeat (first | assumption | exact jget_same2 (by (try simp only [List.length_set]); exact jlt (by assumption)) | refine jget_ne (by first | decide | assumption | omega) ?_)) (by rfl) ?_
      refine J_iload_n (by rfl) dX9_setLength_24 ?_
      refine J_bipush (nI 12) (by decide) dX9_setLength_25 ?_
      refine J_imul dX9_setLength_27 ?_
      try rw [pk_mul]
      refine J_iload_n (by rfl) dX9_setLength_28 ?_
      refine J_iadd dX9_setLength_29 ?_
      try rw [nI_add]
      refine J_iload_n (by rfl) dX9_setLength_30 ?_
      refine J_iast_n (i * 12 + j) dX9_setLength_31 (by repeat (first | assumption | exact jget_same2 (by (try simp only [List.length_set]); exact jlt (by assumption)) | refine jget_ne (by first | decide | assumption | omega) ?_)) (by first | rfl | (simp only [pk_mul, nI_add]; done) | (simp only [pk_mul, nI_add]; congr 1; omega) | (congr 1; omega)) (by omega) ?_
      refine J_aload_n (by rfl) (by rfl) dX9_setLength_32 ?_
      refine J_get dX9_setLength_33 f_X9_21 (by repeat (first | assumption | exact jget_same2 (by (try simp only [List.length_set]); exact jlt (by assumption)) | refine jget_ne (by first | decide | assumption | omega) ?_)) (by rfl) ?_
      refine J_iload_n (by rfl) dX9_setLength_36 ?_
      refine J_bipush (nI 12) (by decide) dX9_setLength_37 ?_
      refine J_imul dX9_setLength_39 ?_
      try rw [pk_mul]
      refine J_iload_n (by rfl) dX9_setLength_40 ?_
      refine J_iadd dX9_setLength_41 ?_
      try rw [nI_add]
      refine J_iload_n (by rfl) dX9_setLength_42 ?_
      refine J_iast_n (j * 12 + i) dX9_setLength_43 (by repeat (first | assumption | exact jget_same2 (by (try simp only [List.length_set]); exact jlt (by assumption)) | refine jget_ne (by first | decide | assumption | omega) ?_)) (by first | rfl | (simp only [pk_mul, nI_add]; done) | (simp only [pk_mul, nI_add]; congr 1; omega) | (congr 1; omega)) (by omega) ?_
      exact J_return dX9_setLength_44 rfl (hQ) (by decide) (by decide) (fun _ => rfl)
theorem c_X9_join {i j v : Nat} (hi : i < 12) (hj : j < 12) (hM : h[3]? = some (hMap n t)) (hA : h[7]? = some (ia 144 w))
    (hQ : Q (.inl (some (.int (nI (t + 1))))) (((h.set 7 (ia 144 (updN w (i * 12 + j) v))).set 7 (ia 144 (updN (updN w (i * 12 + j) v) (j * 12 + i) v))).set 3 (hMap n (t + 1)))) : jCT G M_X9_join 2 0 0 X [.ref 3, .int (nI i), .int (nI j), .int (nI v)] h Q := by
  refine jCT_of [some (.ref 3), some (.int (nI i)), some (.int (nI j)), some (.int (nI v))] 0 rfl (by decide +kernel) rfl rfl ?_
  refine J_aload_n (by rfl) (by rfl) dX9_join_0 ?_
  refine J_iload_n (by rfl) dX9_join_1 ?_
  refine J_iload_n (by rfl) dX9_join_2 ?_
  refine J_iload_n (by rfl) dX9_join_3 ?_
  refine J_V30 (ci := 9) dX9_join_4 s_X9_41 m_X9_setLength rfl (by repeat (first | assumption | exact jget_same2 (by (try simp only [List.length_set]); exact jlt (by assumption)) | refine jget_ne (by first | decide | assumption | omega) ?_)) rfl (c_X9_setLength hi hj hM hA (jK0_i ?_))
  refine J_aload_n (by rfl) (by rfl) dX9_join_7 ?_
  refine J_dup (by rfl) dX9_join_8 ?_
  refine J_get dX9_join_9 f_X9_34 (by repeat (first | assumption | exact jget_same2 (by (try simp only [List.length_set]); exact jlt (by assumption)) | refine jget_ne (by first | decide | assumption | omega) ?_)) (by rfl) ?_
  refine J_iconst (nI 1) (by decide) dX9_join_12 ?_
  refine J_iadd dX9_join_13 ?_
  try rw [nI_add]
  refine J_put_5 dX9_join_14 p_X9_34 (by repeat (first | assumption | exact jget_same2 (by (try simp only [List.length_set]); exact jlt (by assumption)) | refine jget_ne (by first | decide | assumption | omega) ?_)) ?_
  refine J_aload_n (by rfl) (by rfl) dX9_join_17 ?_
  refine J_get dX9_join_18 f_X9_34 (by repeat (first | assumption | exact jget_same2 (by (try simp only [List.length_set]); exact jlt (by assumption)) | refine jget_ne (by first | decide | assumption | omega) ?_)) (by rfl) ?_
  exact J_ireturn dX9_join_21 rfl (hQ) (by decide) (by decide) (fun _ => rfl)
theorem c_X9_cut {i j : Nat} (hi : i < 12) (hj : j < 12) (ht : 1 ≤ t) (hM : h[3]? = some (hMap n t)) (hA : h[7]? = some (ia 144 w))
    (hQ : Q (.inl (some (.int (nI (w (i * 12 + j)))))) (((h.set 7 (ia 144 (updN w (i * 12 + j) 0))).set 7 (ia 144 (updN (updN w (i * 12 + j) 0) (j * 12 + i) 0))).set 3 (hMap n (t - 1)))) : jCT G M_X9_cut 2 0 0 X [.ref 3, .int (nI i), .int (nI j)] h Q := by
  refine jCT_of [some (.ref 3), some (.int (nI i)), some (.int (nI j)), none] 1 rfl (by decide +kernel) rfl rfl ?_
  refine J_aload_n (by rfl) (by rfl) dX9_cut_0 ?_
  refine J_iload_n (by rfl) dX9_cut_1 ?_
  refine J_iload_n (by rfl) dX9_cut_2 ?_
  refine J_V2v (ci := 9) dX9_cut_3 s_X9_37 m_X9_lengthBetween rfl (by repeat (first | assumption | exact jget_same2 (by (try simp only [List.length_set]); exact jlt (by assumption)) | refine jget_ne (by first | decide | assumption | omega) ?_)) rfl (c_X9_lengthBetween hi hj hM hA (jKv_i ?_))
  refine J_istore_3 dX9_cut_6 ?_
  refine J_aload_n (by rfl) (by rfl) dX9_cut_7 ?_
  refine J_iload_n (by rfl) dX9_cut_8 ?_
  refine J_iload_n (by rfl) dX9_cut_9 ?_
  refine J_iconst (nI 0) (by decide) dX9_cut_10 ?_
  refine J_V30 (ci := 9) dX9_cut_11 s_X9_41 m_X9_setLength rfl (by repeat (first | assumption | exact jget_same2 (by (try simp only [List.length_set]); exact jlt (by assumption)) | refine jget_ne (by first | decide | assumption | omega) ?_)) rfl (c_X9_setLength (v := 0) hi hj hM hA (jK0_i ?_))
  refine J_aload_n (by rfl) (by rfl) dX9_cut_14 ?_
  refine J_dup (by rfl) dX9_cut_15 ?_
  refine J_get dX9_cut_16 f_X9_34 (by repeat (first | assumption | exact jget_same2 (by (try simp only [List.length_set]); exact jlt (by assumption)) | refine jget_ne (by first | decide | assumption | omega) ?_)) (by rfl) ?_
  refine J_iconst (nI 1) (by decide) dX9_cut_19 ?_
  refine J_isub_n (ht) dX9_cut_20 ?_
  refine J_put_5 dX9_cut_21 p_X9_34 (by repeat (first | assumption | exact jget_same2 (by (try simp only [List.length_set]); exact jlt (by assumption)) | refine jget_ne (by first | decide | assumption | omega) ?_)) ?_
  refine J_iload_n (by rfl) dX9_cut_24 ?_
  exact J_ireturn dX9_cut_25 rfl (hQ) (by decide) (by decide) (fun _ => rfl)
theorem c_X9_squareTo {i x y : Nat} (hi : i < 12) (hM : h[3]? = some (hMap n t)) (hA : h[4]? = some (ia 12 fx)) (hB : h[5]? = some (ia 12 fy)) (hQ : Q (.inl (some (.int (nI (sqd fx fy x y i))))) h) : jCT G M_X9_squareTo 2 0 0 X [.ref 3, .int (nI i), .int (nI x), .int (nI y)] h Q := by
  refine jCT_of [some (.ref 3), some (.int (nI i)), some (.int (nI x)), some (.int (nI y)), none, none] 2 rfl (by decide +kernel) rfl rfl ?_
  refine J_iload_n (by rfl) dX9_squareTo_0 ?_
  refine J_aload_n (by rfl) (by rfl) dX9_squareTo_1 ?_
  refine J_iload_n (by rfl) dX9_squareTo_2 ?_
  refine J_V1v (ci := 9) dX9_squareTo_3 s_X9_45 m_X9_xOf rfl (by repeat (first | assumption | exact jget_same2 (by (try simp only [List.length_set]); exact jlt (by assumption)) | refine jget_ne (by first | decide | assumption | omega) ?_)) rfl (c_X9_xOf hi hM hA (jKv_i ?_))
  refine J_isub dX9_squareTo_6 ?_
  refine J_istore_4 dX9_squareTo_7 ?_
  refine J_iload_n (by rfl) dX9_squareTo_9 ?_
  refine J_aload_n (by rfl) (by rfl) dX9_squareTo_10 ?_
  refine J_iload_n (by rfl) dX9_squareTo_11 ?_
  refine J_V1v (ci := 9) dX9_squareTo_12 s_X9_49 m_X9_yOf rfl (by repeat (first | assumption | exact jget_same2 (by (try simp only [List.length_set]); exact jlt (by assumption)) | refine jget_ne (by first | decide | assumption | omega) ?_)) rfl (c_X9_yOf hi hM hB (jKv_i ?_))
  refine J_isub dX9_squareTo_15 ?_
  refine J_istore_5 dX9_squareTo_16 ?_
  refine J_iload (by rfl) dX9_squareTo_18 ?_
  refine J_iload (by rfl) dX9_squareTo_20 ?_
  refine J_imul dX9_squareTo_22 ?_
  try rw [pk_mul]
  refine J_iload (by rfl) dX9_squareTo_23 ?_
  refine J_iload (by rfl) dX9_squareTo_25 ?_
  refine J_imul dX9_squareTo_27 ?_
  try rw [pk_mul]
  refine J_iadd dX9_squareTo_28 ?_
  try rw [nI_add]
  refine J_topi (nI (sqd fx fy x y i)) (by rw [sq2_nI, sq2_nI, nI_add]; rfl) ?_
  exact J_ireturn dX9_squareTo_29 rfl (hQ) (by decide) (by decide) (fun _ => rfl)
theorem c_X9_closestTo {x y : Nat} (hx : x ≤ 99) (hy : y ≤ 99) (hfx : ∀ i, i < 12 → fx i ≤ 99) (hfy : ∀ i, i < 12 → fy i ≤ 99) (hn : n ≤ 12) (hM : h[3]? = some (hMap n t)) (hA : h[4]? = some (ia 12 fx)) (hB : h[5]? = some (ia 12 fy))
    (hQ : Q (.inl (some (.int (if n = 0 then -1 else nI (amin (sqd fx fy x y) (n - 1)))))) h) : jCT G M_X9_closestTo 3 0 0 X [.ref 3, .int (nI x), .int (nI y)] h Q := by
  refine jCT_of [some (.ref 3), some (.int (nI x)), some (.int (nI y)), none, none] 2 rfl (by decide +kernel) rfl rfl ?_
  have hsq : ∀ i, i < 12 → sqd fx fy x y i < 2 ^ 31 := fun i hi => by
    have h1 := sq2_le hx (hfx i hi)
    have h2 := sq2_le hy (hfy i hi)
    show sq2 x (fx i) + sq2 y (fy i) < _
    omega
  refine J_iconst (-1) (by decide) dX9_closestTo_0 ?_
  refine J_istore_3 dX9_closestTo_1 ?_
  refine J_iconst (nI 0) (by decide) dX9_closestTo_2 ?_
  refine J_istore_4 dX9_closestTo_3 ?_
  suffices loop : ∀ k i, i ≤ n → n - i ≤ k → J G (jR 3 0 0) (jFin G Q X 0 0) M_X9_closestTo X 0 0 5 [some (.ref 3), some (.int (nI x)), some (.int (nI y)), some (.int (if i = 0 then -1 else nI (amin (sqd fx fy x y) (i - 1)))), some (.int (nI i))] [] h by
    exact loop n 0 (Nat.zero_le _) (by omega)
  intro k
  induction k with
  | zero =>
    intro i hi hk
    refine J_iload (by rfl) dX9_closestTo_5 ?_
    refine J_aload_n (by rfl) (by rfl) dX9_closestTo_7 ?_
    refine J_get dX9_closestTo_8 f_X9_30 (by repeat (first | assumption | exact jget_same2 (by (try simp only [List.length_set]); exact jlt (by assumption)) | refine jget_ne (by first | decide | assumption | omega) ?_)) (by rfl) ?_
    refine J_icmp_ge_n 46 dX9_closestTo_11 (by decide) (fun c11 => ?_) (fun c11 => ?_)
    · refine J_iload_n (by rfl) dX9_closestTo_46 ?_
      exact J_ireturn dX9_closestTo_47 rfl (by rw [show i = n by omega]; exact hQ) (by decide) (by decide) (fun _ => rfl)
    · omega
  | succ k ih =>
    intro i hi hk
    refine J_iload (by rfl) dX9_closestTo_5 ?_
    refine J_aload_n (by rfl) (by rfl) dX9_closestTo_7 ?_
    refine J_get dX9_closestTo_8 f_X9_30 (by repeat (first | assumption | exact jget_same2 (by (try simp only [List.length_set]); exact jlt (by assumption)) | refine jget_ne (by first | decide | assumption | omega) ?_)) (by rfl) ?_
    refine J_icmp_ge_n 46 dX9_closestTo_11 (by decide) (fun c11 => ?_) (fun c11 => ?_)
    · refine J_iload_n (by rfl) dX9_closestTo_46 ?_
      exact J_ireturn dX9_closestTo_47 rfl (by rw [show i = n by omega]; exact hQ) (by decide) (by decide) (fun _ => rfl)
    · refine J_iload_n (by rfl) dX9_closestTo_14 ?_
      refine J_iconst (-1) (by decide) dX9_closestTo_15 ?_
      refine J_icmp_eq 37 dX9_closestTo_16 (by decide) (fun c16 => ?_) (fun c16 => ?_)
      · refine J_iload (by rfl) dX9_closestTo_37 ?_
        refine J_istore_3 dX9_closestTo_39 ?_
        refine J_iinc_4 (nI 1) dX9_closestTo_40 (by decide) ?_
        try rw [nI_add]
        refine J_goto 5 dX9_closestTo_43 (by decide) ?_
        have hi0 : i = 0 := by
          by_cases h0 : i = 0
          · exact h0
          · rw [if_neg h0] at c16
            have := amin_le (sqd fx fy x y) (i - 1)
            have h3 : ¬ nI (amin (sqd fx fy x y) (i - 1)) < 0 := nI_pos (by omega)
            rw [c16] at h3
            exact absurd (by decide) h3
        subst hi0
        exact ih 1 (by omega) (by omega)
      · have h0 : i ≠ 0 := fun z => c16 (by rw [if_pos z])
        rw [if_neg h0]
        have ham := amin_le (sqd fx fy x y) (i - 1)
        have s1 := hsq i (by omega)
        have s2 := hsq (amin (sqd fx fy x y) (i - 1)) (by omega)
        have hnext := ih (i + 1) (by omega) (by omega)
        rw [if_neg (by omega), show i + 1 - 1 = (i - 1) + 1 by omega] at hnext
        simp only [amin] at hnext
        rw [show i - 1 + 1 = i by omega] at hnext
        refine J_aload_n (by rfl) (by rfl) dX9_closestTo_19 ?_
        refine J_iload (by rfl) dX9_closestTo_20 ?_
        refine J_iload_n (by rfl) dX9_closestTo_22 ?_
        refine J_iload_n (by rfl) dX9_closestTo_23 ?_
        refine J_V3v (ci := 9) dX9_closestTo_24 s_X9_52 m_X9_squareTo rfl (by repeat (first | assumption | exact jget_same2 (by (try simp only [List.length_set]); exact jlt (by assumption)) | refine jget_ne (by first | decide | assumption | omega) ?_)) rfl (c_X9_squareTo (i := i) (by omega) hM hA hB (jKv_i ?_))
        refine J_aload_n (by rfl) (by rfl) dX9_closestTo_27 ?_
        refine J_iload_n (by rfl) dX9_closestTo_28 ?_
        refine J_iload_n (by rfl) dX9_closestTo_29 ?_
        refine J_iload_n (by rfl) dX9_closestTo_30 ?_
        refine J_V3v (ci := 9) dX9_closestTo_31 s_X9_52 m_X9_squareTo rfl (by repeat (first | assumption | exact jget_same2 (by (try simp only [List.length_set]); exact jlt (by assumption)) | refine jget_ne (by first | decide | assumption | omega) ?_)) rfl (c_X9_squareTo (by omega) hM hA hB (jKv_i ?_))
        refine J_icmp_ge_n 40 dX9_closestTo_34 (by decide) (fun c34 => ?_) (fun c34 => ?_)
        · refine J_iinc_4 (nI 1) dX9_closestTo_40 (by decide) ?_
          try rw [nI_add]
          refine J_goto 5 dX9_closestTo_43 (by decide) ?_
          rw [if_neg (by omega)] at hnext
          exact hnext
        · refine J_iload (by rfl) dX9_closestTo_37 ?_
          refine J_istore_3 dX9_closestTo_39 ?_
          refine J_iinc_4 (nI 1) dX9_closestTo_40 (by decide) ?_
          try rw [nI_add]
          refine J_goto 5 dX9_closestTo_43 (by decide) ?_
          rw [if_pos (by omega)] at hnext
          exact hnext
end MAP
