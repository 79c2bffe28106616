/-! What the law asks of the graph and of the drift -/
theorem Wk.cons {w : Nat → Nat} {s u v d : Nat} (h : Wk w u v d) (hs : s < 12) (hu : u < 12) (hp : 0 < w (s * 12 + u)) : Wk w s v (w (s * 12 + u) + d) := by
  induction h using Wk.ind with
  | z =>
    have := Wk.st (w := w) (s := s) Wk.z hs hu hp
    rw [Nat.zero_add] at this
    exact this
  | st k hu2 hv2 hp2 ih =>
    have := Wk.st ih hu2 hv2 hp2
    rw [Nat.add_assoc] at this
    exact this
theorem Wk.rev {n : Nat} {w : Nat → Nat} (g : Gr n w) {s v d : Nat} (h : Wk w s v d) : Wk w v s d := by
  induction h using Wk.ind with
  | z => exact Wk.z
  | st k hu hv hp ih =>
    have := Wk.cons ih hv hu (by rw [← g.sym _ _ hu hv]; exact hp)
    rw [← g.sym _ _ hu hv, Nat.add_comm] at this
    exact this
theorem dst_symm {n : Nat} {w : Nat → Nat} (g : Gr n w) (s v : Nat) : dst w s v = dst w v s := by
  by_cases h : ∃ d, Wk w s v d
  · have h2 : ∃ d, Wk w v s d := let ⟨d, q⟩ := h; ⟨d, q.rev g⟩
    have h3 := dst_le ((dst_wk h).rev g)
    have h4 := dst_le ((dst_wk h2).rev g)
    omega
  · have h2 : ¬ ∃ d, Wk w v s d := fun ⟨d, q⟩ => h ⟨d, q.rev g⟩
    rw [dst_no h, dst_no h2]
/-- what the law's distance answers -/
noncomputable def fD (w : Nat → Nat) (i j : Nat) : Int := if dst w i j < 99999 then (dst w i j : Int) else -900002
theorem fD_b (w : Nat → Nat) (i j : Nat) : -900002 ≤ fD w i j ∧ fD w i j < 99999 := by unfold fD; split <;> omega
theorem fD_sym {n : Nat} {w : Nat → Nat} (g : Gr n w) (i j : Nat) : fD w i j = fD w j i := by unfold fD; rw [dst_symm g i j]
theorem fD_neg (w : Nat → Nat) (i j : Nat) : fD w i j < 0 ↔ ¬ dst w i j < 99999 := by unfold fD; split <;> omega
theorem fD_s (w : Nat → Nat) (i : Nat) : fD w i i = 0 := by unfold fD; rw [dst_s, if_pos (by decide)]; rfl
theorem fD_tri {n : Nat} {w : Nat → Nat} (g : Gr n w) {i b j : Nat} (hb : b < 12) (hj : j < 12) (hp : 0 < w (b * 12 + j)) (h0 : 0 ≤ fD w i b) : 0 ≤ fD w i j ∧ fD w i j ≤ fD w i b + w (b * 12 + j) := by
  have h1 := dst_edge (s := i) g hb hj hp
  have h2 := g.le b j hb hj
  have h3 : dst w i b < 99999 := by
    rcases Nat.lt_or_ge (dst w i b) 99999 with q | q
    · exact q
    · have := (fD_neg w i b).mpr (by omega); omega
  have h4 := dst_b (v := b) g hb ((dst_fin g hb).mp h3)
  unfold fD
  rw [if_pos h3, if_pos (by omega)]
  omega
theorem fD_edge {n : Nat} {w : Nat → Nat} (g : Gr n w) {i j : Nat} (hi : i < 12) (hj : j < 12) (hp : 0 < w (i * 12 + j)) : 0 ≤ fD w i j ∧ fD w i j ≤ w (i * 12 + j) := by
  have := fD_tri g (i := i) hi hj hp (by rw [fD_s]; decide)
  rw [fD_s] at this
  omega
theorem cnt_cut {f : Nat → Bool} {i : Nat} : ∀ k, cnt (fun q => f q && decide (q < i)) (i + k) = cnt f i
  | 0 => cnt_congr i fun q hq => by rw [decide_eq_true hq, Bool.and_true]
  | k + 1 => by
    have h1 := cnt_cut (f := f) (i := i) k
    show cnt _ (i + k) + (if (f (i + k) && decide (i + k < i)) = true then 1 else 0) = cnt f i
    rw [h1, decide_eq_false (by omega), Bool.and_false]
    rfl
theorem cnt_cutn {f : Nat → Bool} {i n : Nat} (h : i ≤ n) : cnt (fun q => f q && decide (q < i)) n = cnt f i := by
  have := cnt_cut (f := f) (i := i) (n - i)
  rwa [show i + (n - i) = n by omega] at this
/-- no lower one of the first j is reached from i -/
noncomputable def fl (w : Nat → Nat) (i j : Nat) : Bool := @decide (∀ o, o < j → o < i → ¬ dst w i o < 99999) (Classical.propDecidable _)
theorem fl_iff {w : Nat → Nat} {i j : Nat} : fl w i j = true ↔ ∀ o, o < j → o < i → ¬ dst w i o < 99999 := by
  unfold fl; simp only [decide_eq_true_eq]
theorem fl_0 {w : Nat → Nat} {i : Nat} : fl w i 0 = true := fl_iff.mpr fun o h => by omega
theorem fl_s {w : Nat → Nat} {i j : Nat} : fl w i (j + 1) = (fl w i j && (decide (i ≤ j) || decide (fD w i j < 0))) := by
  rw [Bool.eq_iff_iff, Bool.and_eq_true, fl_iff, fl_iff, Bool.or_eq_true, decide_eq_true_eq, decide_eq_true_eq, fD_neg]
  constructor
  · intro h
    refine ⟨fun o h1 h2 => h o (by omega) h2, ?_⟩
    rcases Nat.lt_or_ge j i with q | q
    · exact .inr (h j (by omega) q)
    · exact .inl q
  · intro h o h1 h2
    by_cases e : o = j
    · subst e
      rcases h.2 with q | q
      · omega
      · exact q
    · exact h.1 o (by omega) h2
theorem fl_n {w : Nat → Nat} {i n : Nat} (h : i ≤ n) : fl w i n = lowest w i := by
  rw [Bool.eq_iff_iff, fl_iff, lowest_iff]
  exact ⟨fun q o ho => q o (by omega) ho, fun q o _ ho => q o ho⟩
/-- the trails that are found below i -/
def tC (w : Nat → Nat) (i : Nat) : Nat := sumR (fun i => cnt (fun j => decide (0 < w (i * 12 + j))) i) 0 i
theorem tC_s (w : Nat → Nat) (i : Nat) : tC w (i + 1) = tC w i + cnt (fun j => decide (0 < w (i * 12 + j))) i := by
  show tC w i + (fun i => cnt (fun j => decide (0 < w (i * 12 + j))) i) (0 + i) = _
  rw [Nat.zero_add]
theorem cnt_z {f : Nat → Bool} : ∀ k, (∀ i, i < k → f i = false) → cnt f k = 0
  | 0, _ => rfl
  | k + 1, h => by unfold cnt; rw [cnt_z k (fun i hi => h i (by omega)), h k (by omega)]; rfl
theorem tC_n {n : Nat} {w : Nat → Nat} (g : Gr n w) : tC w n = mT w := by
  have key : ∀ k, n + k ≤ 12 → tC w (n + k) = tC w n := by
    intro k
    induction k with
    | zero => intro _; rfl
    | succ k ih =>
      intro hk
      rw [← Nat.add_assoc, tC_s, ih (by omega), cnt_z (n + k) (fun i hi => by
        rw [decide_eq_false_iff_not]
        intro hp
        have := (g.inn (n + k) i (by omega) (by omega) hp).1
        omega)]
      rfl
  have := key (12 - n) (by have := g.n12; omega)
  rw [show n + (12 - n) = 12 by have := g.n12; omega] at this
  exact this.symm
theorem tC_b (w : Nat → Nat) : ∀ i, i ≤ 12 → tC w i ≤ 12 * i
  | 0, _ => Nat.le_refl _
  | i + 1, h => by
    have h1 := tC_b w i (by omega)
    have h2 := cnt_le (fun j => decide (0 < w (i * 12 + j))) i
    rw [tC_s]
    omega
theorem jb_and (a b : Bool) : jb a &&& jb b = jb (a && b) := by cases a <;> cases b <;> decide
theorem jb_nI (b : Bool) : jb b = nI (if b = true then 1 else 0) := by cases b <;> rfl
theorem cost_f {m : Nat} (h : m ≤ 2) : costN m = if m = 0 then 1 else 2 * m := by
  rcases (show m = 0 ∨ m = 1 ∨ m = 2 by omega) with rfl | rfl | rfl <;> rfl
/-- the drift, rounded down, is not beyond; one more is -/
theorem drift_bey {a b c d : Int} {r : Nat} (h1 : r * r * dDen a b c d ≤ dNum a b c d) (h2 : dNum a b c d < (r + 1) * (r + 1) * dDen a b c d) : ¬ beyZ a b c d r < 0 ∧ beyZ a b c d (r + 1) < 0 := by
  rw [beyZ_eq, beyZ_eq]
  have e1 : (r : Int) * r * (dDen a b c d : Int) = ((r * r * dDen a b c d : Nat) : Int) := by rw [Int.natCast_mul, Int.natCast_mul]
  have e2 : ((r + 1 : Nat) : Int) * ((r + 1 : Nat) : Int) * (dDen a b c d : Int) = (((r + 1) * (r + 1) * dDen a b c d : Nat) : Int) := by rw [Int.natCast_mul, Int.natCast_mul]
  rw [e1, e2]
  omega
theorem drift_r {a b c d : Int} {r : Nat} (ha : -99 ≤ a ∧ a ≤ 99) (hb : -99 ≤ b ∧ b ≤ 99) (hc : -99 ≤ c ∧ c ≤ 99) (hd : -99 ≤ d ∧ d ≤ 99) (h1 : r * r * dDen a b c d ≤ dNum a b c d) : r ≤ 20000 := by
  have h2 := dNum_b ha hb hc hd
  have h3 := (dDen_b (a := a) (b := b) hc hd).1
  rcases Nat.lt_or_ge 20000 r with q | q
  · have h4 : 20001 * 20001 ≤ r * r := Nat.mul_le_mul q q
    have h5 : r * r * 1 ≤ r * r * dDen a b c d := Nat.mul_le_mul (Nat.le_refl _) h3
    omega
  · exact q
