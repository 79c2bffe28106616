/-! What is meant: the guide's state as one function (laid out as the reference's row), and what each command does to it -/
def nP (x : Int32) : Nat := x.toInt.toNat
theorem nP_nI {a : Nat} (h : a < 2 ^ 31) : nP (nI a) = a := by unfold nP; rw [nI_toInt h]; omega
/-- between two bounds -/
def inB (x : Int32) (a b : Nat) : Bool := decide (¬ x < nI a ∧ ¬ nI b < x)
theorem inB_iff {x : Int32} {a b : Nat} (ha : a < 2 ^ 31) (hb : b < 2 ^ 31) : inB x a b = true ↔ (a : Int) ≤ x.toInt ∧ x.toInt ≤ b := by
  unfold inB
  rw [decide_eq_true_eq, Int32.lt_iff_toInt_lt, Int32.lt_iff_toInt_lt, nI_toInt ha, nI_toInt hb]
  omega
theorem nI_nP {x : Int32} (h : 0 ≤ x.toInt) : nI (nP x) = x := by
  apply Int32.toInt_inj.mp
  have h2 := x.toInt_lt
  rw [nI_toInt (by unfold nP; omega)]
  unfold nP
  omega
theorem inB_t {x : Int32} {a b : Nat} (hx : inB x a b = true) (ha : a < 2 ^ 31) (hb : b < 2 ^ 31) : ∃ k : Nat, x = nI k ∧ a ≤ k ∧ k ≤ b ∧ nP x = k := by
  have h := (inB_iff ha hb).mp hx
  refine ⟨nP x, (nI_nP (by omega)).symm, ?_, ?_, rfl⟩ <;> unfold nP <;> omega
theorem inB_n {k a b : Nat} (hk : k < 2 ^ 31) (ha : a < 2 ^ 31) (hb : b < 2 ^ 31) : inB (nI k) a b = decide (a ≤ k ∧ k ≤ b) := by
  have h := inB_iff (x := nI k) ha hb
  rw [nI_toInt hk] at h
  cases hh : inB (nI k) a b
  · rw [hh] at h
    rw [eq_comm, decide_eq_false_iff_not]
    intro q
    exact absurd (h.mpr (by omega)) (by decide)
  · rw [hh] at h
    rw [eq_comm, decide_eq_true_eq]
    have := h.mp rfl
    omega
theorem isIx_iff {x : Int32} {n : Nat} (hn : n < 2 ^ 31) : isIx x n = true ↔ 0 ≤ x.toInt ∧ x.toInt < n := by
  unfold isIx
  rw [decide_eq_true_eq, Int32.lt_iff_toInt_lt, Int32.lt_iff_toInt_lt, nI_toInt hn]
  have : (0 : Int32).toInt = 0 := by decide
  omega
theorem isIx_k {x : Int32} {n : Nat} (hx : isIx x n = true) (hn : n < 2 ^ 31) : ∃ k : Nat, x = nI k ∧ k < n ∧ nP x = k := by
  have h := (isIx_iff hn).mp hx
  refine ⟨nP x, (nI_nP (by omega)).symm, ?_, rfl⟩
  unfold nP; omega
/-- 0 .. n - 1, as the reference asks it -/
theorem isIx_in {x : Int32} {n : Nat} (hn : n < 2 ^ 31) : decide (¬ x < nI 0 ∧ ¬ (nI n - nI 1) < x) = isIx x n := by
  have h1 : (nI n - nI 1).toInt = (n : Int) - 1 := by rw [nI_sub, iI_toInt (by omega) (by omega)]; rfl
  have h2 := isIx_iff (x := x) hn
  have h3 : (¬ x < nI 0 ∧ ¬ (nI n - nI 1) < x) ↔ (0 ≤ x.toInt ∧ x.toInt < n) := by
    rw [Int32.lt_iff_toInt_lt, Int32.lt_iff_toInt_lt, h1, nI_toInt (by decide)]
    omega
  cases hh : isIx x n
  · rw [hh] at h2
    rw [decide_eq_false_iff_not, h3]
    intro q
    exact absurd (h2.mpr q) (by decide)
  · rw [hh] at h2
    rw [decide_eq_true_eq, h3]
    exact h2.mp rfl
theorem cnt_t {f : Nat → Bool} {k : Nat} (h : f k = true) : cnt f (k + 1) = cnt f k + 1 := by show cnt f k + (if f k = true then 1 else 0) = _; rw [if_pos h]
theorem cnt_f {f : Nat → Bool} {k : Nat} (h : f k = false) : cnt f (k + 1) = cnt f k := by show cnt f k + (if f k = true then 1 else 0) = _; rw [if_neg (by rw [h]; decide)]; rfl
/-- the trails in the state -/
def wS (s : Nat → Nat) : Nat → Nat := fun k => s (48 + k)
/-- how many trails -/
def mT (w : Nat → Nat) : Nat := sumR (fun i => cnt (fun j => decide (0 < w (i * 12 + j))) i) 0 12
theorem Wkn.congr {w v : Nat → Nat} (h : ∀ k, k < 144 → w k = v k) {s : Nat} : ∀ (k u d : Nat), Wkn w s k u d → Wkn v s k u d
  | 0, _, _, q => q
  | k + 1, x, d, q => by
    obtain ⟨u, e, h1, hu, hx, hp, he⟩ := q
    have hk := h (u * 12 + x) (by omega)
    exact ⟨u, e, Wkn.congr h k u e h1, hu, hx, by rw [← hk]; exact hp, by rw [← hk]; exact he⟩
theorem Wk.congr {w v : Nat → Nat} (h : ∀ k, k < 144 → w k = v k) {s u d : Nat} (q : Wk w s u d) : Wk v s u d := let ⟨k, hk⟩ := q; ⟨k, Wkn.congr h k u d hk⟩
theorem dst_congr {w v : Nat → Nat} (h : ∀ k, k < 144 → w k = v k) (s u : Nat) : dst w s u = dst v s u := by
  have h2 : ∀ k, k < 144 → v k = w k := fun k hk => (h k hk).symm
  by_cases hx : ∃ d, Wk w s u d
  · have hy : ∃ d, Wk v s u d := let ⟨d, q⟩ := hx; ⟨d, q.congr h⟩
    have h3 := dst_le ((dst_wk hx).congr h)
    have h4 := dst_le ((dst_wk hy).congr h2)
    omega
  · rw [dst_no hx, dst_no (fun ⟨d, q⟩ => hx ⟨d, q.congr h2⟩)]
theorem Gr.congr {n : Nat} {w v : Nat → Nat} (h : ∀ k, k < 144 → w k = v k) (g : Gr n w) : Gr n v := by
  refine ⟨g.n12, fun i j hi hj => ?_, fun i j hi hj hp => ?_, fun i j hi hj => ?_⟩
  · rw [← h _ (by omega)]; exact g.le i j hi hj
  · rw [← h _ (by omega)] at hp; exact g.inn i j hi hj hp
  · rw [← h _ (by omega), ← h _ (by omega)]; exact g.sym i j hi hj
theorem cnt_w {w v : Nat → Nat} (h : ∀ k, k < 144 → w k = v k) (i : Nat) (hi : i < 12) : cnt (fun j => decide (0 < w (i * 12 + j))) i = cnt (fun j => decide (0 < v (i * 12 + j))) i :=
  cnt_congr i fun j hj => by rw [h _ (by omega)]
theorem sumR_congr {f g : Nat → Nat} (a : Nat) : ∀ k, (∀ i, i < k → f (a + i) = g (a + i)) → sumR f a k = sumR g a k
  | 0, _ => rfl
  | k + 1, h => by unfold sumR; rw [sumR_congr a k (fun i hi => h i (by omega)), h k (by omega)]
theorem mT_congr {w v : Nat → Nat} (h : ∀ k, k < 144 → w k = v k) : mT w = mT v := by
  unfold mT
  refine sumR_congr 0 12 (fun i hi => ?_)
  rw [Nat.zero_add]
  exact cnt_w h i hi
/-- the least below n, else c -/
noncomputable def leastB (P : Nat → Prop) (n c : Nat) : Nat := @dite _ (∃ j, j < n ∧ P j) (Classical.propDecidable _) (fun h => Classical.choose (least_ex h)) (fun _ => c)
theorem leastB_eq {P : Nat → Prop} {n c j : Nat} (hj : j < n) (hp : P j) (hm : ∀ k, k < j → ¬ P k) : leastB P n c = j := by
  have h : ∃ j, j < n ∧ P j := ⟨j, hj, hp⟩
  unfold leastB
  rw [dif_pos h]
  have h1 := Classical.choose_spec (least_ex h)
  have h2 := h1.2 j ⟨hj, hp⟩
  have h3 := h1.1
  rcases Nat.lt_or_ge (Classical.choose (least_ex h)) j with q | q
  · exact absurd h3.2 (hm _ q)
  · omega
/-- the waypoint behind c on the way to a -/
noncomputable def nxt (w : Nat → Nat) (n a c : Nat) : Nat := leastB (fun j => 0 < w (c * 12 + j) ∧ dst w a j + w (c * 12 + j) = dst w a c) n c
noncomputable def ro (w : Nat → Nat) (n a c : Nat) : Nat → Nat
  | 0 => c
  | k + 1 => nxt w n a (ro w n a c k)
noncomputable def rL (w : Nat → Nat) (n a c : Nat) : Nat := @dite _ (∃ k, ro w n a c k = a) (Classical.propDecidable _) (fun h => Classical.choose (least_ex h)) (fun _ => 0)
theorem nxt_spec {n a c : Nat} {w : Nat → Nat} (g : Gr n w) (hc : c < 12) (hca : c ≠ a) (hf : dst w a c < 99999) : nxt w n a c < n ∧ 0 < w (c * 12 + nxt w n a c) ∧ dst w a (nxt w n a c) + w (c * 12 + nxt w n a c) = dst w a c := by
  obtain ⟨u, hu, _, hp, _, he⟩ := dst_pred hca ((dst_fin g hc).mp hf)
  have hp2 : 0 < w (c * 12 + u) := by rw [g.sym c u hc hu]; exact hp
  have hun := (g.inn c u hc hu hp2).2
  have h : ∃ j, j < n ∧ (0 < w (c * 12 + j) ∧ dst w a j + w (c * 12 + j) = dst w a c) := ⟨u, hun, hp2, by rw [g.sym c u hc hu]; exact he.symm⟩
  have h1 := (Classical.choose_spec (least_ex h)).1
  unfold nxt leastB
  rw [dif_pos h]
  exact h1
theorem ro_spec {n a c : Nat} {w : Nat → Nat} (g : Gr n w) (hc : c < n) (hf : dst w a c < 99999) : ∀ k, (∀ i, i < k → ro w n a c i ≠ a) → ro w n a c k < n ∧ dst w a (ro w n a c k) < 99999 ∧ rk (dst w a) (ro w n a c k) + k ≤ rk (dst w a) c
  | 0, _ => ⟨hc, hf, Nat.le_refl _⟩
  | k + 1, h => by
    have hn := g.n12
    obtain ⟨h1, h2, h3⟩ := ro_spec g hc hf k (fun i hi => h i (by omega))
    obtain ⟨h4, h5, h6⟩ := nxt_spec g (by omega) (h k (by omega)) h2
    have h7 := rk_lt (D := dst w a) (u := nxt w n a (ro w n a c k)) (v := ro w n a c k) (by omega) (by omega)
    exact ⟨h4, by show dst w a (nxt w n a (ro w n a c k)) < 99999; omega, by show rk (dst w a) (nxt w n a (ro w n a c k)) + (k + 1) ≤ _; omega⟩
theorem rL_ex {n a c : Nat} {w : Nat → Nat} (g : Gr n w) (hc : c < n) (hf : dst w a c < 99999) : ∃ k, ro w n a c k = a := by
  refine Classical.byContradiction fun hn => ?_
  have h1 := (ro_spec g hc hf 12 (fun i _ e => hn ⟨i, e⟩)).2.2
  have h2 := rk_le (D := dst w a) (v := c) (by have := g.n12; omega)
  omega
theorem rL_spec {n a c : Nat} {w : Nat → Nat} (g : Gr n w) (hc : c < n) (hca : c ≠ a) (hf : dst w a c < 99999) : ro w n a c (rL w n a c) = a ∧ (∀ i, i < rL w n a c → ro w n a c i ≠ a) ∧ 1 ≤ rL w n a c ∧ rL w n a c ≤ 11 := by
  have h := rL_ex g hc hf
  have h1 : ro w n a c (rL w n a c) = a := by unfold rL; rw [dif_pos h]; exact (Classical.choose_spec (least_ex h)).1
  have h2 : ∀ i, i < rL w n a c → ro w n a c i ≠ a := by
    intro i hi e
    have : rL w n a c ≤ i := by
      unfold rL; rw [dif_pos h]
      exact (Classical.choose_spec (least_ex h)).2 i e
    omega
  refine ⟨h1, h2, ?_, ?_⟩
  · rcases Nat.eq_zero_or_pos (rL w n a c) with q | q
    · rw [q] at h1; exact absurd h1 hca
    · exact q
  · have h3 := (ro_spec g hc hf _ h2).2.2
    have h4 := rk_le (D := dst w a) (v := c) (by have := g.n12; omega)
    omega
theorem rL_eq {n a c k : Nat} {w : Nat → Nat} (h1 : ro w n a c k = a) (h2 : ∀ i, i < k → ro w n a c i ≠ a) : rL w n a c = k := by
  have h : ∃ k, ro w n a c k = a := ⟨k, h1⟩
  unfold rL
  rw [dif_pos h]
  have h3 := Classical.choose_spec (least_ex h)
  have h4 := h3.2 k h1
  rcases Nat.lt_or_ge (Classical.choose (least_ex h)) k with q | q
  · exact absurd h3.1 (h2 _ q)
  · omega
-- ===== the commands =====
def isP (x y : Int32) : Bool := inB x 0 99 && inB y 0 99
def T0 (s : Nat → Nat) (x y z : Int32) : Nat := if (isP x y && inB z 1 9) = true then (if s 0 = 12 then 2 else 0) else 1
def N0 (s : Nat → Nat) (x y z : Int32) : Nat → Nat := updN (updN (updN (updN s (12 + 3 * s 0) (nP x)) (12 + 3 * s 0 + 1) (nP y)) (12 + 3 * s 0 + 2) (nP z)) 0 (s 0 + 1)
def both (s : Nat → Nat) (x y : Int32) : Bool := isIx x (s 0) && isIx y (s 0)
def T1 (s : Nat → Nat) (x y z : Int32) : Nat := if both s x y = true then (if x = y ∨ inB z 1 99 = false then 2 else if 0 < wS s (nP x * 12 + nP y) then 3 else 0) else 1
def setT (s : Nat → Nat) (i j v : Nat) : Nat → Nat := updN (updN s (48 + (i * 12 + j)) v) (48 + (j * 12 + i)) v
def N1 (s : Nat → Nat) (x y z : Int32) : Nat → Nat := setT s (nP x) (nP y) (nP z)
def T2 (s : Nat → Nat) (x y : Int32) : Nat := if both s x y = true then (if wS s (nP x * 12 + nP y) = 0 then 2 else 0) else 1
def N2 (s : Nat → Nat) (x y : Int32) : Nat → Nat := setT s (nP x) (nP y) 0
noncomputable def T3 (s : Nat → Nat) (x y : Int32) : Nat := if both s x y = true then (if x = y then 2 else if 0 < s 1 then 3 else if dst (wS s) (nP y) (nP x) < 99999 then 0 else 4) else 1
noncomputable def roS (s : Nat → Nat) (a b : Nat) : Nat → Nat := ro (wS s) (s 0) b a
noncomputable def rLS (s : Nat → Nat) (a b : Nat) : Nat := rL (wS s) (s 0) b a
def setR (s r : Nat → Nat) (L : Nat) : Nat → Nat := fun k => if 192 ≤ k ∧ k < 192 + (L + 1) then r (k - 192) else if k = 1 then L + 1 else s k
noncomputable def N3 (s : Nat → Nat) (x y : Int32) : Nat → Nat := updN (updN (updN (updN (setR s (roS s (nP x) (nP y)) (rLS s (nP x) (nP y))) 2 1) 3 (s (12 + 3 * nP x))) 4 (s (12 + 3 * nP x + 1))) 5 0
def T4 (x : Int32) : Nat := if inB x 0 2 = true then 0 else 1
def N4 (s : Nat → Nat) (x : Int32) : Nat → Nat := updN s 7 (nP x)
def T5 (x : Int32) : Nat := if inB x 1 30 = true then 0 else 1
def N5 (s : Nat → Nat) (x : Int32) : Nat → Nat := updN s 8 (nP x)
def T6 (x : Int32) : Nat := if inB x 1 999 = true then 0 else 1
def N6 (s : Nat → Nat) (x : Int32) : Nat → Nat := updN s 6 (min (s 6 + nP x) 1000)
def T7 (s : Nat → Nat) (x y : Int32) : Nat := if isP x y = true then (if 0 < s 1 then (if s 6 = 0 then 3 else 0) else 2) else 1
def aimS (s : Nat → Nat) : Nat := s (192 + s 2)
def begS (s : Nat → Nat) : Nat := s (192 + (s 2 - 1))
def pX (s : Nat → Nat) (i : Nat) : Nat := s (12 + 3 * i)
def pY (s : Nat → Nat) (i : Nat) : Nat := s (12 + 3 * i + 1)
def pR (s : Nat → Nat) (i : Nat) : Nat := s (12 + 3 * i + 2)
def reachS (s : Nat → Nat) (x y : Nat) : Bool := decide (sq2 x (pX s (aimS s)) + sq2 y (pY s (aimS s)) ≤ pR s (aimS s) * pR s (aimS s))
/-- the drift's square as a fraction -/
def numS (s : Nat → Nat) (x y : Nat) : Nat := dNum ((x : Int) - pX s (begS s)) ((y : Int) - pY s (begS s)) ((pX s (aimS s) : Int) - pX s (begS s)) ((pY s (aimS s) : Int) - pY s (begS s))
def denS (s : Nat → Nat) (x y : Nat) : Nat := dDen ((x : Int) - pX s (begS s)) ((y : Int) - pY s (begS s)) ((pX s (aimS s) : Int) - pX s (begS s)) ((pY s (aimS s) : Int) - pY s (begS s))
def farS (s : Nat → Nat) (x y m : Nat) : Bool := decide (m * m * denS s x y < numS s x y)
def drainS (s : Nat → Nat) (v : Nat) : Nat → Nat := updN s 6 (s 6 - v)
def overS (s : Nat → Nat) : Nat → Nat := fun k => if (192 ≤ k ∧ k < 204) ∨ (1 ≤ k ∧ k ≤ 5) then 0 else s k
def watchS (s : Nat → Nat) : Nat → Nat :=
  updN (if farS s (s 3) (s 4) (s 8) = true ∧ s 5 = 0 then drainS (updN s 10 (s 10 + 1)) 5 else s) 5 (if farS s (s 3) (s 4) (s 8) = true then 1 else 0)
def moveA (s : Nat → Nat) (x y : Nat) : Nat → Nat := drainS (updN (updN (updN s 3 x) 4 y) 9 (s 9 + 1)) (costN (s 7))
def moveB (s : Nat → Nat) : Nat → Nat := updN (drainS (updN s 11 (s 11 + 1)) 3) 2 (s 2 + 1)
def moveC (s : Nat → Nat) : Nat → Nat := if s 2 = s 1 then overS s else watchS s
def N7 (s : Nat → Nat) (x y : Int32) : Nat → Nat := moveC (if reachS (moveA s (nP x) (nP y)) (nP x) (nP y) = true then moveB (moveA s (nP x) (nP y)) else moveA s (nP x) (nP y))
def A7 (s : Nat → Nat) (x y : Int32) : Nat := if reachS (moveA s (nP x) (nP y)) (nP x) (nP y) = true then 1 else 0
def T8 (s : Nat → Nat) : Nat := if 0 < s 1 then 0 else 1
noncomputable def opT (s : Nat → Nat) (k : Nat) (x y z : Int32) : Nat := if k = 0 then T0 s x y z else if k = 1 then T1 s x y z else if k = 2 then T2 s x y else if k = 3 then T3 s x y else if k = 4 then T4 x else if k = 5 then T5 x else if k = 6 then T6 x else if k = 7 then T7 s x y else T8 s
noncomputable def opN (s : Nat → Nat) (k : Nat) (x y z : Int32) : Nat → Nat := if opT s k x y z = 0 then (if k = 0 then N0 s x y z else if k = 1 then N1 s x y z else if k = 2 then N2 s x y else if k = 3 then N3 s x y else if k = 4 then N4 s x else if k = 5 then N5 s x else if k = 6 then N6 s x else if k = 7 then N7 s x y else overS s) else s
noncomputable def opA (s : Nat → Nat) (k : Nat) (x y z : Int32) : Nat := if opT s k x y z = 0 then (if k = 0 then s 0 else if k = 1 then mT (wS (N1 s x y z)) else if k = 2 then wS s (nP x * 12 + nP y) else if k = 3 then rLS s (nP x) (nP y) + 1 else if k = 4 then s 7 else if k = 5 then s 8 else if k = 6 then min (s 6 + nP x) 1000 else if k = 7 then A7 s x y else s 1 - s 2) else 0
/-- what holds of every state; K bounds the counts -/
abbrev Inv (K : Nat) (s : Nat → Nat) : Prop :=
  (Gr (s 0) (wS s)) ∧
  (∀ i, i < 12 → wS s (i * 12 + i) = 0) ∧
  (∀ i, i < 12 → pX s i ≤ 99 ∧ pY s i ≤ 99 ∧ pR s i ≤ 9) ∧
  (0 < s 1 → 2 ≤ s 1 ∧ s 1 ≤ 12 ∧ 1 ≤ s 2 ∧ s 2 < s 1 ∧ s 3 ≤ 99 ∧ s 4 ≤ 99 ∧ ∀ i, i < s 1 → s (192 + i) < s 0) ∧
  (s 5 ≤ 1) ∧
  (s 1 = 0 → s 5 = 0) ∧
  (s 6 ≤ 1000) ∧
  (s 7 ≤ 2) ∧
  (1 ≤ s 8 ∧ s 8 ≤ 30) ∧
  (s 9 ≤ K ∧ s 10 ≤ s 9 ∧ s 11 ≤ K)
theorem Inv.g {K : Nat} {s : Nat → Nat} (I : Inv K s) : Gr (s 0) (wS s) := I.1
theorem Inv.nl {K : Nat} {s : Nat → Nat} (I : Inv K s) : ∀ i, i < 12 → wS s (i * 12 + i) = 0 := I.2.1
theorem Inv.p {K : Nat} {s : Nat → Nat} (I : Inv K s) : ∀ i, i < 12 → pX s i ≤ 99 ∧ pY s i ≤ 99 ∧ pR s i ≤ 9 := I.2.2.1
theorem Inv.t {K : Nat} {s : Nat → Nat} (I : Inv K s) : 0 < s 1 → 2 ≤ s 1 ∧ s 1 ≤ 12 ∧ 1 ≤ s 2 ∧ s 2 < s 1 ∧ s 3 ≤ 99 ∧ s 4 ≤ 99 ∧ ∀ i, i < s 1 → s (192 + i) < s 0 := I.2.2.2.1
theorem Inv.a1 {K : Nat} {s : Nat → Nat} (I : Inv K s) : s 5 ≤ 1 := I.2.2.2.2.1
theorem Inv.a0 {K : Nat} {s : Nat → Nat} (I : Inv K s) : s 1 = 0 → s 5 = 0 := I.2.2.2.2.2.1
theorem Inv.b {K : Nat} {s : Nat → Nat} (I : Inv K s) : s 6 ≤ 1000 := I.2.2.2.2.2.2.1
theorem Inv.mo {K : Nat} {s : Nat → Nat} (I : Inv K s) : s 7 ≤ 2 := I.2.2.2.2.2.2.2.1
theorem Inv.tl {K : Nat} {s : Nat → Nat} (I : Inv K s) : 1 ≤ s 8 ∧ s 8 ≤ 30 := I.2.2.2.2.2.2.2.2.1
theorem Inv.u {K : Nat} {s : Nat → Nat} (I : Inv K s) : s 9 ≤ K ∧ s 10 ≤ s 9 ∧ s 11 ≤ K := I.2.2.2.2.2.2.2.2.2
theorem Inv.n12 {K : Nat} {s : Nat → Nat} (I : Inv K s) : s 0 ≤ 12 := I.g.n12
theorem Inv.lt {K : Nat} {s : Nat → Nat} (I : Inv K s) : ∀ k, k < 144 → wS s k < 2 ^ 31 := fun k hk => by
  have := I.g.le (k / 12) (k % 12) (by omega) (by omega)
  rw [show k / 12 * 12 + k % 12 = k by omega] at this
  omega
theorem Inv.le {K : Nat} {s : Nat → Nat} (I : Inv K s) : ∀ k, k < 144 → wS s k ≤ 99 := fun k hk => by
  have := I.g.le (k / 12) (k % 12) (by omega) (by omega)
  rwa [show k / 12 * 12 + k % 12 = k by omega] at this
theorem Inv.s1 {K : Nat} {s : Nat → Nat} (I : Inv K s) : s 1 ≤ 12 := by
  rcases Nat.eq_zero_or_pos (s 1) with q | q
  · omega
  · exact (I.t q).2.1
