/-! Plain facts out of the reference's parts of whole -/
def cpN (g : Nat → Nat) (q : Nat) (f : Nat → Nat) (p n : Nat) : Nat → Nat := fun k => if q ≤ k ∧ k < q + n then f (p + (k - q)) else g k
theorem cpN_in {g : Nat → Nat} {q : Nat} {f : Nat → Nat} {p n i : Nat} (h : i < n) : cpN g q f p n (q + i) = f (p + i) := by
  unfold cpN; rw [if_pos (by omega), show q + i - q = i by omega]
section MODEL2
variable {G : jG} {X : Bool} {h : jH} {Q : jQ_} {ch th ln tp he cm n : Nat} {ea fa an : Int32} {sv : Bool} {s w F D : Nat → Nat}
/-- the states before the latest changes, one more -/
def pastN (ch : Nat) (P W P' : Nat → Nat) : Prop := if ch = 8 then (∀ j i, j < 7 → i < 204 → P' (204 * j + i) = P (204 * (j + 1) + i)) ∧ ∀ i, i < 204 → P' (1428 + i) = W i
  else (∀ j i, j < ch → i < 204 → P' (204 * j + i) = P (204 * j + i)) ∧ ∀ i, i < 204 → P' (204 * ch + i) = W i
end MODEL2
/-- the places that a leg's ends take -/
abbrev legOk (s : Nat → Nat) : Prop := 1 ≤ s 2 ∧ s 2 < 12 ∧ aimS s < 12 ∧ begS s < 12 ∧ ∀ i, i < 12 → pX s i ≤ 99 ∧ pY s i ≤ 99 ∧ pR s i ≤ 9
theorem dNum_b {a b c d : Int} (ha : -99 ≤ a ∧ a ≤ 99) (hb : -99 ≤ b ∧ b ≤ 99) (hc : -99 ≤ c ∧ c ≤ 99) (hd : -99 ≤ d ∧ d ≤ 99) : dNum a b c d ≤ 384238404 := by
  obtain ⟨e9, e10⟩ := mul_bd hc.1 hc.2 hb.1 hb.2
  obtain ⟨e11, e12⟩ := mul_bd hd.1 hd.2 ha.1 ha.2
  unfold dNum
  split
  · have h1 : a.natAbs * a.natAbs ≤ 99 * 99 := Nat.mul_le_mul (by omega) (by omega)
    have h2 : b.natAbs * b.natAbs ≤ 99 * 99 := Nat.mul_le_mul (by omega) (by omega)
    omega
  · split
    · have h1 : (a - c).natAbs * (a - c).natAbs ≤ 198 * 198 := Nat.mul_le_mul (by omega) (by omega)
      have h2 : (b - d).natAbs * (b - d).natAbs ≤ 198 * 198 := Nat.mul_le_mul (by omega) (by omega)
      omega
    · have h1 : (dCross a b c d).natAbs * (dCross a b c d).natAbs ≤ 19602 * 19602 := Nat.mul_le_mul (by unfold dCross; omega) (by unfold dCross; omega)
      omega
theorem dWhole_0 (c d : Int) : (0 : Int) ≤ dWhole c d := by unfold dWhole; rw [← Int.natAbs_mul_self (a := c), ← Int.natAbs_mul_self (a := d)]; omega
theorem dWhole_n (c d : Int) : dWhole c d = ((c.natAbs * c.natAbs + d.natAbs * d.natAbs : Nat) : Int) := by
  unfold dWhole; rw [← Int.natAbs_mul_self (a := c), ← Int.natAbs_mul_self (a := d)]; omega
theorem dDen_b {a b c d : Int} (hc : -99 ≤ c ∧ c ≤ 99) (hd : -99 ≤ d ∧ d ≤ 99) : 1 ≤ dDen a b c d ∧ dDen a b c d ≤ 19602 := by
  have h0 := dWhole_n c d
  have h1 : c.natAbs * c.natAbs ≤ 99 * 99 := Nat.mul_le_mul (by omega) (by omega)
  have h2 : d.natAbs * d.natAbs ≤ 99 * 99 := Nat.mul_le_mul (by omega) (by omega)
  unfold dDen
  split
  · omega
  · split <;> omega
theorem num_b {s : Nat → Nat} {x y : Nat} (hL : legOk s) (hx : x ≤ 99) (hy : y ≤ 99) : numS s x y ≤ 384238404 ∧ 1 ≤ denS s x y ∧ denS s x y ≤ 19602 := by
  obtain ⟨h1, h2, h3, h4, h5⟩ := hL
  have ha := h5 _ h3
  have hb := h5 _ h4
  exact ⟨dNum_b (by omega) (by omega) (by omega) (by omega), dDen_b (by omega) (by omega)⟩
theorem isP_t {x y : Int32} (h : isP x y = true) : ∃ a b : Nat, x = nI a ∧ y = nI b ∧ a ≤ 99 ∧ b ≤ 99 ∧ nP x = a ∧ nP y = b := by
  simp only [isP, Bool.and_eq_true] at h
  obtain ⟨a, e1, _, h1, e2⟩ := inB_t h.1 (by decide) (by decide)
  obtain ⟨b, e3, _, h2, e4⟩ := inB_t h.2 (by decide) (by decide)
  exact ⟨a, b, e1, e3, h1, h2, e2, e4⟩
theorem both_t {s : Nat → Nat} {x y : Int32} (hn : s 0 ≤ 12) (h1 : isIx x (s 0) = true) (h2 : isIx y (s 0) = true) : ∃ i j : Nat, x = nI i ∧ y = nI j ∧ i < s 0 ∧ j < s 0 ∧ nP x = i ∧ nP y = j := by
  obtain ⟨i, e1, h3, e2⟩ := isIx_k h1 (by omega)
  obtain ⟨j, e3, h4, e4⟩ := isIx_k h2 (by omega)
  exact ⟨i, j, e1, e3, h3, h4, e2, e4⟩
theorem legOk_of {K : Nat} {s : Nat → Nat} (I : Inv K s) (h : 0 < s 1) : legOk s := by
  obtain ⟨h1, h2, h3, h4, h5, h6, h7⟩ := I.t h
  have h8 := I.n12
  have h9 := h7 (s 2) h4
  have h10 := h7 (s 2 - 1) (by omega)
  exact ⟨h3, by omega, by unfold aimS; omega, by unfold begS; omega, I.p⟩
theorem moveA_e {s : Nat → Nat} {a b k : Nat} (h3 : k ≠ 3) (h4 : k ≠ 4) (h6 : k ≠ 6) (h9 : k ≠ 9) : moveA s a b k = s k := by
  unfold moveA drainS; rw [updN_n h6, updN_n h9, updN_n h4, updN_n h3]
theorem moveA_leg {s : Nat → Nat} {a b : Nat} (h : legOk s) : legOk (moveA s a b) := by
  obtain ⟨h1, h2, h3, h4, h5⟩ := h
  have e2 : moveA s a b 2 = s 2 := moveA_e (by decide) (by decide) (by decide) (by decide)
  unfold aimS at h3; unfold begS at h4
  refine ⟨by omega, by omega, ?_, ?_, fun i hi => ?_⟩
  · unfold aimS; rw [e2, moveA_e (by omega) (by omega) (by omega) (by omega)]; exact h3
  · unfold begS; rw [e2, moveA_e (by omega) (by omega) (by omega) (by omega)]; exact h4
  · have := h5 i hi
    unfold pX pY pR at this ⊢
    rw [moveA_e (by omega) (by omega) (by omega) (by omega), moveA_e (by omega) (by omega) (by omega) (by omega), moveA_e (by omega) (by omega) (by omega) (by omega)]
    exact this
theorem moveB_e {s : Nat → Nat} {k : Nat} (h2 : k ≠ 2) (h6 : k ≠ 6) (h11 : k ≠ 11) : moveB s k = s k := by
  unfold moveB drainS; rw [updN_n h2, updN_n h6, updN_n h11]
theorem moveB_leg {s : Nat → Nat} (h : legOk s) (h1 : s 2 + 1 < 12) (h2 : s (192 + (s 2 + 1)) < 12) : legOk (moveB s) := by
  obtain ⟨h1, h2, h3, h4, h5⟩ := h
  have e2 : moveB s 2 = s 2 + 1 := updN_s
  refine ⟨by omega, by omega, ?_, ?_, fun i hi => ?_⟩
  · unfold aimS; rw [e2, moveB_e (by omega) (by omega) (by omega)]; assumption
  · unfold begS; rw [e2, moveB_e (by omega) (by omega) (by omega)]; exact h3
  · have := h5 i hi
    unfold pX pY pR at this ⊢
    rw [moveB_e (by omega) (by omega) (by omega), moveB_e (by omega) (by omega) (by omega), moveB_e (by omega) (by omega) (by omega)]
    exact this
theorem setR_1 {s r : Nat → Nat} {k : Nat} : setR s r k 1 = k + 1 := by unfold setR; rw [if_neg (by omega), if_pos rfl]
theorem setR_o {s r : Nat → Nat} {k q : Nat} (h1 : q < 192 ∨ 192 + (k + 1) ≤ q) (h2 : q ≠ 1) : setR s r k q = s q := by unfold setR; rw [if_neg (by omega), if_neg h2]
theorem setR_i {s r : Nat → Nat} {k i : Nat} (h : i ≤ k) : setR s r k (192 + i) = r i := by unfold setR; rw [if_pos (by omega), show 192 + i - 192 = i by omega]
/-- nothing but these places is written -/
def jFr (C : Nat → Prop) (h h' : jH) : Prop := h'.length = h.length ∧ ∀ j, ¬ C j → h'[j]? = h[j]?
theorem jFr.refl {C : Nat → Prop} {h : jH} : jFr C h h := ⟨rfl, fun _ _ => rfl⟩
theorem jFr.trans {C : Nat → Prop} {h h' h2 : jH} (a : jFr C h h') (b : jFr C h' h2) : jFr C h h2 := ⟨b.1.trans a.1, fun j hj => (b.2 j hj).trans (a.2 j hj)⟩
theorem jFr.mono {C C' : Nat → Prop} {h h' : jH} (a : jFr C h h') (hc : ∀ j, C j → C' j) : jFr C' h h' := ⟨a.1, fun j hj => a.2 j (fun q => hj (hc j q))⟩
theorem jFr.set {C : Nat → Prop} {h h' : jH} (a : jFr C h h') (i : Nat) (c : jC) (hc : C i) : jFr C h (h'.set i c) := ⟨by rw [List.length_set]; exact a.1, fun j hj => by rw [List.getElem?_set_ne (show i ≠ j from fun q => hj (by rw [← q]; exact hc))]; exact a.2 j hj⟩
theorem jFr.at {C : Nat → Prop} {h h' : jH} (a : jFr C h h') {j : Nat} {c : jC} (hj : ¬ C j) (hc : h[j]? = some c) : h'[j]? = some c := (a.2 j hj).trans hc
section MODEL6
variable {G : jG} {X : Bool} {h : jH} {Q : jQ_} {ch th ln tp he cm n K : Nat} {ea fa an : Int32} {sv : Bool} {s sS P W w F D lf tx : Nat → Nat}
theorem opT_lt {s : Nat → Nat} {k : Nat} {x y z : Int32} : opT s k x y z ≤ 4 := by
  unfold opT T0 T1 T2 T3 T4 T5 T6 T7 T8
  repeat' split
  all_goals omega
end MODEL6
noncomputable def Td (s : Nat → Nat) (x y : Int32) : Nat := if both s x y = true then (if dst (wS s) (nP x) (nP y) < 99999 then 0 else 2) else 1
def Tn (s : Nat → Nat) (x y : Int32) : Nat := if isP x y = true then (if s 0 = 0 then 2 else 0) else 1
def Tri (s : Nat → Nat) (x : Int32) : Nat := if 0 < s 1 then (if isIx x (s 1) = true then 0 else 2) else 1
def Ttu (s : Nat → Nat) (x : Int32) : Nat := if 0 < s 1 then (if isIx x (s 1) = true then (if nP x = 0 ∨ nP x + 1 = s 1 then 3 else 0) else 2) else 1
def Tfc (s : Nat → Nat) (x y : Int32) : Nat := if isP x y = true then (if 0 < s 1 then 0 else 2) else 1
def crossS (s : Nat → Nat) (i : Nat) : Int := ((pX s (s (192 + i)) : Int) - pX s (s (192 + (i - 1)))) * ((pY s (s (192 + (i + 1))) : Int) - pY s (s (192 + i))) - ((pY s (s (192 + i)) : Int) - pY s (s (192 + (i - 1)))) * ((pX s (s (192 + (i + 1))) : Int) - pX s (s (192 + i)))
def dotS (s : Nat → Nat) (i : Nat) : Int := ((pX s (s (192 + i)) : Int) - pX s (s (192 + (i - 1)))) * ((pX s (s (192 + (i + 1))) : Int) - pX s (s (192 + i))) + ((pY s (s (192 + i)) : Int) - pY s (s (192 + (i - 1)))) * ((pY s (s (192 + (i + 1))) : Int) - pY s (s (192 + i)))
def turnC (s : Nat → Nat) (i : Nat) : Nat := if 0 < crossS s i then 108 else if crossS s i < 0 then 114 else if 0 ≤ dotS s i then 115 else 98
theorem turn_b {K : Nat} {s : Nat → Nat} (I : Inv K s) {i : Nat} (h0 : 0 < i) (h1 : i + 1 < s 1) : s (192 + (i - 1)) < 12 ∧ s (192 + i) < 12 ∧ s (192 + (i + 1)) < 12 := by
  have hn := I.n12
  have ht := (I.t (by omega)).2.2.2.2.2.2
  have a := ht (i - 1) (by omega)
  have b := ht i (by omega)
  have c := ht (i + 1) (by omega)
  omega
theorem turn_bd {a b c d A : Int} (hA : A = a * b - c * d) (ha : -99 ≤ a ∧ a ≤ 99) (hb : -99 ≤ b ∧ b ≤ 99) (hc : -99 ≤ c ∧ c ≤ 99) (hd : -99 ≤ d ∧ d ≤ 99) : -19602 ≤ A ∧ A ≤ 19602 := by
  obtain ⟨e1, e2⟩ := mul_bd ha.1 ha.2 hb.1 hb.2
  obtain ⟨e3, e4⟩ := mul_bd hc.1 hc.2 hd.1 hd.2
  omega
theorem turn_bd2 {a b c d A : Int} (hA : A = a * b + c * d) (ha : -99 ≤ a ∧ a ≤ 99) (hb : -99 ≤ b ∧ b ≤ 99) (hc : -99 ≤ c ∧ c ≤ 99) (hd : -99 ≤ d ∧ d ≤ 99) : -19602 ≤ A ∧ A ≤ 19602 := by
  obtain ⟨e1, e2⟩ := mul_bd ha.1 ha.2 hb.1 hb.2
  obtain ⟨e3, e4⟩ := mul_bd hc.1 hc.2 hd.1 hd.2
  omega
theorem sqI (a : Int) : ((a.natAbs * a.natAbs : Nat) : Int) = a * a := Int.natAbs_mul_self
theorem sq_99 {a : Int} (h : -99 ≤ a ∧ a ≤ 99) : a.natAbs * a.natAbs ≤ 9801 := Nat.mul_le_mul (show a.natAbs ≤ 99 by omega) (show a.natAbs ≤ 99 by omega)
theorem dNum_le {a b c d : Int} (ha : -99 ≤ a ∧ a ≤ 99) (hb : -99 ≤ b ∧ b ≤ 99) (h1 : -99 ≤ a - c ∧ a - c ≤ 99) (h2 : -99 ≤ b - d ∧ b - d ≤ 99) : dNum a b c d ≤ 19602 * dDen a b c d := by
  have s1 := sq_99 ha
  have s2 := sq_99 hb
  have s3 := sq_99 h1
  have s4 := sq_99 h2
  unfold dNum dDen
  split
  · omega
  · split
    · omega
    · have e1 : (((dCross a b c d).natAbs * (dCross a b c d).natAbs : Nat) : Int) + dAlong a b c d * dAlong a b c d = (((a.natAbs * a.natAbs + b.natAbs * b.natAbs) * (dWhole c d).natAbs : Nat) : Int) := by
        rw [sqI, Int.natCast_mul, Int.natCast_add, sqI, sqI, Int.natAbs_of_nonneg (dWhole_0 c d)]
        unfold dCross dAlong dWhole
        grind
      have e2 : (0 : Int) ≤ dAlong a b c d * dAlong a b c d := by rw [← sqI]; omega
      have e3 : (a.natAbs * a.natAbs + b.natAbs * b.natAbs) * (dWhole c d).natAbs ≤ 19602 * (dWhole c d).natAbs := Nat.mul_le_mul_right _ (by omega)
      omega
theorem num_le {K : Nat} {s : Nat → Nat} (I : Inv K s) (h0 : 0 < s 1) : numS s (s 3) (s 4) ≤ 19602 * denS s (s 3) (s 4) := by
  obtain ⟨l1, l2, l3, l4, l5⟩ := legOk_of I h0
  have ha := l5 _ l3
  have hb := l5 _ l4
  obtain ⟨t1, t2, t3, t4, t5, t6, t7⟩ := I.t h0
  exact dNum_le (by omega) (by omega) (by omega) (by omega)
def fcC (s : Nat → Nat) (x y : Nat) : Nat := if reachS s x y = true then 116 else if farS s x y (s 8) = true then 97 else 113
/-- a line: its signs, its length -/
def pS (L : (Nat → Nat) × Nat) (v : Nat) : (Nat → Nat) × Nat := (updN L.1 L.2 v, L.2 + 1)
def nS (L : (Nat → Nat) × Nat) (v : Nat) : (Nat → Nat) × Nat := if v < 10 then pS L (48 + v) else pS (pS L (48 + v / 10)) (48 + v % 10)
def stepR (s : Nat → Nat) (i : Nat) (L : (Nat → Nat) × Nat) : (Nat → Nat) × Nat :=
  if 0 < i ∧ i + 1 < s 1 then pS (nS (if i = s 2 then pS (if 0 < i then pS L 32 else L) 42 else (if 0 < i then pS L 32 else L)) (s (192 + i))) (turnC s i)
  else nS (if i = s 2 then pS (if 0 < i then pS L 32 else L) 42 else (if 0 < i then pS L 32 else L)) (s (192 + i))
def routeL (s lf : Nat → Nat) : Nat → (Nat → Nat) × Nat
  | 0 => (lf, 0)
  | k + 1 => stepR s k (routeL s lf k)
def stepT (s : Nat → Nat) (i j : Nat) (L : (Nat → Nat) × Nat) : (Nat → Nat) × Nat := if 0 < wS s (i * 12 + j) then nS (pS (nS (pS L 45) j) 61) (wS s (i * 12 + j)) else L
def trailL (s lf : Nat → Nat) (i : Nat) : Nat → (Nat → Nat) × Nat
  | 0 => (lf, 0)
  | k + 1 => stepT s i k (trailL s lf i k)
theorem nS_len (L : (Nat → Nat) × Nat) (v : Nat) : L.2 ≤ (nS L v).2 ∧ (nS L v).2 ≤ L.2 + 2 := by
  unfold nS; split <;> simp only [pS] <;> omega
theorem stepR_len (s : Nat → Nat) (i : Nat) (L : (Nat → Nat) × Nat) : (stepR s i L).2 ≤ L.2 + 5 := by
  unfold stepR
  have h1 := nS_len (if i = s 2 then pS (if 0 < i then pS L 32 else L) 42 else (if 0 < i then pS L 32 else L)) (s (192 + i))
  have h2 : (if i = s 2 then pS (if 0 < i then pS L 32 else L) 42 else (if 0 < i then pS L 32 else L)).2 ≤ L.2 + 2 := by
    split <;> split <;> (try simp only [pS]) <;> omega
  split
  · show (nS _ _).2 + 1 ≤ _; omega
  · omega
theorem routeL_len (s lf : Nat → Nat) : ∀ k, (routeL s lf k).2 ≤ 5 * k
  | 0 => Nat.le_refl _
  | k + 1 => by have := routeL_len s lf k; have := stepR_len s k (routeL s lf k); show (stepR s k _).2 ≤ _; omega
theorem stepT_len (s : Nat → Nat) (i j : Nat) (L : (Nat → Nat) × Nat) : (stepT s i j L).2 ≤ L.2 + 6 := by
  unfold stepT
  split
  · have h1 := nS_len (pS L 45) j
    have h2 := nS_len (pS (nS (pS L 45) j) 61) (wS s (i * 12 + j))
    have h3 : (pS L 45).2 = L.2 + 1 := rfl
    have h4 : (pS (nS (pS L 45) j) 61).2 = (nS (pS L 45) j).2 + 1 := rfl
    omega
  · omega
theorem trailL_len (s lf : Nat → Nat) (i : Nat) : ∀ k, (trailL s lf i k).2 ≤ 6 * k
  | 0 => Nat.le_refl _
  | k + 1 => by have := trailL_len s lf i k; have := stepT_len s i k (trailL s lf i k); show (stepT s i k _).2 ≤ _; omega
/-- two lines that read alike -/
def Lik (L M : (Nat → Nat) × Nat) : Prop := L.2 = M.2 ∧ ∀ i, i < L.2 → L.1 i = M.1 i
theorem Lik.p {L M : (Nat → Nat) × Nat} (h : Lik L M) (v : Nat) : Lik (pS L v) (pS M v) := by
  refine ⟨by show L.2 + 1 = M.2 + 1; rw [h.1], fun i hi => ?_⟩
  have hi : i < L.2 + 1 := hi
  show updN L.1 L.2 v i = updN M.1 M.2 v i
  rw [← h.1]
  by_cases e : i = L.2
  · rw [e, updN_s, updN_s]
  · rw [updN_n e, updN_n e]; exact h.2 i (by omega)
theorem Lik.n {L M : (Nat → Nat) × Nat} (h : Lik L M) (v : Nat) : Lik (nS L v) (nS M v) := by
  unfold nS
  split
  · exact h.p _
  · exact (h.p _).p _
theorem Lik.r {s : Nat → Nat} {L M : (Nat → Nat) × Nat} (h : Lik L M) (i : Nat) : Lik (stepR s i L) (stepR s i M) := by
  have h1 : Lik (if 0 < i then pS L 32 else L) (if 0 < i then pS M 32 else M) := by
    split
    · exact h.p _
    · exact h
  have h2 : Lik (if i = s 2 then pS (if 0 < i then pS L 32 else L) 42 else (if 0 < i then pS L 32 else L)) (if i = s 2 then pS (if 0 < i then pS M 32 else M) 42 else (if 0 < i then pS M 32 else M)) := by
    by_cases e : i = s 2
    · rw [if_pos e, if_pos e]; exact h1.p _
    · rw [if_neg e, if_neg e]; exact h1
  unfold stepR
  by_cases e : 0 < i ∧ i + 1 < s 1
  · rw [if_pos e, if_pos e]; exact (h2.n _).p _
  · rw [if_neg e, if_neg e]; exact h2.n _
theorem routeL_lik (s f g : Nat → Nat) : ∀ k, Lik (routeL s f k) (routeL s g k)
  | 0 => ⟨rfl, fun i hi => absurd hi (Nat.not_lt_zero _)⟩
  | k + 1 => (routeL_lik s f g k).r k
theorem trailL_lik (s f g : Nat → Nat) (i : Nat) : ∀ k, Lik (trailL s f i k) (trailL s g i k)
  | 0 => ⟨rfl, fun i hi => absurd hi (Nat.not_lt_zero _)⟩
  | k + 1 => by
    have h := trailL_lik s f g i k
    show Lik (stepT s i k _) (stepT s i k _)
    unfold stepT
    split
    · exact (((h.p _).n _).p _).n _
    · exact h
theorem turnC_lt (s : Nat → Nat) (i : Nat) : turnC s i < 65536 := by
  unfold turnC
  repeat' split
  all_goals decide
def ar1 (V : List Nat) (j : Nat) : Int32 := nI (V.getD j 0)
noncomputable def runS : List (Nat × List Nat) → (Nat → Nat) → Nat → Option Nat × (Nat → Nat)
  | [], s, _ => (none, s)
  | (K, V) :: r, s, i => if opT s K (ar1 V 0) (ar1 V 1) (ar1 V 2) = 0 then runS r (opN s K (ar1 V 0) (ar1 V 1) (ar1 V 2)) (i + 1) else (some i, s)
theorem runS_drop {L : List (Nat × List Nat)} {i K : Nat} {V : List Nat} {s : Nat → Nat} (h : L[i]? = some (K, V)) (j : Nat) : runS (L.drop i) s j = if opT s K (ar1 V 0) (ar1 V 1) (ar1 V 2) = 0 then runS (L.drop (i + 1)) (opN s K (ar1 V 0) (ar1 V 1) (ar1 V 2)) (j + 1) else (some j, s) := by
  have hl : i < L.length := (List.getElem?_eq_some_iff.mp h).1
  have he : L[i] = (K, V) := (List.getElem?_eq_some_iff.mp h).2
  rw [List.drop_eq_getElem_cons hl, he]
  rfl
