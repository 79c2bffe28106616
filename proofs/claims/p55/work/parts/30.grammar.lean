/-! Programs: the grammar, and the constants' texts -/
/-- the sign at a place, 70000 behind the end -/
def sg (tx : Nat → Nat) (tp p : Nat) : Nat := if p < tp then tx p else 70000
def dgt (g : Nat → Nat) (p : Nat) : Bool := decide (48 ≤ g p ∧ g p ≤ 57)
/-- how many digits, at most m; their number -/
def nd (g : Nat → Nat) : Nat → Nat → Nat
  | 0, _ => 0
  | m + 1, p => if dgt g p = true then nd g m (p + 1) + 1 else 0
def nv (g : Nat → Nat) : Nat → Nat → Nat → Nat
  | 0, _, a => a
  | m + 1, p, a => if dgt g p = true then nv g m (p + 1) (10 * a + (g p - 48)) else a
/-- one piece of a pattern: where it ends, what it is worth -/
def itm (g : Nat → Nat) (p c : Nat) : Option (Nat × List Nat) :=
  if c = 78 then (if nd g 3 p = 0 then none else some (p + nd g 3 p, [nv g 3 p 0]))
  else if c = 68 then (if nd g 1 p = 0 then none else some (p + nd g 1 p, [nv g 1 p 0]))
  else if c = 77 then (if g p = 101 then some (p + 1, [0]) else if g p = 110 then some (p + 1, [1]) else if g p = 102 then some (p + 1, [2]) else none)
  else if g p = c then some (p + 1, []) else none
def its (g : Nat → Nat) : List Nat → Nat → List Nat → Bool × Nat × List Nat
  | [], p, vs => (true, p, vs)
  | c :: r, p, vs => match itm g p c with
    | none => (false, p, vs)
    | some q => its g r q.1 (vs ++ q.2)
/-- how far a word goes -/
def cl (g : Nat → Nat) : List Nat → Nat → Nat
  | [], _ => 0
  | c :: r, p => if g p = c then cl g r (p + 1) + 1 else 0
def phd (c : Nat) : Prop := c = 78 ∨ c = 68 ∨ c = 77
theorem itm_sign {g : Nat → Nat} {p c : Nat} (h : ¬ phd c) : itm g p c = if g p = c then some (p + 1, []) else none := by
  unfold phd at h
  unfold itm
  rw [if_neg (by omega), if_neg (by omega), if_neg (by omega)]
theorem cl_le (g : Nat → Nat) : ∀ (w : List Nat) (p : Nat), cl g w p ≤ w.length
  | [], _ => Nat.le_refl _
  | c :: r, p => by
    unfold cl
    have := cl_le g r (p + 1)
    split <;> simp only [List.length_cons] <;> omega
theorem its_word (g : Nat → Nat) : ∀ (w r : List Nat) (p : Nat) (vs : List Nat), (∀ c, c ∈ w → ¬ phd c) → its g (w ++ r) p vs = if cl g w p = w.length then its g r (p + w.length) vs else (false, p + cl g w p, vs)
  | [], r, p, vs, _ => (if_pos (rfl : cl g [] p = ([] : List Nat).length)).symm
  | c :: w, r, p, vs, h => by
    have ih := its_word g w r (p + 1) (vs ++ []) (fun d hd => h d (List.mem_cons_of_mem _ hd))
    show its g (c :: (w ++ r)) p vs = _
    unfold its
    rw [itm_sign (h c List.mem_cons_self)]
    unfold cl
    by_cases e : g p = c
    · rw [if_pos e, if_pos e]
      show its g (w ++ r) (p + 1) (vs ++ []) = _
      rw [ih, List.append_nil]
      by_cases e2 : cl g w (p + 1) = w.length
      · rw [if_pos e2, if_pos (by rw [e2]; rfl)]
        rw [show p + (c :: w).length = p + 1 + w.length by simp only [List.length_cons]; omega]
        cases r <;> rfl
      · rw [if_neg e2, if_neg (by simp only [List.length_cons]; omega)]
        congr 2
        omega
    · rw [if_neg e, if_neg e, if_neg (by simp only [List.length_cons]; omega)]
      rfl

def opn (k : Nat) : List Nat := if k = 0 then [112, 111, 105, 110, 116, 32] else if k = 1 then [116, 114, 97, 105, 108, 32] else if k = 2 then [99, 117, 116, 32] else if k = 3 then [116, 111, 117, 114, 32] else if k = 4 then [109, 111, 100, 101, 32] else if k = 5 then [108, 105, 109, 105, 116, 32] else if k = 6 then [99, 104, 97, 114, 103, 101, 32] else if k = 7 then [109, 111, 118, 101, 32] else [115, 116, 111, 112]
def tal (k : Nat) : List Nat := if k = 0 then [78, 44, 78, 44, 68] else if k = 1 then [78, 45, 78, 61, 78] else if k = 2 then [78, 45, 78] else if k = 3 then [78, 62, 78] else if k = 4 then [77] else if k = 5 then [78] else if k = 6 then [78] else if k = 7 then [78, 44, 78] else []
/-- a command at p: whether, where it ends, its kind, its numbers -/
def cmdS (g : Nat → Nat) (p : Nat) : (Bool × Nat × List Nat) × Nat :=
  if g p = 112 then (its g ([111, 105, 110, 116, 32] ++ tal 0) (p + 1) [], 0)
  else if g p = 116 then (if g (p + 1) = 114 then (its g ([97, 105, 108, 32] ++ tal 1) (p + 2) [], 1) else (its g ([111, 117, 114, 32] ++ tal 3) (p + 1) [], 3))
  else if g p = 99 then (if g (p + 1) = 117 then (its g ([116, 32] ++ tal 2) (p + 2) [], 2) else (its g ([104, 97, 114, 103, 101, 32] ++ tal 6) (p + 1) [], 6))
  else if g p = 109 then (if g (p + 1) = 111 then (if g (p + 2) = 100 then (its g ([101, 32] ++ tal 4) (p + 3) [], 4) else (its g ([118, 101, 32] ++ tal 7) (p + 2) [], 7)) else ((false, p + 1, []), 9))
  else if g p = 108 then (its g ([105, 109, 105, 116, 32] ++ tal 5) (p + 1) [], 5)
  else if g p = 115 then (its g ([116, 111, 112] ++ tal 8) (p + 1) [], 8)
  else ((false, p, []), 9)
def mx (g : Nat → Nat) (p : Nat) : Nat → Nat
  | 0 => 0
  | k + 1 => if mx g p k < cl g (opn k) p then cl g (opn k) p else mx g p k
theorem opn_ph {k : Nat} (hk : k ≤ 8) : ∀ c, c ∈ opn k → ¬ phd c := by
  have h : ∀ k, k < 9 → ∀ c, c ∈ opn k → ¬ (c = 78 ∨ c = 68 ∨ c = 77) := by decide
  exact h k (by omega)
theorem cmd_full {g : Nat → Nat} {p k : Nat} (hk : k ≤ 8) (h : cl g (opn k) p = (opn k).length) : cmdS g p = (its g (tal k) (p + (opn k).length) [], k) := by
  rcases (show k = 0 ∨ k = 1 ∨ k = 2 ∨ k = 3 ∨ k = 4 ∨ k = 5 ∨ k = 6 ∨ k = 7 ∨ k = 8 by omega) with rfl | rfl | rfl | rfl | rfl | rfl | rfl | rfl | rfl
  · have h : cl g [112, 111, 105, 110, 116, 32] p = 6 := h
    unfold cl at h
    by_cases a0 : g (p) = 112
    case neg => rw [if_neg a0] at h; omega
    rw [if_pos a0] at h
    unfold cl at h
    by_cases a1 : g (p + 1) = 111
    case neg => rw [if_neg (show ¬ g (p + 1) = 111 from a1)] at h; omega
    rw [if_pos (show g (p + 1) = 111 from a1)] at h
    unfold cl at h
    by_cases a2 : g (p + 2) = 105
    case neg => rw [if_neg (show ¬ g (p + 1 + 1) = 105 from a2)] at h; omega
    rw [if_pos (show g (p + 1 + 1) = 105 from a2)] at h
    unfold cl at h
    by_cases a3 : g (p + 3) = 110
    case neg => rw [if_neg (show ¬ g (p + 1 + 1 + 1) = 110 from a3)] at h; omega
    rw [if_pos (show g (p + 1 + 1 + 1) = 110 from a3)] at h
    unfold cl at h
    by_cases a4 : g (p + 4) = 116
    case neg => rw [if_neg (show ¬ g (p + 1 + 1 + 1 + 1) = 116 from a4)] at h; omega
    rw [if_pos (show g (p + 1 + 1 + 1 + 1) = 116 from a4)] at h
    unfold cl at h
    by_cases a5 : g (p + 5) = 32
    case neg => rw [if_neg (show ¬ g (p + 1 + 1 + 1 + 1 + 1) = 32 from a5)] at h; omega
    rw [if_pos (show g (p + 1 + 1 + 1 + 1 + 1) = 32 from a5)] at h
    have hw : cl g [111, 105, 110, 116, 32] (p + 1) = ([111, 105, 110, 116, 32] : List Nat).length := by
      show _ = 5
      simp only [cl, show g (p + 1) = 111 from a1, show g (p + 1 + 1) = 105 from a2, show g (p + 1 + 1 + 1) = 110 from a3, show g (p + 1 + 1 + 1 + 1) = 116 from a4, show g (p + 1 + 1 + 1 + 1 + 1) = 32 from a5, if_true]
    have hi := its_word g [111, 105, 110, 116, 32] (tal 0) (p + 1) [] (by unfold phd; decide)
    rw [if_pos hw] at hi
    unfold cmdS
    rw [if_pos a0, hi]
    rfl
  · have h : cl g [116, 114, 97, 105, 108, 32] p = 6 := h
    unfold cl at h
    by_cases a0 : g (p) = 116
    case neg => rw [if_neg a0] at h; omega
    rw [if_pos a0] at h
    unfold cl at h
    by_cases a1 : g (p + 1) = 114
    case neg => rw [if_neg (show ¬ g (p + 1) = 114 from a1)] at h; omega
    rw [if_pos (show g (p + 1) = 114 from a1)] at h
    unfold cl at h
    by_cases a2 : g (p + 2) = 97
    case neg => rw [if_neg (show ¬ g (p + 1 + 1) = 97 from a2)] at h; omega
    rw [if_pos (show g (p + 1 + 1) = 97 from a2)] at h
    unfold cl at h
    by_cases a3 : g (p + 3) = 105
    case neg => rw [if_neg (show ¬ g (p + 1 + 1 + 1) = 105 from a3)] at h; omega
    rw [if_pos (show g (p + 1 + 1 + 1) = 105 from a3)] at h
    unfold cl at h
    by_cases a4 : g (p + 4) = 108
    case neg => rw [if_neg (show ¬ g (p + 1 + 1 + 1 + 1) = 108 from a4)] at h; omega
    rw [if_pos (show g (p + 1 + 1 + 1 + 1) = 108 from a4)] at h
    unfold cl at h
    by_cases a5 : g (p + 5) = 32
    case neg => rw [if_neg (show ¬ g (p + 1 + 1 + 1 + 1 + 1) = 32 from a5)] at h; omega
    rw [if_pos (show g (p + 1 + 1 + 1 + 1 + 1) = 32 from a5)] at h
    have hw : cl g [97, 105, 108, 32] (p + 2) = ([97, 105, 108, 32] : List Nat).length := by
      show _ = 4
      simp only [cl, show g (p + 2) = 97 from a2, show g (p + 2 + 1) = 105 from a3, show g (p + 2 + 1 + 1) = 108 from a4, show g (p + 2 + 1 + 1 + 1) = 32 from a5, if_true]
    have hi := its_word g [97, 105, 108, 32] (tal 1) (p + 2) [] (by unfold phd; decide)
    rw [if_pos hw] at hi
    unfold cmdS
    rw [if_neg (by omega), if_pos a0, if_pos a1, hi]
    rfl
  · have h : cl g [99, 117, 116, 32] p = 4 := h
    unfold cl at h
    by_cases a0 : g (p) = 99
    case neg => rw [if_neg a0] at h; omega
    rw [if_pos a0] at h
    unfold cl at h
    by_cases a1 : g (p + 1) = 117
    case neg => rw [if_neg (show ¬ g (p + 1) = 117 from a1)] at h; omega
    rw [if_pos (show g (p + 1) = 117 from a1)] at h
    unfold cl at h
    by_cases a2 : g (p + 2) = 116
    case neg => rw [if_neg (show ¬ g (p + 1 + 1) = 116 from a2)] at h; omega
    rw [if_pos (show g (p + 1 + 1) = 116 from a2)] at h
    unfold cl at h
    by_cases a3 : g (p + 3) = 32
    case neg => rw [if_neg (show ¬ g (p + 1 + 1 + 1) = 32 from a3)] at h; omega
    rw [if_pos (show g (p + 1 + 1 + 1) = 32 from a3)] at h
    have hw : cl g [116, 32] (p + 2) = ([116, 32] : List Nat).length := by
      show _ = 2
      simp only [cl, show g (p + 2) = 116 from a2, show g (p + 2 + 1) = 32 from a3, if_true]
    have hi := its_word g [116, 32] (tal 2) (p + 2) [] (by unfold phd; decide)
    rw [if_pos hw] at hi
    unfold cmdS
    rw [if_neg (by omega), if_neg (by omega), if_pos a0, if_pos a1, hi]
    rfl
  · have h : cl g [116, 111, 117, 114, 32] p = 5 := h
    unfold cl at h
    by_cases a0 : g (p) = 116
    case neg => rw [if_neg a0] at h; omega
    rw [if_pos a0] at h
    unfold cl at h
    by_cases a1 : g (p + 1) = 111
    case neg => rw [if_neg (show ¬ g (p + 1) = 111 from a1)] at h; omega
    rw [if_pos (show g (p + 1) = 111 from a1)] at h
    unfold cl at h
    by_cases a2 : g (p + 2) = 117
    case neg => rw [if_neg (show ¬ g (p + 1 + 1) = 117 from a2)] at h; omega
    rw [if_pos (show g (p + 1 + 1) = 117 from a2)] at h
    unfold cl at h
    by_cases a3 : g (p + 3) = 114
    case neg => rw [if_neg (show ¬ g (p + 1 + 1 + 1) = 114 from a3)] at h; omega
    rw [if_pos (show g (p + 1 + 1 + 1) = 114 from a3)] at h
    unfold cl at h
    by_cases a4 : g (p + 4) = 32
    case neg => rw [if_neg (show ¬ g (p + 1 + 1 + 1 + 1) = 32 from a4)] at h; omega
    rw [if_pos (show g (p + 1 + 1 + 1 + 1) = 32 from a4)] at h
    have hw : cl g [111, 117, 114, 32] (p + 1) = ([111, 117, 114, 32] : List Nat).length := by
      show _ = 4
      simp only [cl, show g (p + 1) = 111 from a1, show g (p + 1 + 1) = 117 from a2, show g (p + 1 + 1 + 1) = 114 from a3, show g (p + 1 + 1 + 1 + 1) = 32 from a4, if_true]
    have hi := its_word g [111, 117, 114, 32] (tal 3) (p + 1) [] (by unfold phd; decide)
    rw [if_pos hw] at hi
    unfold cmdS
    rw [if_neg (by omega), if_pos a0, if_neg (by omega), hi]
    rfl
  · have h : cl g [109, 111, 100, 101, 32] p = 5 := h
    unfold cl at h
    by_cases a0 : g (p) = 109
    case neg => rw [if_neg a0] at h; omega
    rw [if_pos a0] at h
    unfold cl at h
    by_cases a1 : g (p + 1) = 111
    case neg => rw [if_neg (show ¬ g (p + 1) = 111 from a1)] at h; omega
    rw [if_pos (show g (p + 1) = 111 from a1)] at h
    unfold cl at h
    by_cases a2 : g (p + 2) = 100
    case neg => rw [if_neg (show ¬ g (p + 1 + 1) = 100 from a2)] at h; omega
    rw [if_pos (show g (p + 1 + 1) = 100 from a2)] at h
    unfold cl at h
    by_cases a3 : g (p + 3) = 101
    case neg => rw [if_neg (show ¬ g (p + 1 + 1 + 1) = 101 from a3)] at h; omega
    rw [if_pos (show g (p + 1 + 1 + 1) = 101 from a3)] at h
    unfold cl at h
    by_cases a4 : g (p + 4) = 32
    case neg => rw [if_neg (show ¬ g (p + 1 + 1 + 1 + 1) = 32 from a4)] at h; omega
    rw [if_pos (show g (p + 1 + 1 + 1 + 1) = 32 from a4)] at h
    have hw : cl g [101, 32] (p + 3) = ([101, 32] : List Nat).length := by
      show _ = 2
      simp only [cl, show g (p + 3) = 101 from a3, show g (p + 3 + 1) = 32 from a4, if_true]
    have hi := its_word g [101, 32] (tal 4) (p + 3) [] (by unfold phd; decide)
    rw [if_pos hw] at hi
    unfold cmdS
    rw [if_neg (by omega), if_neg (by omega), if_neg (by omega), if_pos a0, if_pos a1, if_pos a2, hi]
    rfl
  · have h : cl g [108, 105, 109, 105, 116, 32] p = 6 := h
    unfold cl at h
    by_cases a0 : g (p) = 108
    case neg => rw [if_neg a0] at h; omega
    rw [if_pos a0] at h
    unfold cl at h
    by_cases a1 : g (p + 1) = 105
    case neg => rw [if_neg (show ¬ g (p + 1) = 105 from a1)] at h; omega
    rw [if_pos (show g (p + 1) = 105 from a1)] at h
    unfold cl at h
    by_cases a2 : g (p + 2) = 109
    case neg => rw [if_neg (show ¬ g (p + 1 + 1) = 109 from a2)] at h; omega
    rw [if_pos (show g (p + 1 + 1) = 109 from a2)] at h
    unfold cl at h
    by_cases a3 : g (p + 3) = 105
    case neg => rw [if_neg (show ¬ g (p + 1 + 1 + 1) = 105 from a3)] at h; omega
    rw [if_pos (show g (p + 1 + 1 + 1) = 105 from a3)] at h
    unfold cl at h
    by_cases a4 : g (p + 4) = 116
    case neg => rw [if_neg (show ¬ g (p + 1 + 1 + 1 + 1) = 116 from a4)] at h; omega
    rw [if_pos (show g (p + 1 + 1 + 1 + 1) = 116 from a4)] at h
    unfold cl at h
    by_cases a5 : g (p + 5) = 32
    case neg => rw [if_neg (show ¬ g (p + 1 + 1 + 1 + 1 + 1) = 32 from a5)] at h; omega
    rw [if_pos (show g (p + 1 + 1 + 1 + 1 + 1) = 32 from a5)] at h
    have hw : cl g [105, 109, 105, 116, 32] (p + 1) = ([105, 109, 105, 116, 32] : List Nat).length := by
      show _ = 5
      simp only [cl, show g (p + 1) = 105 from a1, show g (p + 1 + 1) = 109 from a2, show g (p + 1 + 1 + 1) = 105 from a3, show g (p + 1 + 1 + 1 + 1) = 116 from a4, show g (p + 1 + 1 + 1 + 1 + 1) = 32 from a5, if_true]
    have hi := its_word g [105, 109, 105, 116, 32] (tal 5) (p + 1) [] (by unfold phd; decide)
    rw [if_pos hw] at hi
    unfold cmdS
    rw [if_neg (by omega), if_neg (by omega), if_neg (by omega), if_neg (by omega), if_pos a0, hi]
    rfl
  · have h : cl g [99, 104, 97, 114, 103, 101, 32] p = 7 := h
    unfold cl at h
    by_cases a0 : g (p) = 99
    case neg => rw [if_neg a0] at h; omega
    rw [if_pos a0] at h
    unfold cl at h
    by_cases a1 : g (p + 1) = 104
    case neg => rw [if_neg (show ¬ g (p + 1) = 104 from a1)] at h; omega
    rw [if_pos (show g (p + 1) = 104 from a1)] at h
    unfold cl at h
    by_cases a2 : g (p + 2) = 97
    case neg => rw [if_neg (show ¬ g (p + 1 + 1) = 97 from a2)] at h; omega
    rw [if_pos (show g (p + 1 + 1) = 97 from a2)] at h
    unfold cl at h
    by_cases a3 : g (p + 3) = 114
    case neg => rw [if_neg (show ¬ g (p + 1 + 1 + 1) = 114 from a3)] at h; omega
    rw [if_pos (show g (p + 1 + 1 + 1) = 114 from a3)] at h
    unfold cl at h
    by_cases a4 : g (p + 4) = 103
    case neg => rw [if_neg (show ¬ g (p + 1 + 1 + 1 + 1) = 103 from a4)] at h; omega
    rw [if_pos (show g (p + 1 + 1 + 1 + 1) = 103 from a4)] at h
    unfold cl at h
    by_cases a5 : g (p + 5) = 101
    case neg => rw [if_neg (show ¬ g (p + 1 + 1 + 1 + 1 + 1) = 101 from a5)] at h; omega
    rw [if_pos (show g (p + 1 + 1 + 1 + 1 + 1) = 101 from a5)] at h
    unfold cl at h
    by_cases a6 : g (p + 6) = 32
    case neg => rw [if_neg (show ¬ g (p + 1 + 1 + 1 + 1 + 1 + 1) = 32 from a6)] at h; omega
    rw [if_pos (show g (p + 1 + 1 + 1 + 1 + 1 + 1) = 32 from a6)] at h
    have hw : cl g [104, 97, 114, 103, 101, 32] (p + 1) = ([104, 97, 114, 103, 101, 32] : List Nat).length := by
      show _ = 6
      simp only [cl, show g (p + 1) = 104 from a1, show g (p + 1 + 1) = 97 from a2, show g (p + 1 + 1 + 1) = 114 from a3, show g (p + 1 + 1 + 1 + 1) = 103 from a4, show g (p + 1 + 1 + 1 + 1 + 1) = 101 from a5, show g (p + 1 + 1 + 1 + 1 + 1 + 1) = 32 from a6, if_true]
    have hi := its_word g [104, 97, 114, 103, 101, 32] (tal 6) (p + 1) [] (by unfold phd; decide)
    rw [if_pos hw] at hi
    unfold cmdS
    rw [if_neg (by omega), if_neg (by omega), if_pos a0, if_neg (by omega), hi]
    rfl
  · have h : cl g [109, 111, 118, 101, 32] p = 5 := h
    unfold cl at h
    by_cases a0 : g (p) = 109
    case neg => rw [if_neg a0] at h; omega
    rw [if_pos a0] at h
    unfold cl at h
    by_cases a1 : g (p + 1) = 111
    case neg => rw [if_neg (show ¬ g (p + 1) = 111 from a1)] at h; omega
    rw [if_pos (show g (p + 1) = 111 from a1)] at h
    unfold cl at h
    by_cases a2 : g (p + 2) = 118
    case neg => rw [if_neg (show ¬ g (p + 1 + 1) = 118 from a2)] at h; omega
    rw [if_pos (show g (p + 1 + 1) = 118 from a2)] at h
    unfold cl at h
    by_cases a3 : g (p + 3) = 101
    case neg => rw [if_neg (show ¬ g (p + 1 + 1 + 1) = 101 from a3)] at h; omega
    rw [if_pos (show g (p + 1 + 1 + 1) = 101 from a3)] at h
    unfold cl at h
    by_cases a4 : g (p + 4) = 32
    case neg => rw [if_neg (show ¬ g (p + 1 + 1 + 1 + 1) = 32 from a4)] at h; omega
    rw [if_pos (show g (p + 1 + 1 + 1 + 1) = 32 from a4)] at h
    have hw : cl g [118, 101, 32] (p + 2) = ([118, 101, 32] : List Nat).length := by
      show _ = 3
      simp only [cl, show g (p + 2) = 118 from a2, show g (p + 2 + 1) = 101 from a3, show g (p + 2 + 1 + 1) = 32 from a4, if_true]
    have hi := its_word g [118, 101, 32] (tal 7) (p + 2) [] (by unfold phd; decide)
    rw [if_pos hw] at hi
    unfold cmdS
    rw [if_neg (by omega), if_neg (by omega), if_neg (by omega), if_pos a0, if_pos a1, if_neg (by omega), hi]
    rfl
  · have h : cl g [115, 116, 111, 112] p = 4 := h
    unfold cl at h
    by_cases a0 : g (p) = 115
    case neg => rw [if_neg a0] at h; omega
    rw [if_pos a0] at h
    unfold cl at h
    by_cases a1 : g (p + 1) = 116
    case neg => rw [if_neg (show ¬ g (p + 1) = 116 from a1)] at h; omega
    rw [if_pos (show g (p + 1) = 116 from a1)] at h
    unfold cl at h
    by_cases a2 : g (p + 2) = 111
    case neg => rw [if_neg (show ¬ g (p + 1 + 1) = 111 from a2)] at h; omega
    rw [if_pos (show g (p + 1 + 1) = 111 from a2)] at h
    unfold cl at h
    by_cases a3 : g (p + 3) = 112
    case neg => rw [if_neg (show ¬ g (p + 1 + 1 + 1) = 112 from a3)] at h; omega
    rw [if_pos (show g (p + 1 + 1 + 1) = 112 from a3)] at h
    have hw : cl g [116, 111, 112] (p + 1) = ([116, 111, 112] : List Nat).length := by
      show _ = 3
      simp only [cl, show g (p + 1) = 116 from a1, show g (p + 1 + 1) = 111 from a2, show g (p + 1 + 1 + 1) = 112 from a3, if_true]
    have hi := its_word g [116, 111, 112] (tal 8) (p + 1) [] (by unfold phd; decide)
    rw [if_pos hw] at hi
    unfold cmdS
    rw [if_neg (by omega), if_neg (by omega), if_neg (by omega), if_neg (by omega), if_neg (by omega), if_pos a0, hi]
    rfl
theorem mx_ub (g : Nat → Nat) (p : Nat) : ∀ n k, k < n → cl g (opn k) p ≤ mx g p n
  | 0, k, h => by omega
  | n + 1, k, h => by
    unfold mx
    rcases Nat.lt_or_ge k n with q | q
    · have := mx_ub g p n k q
      split <;> omega
    · have : k = n := by omega
      subst this
      split <;> omega
theorem mx_at (g : Nat → Nat) (p : Nat) : ∀ n, mx g p n = 0 ∨ ∃ k, k < n ∧ cl g (opn k) p = mx g p n
  | 0 => .inl rfl
  | n + 1 => by
    unfold mx
    split
    · exact .inr ⟨n, by omega, rfl⟩
    · rcases mx_at g p n with h | ⟨k, hk, h⟩
      · exact .inl h
      · exact .inr ⟨k, by omega, h⟩
theorem mx_eq {g : Nat → Nat} {p n M k : Nat} (h1 : ∀ k, k < n → cl g (opn k) p ≤ M) (hk : k < n) (h2 : cl g (opn k) p = M) : mx g p n = M := by
  have h3 := mx_ub g p n k hk
  rcases mx_at g p n with h | ⟨j, hj, h⟩
  · omega
  · have := h1 j hj; omega
theorem cl_no {g : Nat → Nat} {c p : Nat} {r : List Nat} (h : ¬ g p = c) : cl g (c :: r) p = 0 := by unfold cl; rw [if_neg h]
theorem cl_yes {g : Nat → Nat} {c p : Nat} {r : List Nat} (h : g p = c) : cl g (c :: r) p = cl g r (p + 1) + 1 := by
  show (if g p = c then cl g r (p + 1) + 1 else 0) = _
  rw [if_pos h]
theorem its_stop {g : Nat → Nat} {w r : List Nat} {p : Nat} {vs : List Nat} (hw : ∀ c, c ∈ w → ¬ phd c) (h : cl g w p ≠ w.length) : its g (w ++ r) p vs = (false, p + cl g w p, vs) := by
  rw [its_word g w r p vs hw, if_neg h]
theorem cmd_none {g : Nat → Nat} {p : Nat} (h : ∀ k, k < 9 → cl g (opn k) p ≠ (opn k).length) : ∃ K, cmdS g p = ((false, p + mx g p 9, []), K) := by
  have f0 : cl g (opn 0) p ≠ 6 := h 0 (by omega)
  have f1 : cl g (opn 1) p ≠ 6 := h 1 (by omega)
  have f2 : cl g (opn 2) p ≠ 4 := h 2 (by omega)
  have f3 : cl g (opn 3) p ≠ 5 := h 3 (by omega)
  have f4 : cl g (opn 4) p ≠ 5 := h 4 (by omega)
  have f5 : cl g (opn 5) p ≠ 6 := h 5 (by omega)
  have f6 : cl g (opn 6) p ≠ 7 := h 6 (by omega)
  have f7 : cl g (opn 7) p ≠ 5 := h 7 (by omega)
  have f8 : cl g (opn 8) p ≠ 4 := h 8 (by omega)
  by_cases a0 : g p = 112
  · skip
    have c1 : cl g (opn 1) p = 0 := cl_no (by omega)
    have c2 : cl g (opn 2) p = 0 := cl_no (by omega)
    have c3 : cl g (opn 3) p = 0 := cl_no (by omega)
    have c4 : cl g (opn 4) p = 0 := cl_no (by omega)
    have c5 : cl g (opn 5) p = 0 := cl_no (by omega)
    have c6 : cl g (opn 6) p = 0 := cl_no (by omega)
    have c7 : cl g (opn 7) p = 0 := cl_no (by omega)
    have c8 : cl g (opn 8) p = 0 := cl_no (by omega)
    have c0 : cl g (opn 0) p = cl g [111, 105, 110, 116, 32] (p + 1) + 1 := cl_yes a0
    have hm : mx g p 9 = cl g [111, 105, 110, 116, 32] (p + 1) + 1 := mx_eq (k := 0) (fun k hk => by
      rcases (show k = 0 ∨ k = 1 ∨ k = 2 ∨ k = 3 ∨ k = 4 ∨ k = 5 ∨ k = 6 ∨ k = 7 ∨ k = 8 by omega) with rfl | rfl | rfl | rfl | rfl | rfl | rfl | rfl | rfl <;> omega) (by omega) (by omega)
    have hs := its_stop (g := g) (w := [111, 105, 110, 116, 32]) (r := tal 0) (p := p + 1) (vs := []) (by unfold phd; decide) (show _ ≠ 5 by omega)
    exact ⟨0, by unfold cmdS; rw [if_pos a0, hs, hm]; congr 3; omega⟩
  by_cases a1 : g p = 116
  · by_cases b1 : g (p + 1) = 114
    · skip
      have c0 : cl g (opn 0) p = 0 := cl_no (by omega)
      have c2 : cl g (opn 2) p = 0 := cl_no (by omega)
      have c4 : cl g (opn 4) p = 0 := cl_no (by omega)
      have c5 : cl g (opn 5) p = 0 := cl_no (by omega)
      have c6 : cl g (opn 6) p = 0 := cl_no (by omega)
      have c7 : cl g (opn 7) p = 0 := cl_no (by omega)
      have c8 : cl g (opn 8) p = 0 := cl_no (by omega)
      have c1 : cl g (opn 1) p = cl g [97, 105, 108, 32] (p + 2) + 1 + 1 := (cl_yes a1).trans (congrArg (· + 1) (cl_yes b1))
      have c3 : cl g (opn 3) p = 0 + 1 := (cl_yes a1).trans (congrArg (· + 1) (cl_no (by omega)))
      have hm : mx g p 9 = cl g [97, 105, 108, 32] (p + 2) + 1 + 1 := mx_eq (k := 1) (fun k hk => by
        rcases (show k = 0 ∨ k = 1 ∨ k = 2 ∨ k = 3 ∨ k = 4 ∨ k = 5 ∨ k = 6 ∨ k = 7 ∨ k = 8 by omega) with rfl | rfl | rfl | rfl | rfl | rfl | rfl | rfl | rfl <;> omega) (by omega) (by omega)
      have hs := its_stop (g := g) (w := [97, 105, 108, 32]) (r := tal 1) (p := p + 2) (vs := []) (by unfold phd; decide) (show _ ≠ 4 by omega)
      exact ⟨1, by unfold cmdS; rw [if_neg a0, if_pos a1, if_pos b1, hs, hm]; congr 3; omega⟩
    · skip
      have c0 : cl g (opn 0) p = 0 := cl_no (by omega)
      have c2 : cl g (opn 2) p = 0 := cl_no (by omega)
      have c4 : cl g (opn 4) p = 0 := cl_no (by omega)
      have c5 : cl g (opn 5) p = 0 := cl_no (by omega)
      have c6 : cl g (opn 6) p = 0 := cl_no (by omega)
      have c7 : cl g (opn 7) p = 0 := cl_no (by omega)
      have c8 : cl g (opn 8) p = 0 := cl_no (by omega)
      have c3 : cl g (opn 3) p = cl g [111, 117, 114, 32] (p + 1) + 1 := cl_yes a1
      have c1 : cl g (opn 1) p = 0 + 1 := (cl_yes a1).trans (congrArg (· + 1) (cl_no b1))
      have hm : mx g p 9 = cl g [111, 117, 114, 32] (p + 1) + 1 := mx_eq (k := 3) (fun k hk => by
        rcases (show k = 0 ∨ k = 1 ∨ k = 2 ∨ k = 3 ∨ k = 4 ∨ k = 5 ∨ k = 6 ∨ k = 7 ∨ k = 8 by omega) with rfl | rfl | rfl | rfl | rfl | rfl | rfl | rfl | rfl <;> omega) (by omega) (by omega)
      have hs := its_stop (g := g) (w := [111, 117, 114, 32]) (r := tal 3) (p := p + 1) (vs := []) (by unfold phd; decide) (show _ ≠ 4 by omega)
      exact ⟨3, by unfold cmdS; rw [if_neg a0, if_pos a1, if_neg b1, hs, hm]; congr 3; omega⟩
  by_cases a2 : g p = 99
  · by_cases b1 : g (p + 1) = 117
    · skip
      have c0 : cl g (opn 0) p = 0 := cl_no (by omega)
      have c1 : cl g (opn 1) p = 0 := cl_no (by omega)
      have c3 : cl g (opn 3) p = 0 := cl_no (by omega)
      have c4 : cl g (opn 4) p = 0 := cl_no (by omega)
      have c5 : cl g (opn 5) p = 0 := cl_no (by omega)
      have c7 : cl g (opn 7) p = 0 := cl_no (by omega)
      have c8 : cl g (opn 8) p = 0 := cl_no (by omega)
      have c2 : cl g (opn 2) p = cl g [116, 32] (p + 2) + 1 + 1 := (cl_yes a2).trans (congrArg (· + 1) (cl_yes b1))
      have c6 : cl g (opn 6) p = 0 + 1 := (cl_yes a2).trans (congrArg (· + 1) (cl_no (by omega)))
      have hm : mx g p 9 = cl g [116, 32] (p + 2) + 1 + 1 := mx_eq (k := 2) (fun k hk => by
        rcases (show k = 0 ∨ k = 1 ∨ k = 2 ∨ k = 3 ∨ k = 4 ∨ k = 5 ∨ k = 6 ∨ k = 7 ∨ k = 8 by omega) with rfl | rfl | rfl | rfl | rfl | rfl | rfl | rfl | rfl <;> omega) (by omega) (by omega)
      have hs := its_stop (g := g) (w := [116, 32]) (r := tal 2) (p := p + 2) (vs := []) (by unfold phd; decide) (show _ ≠ 2 by omega)
      exact ⟨2, by unfold cmdS; rw [if_neg a0, if_neg a1, if_pos a2, if_pos b1, hs, hm]; congr 3; omega⟩
    · skip
      have c0 : cl g (opn 0) p = 0 := cl_no (by omega)
      have c1 : cl g (opn 1) p = 0 := cl_no (by omega)
      have c3 : cl g (opn 3) p = 0 := cl_no (by omega)
      have c4 : cl g (opn 4) p = 0 := cl_no (by omega)
      have c5 : cl g (opn 5) p = 0 := cl_no (by omega)
      have c7 : cl g (opn 7) p = 0 := cl_no (by omega)
      have c8 : cl g (opn 8) p = 0 := cl_no (by omega)
      have c6 : cl g (opn 6) p = cl g [104, 97, 114, 103, 101, 32] (p + 1) + 1 := cl_yes a2
      have c2 : cl g (opn 2) p = 0 + 1 := (cl_yes a2).trans (congrArg (· + 1) (cl_no b1))
      have hm : mx g p 9 = cl g [104, 97, 114, 103, 101, 32] (p + 1) + 1 := mx_eq (k := 6) (fun k hk => by
        rcases (show k = 0 ∨ k = 1 ∨ k = 2 ∨ k = 3 ∨ k = 4 ∨ k = 5 ∨ k = 6 ∨ k = 7 ∨ k = 8 by omega) with rfl | rfl | rfl | rfl | rfl | rfl | rfl | rfl | rfl <;> omega) (by omega) (by omega)
      have hs := its_stop (g := g) (w := [104, 97, 114, 103, 101, 32]) (r := tal 6) (p := p + 1) (vs := []) (by unfold phd; decide) (show _ ≠ 6 by omega)
      exact ⟨6, by unfold cmdS; rw [if_neg a0, if_neg a1, if_pos a2, if_neg b1, hs, hm]; congr 3; omega⟩
  by_cases a3 : g p = 109
  · by_cases b1 : g (p + 1) = 111
    · by_cases b2 : g (p + 2) = 100
      · skip
        have c0 : cl g (opn 0) p = 0 := cl_no (by omega)
        have c1 : cl g (opn 1) p = 0 := cl_no (by omega)
        have c2 : cl g (opn 2) p = 0 := cl_no (by omega)
        have c3 : cl g (opn 3) p = 0 := cl_no (by omega)
        have c5 : cl g (opn 5) p = 0 := cl_no (by omega)
        have c6 : cl g (opn 6) p = 0 := cl_no (by omega)
        have c8 : cl g (opn 8) p = 0 := cl_no (by omega)
        have c4 : cl g (opn 4) p = cl g [101, 32] (p + 3) + 1 + 1 + 1 := (cl_yes a3).trans (congrArg (· + 1) ((cl_yes b1).trans (congrArg (· + 1) (cl_yes b2))))
        have c7 : cl g (opn 7) p = 0 + 1 + 1 := (cl_yes a3).trans (congrArg (· + 1) ((cl_yes b1).trans (congrArg (· + 1) (cl_no (show ¬ g (p + 2) = 118 by omega)))))
        have hm : mx g p 9 = cl g [101, 32] (p + 3) + 1 + 1 + 1 := mx_eq (k := 4) (fun k hk => by
          rcases (show k = 0 ∨ k = 1 ∨ k = 2 ∨ k = 3 ∨ k = 4 ∨ k = 5 ∨ k = 6 ∨ k = 7 ∨ k = 8 by omega) with rfl | rfl | rfl | rfl | rfl | rfl | rfl | rfl | rfl <;> omega) (by omega) (by omega)
        have hs := its_stop (g := g) (w := [101, 32]) (r := tal 4) (p := p + 3) (vs := []) (by unfold phd; decide) (show _ ≠ 2 by omega)
        exact ⟨4, by unfold cmdS; rw [if_neg a0, if_neg a1, if_neg a2, if_pos a3, if_pos b1, if_pos b2, hs, hm]; congr 3; omega⟩
      · skip
        have c0 : cl g (opn 0) p = 0 := cl_no (by omega)
        have c1 : cl g (opn 1) p = 0 := cl_no (by omega)
        have c2 : cl g (opn 2) p = 0 := cl_no (by omega)
        have c3 : cl g (opn 3) p = 0 := cl_no (by omega)
        have c5 : cl g (opn 5) p = 0 := cl_no (by omega)
        have c6 : cl g (opn 6) p = 0 := cl_no (by omega)
        have c8 : cl g (opn 8) p = 0 := cl_no (by omega)
        have c7 : cl g (opn 7) p = cl g [118, 101, 32] (p + 2) + 1 + 1 := (cl_yes a3).trans (congrArg (· + 1) (cl_yes b1))
        have c4 : cl g (opn 4) p = 0 + 1 + 1 := (cl_yes a3).trans (congrArg (· + 1) ((cl_yes b1).trans (congrArg (· + 1) (cl_no b2))))
        have hm : mx g p 9 = cl g [118, 101, 32] (p + 2) + 1 + 1 := mx_eq (k := 7) (fun k hk => by
          rcases (show k = 0 ∨ k = 1 ∨ k = 2 ∨ k = 3 ∨ k = 4 ∨ k = 5 ∨ k = 6 ∨ k = 7 ∨ k = 8 by omega) with rfl | rfl | rfl | rfl | rfl | rfl | rfl | rfl | rfl <;> omega) (by omega) (by omega)
        have hs := its_stop (g := g) (w := [118, 101, 32]) (r := tal 7) (p := p + 2) (vs := []) (by unfold phd; decide) (show _ ≠ 3 by omega)
        exact ⟨7, by unfold cmdS; rw [if_neg a0, if_neg a1, if_neg a2, if_pos a3, if_pos b1, if_neg b2, hs, hm]; congr 3; omega⟩
    · skip
      have c0 : cl g (opn 0) p = 0 := cl_no (by omega)
      have c1 : cl g (opn 1) p = 0 := cl_no (by omega)
      have c2 : cl g (opn 2) p = 0 := cl_no (by omega)
      have c3 : cl g (opn 3) p = 0 := cl_no (by omega)
      have c5 : cl g (opn 5) p = 0 := cl_no (by omega)
      have c6 : cl g (opn 6) p = 0 := cl_no (by omega)
      have c8 : cl g (opn 8) p = 0 := cl_no (by omega)
      have c4 : cl g (opn 4) p = 0 + 1 := (cl_yes a3).trans (congrArg (· + 1) (cl_no b1))
      have c7 : cl g (opn 7) p = 0 + 1 := (cl_yes a3).trans (congrArg (· + 1) (cl_no b1))
      have hm : mx g p 9 = 1 := mx_eq (k := 4) (fun k hk => by
        rcases (show k = 0 ∨ k = 1 ∨ k = 2 ∨ k = 3 ∨ k = 4 ∨ k = 5 ∨ k = 6 ∨ k = 7 ∨ k = 8 by omega) with rfl | rfl | rfl | rfl | rfl | rfl | rfl | rfl | rfl <;> omega) (by omega) (by omega)
      exact ⟨9, by unfold cmdS; rw [if_neg a0, if_neg a1, if_neg a2, if_pos a3, if_neg b1, hm]⟩
  by_cases a4 : g p = 108
  · skip
    have c0 : cl g (opn 0) p = 0 := cl_no (by omega)
    have c1 : cl g (opn 1) p = 0 := cl_no (by omega)
    have c2 : cl g (opn 2) p = 0 := cl_no (by omega)
    have c3 : cl g (opn 3) p = 0 := cl_no (by omega)
    have c4 : cl g (opn 4) p = 0 := cl_no (by omega)
    have c6 : cl g (opn 6) p = 0 := cl_no (by omega)
    have c7 : cl g (opn 7) p = 0 := cl_no (by omega)
    have c8 : cl g (opn 8) p = 0 := cl_no (by omega)
    have c5 : cl g (opn 5) p = cl g [105, 109, 105, 116, 32] (p + 1) + 1 := cl_yes a4
    have hm : mx g p 9 = cl g [105, 109, 105, 116, 32] (p + 1) + 1 := mx_eq (k := 5) (fun k hk => by
      rcases (show k = 0 ∨ k = 1 ∨ k = 2 ∨ k = 3 ∨ k = 4 ∨ k = 5 ∨ k = 6 ∨ k = 7 ∨ k = 8 by omega) with rfl | rfl | rfl | rfl | rfl | rfl | rfl | rfl | rfl <;> omega) (by omega) (by omega)
    have hs := its_stop (g := g) (w := [105, 109, 105, 116, 32]) (r := tal 5) (p := p + 1) (vs := []) (by unfold phd; decide) (show _ ≠ 5 by omega)
    exact ⟨5, by unfold cmdS; rw [if_neg a0, if_neg a1, if_neg a2, if_neg a3, if_pos a4, hs, hm]; congr 3; omega⟩
  by_cases a5 : g p = 115
  · skip
    have c0 : cl g (opn 0) p = 0 := cl_no (by omega)
    have c1 : cl g (opn 1) p = 0 := cl_no (by omega)
    have c2 : cl g (opn 2) p = 0 := cl_no (by omega)
    have c3 : cl g (opn 3) p = 0 := cl_no (by omega)
    have c4 : cl g (opn 4) p = 0 := cl_no (by omega)
    have c5 : cl g (opn 5) p = 0 := cl_no (by omega)
    have c6 : cl g (opn 6) p = 0 := cl_no (by omega)
    have c7 : cl g (opn 7) p = 0 := cl_no (by omega)
    have c8 : cl g (opn 8) p = cl g [116, 111, 112] (p + 1) + 1 := cl_yes a5
    have hm : mx g p 9 = cl g [116, 111, 112] (p + 1) + 1 := mx_eq (k := 8) (fun k hk => by
      rcases (show k = 0 ∨ k = 1 ∨ k = 2 ∨ k = 3 ∨ k = 4 ∨ k = 5 ∨ k = 6 ∨ k = 7 ∨ k = 8 by omega) with rfl | rfl | rfl | rfl | rfl | rfl | rfl | rfl | rfl <;> omega) (by omega) (by omega)
    have hs := its_stop (g := g) (w := [116, 111, 112]) (r := tal 8) (p := p + 1) (vs := []) (by unfold phd; decide) (show _ ≠ 3 by omega)
    exact ⟨8, by unfold cmdS; rw [if_neg a0, if_neg a1, if_neg a2, if_neg a3, if_neg a4, if_pos a5, hs, hm]; congr 3; omega⟩
  have c0 : cl g (opn 0) p = 0 := cl_no (by omega)
  have c1 : cl g (opn 1) p = 0 := cl_no (by omega)
  have c2 : cl g (opn 2) p = 0 := cl_no (by omega)
  have c3 : cl g (opn 3) p = 0 := cl_no (by omega)
  have c4 : cl g (opn 4) p = 0 := cl_no (by omega)
  have c5 : cl g (opn 5) p = 0 := cl_no (by omega)
  have c6 : cl g (opn 6) p = 0 := cl_no (by omega)
  have c7 : cl g (opn 7) p = 0 := cl_no (by omega)
  have c8 : cl g (opn 8) p = 0 := cl_no (by omega)
  have hm : mx g p 9 = 0 := mx_eq (k := 0) (fun k hk => by
    rcases (show k = 0 ∨ k = 1 ∨ k = 2 ∨ k = 3 ∨ k = 4 ∨ k = 5 ∨ k = 6 ∨ k = 7 ∨ k = 8 by omega) with rfl | rfl | rfl | rfl | rfl | rfl | rfl | rfl | rfl <;> omega) (by omega) (by omega)
  exact ⟨9, by unfold cmdS; rw [if_neg a0, if_neg a1, if_neg a2, if_neg a3, if_neg a4, if_neg a5, hm]; rfl⟩
/-- the commands from p on: whether, where it ends, the commands -/
def prgS (g : Nat → Nat) (tp : Nat) : Nat → Nat → List (Nat × List Nat) → Bool × Nat × List (Nat × List Nat)
  | 0, p, acc => (false, p, acc)
  | f + 1, p, acc =>
    if (cmdS g p).1.1 = true then
      (if g (cmdS g p).1.2.1 = 59 then prgS g tp f ((cmdS g p).1.2.1 + 1) (acc ++ [((cmdS g p).2, (cmdS g p).1.2.2)])
       else (decide ((cmdS g p).1.2.1 = tp), (cmdS g p).1.2.1, acc ++ [((cmdS g p).2, (cmdS g p).1.2.2)]))
    else (false, (cmdS g p).1.2.1, acc)
