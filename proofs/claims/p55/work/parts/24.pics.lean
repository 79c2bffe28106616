/-! The guide as it stands in the heap, against the state that is meant -/
abbrev gC (j : Nat) : Prop := 2 ≤ j ∧ j ≤ 16
abbrev GP (h : jH) (s fx fy fr w rt : Nat → Nat) (ti x y : Nat) (D E L : Nat → Nat) (m : Nat → Bool) (num den : Nat) : Prop :=
  (h[1]? = some (.inr (1, [.ref 2, .ref 11, .ref 16]))) ∧
  (h[2]? = some (.inr (7, [.ref 3, .ref 8, .ref 10]))) ∧
  (h[3]? = some (hMap (s 0) (mT (wS s)))) ∧
  (h[4]? = some (ia 12 fx)) ∧
  (h[5]? = some (ia 12 fy)) ∧
  (h[6]? = some (ia 12 fr)) ∧
  (h[7]? = some (ia 144 w)) ∧
  (h[8]? = some (hTour (s 1) ti x y (decide (s 5 = 1)))) ∧
  (h[9]? = some (ia 12 rt)) ∧
  (h[10]? = some (hMeter (s 6) (s 7) (s 8) (s 9) (s 10) (s 11))) ∧
  (h[11]? = some hPaths) ∧
  (h[12]? = some (ia 12 D)) ∧
  (h[13]? = some (ia 12 E)) ∧
  (h[14]? = some (ia 12 L)) ∧
  (h[15]? = some (za 12 m)) ∧
  (h[16]? = some (hDrift num den)) ∧
  (∀ i, i < 12 → fx i = pX s i ∧ fy i = pY s i ∧ fr i = pR s i) ∧
  (∀ k, k < 144 → w k = wS s k) ∧
  (0 < s 1 → ti = s 2 ∧ x = s 3 ∧ y = s 4 ∧ ∀ i, i < s 1 → rt i = s (192 + i))
theorem GP.g1 {h : jH} {s fx fy fr w rt : Nat → Nat} {ti x y : Nat} {D E L : Nat → Nat} {m : Nat → Bool} {num den : Nat} (I : GP h s fx fy fr w rt ti x y D E L m num den) : h[1]? = some (.inr (1, [.ref 2, .ref 11, .ref 16])) := I.1
theorem GP.g2 {h : jH} {s fx fy fr w rt : Nat → Nat} {ti x y : Nat} {D E L : Nat → Nat} {m : Nat → Bool} {num den : Nat} (I : GP h s fx fy fr w rt ti x y D E L m num den) : h[2]? = some (.inr (7, [.ref 3, .ref 8, .ref 10])) := I.2.1
theorem GP.g3 {h : jH} {s fx fy fr w rt : Nat → Nat} {ti x y : Nat} {D E L : Nat → Nat} {m : Nat → Bool} {num den : Nat} (I : GP h s fx fy fr w rt ti x y D E L m num den) : h[3]? = some (hMap (s 0) (mT (wS s))) := I.2.2.1
theorem GP.g4 {h : jH} {s fx fy fr w rt : Nat → Nat} {ti x y : Nat} {D E L : Nat → Nat} {m : Nat → Bool} {num den : Nat} (I : GP h s fx fy fr w rt ti x y D E L m num den) : h[4]? = some (ia 12 fx) := I.2.2.2.1
theorem GP.g5 {h : jH} {s fx fy fr w rt : Nat → Nat} {ti x y : Nat} {D E L : Nat → Nat} {m : Nat → Bool} {num den : Nat} (I : GP h s fx fy fr w rt ti x y D E L m num den) : h[5]? = some (ia 12 fy) := I.2.2.2.2.1
theorem GP.g6 {h : jH} {s fx fy fr w rt : Nat → Nat} {ti x y : Nat} {D E L : Nat → Nat} {m : Nat → Bool} {num den : Nat} (I : GP h s fx fy fr w rt ti x y D E L m num den) : h[6]? = some (ia 12 fr) := I.2.2.2.2.2.1
theorem GP.g7 {h : jH} {s fx fy fr w rt : Nat → Nat} {ti x y : Nat} {D E L : Nat → Nat} {m : Nat → Bool} {num den : Nat} (I : GP h s fx fy fr w rt ti x y D E L m num den) : h[7]? = some (ia 144 w) := I.2.2.2.2.2.2.1
theorem GP.g8 {h : jH} {s fx fy fr w rt : Nat → Nat} {ti x y : Nat} {D E L : Nat → Nat} {m : Nat → Bool} {num den : Nat} (I : GP h s fx fy fr w rt ti x y D E L m num den) : h[8]? = some (hTour (s 1) ti x y (decide (s 5 = 1))) := I.2.2.2.2.2.2.2.1
theorem GP.g9 {h : jH} {s fx fy fr w rt : Nat → Nat} {ti x y : Nat} {D E L : Nat → Nat} {m : Nat → Bool} {num den : Nat} (I : GP h s fx fy fr w rt ti x y D E L m num den) : h[9]? = some (ia 12 rt) := I.2.2.2.2.2.2.2.2.1
theorem GP.g10 {h : jH} {s fx fy fr w rt : Nat → Nat} {ti x y : Nat} {D E L : Nat → Nat} {m : Nat → Bool} {num den : Nat} (I : GP h s fx fy fr w rt ti x y D E L m num den) : h[10]? = some (hMeter (s 6) (s 7) (s 8) (s 9) (s 10) (s 11)) := I.2.2.2.2.2.2.2.2.2.1
theorem GP.g11 {h : jH} {s fx fy fr w rt : Nat → Nat} {ti x y : Nat} {D E L : Nat → Nat} {m : Nat → Bool} {num den : Nat} (I : GP h s fx fy fr w rt ti x y D E L m num den) : h[11]? = some hPaths := I.2.2.2.2.2.2.2.2.2.2.1
theorem GP.g12 {h : jH} {s fx fy fr w rt : Nat → Nat} {ti x y : Nat} {D E L : Nat → Nat} {m : Nat → Bool} {num den : Nat} (I : GP h s fx fy fr w rt ti x y D E L m num den) : h[12]? = some (ia 12 D) := I.2.2.2.2.2.2.2.2.2.2.2.1
theorem GP.g13 {h : jH} {s fx fy fr w rt : Nat → Nat} {ti x y : Nat} {D E L : Nat → Nat} {m : Nat → Bool} {num den : Nat} (I : GP h s fx fy fr w rt ti x y D E L m num den) : h[13]? = some (ia 12 E) := I.2.2.2.2.2.2.2.2.2.2.2.2.1
theorem GP.g14 {h : jH} {s fx fy fr w rt : Nat → Nat} {ti x y : Nat} {D E L : Nat → Nat} {m : Nat → Bool} {num den : Nat} (I : GP h s fx fy fr w rt ti x y D E L m num den) : h[14]? = some (ia 12 L) := I.2.2.2.2.2.2.2.2.2.2.2.2.2.1
theorem GP.g15 {h : jH} {s fx fy fr w rt : Nat → Nat} {ti x y : Nat} {D E L : Nat → Nat} {m : Nat → Bool} {num den : Nat} (I : GP h s fx fy fr w rt ti x y D E L m num den) : h[15]? = some (za 12 m) := I.2.2.2.2.2.2.2.2.2.2.2.2.2.2.1
theorem GP.g16 {h : jH} {s fx fy fr w rt : Nat → Nat} {ti x y : Nat} {D E L : Nat → Nat} {m : Nat → Bool} {num den : Nat} (I : GP h s fx fy fr w rt ti x y D E L m num den) : h[16]? = some (hDrift num den) := I.2.2.2.2.2.2.2.2.2.2.2.2.2.2.2.1
theorem GP.e1 {h : jH} {s fx fy fr w rt : Nat → Nat} {ti x y : Nat} {D E L : Nat → Nat} {m : Nat → Bool} {num den : Nat} (I : GP h s fx fy fr w rt ti x y D E L m num den) : ∀ i, i < 12 → fx i = pX s i ∧ fy i = pY s i ∧ fr i = pR s i := I.2.2.2.2.2.2.2.2.2.2.2.2.2.2.2.2.1
theorem GP.e2 {h : jH} {s fx fy fr w rt : Nat → Nat} {ti x y : Nat} {D E L : Nat → Nat} {m : Nat → Bool} {num den : Nat} (I : GP h s fx fy fr w rt ti x y D E L m num den) : ∀ k, k < 144 → w k = wS s k := I.2.2.2.2.2.2.2.2.2.2.2.2.2.2.2.2.2.1
theorem GP.e3 {h : jH} {s fx fy fr w rt : Nat → Nat} {ti x y : Nat} {D E L : Nat → Nat} {m : Nat → Bool} {num den : Nat} (I : GP h s fx fy fr w rt ti x y D E L m num den) : 0 < s 1 → ti = s 2 ∧ x = s 3 ∧ y = s 4 ∧ ∀ i, i < s 1 → rt i = s (192 + i) := I.2.2.2.2.2.2.2.2.2.2.2.2.2.2.2.2.2.2
/-- the guide stands in the heap, with the state s -/
def GS (h : jH) (s : Nat → Nat) : Prop := ∃ (fx fy fr w rt : Nat → Nat) (ti x y : Nat) (D E L : Nat → Nat) (m : Nat → Bool) (num den : Nat), GP h s fx fy fr w rt ti x y D E L m num den
theorem GS.mk {h : jH} {s fx fy fr w rt : Nat → Nat} {ti x y : Nat} {D E L : Nat → Nat} {m : Nat → Bool} {num den : Nat} (g : GP h s fx fy fr w rt ti x y D E L m num den) : GS h s := ⟨fx, fy, fr, w, rt, ti, x, y, D, E, L, m, num, den, g⟩
section PICS
variable {h : jH} {s fx fy fr w rt : Nat → Nat} {ti x y : Nat} {D E L : Nat → Nat} {m : Nat → Bool} {num den K : Nat}
theorem GP.gr (g : GP h s fx fy fr w rt ti x y D E L m num den) (I : Inv K s) : Gr (s 0) w := I.g.congr (fun k hk => (g.e2 k hk).symm)
/-- the meter is written -/
theorem GP.meter {s' : Nat → Nat} (g : GP h s fx fy fr w rt ti x y D E L m num den) (hs : ∀ k, k < 6 ∨ 12 ≤ k → s' k = s k) : GP (h.set 10 (hMeter (s' 6) (s' 7) (s' 8) (s' 9) (s' 10) (s' 11))) s' fx fy fr w rt ti x y D E L m num den := by
  obtain ⟨g1, g2, g3, g4, g5, g6, g7, g8, g9, g10, g11, g12, g13, g14, g15, g16, e1, e2, e3⟩ := g
  have hw : wS s' = wS s := by funext k; unfold wS; exact hs _ (by omega)
  refine ⟨(by repeat (first | assumption | exact jget_same2 (by (try simp only [List.length_set]); exact jlt (by assumption)) | refine jget_ne (by first | decide | assumption | omega) ?_)), (by repeat (first | assumption | exact jget_same2 (by (try simp only [List.length_set]); exact jlt (by assumption)) | refine jget_ne (by first | decide | assumption | omega) ?_)), ?_, (by repeat (first | assumption | exact jget_same2 (by (try simp only [List.length_set]); exact jlt (by assumption)) | refine jget_ne (by first | decide | assumption | omega) ?_)), (by repeat (first | assumption | exact jget_same2 (by (try simp only [List.length_set]); exact jlt (by assumption)) | refine jget_ne (by first | decide | assumption | omega) ?_)), (by repeat (first | assumption | exact jget_same2 (by (try simp only [List.length_set]); exact jlt (by assumption)) | refine jget_ne (by first | decide | assumption | omega) ?_)), (by repeat (first | assumption | exact jget_same2 (by (try simp only [List.length_set]); exact jlt (by assumption)) | refine jget_ne (by first | decide | assumption | omega) ?_)), ?_, (by repeat (first | assumption | exact jget_same2 (by (try simp only [List.length_set]); exact jlt (by assumption)) | refine jget_ne (by first | decide | assumption | omega) ?_)), (by repeat (first | assumption | exact jget_same2 (by (try simp only [List.length_set]); exact jlt (by assumption)) | refine jget_ne (by first | decide | assumption | omega) ?_)), (by repeat (first | assumption | exact jget_same2 (by (try simp only [List.length_set]); exact jlt (by assumption)) | refine jget_ne (by first | decide | assumption | omega) ?_)), (by repeat (first | assumption | exact jget_same2 (by (try simp only [List.length_set]); exact jlt (by assumption)) | refine jget_ne (by first | decide | assumption | omega) ?_)), (by repeat (first | assumption | exact jget_same2 (by (try simp only [List.length_set]); exact jlt (by assumption)) | refine jget_ne (by first | decide | assumption | omega) ?_)), (by repeat (first | assumption | exact jget_same2 (by (try simp only [List.length_set]); exact jlt (by assumption)) | refine jget_ne (by first | decide | assumption | omega) ?_)), (by repeat (first | assumption | exact jget_same2 (by (try simp only [List.length_set]); exact jlt (by assumption)) | refine jget_ne (by first | decide | assumption | omega) ?_)), (by repeat (first | assumption | exact jget_same2 (by (try simp only [List.length_set]); exact jlt (by assumption)) | refine jget_ne (by first | decide | assumption | omega) ?_)), ?_, ?_, ?_⟩
  · rw [hs 0 (by omega), hw]; exact (by repeat (first | assumption | exact jget_same2 (by (try simp only [List.length_set]); exact jlt (by assumption)) | refine jget_ne (by first | decide | assumption | omega) ?_))
  · rw [hs 1 (by omega), hs 5 (by omega)]; exact (by repeat (first | assumption | exact jget_same2 (by (try simp only [List.length_set]); exact jlt (by assumption)) | refine jget_ne (by first | decide | assumption | omega) ?_))
  · intro i hi
    unfold pX pY pR
    rw [hs _ (by omega), hs _ (by omega), hs _ (by omega)]
    exact e1 i hi
  · rw [hw]; exact e2
  · rw [hs 1 (by omega), hs 2 (by omega), hs 3 (by omega), hs 4 (by omega)]
    intro h0
    obtain ⟨a, b, c, d⟩ := e3 h0
    exact ⟨a, b, c, fun i hi => by rw [hs _ (by omega)]; exact d i hi⟩
/-- the tour is written -/
theorem GP.tour {s' : Nat → Nat} {ti' x' y' : Nat} (g : GP h s fx fy fr w rt ti x y D E L m num den) (hs : ∀ k, k = 0 ∨ 6 ≤ k ∧ k < 192 → s' k = s k) (ht : 0 < s' 1 → ti' = s' 2 ∧ x' = s' 3 ∧ y' = s' 4 ∧ ∀ i, i < s' 1 → rt i = s' (192 + i)) : GP (h.set 8 (hTour (s' 1) ti' x' y' (decide (s' 5 = 1)))) s' fx fy fr w rt ti' x' y' D E L m num den := by
  obtain ⟨g1, g2, g3, g4, g5, g6, g7, g8, g9, g10, g11, g12, g13, g14, g15, g16, e1, e2, e3⟩ := g
  have hw : ∀ k, k < 144 → wS s' k = wS s k := fun k hk => hs _ (by omega)
  refine ⟨(by repeat (first | assumption | exact jget_same2 (by (try simp only [List.length_set]); exact jlt (by assumption)) | refine jget_ne (by first | decide | assumption | omega) ?_)), (by repeat (first | assumption | exact jget_same2 (by (try simp only [List.length_set]); exact jlt (by assumption)) | refine jget_ne (by first | decide | assumption | omega) ?_)), ?_, (by repeat (first | assumption | exact jget_same2 (by (try simp only [List.length_set]); exact jlt (by assumption)) | refine jget_ne (by first | decide | assumption | omega) ?_)), (by repeat (first | assumption | exact jget_same2 (by (try simp only [List.length_set]); exact jlt (by assumption)) | refine jget_ne (by first | decide | assumption | omega) ?_)), (by repeat (first | assumption | exact jget_same2 (by (try simp only [List.length_set]); exact jlt (by assumption)) | refine jget_ne (by first | decide | assumption | omega) ?_)), (by repeat (first | assumption | exact jget_same2 (by (try simp only [List.length_set]); exact jlt (by assumption)) | refine jget_ne (by first | decide | assumption | omega) ?_)), (by repeat (first | assumption | exact jget_same2 (by (try simp only [List.length_set]); exact jlt (by assumption)) | refine jget_ne (by first | decide | assumption | omega) ?_)), (by repeat (first | assumption | exact jget_same2 (by (try simp only [List.length_set]); exact jlt (by assumption)) | refine jget_ne (by first | decide | assumption | omega) ?_)), ?_, (by repeat (first | assumption | exact jget_same2 (by (try simp only [List.length_set]); exact jlt (by assumption)) | refine jget_ne (by first | decide | assumption | omega) ?_)), (by repeat (first | assumption | exact jget_same2 (by (try simp only [List.length_set]); exact jlt (by assumption)) | refine jget_ne (by first | decide | assumption | omega) ?_)), (by repeat (first | assumption | exact jget_same2 (by (try simp only [List.length_set]); exact jlt (by assumption)) | refine jget_ne (by first | decide | assumption | omega) ?_)), (by repeat (first | assumption | exact jget_same2 (by (try simp only [List.length_set]); exact jlt (by assumption)) | refine jget_ne (by first | decide | assumption | omega) ?_)), (by repeat (first | assumption | exact jget_same2 (by (try simp only [List.length_set]); exact jlt (by assumption)) | refine jget_ne (by first | decide | assumption | omega) ?_)), (by repeat (first | assumption | exact jget_same2 (by (try simp only [List.length_set]); exact jlt (by assumption)) | refine jget_ne (by first | decide | assumption | omega) ?_)), ?_, ?_, ht⟩
  · rw [hs 0 (by omega), mT_congr hw]; exact (by repeat (first | assumption | exact jget_same2 (by (try simp only [List.length_set]); exact jlt (by assumption)) | refine jget_ne (by first | decide | assumption | omega) ?_))
  · rw [hs 6 (by omega), hs 7 (by omega), hs 8 (by omega), hs 9 (by omega), hs 10 (by omega), hs 11 (by omega)]; exact (by repeat (first | assumption | exact jget_same2 (by (try simp only [List.length_set]); exact jlt (by assumption)) | refine jget_ne (by first | decide | assumption | omega) ?_))
  · intro i hi
    unfold pX pY pR
    rw [hs _ (by omega), hs _ (by omega), hs _ (by omega)]
    exact e1 i hi
  · intro k hk; rw [hw k hk]; exact e2 k hk
/-- the route is written -/
theorem GP.route {rt' : Nat → Nat} (g : GP h s fx fy fr w rt ti x y D E L m num den) (hs : s 1 = 0) : GP (h.set 9 (ia 12 rt')) s fx fy fr w rt' ti x y D E L m num den := by
  obtain ⟨g1, g2, g3, g4, g5, g6, g7, g8, g9, g10, g11, g12, g13, g14, g15, g16, e1, e2, e3⟩ := g
  exact ⟨(by repeat (first | assumption | exact jget_same2 (by (try simp only [List.length_set]); exact jlt (by assumption)) | refine jget_ne (by first | decide | assumption | omega) ?_)), (by repeat (first | assumption | exact jget_same2 (by (try simp only [List.length_set]); exact jlt (by assumption)) | refine jget_ne (by first | decide | assumption | omega) ?_)), (by repeat (first | assumption | exact jget_same2 (by (try simp only [List.length_set]); exact jlt (by assumption)) | refine jget_ne (by first | decide | assumption | omega) ?_)), (by repeat (first | assumption | exact jget_same2 (by (try simp only [List.length_set]); exact jlt (by assumption)) | refine jget_ne (by first | decide | assumption | omega) ?_)), (by repeat (first | assumption | exact jget_same2 (by (try simp only [List.length_set]); exact jlt (by assumption)) | refine jget_ne (by first | decide | assumption | omega) ?_)), (by repeat (first | assumption | exact jget_same2 (by (try simp only [List.length_set]); exact jlt (by assumption)) | refine jget_ne (by first | decide | assumption | omega) ?_)), (by repeat (first | assumption | exact jget_same2 (by (try simp only [List.length_set]); exact jlt (by assumption)) | refine jget_ne (by first | decide | assumption | omega) ?_)), (by repeat (first | assumption | exact jget_same2 (by (try simp only [List.length_set]); exact jlt (by assumption)) | refine jget_ne (by first | decide | assumption | omega) ?_)), (by repeat (first | assumption | exact jget_same2 (by (try simp only [List.length_set]); exact jlt (by assumption)) | refine jget_ne (by first | decide | assumption | omega) ?_)), (by repeat (first | assumption | exact jget_same2 (by (try simp only [List.length_set]); exact jlt (by assumption)) | refine jget_ne (by first | decide | assumption | omega) ?_)), (by repeat (first | assumption | exact jget_same2 (by (try simp only [List.length_set]); exact jlt (by assumption)) | refine jget_ne (by first | decide | assumption | omega) ?_)), (by repeat (first | assumption | exact jget_same2 (by (try simp only [List.length_set]); exact jlt (by assumption)) | refine jget_ne (by first | decide | assumption | omega) ?_)), (by repeat (first | assumption | exact jget_same2 (by (try simp only [List.length_set]); exact jlt (by assumption)) | refine jget_ne (by first | decide | assumption | omega) ?_)), (by repeat (first | assumption | exact jget_same2 (by (try simp only [List.length_set]); exact jlt (by assumption)) | refine jget_ne (by first | decide | assumption | omega) ?_)), (by repeat (first | assumption | exact jget_same2 (by (try simp only [List.length_set]); exact jlt (by assumption)) | refine jget_ne (by first | decide | assumption | omega) ?_)), (by repeat (first | assumption | exact jget_same2 (by (try simp only [List.length_set]); exact jlt (by assumption)) | refine jget_ne (by first | decide | assumption | omega) ?_)), e1, e2, fun h0 => by omega⟩
theorem GP.settled {D' : Nat → Nat} {m' : Nat → Bool} (g : GP h s fx fy fr w rt ti x y D E L m num den) : GP ((h.set 12 (ia 12 D')).set 15 (za 12 m')) s fx fy fr w rt ti x y D' E L m' num den := by
  obtain ⟨g1, g2, g3, g4, g5, g6, g7, g8, g9, g10, g11, g12, g13, g14, g15, g16, e1, e2, e3⟩ := g
  exact ⟨(by repeat (first | assumption | exact jget_same2 (by (try simp only [List.length_set]); exact jlt (by assumption)) | refine jget_ne (by first | decide | assumption | omega) ?_)), (by repeat (first | assumption | exact jget_same2 (by (try simp only [List.length_set]); exact jlt (by assumption)) | refine jget_ne (by first | decide | assumption | omega) ?_)), (by repeat (first | assumption | exact jget_same2 (by (try simp only [List.length_set]); exact jlt (by assumption)) | refine jget_ne (by first | decide | assumption | omega) ?_)), (by repeat (first | assumption | exact jget_same2 (by (try simp only [List.length_set]); exact jlt (by assumption)) | refine jget_ne (by first | decide | assumption | omega) ?_)), (by repeat (first | assumption | exact jget_same2 (by (try simp only [List.length_set]); exact jlt (by assumption)) | refine jget_ne (by first | decide | assumption | omega) ?_)), (by repeat (first | assumption | exact jget_same2 (by (try simp only [List.length_set]); exact jlt (by assumption)) | refine jget_ne (by first | decide | assumption | omega) ?_)), (by repeat (first | assumption | exact jget_same2 (by (try simp only [List.length_set]); exact jlt (by assumption)) | refine jget_ne (by first | decide | assumption | omega) ?_)), (by repeat (first | assumption | exact jget_same2 (by (try simp only [List.length_set]); exact jlt (by assumption)) | refine jget_ne (by first | decide | assumption | omega) ?_)), (by repeat (first | assumption | exact jget_same2 (by (try simp only [List.length_set]); exact jlt (by assumption)) | refine jget_ne (by first | decide | assumption | omega) ?_)), (by repeat (first | assumption | exact jget_same2 (by (try simp only [List.length_set]); exact jlt (by assumption)) | refine jget_ne (by first | decide | assumption | omega) ?_)), (by repeat (first | assumption | exact jget_same2 (by (try simp only [List.length_set]); exact jlt (by assumption)) | refine jget_ne (by first | decide | assumption | omega) ?_)), (by repeat (first | assumption | exact jget_same2 (by (try simp only [List.length_set]); exact jlt (by assumption)) | refine jget_ne (by first | decide | assumption | omega) ?_)), (by repeat (first | assumption | exact jget_same2 (by (try simp only [List.length_set]); exact jlt (by assumption)) | refine jget_ne (by first | decide | assumption | omega) ?_)), (by repeat (first | assumption | exact jget_same2 (by (try simp only [List.length_set]); exact jlt (by assumption)) | refine jget_ne (by first | decide | assumption | omega) ?_)), (by repeat (first | assumption | exact jget_same2 (by (try simp only [List.length_set]); exact jlt (by assumption)) | refine jget_ne (by first | decide | assumption | omega) ?_)), (by repeat (first | assumption | exact jget_same2 (by (try simp only [List.length_set]); exact jlt (by assumption)) | refine jget_ne (by first | decide | assumption | omega) ?_)), e1, e2, e3⟩
theorem GP.drift {h' : jH} {num' den' : Nat} (g : GP h s fx fy fr w rt ti x y D E L m num den) (hf : ∀ j, j ≠ 16 → h'[j]? = h[j]?) (hd : h'[16]? = some (hDrift num' den')) : GP h' s fx fy fr w rt ti x y D E L m num' den' := by
  obtain ⟨g1, g2, g3, g4, g5, g6, g7, g8, g9, g10, g11, g12, g13, g14, g15, g16, e1, e2, e3⟩ := g
  refine ⟨?_, ?_, ?_, ?_, ?_, ?_, ?_, ?_, ?_, ?_, ?_, ?_, ?_, ?_, ?_, hd, e1, e2, e3⟩
  all_goals (rw [hf _ (by decide)]; assumption)
/-- nothing of the guide is written -/
theorem GP.frm {C : Nat → Prop} {h' : jH} (g : GP h s fx fy fr w rt ti x y D E L m num den) (hf : jFr C h h') (hc : ∀ j, 1 ≤ j → j ≤ 16 → ¬ C j) : GP h' s fx fy fr w rt ti x y D E L m num den := by
  obtain ⟨g1, g2, g3, g4, g5, g6, g7, g8, g9, g10, g11, g12, g13, g14, g15, g16, e1, e2, e3⟩ := g
  refine ⟨?_, ?_, ?_, ?_, ?_, ?_, ?_, ?_, ?_, ?_, ?_, ?_, ?_, ?_, ?_, ?_, e1, e2, e3⟩
  all_goals (rw [hf.2 _ (hc _ (by decide) (by decide))]; assumption)
theorem GS.frm {C : Nat → Prop} {h' : jH} (g : GS h s) (hf : jFr C h h') (hc : ∀ j, 1 ≤ j → j ≤ 16 → ¬ C j) : GS h' s := by
  obtain ⟨fx, fy, fr, w, rt, ti, x, y, D, E, L, m, num, den, g⟩ := g
  exact GS.mk (g.frm hf hc)
end PICS
def flK (k t : Nat) : Nat := if t = 0 then 0 else if k = 0 then (if t = 1 then 2 else 3) else if k = 1 then t else if k = 2 then (if t = 1 then 1 else 4) else if k = 3 then t else if k = 7 then (if t = 1 then 2 else if t = 2 then 3 else 5) else if k = 8 then 3 else 2
section GUIDE1
variable {G : jG} {X : Bool} {h : jH} {Q : jQ_} {K : Nat} {s fx fy fr w rt : Nat → Nat} {ti x y : Nat} {D E L : Nat → Nat} {m : Nat → Bool} {num den : Nat}
theorem c_X10_isWithin_B (x : Int32) {a b : Nat} (hQ : Q (.inl (some (.int (jb (inB x a b))))) h) : jCT G M_X10_isWithin 1 0 0 X [.int x, .int (nI a), .int (nI b)] h Q := c_X10_isWithin x (nI a) (nI b) hQ
theorem c_X10_areCoordinates (x y : Int32) (hQ : Q (.inl (some (.int (jb (isP x y))))) h) : jCT G M_X10_areCoordinates 2 0 0 X [.int x, .int y] h Q := by
  refine jCT_of [some (.int x), some (.int y)] 0 rfl (by decide +kernel) rfl rfl ?_
  refine J_iload_n (by rfl) dX10_areCoordinates_0 ?_
  refine J_iconst (nI 0) (by decide) dX10_areCoordinates_1 ?_
  refine J_bipush (nI 99) (by decide) dX10_areCoordinates_2 ?_
  refine J_S3v dX10_areCoordinates_4 s_X10_373 m_X10_isWithin rfl (c_X10_isWithin_B _ (jKv_i ?_))
  refine J_if_eq_b 24 dX10_areCoordinates_7 (by decide) (fun c7 => ?_) (fun c7 => ?_)
  · refine J_iconst (nI 0) (by decide) dX10_areCoordinates_24 ?_
    exact J_zreturn dX10_areCoordinates_25 rfl (by first | rfl | exact jb_n _) (by rw [show isP x y = false by simp [isP, c7]] at hQ; exact hQ) (by decide) (by decide) (fun _ => rfl)
  · refine J_iload_n (by rfl) dX10_areCoordinates_10 ?_
    refine J_iconst (nI 0) (by decide) dX10_areCoordinates_11 ?_
    refine J_bipush (nI 99) (by decide) dX10_areCoordinates_12 ?_
    refine J_S3v dX10_areCoordinates_14 s_X10_373 m_X10_isWithin rfl (c_X10_isWithin_B _ (jKv_i ?_))
    refine J_if_eq_b 24 dX10_areCoordinates_17 (by decide) (fun c17 => ?_) (fun c17 => ?_)
    · refine J_iconst (nI 0) (by decide) dX10_areCoordinates_24 ?_
      exact J_zreturn dX10_areCoordinates_25 rfl (by first | rfl | exact jb_n _) (by rw [show isP x y = false by simp [isP, c17]] at hQ; exact hQ) (by decide) (by decide) (fun _ => rfl)
    · refine J_iconst (nI 1) (by decide) dX10_areCoordinates_20 ?_
      refine J_goto 25 dX10_areCoordinates_21 (by decide) ?_
      exact J_zreturn dX10_areCoordinates_25 rfl (by first | rfl | exact jb_n _) (by rw [show isP x y = true by simp [isP, c7, c17]] at hQ; exact hQ) (by decide) (by decide) (fun _ => rfl)
theorem c_X1_faultOfPoint (x9 y9 z9 : Int32) (I : Inv K s) (g : GP h s fx fy fr w rt ti x y D E L m num den) (hQ : Q (.inl (some (.int (nI (flK 0 (T0 s x9 y9 z9)))))) h) : jCT G M_X1_faultOfPoint 3 0 0 X [.ref 1, .int x9, .int y9, .int z9] h Q := by
  obtain ⟨g1, g2, g3, g4, g5, g6, g7, g8, g9, g10, g11, g12, g13, g14, g15, g16, e1, e2, e3⟩ := g
  refine jCT_of [some (.ref 1), some (.int x9), some (.int y9), some (.int z9)] 0 rfl (by decide +kernel) rfl rfl ?_
  have hn := I.n12
  refine J_iload_n (by rfl) dX1_faultOfPoint_0 ?_
  refine J_iload_n (by rfl) dX1_faultOfPoint_1 ?_
  refine J_SN2v dX1_faultOfPoint_2 s_X1_63 m_X10_areCoordinates rfl (c_X10_areCoordinates _ _ (jKv_i ?_))
  refine J_if_eq_b 18 dX1_faultOfPoint_5 (by decide) (fun c5 => ?_) (fun c5 => ?_)
  · rw [show T0 s x9 y9 z9 = 1 by simp [T0, c5]] at hQ
    refine J_iconst (nI 2) (by decide) dX1_faultOfPoint_18 ?_
    exact J_ireturn dX1_faultOfPoint_19 rfl (hQ) (by decide) (by decide) (fun _ => rfl)
  · refine J_iload_n (by rfl) dX1_faultOfPoint_8 ?_
    refine J_iconst (nI 1) (by decide) dX1_faultOfPoint_9 ?_
    refine J_bipush (nI 9) (by decide) dX1_faultOfPoint_10 ?_
    refine J_SN3v dX1_faultOfPoint_12 s_X1_46 m_X10_isWithin rfl (c_X10_isWithin_B _ (jKv_i ?_))
    refine J_if_ne_b 20 dX1_faultOfPoint_15 (by decide) (fun c15 => ?_) (fun c15 => ?_)
    · refine J_aload_n (by rfl) (by rfl) dX1_faultOfPoint_20 ?_
      refine J_get dX1_faultOfPoint_21 f_X1_12 (by repeat (first | assumption | exact jget_same2 (by (try simp only [List.length_set]); exact jlt (by assumption)) | refine jget_ne (by first | decide | assumption | omega) ?_)) (by rfl) ?_
      refine J_get dX1_faultOfPoint_24 f_X1_67 (by repeat (first | assumption | exact jget_same2 (by (try simp only [List.length_set]); exact jlt (by assumption)) | refine jget_ne (by first | decide | assumption | omega) ?_)) (by rfl) ?_
      refine J_V0v (ci := 9) dX1_faultOfPoint_27 s_X1_71 m_X9_isFull rfl (by repeat (first | assumption | exact jget_same2 (by (try simp only [List.length_set]); exact jlt (by assumption)) | refine jget_ne (by first | decide | assumption | omega) ?_)) rfl (c_X9_isFull g3 hn (jKv_i ?_))
      refine J_if_eq_b 37 dX1_faultOfPoint_30 (by decide) (fun c30 => ?_) (fun c30 => ?_)
      · have c30 : ¬ s 0 = 12 := by intro e; rw [e] at c30; exact absurd c30 (by decide)
        rw [show T0 s x9 y9 z9 = 0 by simp only [T0, c5, c15, Bool.and_self, if_true]; rw [if_neg c30]] at hQ
        refine J_iconst (nI 0) (by decide) dX1_faultOfPoint_37 ?_
        exact J_ireturn dX1_faultOfPoint_38 rfl (hQ) (by decide) (by decide) (fun _ => rfl)
      · have c30 : s 0 = 12 := by have := of_decide_eq_true c30; omega
        rw [show T0 s x9 y9 z9 = 2 by simp only [T0, c5, c15, Bool.and_self, if_true]; rw [if_pos c30]] at hQ
        refine J_iconst (nI 3) (by decide) dX1_faultOfPoint_33 ?_
        refine J_goto 38 dX1_faultOfPoint_34 (by decide) ?_
        exact J_ireturn dX1_faultOfPoint_38 rfl (hQ) (by decide) (by decide) (fun _ => rfl)
    · rw [show T0 s x9 y9 z9 = 1 by simp [T0, c15]] at hQ
      refine J_iconst (nI 2) (by decide) dX1_faultOfPoint_18 ?_
      exact J_ireturn dX1_faultOfPoint_19 rfl (hQ) (by decide) (by decide) (fun _ => rfl)
theorem c_X1_faultOfTrail (x9 y9 z9 : Int32) (I : Inv K s) (g : GP h s fx fy fr w rt ti x y D E L m num den) (hQ : Q (.inl (some (.int (nI (flK 1 (T1 s x9 y9 z9)))))) h) : jCT G M_X1_faultOfTrail 3 0 0 X [.ref 1, .int x9, .int y9, .int z9] h Q := by
  have hgr := g.gr I
  obtain ⟨g1, g2, g3, g4, g5, g6, g7, g8, g9, g10, g11, g12, g13, g14, g15, g16, e1, e2, e3⟩ := g
  refine jCT_of [some (.ref 1), some (.int x9), some (.int y9), some (.int z9)] 0 rfl (by decide +kernel) rfl rfl ?_
  have hn := I.n12
  refine J_aload_n (by rfl) (by rfl) dX1_faultOfTrail_0 ?_
  refine J_get dX1_faultOfTrail_1 f_X1_12 (by repeat (first | assumption | exact jget_same2 (by (try simp only [List.length_set]); exact jlt (by assumption)) | refine jget_ne (by first | decide | assumption | omega) ?_)) (by rfl) ?_
  refine J_get dX1_faultOfTrail_4 f_X1_67 (by repeat (first | assumption | exact jget_same2 (by (try simp only [List.length_set]); exact jlt (by assumption)) | refine jget_ne (by first | decide | assumption | omega) ?_)) (by rfl) ?_
  refine J_iload_n (by rfl) dX1_faultOfTrail_7 ?_
  refine J_V1v (ci := 9) dX1_faultOfTrail_8 s_X1_76 m_X9_exists rfl (by repeat (first | assumption | exact jget_same2 (by (try simp only [List.length_set]); exact jlt (by assumption)) | refine jget_ne (by first | decide | assumption | omega) ?_)) rfl (c_X9_exists _ g3 (jKv_i ?_))
  refine J_if_eq_b 28 dX1_faultOfTrail_11 (by decide) (fun c11 => ?_) (fun c11 => ?_)
  · rw [show T1 s x9 y9 z9 = 1 by simp [T1, both, c11]] at hQ
    refine J_iconst (nI 1) (by decide) dX1_faultOfTrail_28 ?_
    exact J_ireturn dX1_faultOfTrail_29 rfl (hQ) (by decide) (by decide) (fun _ => rfl)
  · refine J_aload_n (by rfl) (by rfl) dX1_faultOfTrail_14 ?_
    refine J_get dX1_faultOfTrail_15 f_X1_12 (by repeat (first | assumption | exact jget_same2 (by (try simp only [List.length_set]); exact jlt (by assumption)) | refine jget_ne (by first | decide | assumption | omega) ?_)) (by rfl) ?_
    refine J_get dX1_faultOfTrail_18 f_X1_67 (by repeat (first | assumption | exact jget_same2 (by (try simp only [List.length_set]); exact jlt (by assumption)) | refine jget_ne (by first | decide | assumption | omega) ?_)) (by rfl) ?_
    refine J_iload_n (by rfl) dX1_faultOfTrail_21 ?_
    refine J_V1v (ci := 9) dX1_faultOfTrail_22 s_X1_76 m_X9_exists rfl (by repeat (first | assumption | exact jget_same2 (by (try simp only [List.length_set]); exact jlt (by assumption)) | refine jget_ne (by first | decide | assumption | omega) ?_)) rfl (c_X9_exists _ g3 (jKv_i ?_))
    refine J_if_ne_b 30 dX1_faultOfTrail_25 (by decide) (fun c25 => ?_) (fun c25 => ?_)
    · obtain ⟨i, j, rfl, rfl, hi, hj, a1, a2⟩ := both_t hn c11 c25
      refine J_iload_n (by rfl) dX1_faultOfTrail_30 ?_
      refine J_iload_n (by rfl) dX1_faultOfTrail_31 ?_
      refine J_icmp_eq_n 45 dX1_faultOfTrail_32 (by decide) (fun c32 => ?_) (fun c32 => ?_)
      · rw [show T1 s (nI i) (nI j) z9 = 2 by simp only [T1, both, c11, c25, Bool.and_self, if_true]; rw [if_pos (.inl (by rw [c32]))]] at hQ
        refine J_iconst (nI 2) (by decide) dX1_faultOfTrail_45 ?_
        exact J_ireturn dX1_faultOfTrail_46 rfl (hQ) (by decide) (by decide) (fun _ => rfl)
      · have hne : ¬ nI i = nI j := fun q => c32 ((nI_eq (by omega) (by omega)).mp q)
        refine J_iload_n (by rfl) dX1_faultOfTrail_35 ?_
        refine J_iconst (nI 1) (by decide) dX1_faultOfTrail_36 ?_
        refine J_bipush (nI 99) (by decide) dX1_faultOfTrail_37 ?_
        refine J_SN3v dX1_faultOfTrail_39 s_X1_46 m_X10_isWithin rfl (c_X10_isWithin_B _ (jKv_i ?_))
        refine J_if_ne_b 47 dX1_faultOfTrail_42 (by decide) (fun c42 => ?_) (fun c42 => ?_)
        · refine J_aload_n (by rfl) (by rfl) dX1_faultOfTrail_47 ?_
          refine J_get dX1_faultOfTrail_48 f_X1_12 (by repeat (first | assumption | exact jget_same2 (by (try simp only [List.length_set]); exact jlt (by assumption)) | refine jget_ne (by first | decide | assumption | omega) ?_)) (by rfl) ?_
          refine J_get dX1_faultOfTrail_51 f_X1_67 (by repeat (first | assumption | exact jget_same2 (by (try simp only [List.length_set]); exact jlt (by assumption)) | refine jget_ne (by first | decide | assumption | omega) ?_)) (by rfl) ?_
          refine J_iload_n (by rfl) dX1_faultOfTrail_54 ?_
          refine J_iload_n (by rfl) dX1_faultOfTrail_55 ?_
          refine J_V2v (ci := 9) dX1_faultOfTrail_56 s_X1_80 m_X9_areJoined rfl (by repeat (first | assumption | exact jget_same2 (by (try simp only [List.length_set]); exact jlt (by assumption)) | refine jget_ne (by first | decide | assumption | omega) ?_)) rfl (c_X9_areJoined (i := i) (j := j) (by omega) (by omega) g3 g7 (hgr.lt (by omega) (by omega)) (jKv_i ?_))
          refine J_if_eq_b 66 dX1_faultOfTrail_59 (by decide) (fun c59 => ?_) (fun c59 => ?_)
          · have c59 : ¬ 0 < w (i * 12 + j) := by simpa using c59
            rw [e2 _ (by omega)] at c59
            rw [show T1 s (nI i) (nI j) z9 = 0 by simp only [T1, both, c11, c25, Bool.and_self, if_true, a1, a2]; rw [if_neg (by rw [c42]; simp [hne]), if_neg c59]] at hQ
            refine J_iconst (nI 0) (by decide) dX1_faultOfTrail_66 ?_
            exact J_ireturn dX1_faultOfTrail_67 rfl (hQ) (by decide) (by decide) (fun _ => rfl)
          · have c59 : 0 < w (i * 12 + j) := by simpa using c59
            rw [e2 _ (by omega)] at c59
            rw [show T1 s (nI i) (nI j) z9 = 3 by simp only [T1, both, c11, c25, Bool.and_self, if_true, a1, a2]; rw [if_neg (by rw [c42]; simp [hne]), if_pos c59]] at hQ
            refine J_iconst (nI 3) (by decide) dX1_faultOfTrail_62 ?_
            refine J_goto 67 dX1_faultOfTrail_63 (by decide) ?_
            exact J_ireturn dX1_faultOfTrail_67 rfl (hQ) (by decide) (by decide) (fun _ => rfl)
        · rw [show T1 s (nI i) (nI j) z9 = 2 by simp only [T1, both, c11, c25, Bool.and_self, if_true]; rw [if_pos (.inr c42)]] at hQ
          refine J_iconst (nI 2) (by decide) dX1_faultOfTrail_45 ?_
          exact J_ireturn dX1_faultOfTrail_46 rfl (hQ) (by decide) (by decide) (fun _ => rfl)
    · rw [show T1 s x9 y9 z9 = 1 by simp [T1, both, c25]] at hQ
      refine J_iconst (nI 1) (by decide) dX1_faultOfTrail_28 ?_
      exact J_ireturn dX1_faultOfTrail_29 rfl (hQ) (by decide) (by decide) (fun _ => rfl)
theorem c_X1_faultOfCut (x9 y9 : Int32) (I : Inv K s) (g : GP h s fx fy fr w rt ti x y D E L m num den) (hQ : Q (.inl (some (.int (nI (flK 2 (T2 s x9 y9)))))) h) : jCT G M_X1_faultOfCut 3 0 0 X [.ref 1, .int x9, .int y9] h Q := by
  have hgr := g.gr I
  obtain ⟨g1, g2, g3, g4, g5, g6, g7, g8, g9, g10, g11, g12, g13, g14, g15, g16, e1, e2, e3⟩ := g
  refine jCT_of [some (.ref 1), some (.int x9), some (.int y9)] 0 rfl (by decide +kernel) rfl rfl ?_
  have hn := I.n12
  refine J_aload_n (by rfl) (by rfl) dX1_faultOfCut_0 ?_
  refine J_get dX1_faultOfCut_1 f_X1_12 (by repeat (first | assumption | exact jget_same2 (by (try simp only [List.length_set]); exact jlt (by assumption)) | refine jget_ne (by first | decide | assumption | omega) ?_)) (by rfl) ?_
  refine J_get dX1_faultOfCut_4 f_X1_67 (by repeat (first | assumption | exact jget_same2 (by (try simp only [List.length_set]); exact jlt (by assumption)) | refine jget_ne (by first | decide | assumption | omega) ?_)) (by rfl) ?_
  refine J_iload_n (by rfl) dX1_faultOfCut_7 ?_
  refine J_V1v (ci := 9) dX1_faultOfCut_8 s_X1_76 m_X9_exists rfl (by repeat (first | assumption | exact jget_same2 (by (try simp only [List.length_set]); exact jlt (by assumption)) | refine jget_ne (by first | decide | assumption | omega) ?_)) rfl (c_X9_exists _ g3 (jKv_i ?_))
  refine J_if_eq_b 28 dX1_faultOfCut_11 (by decide) (fun c11 => ?_) (fun c11 => ?_)
  · rw [show T2 s x9 y9 = 1 by simp [T2, both, c11]] at hQ
    refine J_iconst (nI 1) (by decide) dX1_faultOfCut_28 ?_
    exact J_ireturn dX1_faultOfCut_29 rfl (hQ) (by decide) (by decide) (fun _ => rfl)
  · refine J_aload_n (by rfl) (by rfl) dX1_faultOfCut_14 ?_
    refine J_get dX1_faultOfCut_15 f_X1_12 (by repeat (first | assumption | exact jget_same2 (by (try simp only [List.length_set]); exact jlt (by assumption)) | refine jget_ne (by first | decide | assumption | omega) ?_)) (by rfl) ?_
    refine J_get dX1_faultOfCut_18 f_X1_67 (by repeat (first | assumption | exact jget_same2 (by (try simp only [List.length_set]); exact jlt (by assumption)) | refine jget_ne (by first | decide | assumption | omega) ?_)) (by rfl) ?_
    refine J_iload_n (by rfl) dX1_faultOfCut_21 ?_
    refine J_V1v (ci := 9) dX1_faultOfCut_22 s_X1_76 m_X9_exists rfl (by repeat (first | assumption | exact jget_same2 (by (try simp only [List.length_set]); exact jlt (by assumption)) | refine jget_ne (by first | decide | assumption | omega) ?_)) rfl (c_X9_exists _ g3 (jKv_i ?_))
    refine J_if_ne_b 30 dX1_faultOfCut_25 (by decide) (fun c25 => ?_) (fun c25 => ?_)
    · obtain ⟨i, j, rfl, rfl, hi, hj, a1, a2⟩ := both_t hn c11 c25
      refine J_aload_n (by rfl) (by rfl) dX1_faultOfCut_30 ?_
      refine J_get dX1_faultOfCut_31 f_X1_12 (by repeat (first | assumption | exact jget_same2 (by (try simp only [List.length_set]); exact jlt (by assumption)) | refine jget_ne (by first | decide | assumption | omega) ?_)) (by rfl) ?_
      refine J_get dX1_faultOfCut_34 f_X1_67 (by repeat (first | assumption | exact jget_same2 (by (try simp only [List.length_set]); exact jlt (by assumption)) | refine jget_ne (by first | decide | assumption | omega) ?_)) (by rfl) ?_
      refine J_iload_n (by rfl) dX1_faultOfCut_37 ?_
      refine J_iload_n (by rfl) dX1_faultOfCut_38 ?_
      refine J_V2v (ci := 9) dX1_faultOfCut_39 s_X1_80 m_X9_areJoined rfl (by repeat (first | assumption | exact jget_same2 (by (try simp only [List.length_set]); exact jlt (by assumption)) | refine jget_ne (by first | decide | assumption | omega) ?_)) rfl (c_X9_areJoined (i := i) (j := j) (by omega) (by omega) g3 g7 (hgr.lt (by omega) (by omega)) (jKv_i ?_))
      refine J_if_eq_b 49 dX1_faultOfCut_42 (by decide) (fun c42 => ?_) (fun c42 => ?_)
      · have c42 : ¬ 0 < w (i * 12 + j) := by simpa using c42
        rw [e2 _ (by omega)] at c42
        rw [show T2 s (nI i) (nI j) = 2 by simp only [T2, both, c11, c25, Bool.and_self, if_true, a1, a2]; rw [if_pos (by omega)]] at hQ
        refine J_iconst (nI 4) (by decide) dX1_faultOfCut_49 ?_
        exact J_ireturn dX1_faultOfCut_50 rfl (hQ) (by decide) (by decide) (fun _ => rfl)
      · have c42 : 0 < w (i * 12 + j) := by simpa using c42
        rw [e2 _ (by omega)] at c42
        rw [show T2 s (nI i) (nI j) = 0 by simp only [T2, both, c11, c25, Bool.and_self, if_true, a1, a2]; rw [if_neg (by omega)]] at hQ
        refine J_iconst (nI 0) (by decide) dX1_faultOfCut_45 ?_
        refine J_goto 50 dX1_faultOfCut_46 (by decide) ?_
        exact J_ireturn dX1_faultOfCut_50 rfl (hQ) (by decide) (by decide) (fun _ => rfl)
    · rw [show T2 s x9 y9 = 1 by simp [T2, both, c25]] at hQ
      refine J_iconst (nI 1) (by decide) dX1_faultOfCut_28 ?_
      exact J_ireturn dX1_faultOfCut_29 rfl (hQ) (by decide) (by decide) (fun _ => rfl)
theorem c_X1_faultOfTour (x9 y9 : Int32) (I : Inv K s) (g : GP h s fx fy fr w rt ti x y D E L m num den) (hQ : ∀ h', jFr gC h h' → GS h' s → Q (.inl (some (.int (nI (flK 3 (T3 s x9 y9)))))) h') : jCT G M_X1_faultOfTour 4 0 0 X [.ref 1, .int x9, .int y9] h Q := by
  have hgr := g.gr I
  have g0 := g
  obtain ⟨g1, g2, g3, g4, g5, g6, g7, g8, g9, g10, g11, g12, g13, g14, g15, g16, e1, e2, e3⟩ := g
  refine jCT_of [some (.ref 1), some (.int x9), some (.int y9)] 0 rfl (by decide +kernel) rfl rfl ?_
  have hn := I.n12
  have hQ0 := hQ h jFr.refl (GS.mk g0)
  refine J_aload_n (by rfl) (by rfl) dX1_faultOfTour_0 ?_
  refine J_get dX1_faultOfTour_1 f_X1_12 (by repeat (first | assumption | exact jget_same2 (by (try simp only [List.length_set]); exact jlt (by assumption)) | refine jget_ne (by first | decide | assumption | omega) ?_)) (by rfl) ?_
  refine J_get dX1_faultOfTour_4 f_X1_67 (by repeat (first | assumption | exact jget_same2 (by (try simp only [List.length_set]); exact jlt (by assumption)) | refine jget_ne (by first | decide | assumption | omega) ?_)) (by rfl) ?_
  refine J_iload_n (by rfl) dX1_faultOfTour_7 ?_
  refine J_V1v (ci := 9) dX1_faultOfTour_8 s_X1_76 m_X9_exists rfl (by repeat (first | assumption | exact jget_same2 (by (try simp only [List.length_set]); exact jlt (by assumption)) | refine jget_ne (by first | decide | assumption | omega) ?_)) rfl (c_X9_exists _ g3 (jKv_i ?_))
  refine J_if_eq_b 28 dX1_faultOfTour_11 (by decide) (fun c11 => ?_) (fun c11 => ?_)
  · rw [show T3 s x9 y9 = 1 by simp [T3, both, c11]] at hQ0
    refine J_iconst (nI 1) (by decide) dX1_faultOfTour_28 ?_
    exact J_ireturn dX1_faultOfTour_29 rfl (hQ0) (by decide) (by decide) (fun _ => rfl)
  · refine J_aload_n (by rfl) (by rfl) dX1_faultOfTour_14 ?_
    refine J_get dX1_faultOfTour_15 f_X1_12 (by repeat (first | assumption | exact jget_same2 (by (try simp only [List.length_set]); exact jlt (by assumption)) | refine jget_ne (by first | decide | assumption | omega) ?_)) (by rfl) ?_
    refine J_get dX1_faultOfTour_18 f_X1_67 (by repeat (first | assumption | exact jget_same2 (by (try simp only [List.length_set]); exact jlt (by assumption)) | refine jget_ne (by first | decide | assumption | omega) ?_)) (by rfl) ?_
    refine J_iload_n (by rfl) dX1_faultOfTour_21 ?_
    refine J_V1v (ci := 9) dX1_faultOfTour_22 s_X1_76 m_X9_exists rfl (by repeat (first | assumption | exact jget_same2 (by (try simp only [List.length_set]); exact jlt (by assumption)) | refine jget_ne (by first | decide | assumption | omega) ?_)) rfl (c_X9_exists _ g3 (jKv_i ?_))
    refine J_if_ne_b 30 dX1_faultOfTour_25 (by decide) (fun c25 => ?_) (fun c25 => ?_)
    · obtain ⟨i, j, rfl, rfl, hi, hj, a1, a2⟩ := both_t hn c11 c25
      refine J_iload_n (by rfl) dX1_faultOfTour_30 ?_
      refine J_iload_n (by rfl) dX1_faultOfTour_31 ?_
      refine J_icmp_ne_n 37 dX1_faultOfTour_32 (by decide) (fun c32 => ?_) (fun c32 => ?_)
      · have hne : ¬ nI i = nI j := fun q => c32 ((nI_eq (by omega) (by omega)).mp q)
        refine J_aload_n (by rfl) (by rfl) dX1_faultOfTour_37 ?_
        refine J_get dX1_faultOfTour_38 f_X1_12 (by repeat (first | assumption | exact jget_same2 (by (try simp only [List.length_set]); exact jlt (by assumption)) | refine jget_ne (by first | decide | assumption | omega) ?_)) (by rfl) ?_
        refine J_get dX1_faultOfTour_41 f_X1_53 (by repeat (first | assumption | exact jget_same2 (by (try simp only [List.length_set]); exact jlt (by assumption)) | refine jget_ne (by first | decide | assumption | omega) ?_)) (by rfl) ?_
        refine J_V0v (ci := 8) dX1_faultOfTour_44 s_X1_57 m_X8_isOn rfl (by repeat (first | assumption | exact jget_same2 (by (try simp only [List.length_set]); exact jlt (by assumption)) | refine jget_ne (by first | decide | assumption | omega) ?_)) rfl (c_X8_isOn g8 I.s1 (jKv_i ?_))
        refine J_if_eq_b 52 dX1_faultOfTour_47 (by decide) (fun c47 => ?_) (fun c47 => ?_)
        · have c47 : ¬ 0 < s 1 := by simpa using c47
          refine J_aload_n (by rfl) (by rfl) dX1_faultOfTour_52 ?_
          refine J_get dX1_faultOfTour_53 f_X1_21 (by repeat (first | assumption | exact jget_same2 (by (try simp only [List.length_set]); exact jlt (by assumption)) | refine jget_ne (by first | decide | assumption | omega) ?_)) (by rfl) ?_
          refine J_aload_n (by rfl) (by rfl) dX1_faultOfTour_56 ?_
          refine J_get dX1_faultOfTour_57 f_X1_12 (by repeat (first | assumption | exact jget_same2 (by (try simp only [List.length_set]); exact jlt (by assumption)) | refine jget_ne (by first | decide | assumption | omega) ?_)) (by rfl) ?_
          refine J_get dX1_faultOfTour_60 f_X1_67 (by repeat (first | assumption | exact jget_same2 (by (try simp only [List.length_set]); exact jlt (by assumption)) | refine jget_ne (by first | decide | assumption | omega) ?_)) (by rfl) ?_
          refine J_iload_n (by rfl) dX1_faultOfTour_63 ?_
          refine J_V20 (ci := 5) dX1_faultOfTour_64 s_X1_83 m_X5_settleFrom rfl (by repeat (first | assumption | exact jget_same2 (by (try simp only [List.length_set]); exact jlt (by assumption)) | refine jget_ne (by first | decide | assumption | omega) ?_)) rfl (c_X5_settleFrom (D0 := D) (m0 := m) hgr hj g3 g7 g11 g12 g15 (fun D1 m1 hD1 => (jK0_i ?_)))
          refine J_aload_n (by rfl) (by rfl) dX1_faultOfTour_67 ?_
          refine J_get dX1_faultOfTour_68 f_X1_21 (by repeat (first | assumption | exact jget_same2 (by (try simp only [List.length_set]); exact jlt (by assumption)) | refine jget_ne (by first | decide | assumption | omega) ?_)) (by rfl) ?_
          refine J_iload_n (by rfl) dX1_faultOfTour_71 ?_
          refine J_V1v (ci := 5) dX1_faultOfTour_72 s_X1_87 m_X5_settledDistance rfl (by repeat (first | assumption | exact jget_same2 (by (try simp only [List.length_set]); exact jlt (by assumption)) | refine jget_ne (by first | decide | assumption | omega) ?_)) rfl (c_X5_settledDistance (D := D1) (by omega) (by repeat (first | assumption | exact jget_same2 (by (try simp only [List.length_set]); exact jlt (by assumption)) | refine jget_ne (by first | decide | assumption | omega) ?_)) (by repeat (first | assumption | exact jget_same2 (by (try simp only [List.length_set]); exact jlt (by assumption)) | refine jget_ne (by first | decide | assumption | omega) ?_)) (jKv_i ?_))
          have hlt := hD1.lt hgr (by omega) (show i < 12 by omega)
          rw [dst_congr e2] at hlt
          have hb := hD1.m i (by omega)
          have hfr : jFr gC h ((h.set 12 (ia 12 D1)).set 15 (za 12 m1)) := (jFr.refl.set 12 _ (by decide)).set 15 _ (by decide)
          have hQ1 := hQ _ hfr (GS.mk g0.settled)
          refine J_ldcI dX1_faultOfTour_75 k_X1_91 ?_
          refine J_topi (nI 1000000) (by rfl) ?_
          refine J_icmp_ge_n 84 dX1_faultOfTour_77 (by decide) (fun c77 => ?_) (fun c77 => ?_)
          · have hf : ¬ dst (wS s) j i < 99999 := fun q => by have := hlt.mpr q; omega
            rw [show T3 s (nI i) (nI j) = 4 by simp only [T3, both, c11, c25, Bool.and_self, if_true, a1, a2]; rw [if_neg hne, if_neg c47, if_neg hf]] at hQ1
            refine J_iconst (nI 4) (by decide) dX1_faultOfTour_84 ?_
            exact J_ireturn dX1_faultOfTour_85 rfl (hQ1) (by decide) (by decide) (fun _ => rfl)
          · have hf : dst (wS s) j i < 99999 := hlt.mp c77
            rw [show T3 s (nI i) (nI j) = 0 by simp only [T3, both, c11, c25, Bool.and_self, if_true, a1, a2]; rw [if_neg hne, if_neg c47, if_pos hf]] at hQ1
            refine J_iconst (nI 0) (by decide) dX1_faultOfTour_80 ?_
            refine J_goto 85 dX1_faultOfTour_81 (by decide) ?_
            exact J_ireturn dX1_faultOfTour_85 rfl (hQ1) (by decide) (by decide) (fun _ => rfl)
        · have c47 : 0 < s 1 := by simpa using c47
          rw [show T3 s (nI i) (nI j) = 3 by simp only [T3, both, c11, c25, Bool.and_self, if_true, a1, a2]; rw [if_neg hne, if_pos c47]] at hQ0
          refine J_iconst (nI 3) (by decide) dX1_faultOfTour_50 ?_
          exact J_ireturn dX1_faultOfTour_51 rfl (hQ0) (by decide) (by decide) (fun _ => rfl)
      · rw [show T3 s (nI i) (nI j) = 2 by simp only [T3, both, c11, c25, Bool.and_self, if_true]; rw [if_pos (by rw [c32])]] at hQ0
        refine J_iconst (nI 2) (by decide) dX1_faultOfTour_35 ?_
        exact J_ireturn dX1_faultOfTour_36 rfl (hQ0) (by decide) (by decide) (fun _ => rfl)
    · rw [show T3 s x9 y9 = 1 by simp [T3, both, c25]] at hQ0
      refine J_iconst (nI 1) (by decide) dX1_faultOfTour_28 ?_
      exact J_ireturn dX1_faultOfTour_29 rfl (hQ0) (by decide) (by decide) (fun _ => rfl)
theorem c_X1_faultOfMove (x9 y9 : Int32) (I : Inv K s) (g : GP h s fx fy fr w rt ti x y D E L m num den) (hQ : Q (.inl (some (.int (nI (flK 7 (T7 s x9 y9)))))) h) : jCT G M_X1_faultOfMove 3 0 0 X [.ref 1, .int x9, .int y9] h Q := by
  obtain ⟨g1, g2, g3, g4, g5, g6, g7, g8, g9, g10, g11, g12, g13, g14, g15, g16, e1, e2, e3⟩ := g
  refine jCT_of [some (.ref 1), some (.int x9), some (.int y9)] 0 rfl (by decide +kernel) rfl rfl ?_
  have hb := I.b
  refine J_iload_n (by rfl) dX1_faultOfMove_0 ?_
  refine J_iload_n (by rfl) dX1_faultOfMove_1 ?_
  refine J_SN2v dX1_faultOfMove_2 s_X1_63 m_X10_areCoordinates rfl (c_X10_areCoordinates _ _ (jKv_i ?_))
  refine J_if_ne_b 10 dX1_faultOfMove_5 (by decide) (fun c5 => ?_) (fun c5 => ?_)
  · refine J_aload_n (by rfl) (by rfl) dX1_faultOfMove_10 ?_
    refine J_get dX1_faultOfMove_11 f_X1_12 (by repeat (first | assumption | exact jget_same2 (by (try simp only [List.length_set]); exact jlt (by assumption)) | refine jget_ne (by first | decide | assumption | omega) ?_)) (by rfl) ?_
    refine J_get dX1_faultOfMove_14 f_X1_53 (by repeat (first | assumption | exact jget_same2 (by (try simp only [List.length_set]); exact jlt (by assumption)) | refine jget_ne (by first | decide | assumption | omega) ?_)) (by rfl) ?_
    refine J_V0v (ci := 8) dX1_faultOfMove_17 s_X1_57 m_X8_isOn rfl (by repeat (first | assumption | exact jget_same2 (by (try simp only [List.length_set]); exact jlt (by assumption)) | refine jget_ne (by first | decide | assumption | omega) ?_)) rfl (c_X8_isOn g8 I.s1 (jKv_i ?_))
    refine J_if_ne_b 25 dX1_faultOfMove_20 (by decide) (fun c20 => ?_) (fun c20 => ?_)
    · have c20 : 0 < s 1 := by simpa using c20
      refine J_aload_n (by rfl) (by rfl) dX1_faultOfMove_25 ?_
      refine J_get dX1_faultOfMove_26 f_X1_12 (by repeat (first | assumption | exact jget_same2 (by (try simp only [List.length_set]); exact jlt (by assumption)) | refine jget_ne (by first | decide | assumption | omega) ?_)) (by rfl) ?_
      refine J_get dX1_faultOfMove_29 f_X1_92 (by repeat (first | assumption | exact jget_same2 (by (try simp only [List.length_set]); exact jlt (by assumption)) | refine jget_ne (by first | decide | assumption | omega) ?_)) (by rfl) ?_
      refine J_get dX1_faultOfMove_32 f_X1_96 (by repeat (first | assumption | exact jget_same2 (by (try simp only [List.length_set]); exact jlt (by assumption)) | refine jget_ne (by first | decide | assumption | omega) ?_)) (by rfl) ?_
      refine J_if_le_n 42 dX1_faultOfMove_35 (by decide) (fun c35 => ?_) (fun c35 => ?_)
      · rw [show T7 s x9 y9 = 3 by simp only [T7, c5, if_true]; rw [if_pos c20, if_pos c35]] at hQ
        refine J_iconst (nI 5) (by decide) dX1_faultOfMove_42 ?_
        exact J_ireturn dX1_faultOfMove_43 rfl (hQ) (by decide) (by decide) (fun _ => rfl)
      · rw [show T7 s x9 y9 = 0 by simp only [T7, c5, if_true]; rw [if_pos c20, if_neg (by omega)]] at hQ
        refine J_iconst (nI 0) (by decide) dX1_faultOfMove_38 ?_
        refine J_goto 43 dX1_faultOfMove_39 (by decide) ?_
        exact J_ireturn dX1_faultOfMove_43 rfl (hQ) (by decide) (by decide) (fun _ => rfl)
    · have c20 : ¬ 0 < s 1 := by simpa using c20
      rw [show T7 s x9 y9 = 2 by simp only [T7, c5, if_true]; rw [if_neg c20]] at hQ
      refine J_iconst (nI 3) (by decide) dX1_faultOfMove_23 ?_
      exact J_ireturn dX1_faultOfMove_24 rfl (hQ) (by decide) (by decide) (fun _ => rfl)
  · rw [show T7 s x9 y9 = 1 by simp [T7, c5]] at hQ
    refine J_iconst (nI 2) (by decide) dX1_faultOfMove_8 ?_
    exact J_ireturn dX1_faultOfMove_9 rfl (hQ) (by decide) (by decide) (fun _ => rfl)
theorem c_X1_faultOf {k : Nat} (x9 y9 z9 : Int32) (hk : k ≤ 8) (I : Inv K s) (gs : GS h s) (hQ : ∀ h', jFr gC h h' → GS h' s → Q (.inl (some (.int (nI (flK k (opT s k x9 y9 z9)))))) h') : jCT G M_X1_faultOf 5 0 0 X [.ref 1, .int (nI k), .int x9, .int y9, .int z9] h Q := by
  have hQ0 := hQ h jFr.refl gs
  obtain ⟨fx, fy, fr, w, rt, ti, x, y, D, E, L, m, num, den, g⟩ := gs
  have g0 := g
  obtain ⟨g1, g2, g3, g4, g5, g6, g7, g8, g9, g10, g11, g12, g13, g14, g15, g16, e1, e2, e3⟩ := g
  refine jCT_of [some (.ref 1), some (.int (nI k)), some (.int x9), some (.int y9), some (.int z9)] 0 rfl (by decide +kernel) rfl rfl ?_
  refine J_iload_n (by rfl) dX1_faultOf_0 ?_
  rcases (show k = 0 ∨ k = 1 ∨ k = 2 ∨ k = 3 ∨ k = 4 ∨ k = 5 ∨ k = 6 ∨ k = 7 ∨ k = 8 by omega) with rfl | rfl | rfl | rfl | rfl | rfl | rfl | rfl | rfl
  · refine J_tableIn (off := 47) 48 dX1_faultOf_1 (by decide) (by decide) (by decide) (by decide) ?_
    refine J_aload_n (by rfl) (by rfl) dX1_faultOf_48 ?_
    refine J_iload_n (by rfl) dX1_faultOf_49 ?_
    refine J_iload_n (by rfl) dX1_faultOf_50 ?_
    refine J_iload (by rfl) dX1_faultOf_51 ?_
    refine J_V3v (ci := 1) dX1_faultOf_53 s_X1_32 m_X1_faultOfPoint rfl (by repeat (first | assumption | exact jget_same2 (by (try simp only [List.length_set]); exact jlt (by assumption)) | refine jget_ne (by first | decide | assumption | omega) ?_)) rfl (c_X1_faultOfPoint x9 y9 z9 I g0 (jKv_i ?_))
    exact J_ireturn dX1_faultOf_56 rfl (hQ0) (by decide) (by decide) (fun _ => rfl)
  · refine J_tableIn (off := 56) 57 dX1_faultOf_1 (by decide) (by decide) (by decide) (by decide) ?_
    refine J_aload_n (by rfl) (by rfl) dX1_faultOf_57 ?_
    refine J_iload_n (by rfl) dX1_faultOf_58 ?_
    refine J_iload_n (by rfl) dX1_faultOf_59 ?_
    refine J_iload (by rfl) dX1_faultOf_60 ?_
    refine J_V3v (ci := 1) dX1_faultOf_62 s_X1_36 m_X1_faultOfTrail rfl (by repeat (first | assumption | exact jget_same2 (by (try simp only [List.length_set]); exact jlt (by assumption)) | refine jget_ne (by first | decide | assumption | omega) ?_)) rfl (c_X1_faultOfTrail x9 y9 z9 I g0 (jKv_i ?_))
    exact J_ireturn dX1_faultOf_65 rfl (hQ0) (by decide) (by decide) (fun _ => rfl)
  · refine J_tableIn (off := 65) 66 dX1_faultOf_1 (by decide) (by decide) (by decide) (by decide) ?_
    refine J_aload_n (by rfl) (by rfl) dX1_faultOf_66 ?_
    refine J_iload_n (by rfl) dX1_faultOf_67 ?_
    refine J_iload_n (by rfl) dX1_faultOf_68 ?_
    refine J_V2v (ci := 1) dX1_faultOf_69 s_X1_39 m_X1_faultOfCut rfl (by repeat (first | assumption | exact jget_same2 (by (try simp only [List.length_set]); exact jlt (by assumption)) | refine jget_ne (by first | decide | assumption | omega) ?_)) rfl (c_X1_faultOfCut x9 y9 I g0 (jKv_i ?_))
    exact J_ireturn dX1_faultOf_72 rfl (hQ0) (by decide) (by decide) (fun _ => rfl)
  · refine J_tableIn (off := 72) 73 dX1_faultOf_1 (by decide) (by decide) (by decide) (by decide) ?_
    refine J_aload_n (by rfl) (by rfl) dX1_faultOf_73 ?_
    refine J_iload_n (by rfl) dX1_faultOf_74 ?_
    refine J_iload_n (by rfl) dX1_faultOf_75 ?_
    refine J_V2v (ci := 1) dX1_faultOf_76 s_X1_43 m_X1_faultOfTour rfl (by repeat (first | assumption | exact jget_same2 (by (try simp only [List.length_set]); exact jlt (by assumption)) | refine jget_ne (by first | decide | assumption | omega) ?_)) rfl (c_X1_faultOfTour x9 y9 I g0 (fun h' hf hs => (jKv_i ?_)))
    exact J_ireturn dX1_faultOf_79 rfl (hQ h' hf hs) (by decide) (by decide) (fun _ => rfl)
  · refine J_tableIn (off := 79) 80 dX1_faultOf_1 (by decide) (by decide) (by decide) (by decide) ?_
    refine J_iload_n (by rfl) dX1_faultOf_80 ?_
    refine J_iconst (nI 0) (by decide) dX1_faultOf_81 ?_
    refine J_iconst (nI 2) (by decide) dX1_faultOf_82 ?_
    refine J_SN3v dX1_faultOf_83 s_X1_46 m_X10_isWithin rfl (c_X10_isWithin_B _ (jKv_i ?_))
    refine J_if_eq_b 93 dX1_faultOf_86 (by decide) (fun c86 => ?_) (fun c86 => ?_)
    · rw [show opT s 4 x9 y9 z9 = 1 by show T4 x9 = 1; simp [T4, c86]] at hQ0
      refine J_iconst (nI 2) (by decide) dX1_faultOf_93 ?_
      exact J_ireturn dX1_faultOf_94 rfl (hQ0) (by decide) (by decide) (fun _ => rfl)
    · rw [show opT s 4 x9 y9 z9 = 0 by show T4 x9 = 0; simp [T4, c86]] at hQ0
      refine J_iconst (nI 0) (by decide) dX1_faultOf_89 ?_
      refine J_goto 94 dX1_faultOf_90 (by decide) ?_
      exact J_ireturn dX1_faultOf_94 rfl (hQ0) (by decide) (by decide) (fun _ => rfl)
  · refine J_tableIn (off := 94) 95 dX1_faultOf_1 (by decide) (by decide) (by decide) (by decide) ?_
    refine J_iload_n (by rfl) dX1_faultOf_95 ?_
    refine J_iconst (nI 1) (by decide) dX1_faultOf_96 ?_
    refine J_bipush (nI 30) (by decide) dX1_faultOf_97 ?_
    refine J_SN3v dX1_faultOf_99 s_X1_46 m_X10_isWithin rfl (c_X10_isWithin_B _ (jKv_i ?_))
    refine J_if_eq_b 109 dX1_faultOf_102 (by decide) (fun c102 => ?_) (fun c102 => ?_)
    · rw [show opT s 5 x9 y9 z9 = 1 by show T5 x9 = 1; simp [T5, c102]] at hQ0
      refine J_iconst (nI 2) (by decide) dX1_faultOf_109 ?_
      exact J_ireturn dX1_faultOf_110 rfl (hQ0) (by decide) (by decide) (fun _ => rfl)
    · rw [show opT s 5 x9 y9 z9 = 0 by show T5 x9 = 0; simp [T5, c102]] at hQ0
      refine J_iconst (nI 0) (by decide) dX1_faultOf_105 ?_
      refine J_goto 110 dX1_faultOf_106 (by decide) ?_
      exact J_ireturn dX1_faultOf_110 rfl (hQ0) (by decide) (by decide) (fun _ => rfl)
  · refine J_tableIn (off := 110) 111 dX1_faultOf_1 (by decide) (by decide) (by decide) (by decide) ?_
    refine J_iload_n (by rfl) dX1_faultOf_111 ?_
    refine J_iconst (nI 1) (by decide) dX1_faultOf_112 ?_
    refine J_sipush (nI 999) (by decide) dX1_faultOf_113 ?_
    refine J_SN3v dX1_faultOf_116 s_X1_46 m_X10_isWithin rfl (c_X10_isWithin_B _ (jKv_i ?_))
    refine J_if_eq_b 126 dX1_faultOf_119 (by decide) (fun c119 => ?_) (fun c119 => ?_)
    · rw [show opT s 6 x9 y9 z9 = 1 by show T6 x9 = 1; simp [T6, c119]] at hQ0
      refine J_iconst (nI 2) (by decide) dX1_faultOf_126 ?_
      exact J_ireturn dX1_faultOf_127 rfl (hQ0) (by decide) (by decide) (fun _ => rfl)
    · rw [show opT s 6 x9 y9 z9 = 0 by show T6 x9 = 0; simp [T6, c119]] at hQ0
      refine J_iconst (nI 0) (by decide) dX1_faultOf_122 ?_
      refine J_goto 127 dX1_faultOf_123 (by decide) ?_
      exact J_ireturn dX1_faultOf_127 rfl (hQ0) (by decide) (by decide) (fun _ => rfl)
  · refine J_tableIn (off := 127) 128 dX1_faultOf_1 (by decide) (by decide) (by decide) (by decide) ?_
    refine J_aload_n (by rfl) (by rfl) dX1_faultOf_128 ?_
    refine J_iload_n (by rfl) dX1_faultOf_129 ?_
    refine J_iload_n (by rfl) dX1_faultOf_130 ?_
    refine J_V2v (ci := 1) dX1_faultOf_131 s_X1_50 m_X1_faultOfMove rfl (by repeat (first | assumption | exact jget_same2 (by (try simp only [List.length_set]); exact jlt (by assumption)) | refine jget_ne (by first | decide | assumption | omega) ?_)) rfl (c_X1_faultOfMove x9 y9 I g0 (jKv_i ?_))
    exact J_ireturn dX1_faultOf_134 rfl (hQ0) (by decide) (by decide) (fun _ => rfl)
  · refine J_tableOut 135 dX1_faultOf_1 (by decide) (by decide) ?_
    refine J_aload_n (by rfl) (by rfl) dX1_faultOf_135 ?_
    refine J_get dX1_faultOf_136 f_X1_12 (by repeat (first | assumption | exact jget_same2 (by (try simp only [List.length_set]); exact jlt (by assumption)) | refine jget_ne (by first | decide | assumption | omega) ?_)) (by rfl) ?_
    refine J_get dX1_faultOf_139 f_X1_53 (by repeat (first | assumption | exact jget_same2 (by (try simp only [List.length_set]); exact jlt (by assumption)) | refine jget_ne (by first | decide | assumption | omega) ?_)) (by rfl) ?_
    refine J_V0v (ci := 8) dX1_faultOf_142 s_X1_57 m_X8_isOn rfl (by repeat (first | assumption | exact jget_same2 (by (try simp only [List.length_set]); exact jlt (by assumption)) | refine jget_ne (by first | decide | assumption | omega) ?_)) rfl (c_X8_isOn g8 I.s1 (jKv_i ?_))
    refine J_if_eq_b 152 dX1_faultOf_145 (by decide) (fun c145 => ?_) (fun c145 => ?_)
    · have c145 : ¬ 0 < s 1 := by simpa using c145
      rw [show opT s 8 x9 y9 z9 = 1 by show T8 s = 1; unfold T8; rw [if_neg c145]] at hQ0
      refine J_iconst (nI 3) (by decide) dX1_faultOf_152 ?_
      exact J_ireturn dX1_faultOf_153 rfl (hQ0) (by decide) (by decide) (fun _ => rfl)
    · have c145 : 0 < s 1 := by simpa using c145
      rw [show opT s 8 x9 y9 z9 = 0 by show T8 s = 0; unfold T8; rw [if_pos c145]] at hQ0
      refine J_iconst (nI 0) (by decide) dX1_faultOf_148 ?_
      refine J_goto 153 dX1_faultOf_149 (by decide) ?_
      exact J_ireturn dX1_faultOf_153 rfl (hQ0) (by decide) (by decide) (fun _ => rfl)
end GUIDE1
