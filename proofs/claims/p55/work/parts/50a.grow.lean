/-! The picture of the class in a growing heap: its cells point at its own cells alone -/
section GROW
variable {h h' : jH}
theorem GP.grow {s fx fy fr w rt : Nat → Nat} {ti x y : Nat} {D E L : Nat → Nat} {m : Nat → Bool} {num den : Nat} (g : GP h s fx fy fr w rt ti x y D E L m num den) (hf : ∀ j, j < 116 → h'[j]? = h[j]?) : GP h' s fx fy fr w rt ti x y D E L m num den := by
  obtain ⟨g1, g2, g3, g4, g5, g6, g7, g8, g9, g10, g11, g12, g13, g14, g15, g16, e1, e2, e3⟩ := g
  refine ⟨?_, ?_, ?_, ?_, ?_, ?_, ?_, ?_, ?_, ?_, ?_, ?_, ?_, ?_, ?_, ?_, e1, e2, e3⟩
  all_goals (rw [hf _ (by decide)]; assumption)
theorem GS.grow {s : Nat → Nat} (g : GS h s) (hf : ∀ j, j < 116 → h'[j]? = h[j]?) : GS h' s := by
  obtain ⟨fx, fy, fr, w, rt, ti, x, y, D, E, L, m, num, den, g⟩ := g
  exact GS.mk (g.grow hf)
theorem PS.grow {p : Nat} {s : Nat → Nat} (g : PS p h s) (hp : p + 8 < 116) (hf : ∀ j, j < 116 → h'[j]? = h[j]?) : PS p h' s := by
  obtain ⟨fx, fy, fr, w, rt, ti, x, y, q0, q1, q2, q3, q4, q5, q6, q7, q8, e1, e2, e3⟩ := g
  refine ⟨fx, fy, fr, w, rt, ti, x, y, ?_, ?_, ?_, ?_, ?_, ?_, ?_, ?_, ?_, e1, e2, e3⟩
  all_goals (rw [hf _ (by omega)]; assumption)
theorem HS.grow {P : Nat → Nat} {ch : Nat} (g : HS h P ch) (hf : ∀ j, j < 116 → h'[j]? = h[j]?) : HS h' P ch := by
  obtain ⟨nx, f, o, r, n8, c8, f8, a, p⟩ := g
  refine ⟨nx, f, (hf _ (by omega)).trans o, (hf _ (by omega)).trans r, n8, c8, f8, fun j hj => ?_, fun i hi => ⟨(p i hi).1.grow (by omega) hf, (p i hi).2⟩⟩
  obtain ⟨s, hs⟩ := a j hj
  exact ⟨s, hs.grow (by omega) hf⟩
theorem CPc.grow {s sS P : Nat → Nat} {ch : Nat} {ea fa : Int32} {sv : Bool} {lf : Nat → Nat} {ln : Nat} {tx : Nat → Nat} {tp : Nat} (g : CPc h s sS P ch ea fa sv lf ln tx tp) (hf : ∀ j, j < 116 → h'[j]? = h[j]?) : CPc h' s sS P ch ea fa sv lf ln tx tp := by
  obtain ⟨c0, gs, hs, sa, be, ⟨po, ct, vc, ks, as_, vs, p1, p2, p3, p4, p5⟩, ⟨f, l1, l2, l3⟩⟩ := g
  refine ⟨(hf _ (by omega)).trans c0, gs.grow hf, hs.grow hf, ⟨sa.1.grow (by omega) hf, sa.2⟩, ?_, ⟨po, ct, vc, ks, as_, vs, (hf _ (by omega)).trans p1, (hf _ (by omega)).trans p2, (hf _ (by omega)).trans p3, (hf _ (by omega)).trans p4, (hf _ (by omega)).trans p5⟩, ⟨f, (hf _ (by omega)).trans l1, (hf _ (by omega)).trans l2, l3⟩⟩
  obtain ⟨s9, h9⟩ := be
  exact ⟨s9, h9.grow (by omega) hf⟩
end GROW
theorem Inv_0 : Inv 0 s00 := by
  have a : ∀ k, 12 ≤ k → s00 k = 0 := fun k hk => s00_0 (by omega) (by omega) (by omega)
  have z : ∀ k, wS s00 k = 0 := fun k => a (48 + k) (by omega)
  refine ⟨⟨by decide, fun i j hi hj => by rw [z]; omega, fun i j hi hj hp => by rw [z] at hp; omega, fun i j hi hj => by rw [z, z]⟩, fun i hi => z _, fun i hi => ?_, fun h => absurd h (by decide), by decide, fun _ => by decide, by decide, by decide, by decide, by decide⟩
  unfold pX pY pR
  rw [a _ (by omega), a _ (by omega), a _ (by omega)]
  omega
theorem vr {n i : Nat} (h : i < n) : vOk n (.ref i) := h
/-- a cell that is known is that cell -/
theorem cOk_at {h : jH} {n j : Nat} {c d : jC} (hd : h[j]? = some d) (ok : cOk n d) (hc : h[j]? = some c) : cOk n c := by
  rw [hd] at hc
  cases hc
  exact ok
theorem PS.cl {p n : Nat} {h : jH} {s : Nat → Nat} (g : PS p h s) (hp : p + 8 < n) {j : Nat} {c : jC} (h1 : p ≤ j) (h2 : j ≤ p + 8) (hc : h[j]? = some c) : cOk n c := by
  obtain ⟨fx, fy, fr, w, rt, ti, x, y, q0, q1, q2, q3, q4, q5, q6, q7, q8, e1, e2, e3⟩ := g
  rcases (show j = p ∨ j = p + 1 ∨ j = p + 2 ∨ j = p + 3 ∨ j = p + 4 ∨ j = p + 5 ∨ j = p + 6 ∨ j = p + 7 ∨ j = p + 8 by omega) with rfl | rfl | rfl | rfl | rfl | rfl | rfl | rfl | rfl
  · exact cOk_at q0 ⟨vr (by omega), vr (by omega), vr (by omega), trivial⟩ hc
  · exact cOk_at q1 ⟨vr (by omega), vr (by omega), vr (by omega), vr (by omega), trivial, trivial, trivial⟩ hc
  · exact cOk_at q2 trivial hc
  · exact cOk_at q3 trivial hc
  · exact cOk_at q4 trivial hc
  · exact cOk_at q5 trivial hc
  · exact cOk_at q6 ⟨vr (by omega), trivial, trivial, trivial, trivial, trivial, trivial⟩ hc
  · exact cOk_at q7 trivial hc
  · exact cOk_at q8 ⟨trivial, trivial, trivial, trivial, trivial, trivial, trivial⟩ hc
theorem GS.cl {n : Nat} {h : jH} {s : Nat → Nat} (g : GS h s) (hn : 116 ≤ n) {j : Nat} {c : jC} (h1 : 1 ≤ j) (h2 : j ≤ 16) (hc : h[j]? = some c) : cOk n c := by
  obtain ⟨fx, fy, fr, w, rt, ti, x, y, D, E, L, m, num, den, g1, g2, g3, g4, g5, g6, g7, g8, g9, g10, g11, g12, g13, g14, g15, g16, e1, e2, e3⟩ := g
  rcases (show j = 1 ∨ j = 2 ∨ j = 3 ∨ j = 4 ∨ j = 5 ∨ j = 6 ∨ j = 7 ∨ j = 8 ∨ j = 9 ∨ j = 10 ∨ j = 11 ∨ j = 12 ∨ j = 13 ∨ j = 14 ∨ j = 15 ∨ j = 16 by omega) with rfl | rfl | rfl | rfl | rfl | rfl | rfl | rfl | rfl | rfl | rfl | rfl | rfl | rfl | rfl | rfl
  · exact cOk_at g1 ⟨vr (by omega), vr (by omega), vr (by omega), trivial⟩ hc
  · exact cOk_at g2 ⟨vr (by omega), vr (by omega), vr (by omega), trivial⟩ hc
  · exact cOk_at g3 ⟨vr (by omega), vr (by omega), vr (by omega), vr (by omega), trivial, trivial, trivial⟩ hc
  · exact cOk_at g4 trivial hc
  · exact cOk_at g5 trivial hc
  · exact cOk_at g6 trivial hc
  · exact cOk_at g7 trivial hc
  · exact cOk_at g8 ⟨vr (by omega), trivial, trivial, trivial, trivial, trivial, trivial⟩ hc
  · exact cOk_at g9 trivial hc
  · exact cOk_at g10 ⟨trivial, trivial, trivial, trivial, trivial, trivial, trivial⟩ hc
  · exact cOk_at g11 ⟨vr (by omega), vr (by omega), vr (by omega), vr (by omega), trivial⟩ hc
  · exact cOk_at g12 trivial hc
  · exact cOk_at g13 trivial hc
  · exact cOk_at g14 trivial hc
  · exact cOk_at g15 trivial hc
  · exact cOk_at g16 ⟨trivial, trivial, trivial⟩ hc
theorem CPc.cl {n : Nat} {h : jH} {s sS P : Nat → Nat} {ch : Nat} {ea fa : Int32} {sv : Bool} {lf : Nat → Nat} {ln : Nat} {tx : Nat → Nat} {tp : Nat} (g : CPc h s sS P ch ea fa sv lf ln tx tp) (hn : 116 ≤ n) {j : Nat} {c : jC} (h2 : j ≤ 115) (hc : h[j]? = some c) : cOk n c := by
  obtain ⟨c0, gs, ⟨nx, f, o, r, n8, c8, f8, a, p⟩, sa, ⟨s9, be⟩, ⟨po, ct, vc, ks, as_, vs, p1, p2, p3, p4, p5⟩, ⟨fl, l1, l2, l3⟩⟩ := g
  rcases (show j = 0 ∨ (1 ≤ j ∧ j ≤ 16) ∨ j = 17 ∨ j = 18 ∨ (19 ≤ j ∧ j ≤ 90) ∨ (91 ≤ j ∧ j ≤ 99) ∨ (100 ≤ j ∧ j ≤ 108) ∨ j = 109 ∨ j = 110 ∨ j = 111 ∨ j = 112 ∨ j = 113 ∨ j = 114 ∨ j = 115 by omega) with rfl | q | rfl | rfl | q | q | q | rfl | rfl | rfl | rfl | rfl | rfl | rfl
  · exact cOk_at c0 ⟨vr (by omega), vr (by omega), vr (by omega), vr (by omega), vr (by omega), vr (by omega), trivial, trivial, trivial, trivial⟩ hc
  · exact gs.cl hn q.1 q.2 hc
  · exact cOk_at o ⟨vr (by omega), trivial, trivial, trivial⟩ hc
  · refine cOk_at r (fun i r9 hi he => ?_) hc
    rw [f8 i hi] at he
    cases he
    omega
  · obtain ⟨s8, hs8⟩ := a ((j - 19) / 9) (by omega)
    exact hs8.cl (by omega) (by omega) (by omega) hc
  · exact sa.1.cl (by omega) q.1 (by omega) hc
  · exact be.cl (by omega) q.1 (by omega) hc
  · exact cOk_at p1 ⟨vr (by omega), vr (by omega), vr (by omega), vr (by omega), trivial, trivial, trivial, trivial, trivial⟩ hc
  · exact cOk_at p2 trivial hc
  · exact cOk_at p3 trivial hc
  · exact cOk_at p4 trivial hc
  · exact cOk_at p5 trivial hc
  · exact cOk_at l1 ⟨vr (by omega), trivial, trivial⟩ hc
  · exact cOk_at l2 trivial hc
/-- all behind the class is sound -/
abbrev Rest (h : jH) : Prop := 116 ≤ h.length ∧ ∀ (i : Nat) (c : jC), 116 ≤ i → h[i]? = some c → cOk h.length c
theorem CPc.hOk {h : jH} {s sS P : Nat → Nat} {ch : Nat} {ea fa : Int32} {sv : Bool} {lf : Nat → Nat} {ln : Nat} {tx : Nat → Nat} {tp : Nat} (g : CPc h s sS P ch ea fa sv lf ln tx tp) (r : Rest h) : hOk h := fun i c hc => by
  rcases Nat.lt_or_ge i 116 with q | q
  · exact g.cl r.1 (by omega) hc
  · exact r.2 i c q hc
theorem Rest.frm {C : Nat → Prop} {h h' : jH} (r : Rest h) (hf : jFr C h h') (hc : ∀ j, 116 ≤ j → ¬ C j) : Rest h' := by
  refine ⟨by rw [hf.1]; exact r.1, fun i c hi h9 => ?_⟩
  rw [hf.1]
  rw [hf.2 i (hc i hi)] at h9
  exact r.2 i c hi h9
theorem Rest.of {h : jH} (h1 : 116 ≤ h.length) (hh : hOk h) : Rest h := ⟨h1, fun i c _ hc => hh i c hc⟩
