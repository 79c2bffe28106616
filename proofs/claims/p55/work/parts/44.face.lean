/-! The class's face: what it stands on, questions -/
abbrev clC (j : Nat) : Prop := j ≤ 115
/-- the class, as it stands in the heap -/
abbrev CPc (h : jH) (s sS P : Nat → Nat) (ch : Nat) (ea fa : Int32) (sv : Bool) (lf : Nat → Nat) (ln : Nat) (tx : Nat → Nat) (tp : Nat) : Prop :=
  (h[0]? = some (.inr (10, [.ref 1, .ref 17, .ref 91, .ref 100, .ref 109, .ref 114, .int (jb sv), .int ea, .int fa]))) ∧
  (GS h s) ∧
  (HS h P ch) ∧
  (PS 91 h sS ∧ (sv = true → sS 1 ≤ 12)) ∧
  (∃ s9, PS 100 h s9) ∧
  (∃ (po ct vc : Nat) (ks as_ vs : Nat → Nat), h[109]? = some (hPg tp po ct vc) ∧ h[110]? = some (ca 60 tx) ∧ h[111]? = some (ia 13 ks) ∧ h[112]? = some (ia 39 as_) ∧ h[113]? = some (ia 3 vs)) ∧
  (∃ f : Nat → Nat, h[114]? = some (hLine ln) ∧ h[115]? = some (ca 80 f) ∧ ∀ i, i < ln → f i = lf i)
theorem CPc.c0 {h : jH} {s sS P : Nat → Nat} {ch : Nat} {ea fa : Int32} {sv : Bool} {lf : Nat → Nat} {ln : Nat} {tx : Nat → Nat} {tp : Nat} (I : CPc h s sS P ch ea fa sv lf ln tx tp) : h[0]? = some (.inr (10, [.ref 1, .ref 17, .ref 91, .ref 100, .ref 109, .ref 114, .int (jb sv), .int ea, .int fa])) := I.1
theorem CPc.gs {h : jH} {s sS P : Nat → Nat} {ch : Nat} {ea fa : Int32} {sv : Bool} {lf : Nat → Nat} {ln : Nat} {tx : Nat → Nat} {tp : Nat} (I : CPc h s sS P ch ea fa sv lf ln tx tp) : GS h s := I.2.1
theorem CPc.hs {h : jH} {s sS P : Nat → Nat} {ch : Nat} {ea fa : Int32} {sv : Bool} {lf : Nat → Nat} {ln : Nat} {tx : Nat → Nat} {tp : Nat} (I : CPc h s sS P ch ea fa sv lf ln tx tp) : HS h P ch := I.2.2.1
theorem CPc.sa {h : jH} {s sS P : Nat → Nat} {ch : Nat} {ea fa : Int32} {sv : Bool} {lf : Nat → Nat} {ln : Nat} {tx : Nat → Nat} {tp : Nat} (I : CPc h s sS P ch ea fa sv lf ln tx tp) : PS 91 h sS ∧ (sv = true → sS 1 ≤ 12) := I.2.2.2.1
theorem CPc.be {h : jH} {s sS P : Nat → Nat} {ch : Nat} {ea fa : Int32} {sv : Bool} {lf : Nat → Nat} {ln : Nat} {tx : Nat → Nat} {tp : Nat} (I : CPc h s sS P ch ea fa sv lf ln tx tp) : ∃ s9, PS 100 h s9 := I.2.2.2.2.1
theorem CPc.pg {h : jH} {s sS P : Nat → Nat} {ch : Nat} {ea fa : Int32} {sv : Bool} {lf : Nat → Nat} {ln : Nat} {tx : Nat → Nat} {tp : Nat} (I : CPc h s sS P ch ea fa sv lf ln tx tp) : ∃ (po ct vc : Nat) (ks as_ vs : Nat → Nat), h[109]? = some (hPg tp po ct vc) ∧ h[110]? = some (ca 60 tx) ∧ h[111]? = some (ia 13 ks) ∧ h[112]? = some (ia 39 as_) ∧ h[113]? = some (ia 3 vs) := I.2.2.2.2.2.1
theorem CPc.li {h : jH} {s sS P : Nat → Nat} {ch : Nat} {ea fa : Int32} {sv : Bool} {lf : Nat → Nat} {ln : Nat} {tx : Nat → Nat} {tp : Nat} (I : CPc h s sS P ch ea fa sv lf ln tx tp) : ∃ f : Nat → Nat, h[114]? = some (hLine ln) ∧ h[115]? = some (ca 80 f) ∧ ∀ i, i < ln → f i = lf i := I.2.2.2.2.2.2
theorem CPc.frm {C : Nat → Prop} {h h' : jH} {s sS P : Nat → Nat} {ch : Nat} {ea fa : Int32} {sv : Bool} {lf : Nat → Nat} {ln : Nat} {tx : Nat → Nat} {tp : Nat} (g : CPc h s sS P ch ea fa sv lf ln tx tp) (hf : jFr C h h') (hc : ∀ j, j ≤ 115 → ¬ C j) : CPc h' s sS P ch ea fa sv lf ln tx tp := by
  obtain ⟨c0, gs, hs, sa, be, ⟨po, ct, vc, ks, as_, vs, p1, p2, p3, p4, p5⟩, ⟨f, l1, l2, l3⟩⟩ := g
  refine ⟨hf.at (hc _ (by omega)) c0, gs.frm hf (fun j a b => hc j (by omega)), hs.frm hf (fun j a b => hc j (by omega)), ⟨sa.1.frm hf (fun j a b => hc j (by omega)), sa.2⟩, ?_, ⟨po, ct, vc, ks, as_, vs, hf.at (hc _ (by omega)) p1, hf.at (hc _ (by omega)) p2, hf.at (hc _ (by omega)) p3, hf.at (hc _ (by omega)) p4, hf.at (hc _ (by omega)) p5⟩, ⟨f, hf.at (hc _ (by omega)) l1, hf.at (hc _ (by omega)) l2, l3⟩⟩
  obtain ⟨s9, h9⟩ := be
  exact ⟨s9, h9.frm hf (fun j a b => hc j (by omega))⟩
/-- the guide's own places are written -/
theorem CPc.gset {h h' : jH} {s s' sS P : Nat → Nat} {ch : Nat} {ea fa : Int32} {sv : Bool} {lf : Nat → Nat} {ln : Nat} {tx : Nat → Nat} {tp : Nat} (g : CPc h s sS P ch ea fa sv lf ln tx tp) (hf : jFr gC h h') (hg : GS h' s') : CPc h' s' sS P ch ea fa sv lf ln tx tp := by
  obtain ⟨c0, gs, hs, sa, be, ⟨po, ct, vc, ks, as_, vs, p1, p2, p3, p4, p5⟩, ⟨f, l1, l2, l3⟩⟩ := g
  refine ⟨hf.at (by decide) c0, hg, hs.frm hf (fun j a b => by show ¬ (_ ∧ _); omega), ⟨sa.1.frm hf (fun j a b => by show ¬ (_ ∧ _); omega), sa.2⟩, ?_, ⟨po, ct, vc, ks, as_, vs, hf.at (by decide) p1, hf.at (by decide) p2, hf.at (by decide) p3, hf.at (by decide) p4, hf.at (by decide) p5⟩, ⟨f, hf.at (by decide) l1, hf.at (by decide) l2, l3⟩⟩
  obtain ⟨s9, h9⟩ := be
  exact ⟨s9, h9.frm hf (fun j a b => by show ¬ (_ ∧ _); omega)⟩
section FACE
variable {G : jG} {X : Bool} {h : jH} {Q : jQ_} {ch ln tp K : Nat} {ea fa : Int32} {sv : Bool} {s sS P lf tx : Nat → Nat}
theorem c_X10_requireWaypoint (x : Int32) (I : Inv K s) (cp : CPc h s sS P ch ea fa sv lf ln tx tp)
    (hQ1 : isIx x (s 0) = true → Q (.inl none) h) (hQ2 : isIx x (s 0) = false → Q (.inr "java/lang/IndexOutOfBoundsException") h) : jCT G M_X10_requireWaypoint 6 1 6 false [.ref 0, .int x] h Q := by
  refine jCT_of [some (.ref 0), some (.int x)] 0 rfl (by decide +kernel) rfl rfl ?_
  obtain ⟨c0, gs, hhs, hsa, hbe, hpg, hli⟩ := cp
  have cp : CPc h s sS P ch ea fa sv lf ln tx tp := ⟨c0, gs, hhs, hsa, hbe, hpg, hli⟩
  obtain ⟨fx, fy, fr, w, rt, ti, x9, y9, D, E, L, m, num, den, g⟩ := gs
  have g0 := g
  have hgr := g.gr I
  obtain ⟨g1, g2, g3, g4, g5, g6, g7, g8, g9, g10, g11, g12, g13, g14, g15, g16, e1, e2, e3⟩ := g
  have hn := I.n12
  have hs1 := I.s1
  refine J_aload_n (by rfl) (by rfl) dX10_requireWaypoint_0 ?_
  refine J_get dX10_requireWaypoint_1 f_X10_12 (by repeat (first | assumption | exact jget_same2 (by (try simp only [List.length_set]); exact jlt (by assumption)) | refine jget_ne (by first | decide | assumption | omega) ?_)) (by rfl) ?_
  refine J_get dX10_requireWaypoint_4 f_X10_62 (by repeat (first | assumption | exact jget_same2 (by (try simp only [List.length_set]); exact jlt (by assumption)) | refine jget_ne (by first | decide | assumption | omega) ?_)) (by rfl) ?_
  refine J_get dX10_requireWaypoint_7 f_X10_65 (by repeat (first | assumption | exact jget_same2 (by (try simp only [List.length_set]); exact jlt (by assumption)) | refine jget_ne (by first | decide | assumption | omega) ?_)) (by rfl) ?_
  refine J_iload_n (by rfl) dX10_requireWaypoint_10 ?_
  refine J_V1v (ci := 9) dX10_requireWaypoint_11 s_X10_355 m_X9_exists rfl (by repeat (first | assumption | exact jget_same2 (by (try simp only [List.length_set]); exact jlt (by assumption)) | refine jget_ne (by first | decide | assumption | omega) ?_)) rfl (c_X9_exists _ g3 (jKv_i ?_))
  refine J_if_ne_b 28 dX10_requireWaypoint_14 (by decide) (fun c14 => ?_) (fun c14 => ?_)
  · exact J_return dX10_requireWaypoint_28 rfl (hQ1 c14) (by decide) (by decide) (fun q => by cases q)
  · exact J_throwW (i := 0) t_X10_265_269 dX10_requireWaypoint_17 dX10_requireWaypoint_20 dX10_requireWaypoint_21 dX10_requireWaypoint_24 dX10_requireWaypoint_27 rfl rfl rfl rfl (by decide) (by exact Nat.le_of_ble_eq_true rfl) (by decide) (by decide) (by decide) (by decide) (hQ2 c14)
theorem c_X10_requireTour (I : Inv K s) (cp : CPc h s sS P ch ea fa sv lf ln tx tp)
    (hQ1 : 0 < s 1 → Q (.inl none) h) (hQ2 : ¬ 0 < s 1 → Q (.inr "java/lang/IllegalStateException") h) : jCT G M_X10_requireTour 6 1 6 false [.ref 0] h Q := by
  refine jCT_of [some (.ref 0)] 0 rfl (by decide +kernel) rfl rfl ?_
  obtain ⟨c0, gs, hhs, hsa, hbe, hpg, hli⟩ := cp
  have cp : CPc h s sS P ch ea fa sv lf ln tx tp := ⟨c0, gs, hhs, hsa, hbe, hpg, hli⟩
  obtain ⟨fx, fy, fr, w, rt, ti, x9, y9, D, E, L, m, num, den, g⟩ := gs
  have g0 := g
  have hgr := g.gr I
  obtain ⟨g1, g2, g3, g4, g5, g6, g7, g8, g9, g10, g11, g12, g13, g14, g15, g16, e1, e2, e3⟩ := g
  have hn := I.n12
  have hs1 := I.s1
  refine J_aload_n (by rfl) (by rfl) dX10_requireTour_0 ?_
  refine J_get dX10_requireTour_1 f_X10_12 (by repeat (first | assumption | exact jget_same2 (by (try simp only [List.length_set]); exact jlt (by assumption)) | refine jget_ne (by first | decide | assumption | omega) ?_)) (by rfl) ?_
  refine J_get dX10_requireTour_4 f_X10_62 (by repeat (first | assumption | exact jget_same2 (by (try simp only [List.length_set]); exact jlt (by assumption)) | refine jget_ne (by first | decide | assumption | omega) ?_)) (by rfl) ?_
  refine J_get dX10_requireTour_7 f_X10_144 (by repeat (first | assumption | exact jget_same2 (by (try simp only [List.length_set]); exact jlt (by assumption)) | refine jget_ne (by first | decide | assumption | omega) ?_)) (by rfl) ?_
  refine J_V0v (ci := 8) dX10_requireTour_10 s_X10_148 m_X8_isOn rfl (by repeat (first | assumption | exact jget_same2 (by (try simp only [List.length_set]); exact jlt (by assumption)) | refine jget_ne (by first | decide | assumption | omega) ?_)) rfl (c_X8_isOn g8 hs1 (jKv_i ?_))
  refine J_if_ne_b 27 dX10_requireTour_13 (by decide) (fun c13 => ?_) (fun c13 => ?_)
  · exact J_return dX10_requireTour_27 rfl (hQ1 (of_decide_eq_true c13)) (by decide) (by decide) (fun q => by cases q)
  · exact J_throwW (i := 8) t_X10_276_280 dX10_requireTour_16 dX10_requireTour_19 dX10_requireTour_20 dX10_requireTour_23 dX10_requireTour_26 rfl rfl rfl rfl (by decide) (by exact Nat.le_of_ble_eq_true rfl) (by decide) (by decide) (by decide) (by decide) (hQ2 (of_decide_eq_false c13))
theorem c_X10_requireRouteIndex (x : Int32) (I : Inv K s) (cp : CPc h s sS P ch ea fa sv lf ln tx tp)
    (hQ1 : isIx x (s 1) = true → Q (.inl none) h) (hQ2 : isIx x (s 1) = false → Q (.inr "java/lang/IndexOutOfBoundsException") h) : jCT G M_X10_requireRouteIndex 6 1 6 false [.ref 0, .int x] h Q := by
  refine jCT_of [some (.ref 0), some (.int x)] 0 rfl (by decide +kernel) rfl rfl ?_
  obtain ⟨c0, gs, hhs, hsa, hbe, hpg, hli⟩ := cp
  have cp : CPc h s sS P ch ea fa sv lf ln tx tp := ⟨c0, gs, hhs, hsa, hbe, hpg, hli⟩
  obtain ⟨fx, fy, fr, w, rt, ti, x9, y9, D, E, L, m, num, den, g⟩ := gs
  have g0 := g
  have hgr := g.gr I
  obtain ⟨g1, g2, g3, g4, g5, g6, g7, g8, g9, g10, g11, g12, g13, g14, g15, g16, e1, e2, e3⟩ := g
  have hn := I.n12
  have hs1 := I.s1
  refine J_aload_n (by rfl) (by rfl) dX10_requireRouteIndex_0 ?_
  refine J_get dX10_requireRouteIndex_1 f_X10_12 (by repeat (first | assumption | exact jget_same2 (by (try simp only [List.length_set]); exact jlt (by assumption)) | refine jget_ne (by first | decide | assumption | omega) ?_)) (by rfl) ?_
  refine J_get dX10_requireRouteIndex_4 f_X10_62 (by repeat (first | assumption | exact jget_same2 (by (try simp only [List.length_set]); exact jlt (by assumption)) | refine jget_ne (by first | decide | assumption | omega) ?_)) (by rfl) ?_
  refine J_get dX10_requireRouteIndex_7 f_X10_144 (by repeat (first | assumption | exact jget_same2 (by (try simp only [List.length_set]); exact jlt (by assumption)) | refine jget_ne (by first | decide | assumption | omega) ?_)) (by rfl) ?_
  refine J_iload_n (by rfl) dX10_requireRouteIndex_10 ?_
  refine J_V1v (ci := 8) dX10_requireRouteIndex_11 s_X10_368 m_X8_hasIndex rfl (by repeat (first | assumption | exact jget_same2 (by (try simp only [List.length_set]); exact jlt (by assumption)) | refine jget_ne (by first | decide | assumption | omega) ?_)) rfl (c_X8_hasIndex _ g8 (jKv_i ?_))
  refine J_if_ne_b 28 dX10_requireRouteIndex_14 (by decide) (fun c14 => ?_) (fun c14 => ?_)
  · exact J_return dX10_requireRouteIndex_28 rfl (hQ1 c14) (by decide) (by decide) (fun q => by cases q)
  · exact J_throwW (i := 32) t_X10_265_269 dX10_requireRouteIndex_17 dX10_requireRouteIndex_20 dX10_requireRouteIndex_21 dX10_requireRouteIndex_24 dX10_requireRouteIndex_27 rfl rfl rfl rfl (by decide) (by exact Nat.le_of_ble_eq_true rfl) (by decide) (by decide) (by decide) (by decide) (hQ2 c14)
theorem c_X10_requireCoordinates (x y : Int32) 
    (hQ1 : isP x y = true → Q (.inl none) h) (hQ2 : isP x y = false → Q (.inr "java/lang/IllegalArgumentException") h) : jCT G M_X10_requireCoordinates 6 1 6 false [.int x, .int y] h Q := by
  refine jCT_of [some (.int x), some (.int y)] 0 rfl (by decide +kernel) rfl rfl ?_
  refine J_iload_n (by rfl) dX10_requireCoordinates_0 ?_
  refine J_iload_n (by rfl) dX10_requireCoordinates_1 ?_
  refine J_S2v dX10_requireCoordinates_2 s_X10_361 m_X10_areCoordinates rfl (c_X10_areCoordinates _ _ (jKv_i ?_))
  refine J_if_ne_b 19 dX10_requireCoordinates_5 (by decide) (fun c5 => ?_) (fun c5 => ?_)
  · exact J_return dX10_requireCoordinates_19 rfl (hQ1 c5) (by decide) (by decide) (fun q => by cases q)
  · exact J_throwW (i := 6) t_X10_294_298 dX10_requireCoordinates_8 dX10_requireCoordinates_11 dX10_requireCoordinates_12 dX10_requireCoordinates_15 dX10_requireCoordinates_18 rfl rfl rfl rfl (by decide) (by exact Nat.le_of_ble_eq_true rfl) (by decide) (by decide) (by decide) (by decide) (hQ2 c5)
theorem c_X10_requirePath {v : Nat} (hv : v ≤ 1000000) (hQ1 : v < 1000000 → Q (.inl none) h) (hQ2 : ¬ v < 1000000 → Q (.inr "java/util/NoSuchElementException") h) : jCT G M_X10_requirePath 6 1 6 false [.int (nI v)] h Q := by
  refine jCT_of [some (.int (nI v))] 0 rfl (by decide +kernel) rfl rfl ?_
  refine J_iload_n (by rfl) dX10_requirePath_0 ?_
  refine J_ldcwI dX10_requirePath_1 k_X10_358 ?_
  refine J_topi (nI 1000000) (by rfl) ?_
  refine J_icmp_lt_n 18 dX10_requirePath_4 (by decide) (fun c4 => ?_) (fun c4 => ?_)
  · exact J_return dX10_requirePath_18 rfl (hQ1 c4) (by decide) (by decide) (fun q => by cases q)
  · exact J_throwNW (i := 5) t_X10_95_99 dX10_requirePath_7 dX10_requirePath_10 dX10_requirePath_11 dX10_requirePath_14 dX10_requirePath_17 rfl rfl rfl rfl (by decide) (by exact Nat.le_of_ble_eq_true rfl) (by decide) (by decide) (by decide) (by decide) (hQ2 (by omega))
theorem c_X10_waypoints (I : Inv K s) (cp : CPc h s sS P ch ea fa sv lf ln tx tp)
    (hQ : Q (.inl (some (.int (nI (s 0))))) h) : jCT G M_X10_waypoints 1 0 0 X [.ref 0] h Q := by
  refine jCT_of [some (.ref 0)] 0 rfl (by decide +kernel) rfl rfl ?_
  obtain ⟨c0, gs, hhs, hsa, hbe, hpg, hli⟩ := cp
  have cp : CPc h s sS P ch ea fa sv lf ln tx tp := ⟨c0, gs, hhs, hsa, hbe, hpg, hli⟩
  obtain ⟨fx, fy, fr, w, rt, ti, x9, y9, D, E, L, m, num, den, g⟩ := gs
  have g0 := g
  have hgr := g.gr I
  obtain ⟨g1, g2, g3, g4, g5, g6, g7, g8, g9, g10, g11, g12, g13, g14, g15, g16, e1, e2, e3⟩ := g
  have hn := I.n12
  have hs1 := I.s1
  refine J_aload_n (by rfl) (by rfl) dX10_waypoints_0 ?_
  refine J_get dX10_waypoints_1 f_X10_12 (by repeat (first | assumption | exact jget_same2 (by (try simp only [List.length_set]); exact jlt (by assumption)) | refine jget_ne (by first | decide | assumption | omega) ?_)) (by rfl) ?_
  refine J_get dX10_waypoints_4 f_X10_62 (by repeat (first | assumption | exact jget_same2 (by (try simp only [List.length_set]); exact jlt (by assumption)) | refine jget_ne (by first | decide | assumption | omega) ?_)) (by rfl) ?_
  refine J_get dX10_waypoints_7 f_X10_65 (by repeat (first | assumption | exact jget_same2 (by (try simp only [List.length_set]); exact jlt (by assumption)) | refine jget_ne (by first | decide | assumption | omega) ?_)) (by rfl) ?_
  refine J_get dX10_waypoints_10 f_X10_69 (by repeat (first | assumption | exact jget_same2 (by (try simp only [List.length_set]); exact jlt (by assumption)) | refine jget_ne (by first | decide | assumption | omega) ?_)) (by rfl) ?_
  exact J_ireturn dX10_waypoints_13 rfl (hQ) (by decide) (by decide) (fun _ => rfl)
theorem c_X10_trails (I : Inv K s) (cp : CPc h s sS P ch ea fa sv lf ln tx tp)
    (hQ : Q (.inl (some (.int (nI (mT (wS s)))))) h) : jCT G M_X10_trails 1 0 0 X [.ref 0] h Q := by
  refine jCT_of [some (.ref 0)] 0 rfl (by decide +kernel) rfl rfl ?_
  obtain ⟨c0, gs, hhs, hsa, hbe, hpg, hli⟩ := cp
  have cp : CPc h s sS P ch ea fa sv lf ln tx tp := ⟨c0, gs, hhs, hsa, hbe, hpg, hli⟩
  obtain ⟨fx, fy, fr, w, rt, ti, x9, y9, D, E, L, m, num, den, g⟩ := gs
  have g0 := g
  have hgr := g.gr I
  obtain ⟨g1, g2, g3, g4, g5, g6, g7, g8, g9, g10, g11, g12, g13, g14, g15, g16, e1, e2, e3⟩ := g
  have hn := I.n12
  have hs1 := I.s1
  refine J_aload_n (by rfl) (by rfl) dX10_trails_0 ?_
  refine J_get dX10_trails_1 f_X10_12 (by repeat (first | assumption | exact jget_same2 (by (try simp only [List.length_set]); exact jlt (by assumption)) | refine jget_ne (by first | decide | assumption | omega) ?_)) (by rfl) ?_
  refine J_get dX10_trails_4 f_X10_62 (by repeat (first | assumption | exact jget_same2 (by (try simp only [List.length_set]); exact jlt (by assumption)) | refine jget_ne (by first | decide | assumption | omega) ?_)) (by rfl) ?_
  refine J_get dX10_trails_7 f_X10_65 (by repeat (first | assumption | exact jget_same2 (by (try simp only [List.length_set]); exact jlt (by assumption)) | refine jget_ne (by first | decide | assumption | omega) ?_)) (by rfl) ?_
  refine J_get dX10_trails_10 f_X10_88 (by repeat (first | assumption | exact jget_same2 (by (try simp only [List.length_set]); exact jlt (by assumption)) | refine jget_ne (by first | decide | assumption | omega) ?_)) (by rfl) ?_
  exact J_ireturn dX10_trails_13 rfl (hQ) (by decide) (by decide) (fun _ => rfl)
theorem c_X10_battery (I : Inv K s) (cp : CPc h s sS P ch ea fa sv lf ln tx tp)
    (hQ : Q (.inl (some (.int (nI (s 6))))) h) : jCT G M_X10_battery 1 0 0 X [.ref 0] h Q := by
  refine jCT_of [some (.ref 0)] 0 rfl (by decide +kernel) rfl rfl ?_
  obtain ⟨c0, gs, hhs, hsa, hbe, hpg, hli⟩ := cp
  have cp : CPc h s sS P ch ea fa sv lf ln tx tp := ⟨c0, gs, hhs, hsa, hbe, hpg, hli⟩
  obtain ⟨fx, fy, fr, w, rt, ti, x9, y9, D, E, L, m, num, den, g⟩ := gs
  have g0 := g
  have hgr := g.gr I
  obtain ⟨g1, g2, g3, g4, g5, g6, g7, g8, g9, g10, g11, g12, g13, g14, g15, g16, e1, e2, e3⟩ := g
  have hn := I.n12
  have hs1 := I.s1
  refine J_aload_n (by rfl) (by rfl) dX10_battery_0 ?_
  refine J_get dX10_battery_1 f_X10_12 (by repeat (first | assumption | exact jget_same2 (by (try simp only [List.length_set]); exact jlt (by assumption)) | refine jget_ne (by first | decide | assumption | omega) ?_)) (by rfl) ?_
  refine J_get dX10_battery_4 f_X10_62 (by repeat (first | assumption | exact jget_same2 (by (try simp only [List.length_set]); exact jlt (by assumption)) | refine jget_ne (by first | decide | assumption | omega) ?_)) (by rfl) ?_
  refine J_get dX10_battery_7 f_X10_202 (by repeat (first | assumption | exact jget_same2 (by (try simp only [List.length_set]); exact jlt (by assumption)) | refine jget_ne (by first | decide | assumption | omega) ?_)) (by rfl) ?_
  refine J_get dX10_battery_10 f_X10_214 (by repeat (first | assumption | exact jget_same2 (by (try simp only [List.length_set]); exact jlt (by assumption)) | refine jget_ne (by first | decide | assumption | omega) ?_)) (by rfl) ?_
  exact J_ireturn dX10_battery_13 rfl (hQ) (by decide) (by decide) (fun _ => rfl)
theorem c_X10_mode (I : Inv K s) (cp : CPc h s sS P ch ea fa sv lf ln tx tp)
    (hQ : Q (.inl (some (.int (nI (s 7))))) h) : jCT G M_X10_mode 1 0 0 X [.ref 0] h Q := by
  refine jCT_of [some (.ref 0)] 0 rfl (by decide +kernel) rfl rfl ?_
  obtain ⟨c0, gs, hhs, hsa, hbe, hpg, hli⟩ := cp
  have cp : CPc h s sS P ch ea fa sv lf ln tx tp := ⟨c0, gs, hhs, hsa, hbe, hpg, hli⟩
  obtain ⟨fx, fy, fr, w, rt, ti, x9, y9, D, E, L, m, num, den, g⟩ := gs
  have g0 := g
  have hgr := g.gr I
  obtain ⟨g1, g2, g3, g4, g5, g6, g7, g8, g9, g10, g11, g12, g13, g14, g15, g16, e1, e2, e3⟩ := g
  have hn := I.n12
  have hs1 := I.s1
  refine J_aload_n (by rfl) (by rfl) dX10_mode_0 ?_
  refine J_get dX10_mode_1 f_X10_12 (by repeat (first | assumption | exact jget_same2 (by (try simp only [List.length_set]); exact jlt (by assumption)) | refine jget_ne (by first | decide | assumption | omega) ?_)) (by rfl) ?_
  refine J_get dX10_mode_4 f_X10_62 (by repeat (first | assumption | exact jget_same2 (by (try simp only [List.length_set]); exact jlt (by assumption)) | refine jget_ne (by first | decide | assumption | omega) ?_)) (by rfl) ?_
  refine J_get dX10_mode_7 f_X10_202 (by repeat (first | assumption | exact jget_same2 (by (try simp only [List.length_set]); exact jlt (by assumption)) | refine jget_ne (by first | decide | assumption | omega) ?_)) (by rfl) ?_
  refine J_get dX10_mode_10 f_X10_217 (by repeat (first | assumption | exact jget_same2 (by (try simp only [List.length_set]); exact jlt (by assumption)) | refine jget_ne (by first | decide | assumption | omega) ?_)) (by rfl) ?_
  exact J_ireturn dX10_mode_13 rfl (hQ) (by decide) (by decide) (fun _ => rfl)
theorem c_X10_tolerance (I : Inv K s) (cp : CPc h s sS P ch ea fa sv lf ln tx tp)
    (hQ : Q (.inl (some (.int (nI (s 8))))) h) : jCT G M_X10_tolerance 1 0 0 X [.ref 0] h Q := by
  refine jCT_of [some (.ref 0)] 0 rfl (by decide +kernel) rfl rfl ?_
  obtain ⟨c0, gs, hhs, hsa, hbe, hpg, hli⟩ := cp
  have cp : CPc h s sS P ch ea fa sv lf ln tx tp := ⟨c0, gs, hhs, hsa, hbe, hpg, hli⟩
  obtain ⟨fx, fy, fr, w, rt, ti, x9, y9, D, E, L, m, num, den, g⟩ := gs
  have g0 := g
  have hgr := g.gr I
  obtain ⟨g1, g2, g3, g4, g5, g6, g7, g8, g9, g10, g11, g12, g13, g14, g15, g16, e1, e2, e3⟩ := g
  have hn := I.n12
  have hs1 := I.s1
  refine J_aload_n (by rfl) (by rfl) dX10_tolerance_0 ?_
  refine J_get dX10_tolerance_1 f_X10_12 (by repeat (first | assumption | exact jget_same2 (by (try simp only [List.length_set]); exact jlt (by assumption)) | refine jget_ne (by first | decide | assumption | omega) ?_)) (by rfl) ?_
  refine J_get dX10_tolerance_4 f_X10_62 (by repeat (first | assumption | exact jget_same2 (by (try simp only [List.length_set]); exact jlt (by assumption)) | refine jget_ne (by first | decide | assumption | omega) ?_)) (by rfl) ?_
  refine J_get dX10_tolerance_7 f_X10_202 (by repeat (first | assumption | exact jget_same2 (by (try simp only [List.length_set]); exact jlt (by assumption)) | refine jget_ne (by first | decide | assumption | omega) ?_)) (by rfl) ?_
  refine J_get dX10_tolerance_10 f_X10_206 (by repeat (first | assumption | exact jget_same2 (by (try simp only [List.length_set]); exact jlt (by assumption)) | refine jget_ne (by first | decide | assumption | omega) ?_)) (by rfl) ?_
  exact J_ireturn dX10_tolerance_13 rfl (hQ) (by decide) (by decide) (fun _ => rfl)
theorem c_X10_updates (I : Inv K s) (cp : CPc h s sS P ch ea fa sv lf ln tx tp)
    (hQ : Q (.inl (some (.int (nI (s 9))))) h) : jCT G M_X10_updates 1 0 0 X [.ref 0] h Q := by
  refine jCT_of [some (.ref 0)] 0 rfl (by decide +kernel) rfl rfl ?_
  obtain ⟨c0, gs, hhs, hsa, hbe, hpg, hli⟩ := cp
  have cp : CPc h s sS P ch ea fa sv lf ln tx tp := ⟨c0, gs, hhs, hsa, hbe, hpg, hli⟩
  obtain ⟨fx, fy, fr, w, rt, ti, x9, y9, D, E, L, m, num, den, g⟩ := gs
  have g0 := g
  have hgr := g.gr I
  obtain ⟨g1, g2, g3, g4, g5, g6, g7, g8, g9, g10, g11, g12, g13, g14, g15, g16, e1, e2, e3⟩ := g
  have hn := I.n12
  have hs1 := I.s1
  refine J_aload_n (by rfl) (by rfl) dX10_updates_0 ?_
  refine J_get dX10_updates_1 f_X10_12 (by repeat (first | assumption | exact jget_same2 (by (try simp only [List.length_set]); exact jlt (by assumption)) | refine jget_ne (by first | decide | assumption | omega) ?_)) (by rfl) ?_
  refine J_get dX10_updates_4 f_X10_62 (by repeat (first | assumption | exact jget_same2 (by (try simp only [List.length_set]); exact jlt (by assumption)) | refine jget_ne (by first | decide | assumption | omega) ?_)) (by rfl) ?_
  refine J_get dX10_updates_7 f_X10_202 (by repeat (first | assumption | exact jget_same2 (by (try simp only [List.length_set]); exact jlt (by assumption)) | refine jget_ne (by first | decide | assumption | omega) ?_)) (by rfl) ?_
  refine J_get dX10_updates_10 f_X10_226 (by repeat (first | assumption | exact jget_same2 (by (try simp only [List.length_set]); exact jlt (by assumption)) | refine jget_ne (by first | decide | assumption | omega) ?_)) (by rfl) ?_
  exact J_ireturn dX10_updates_13 rfl (hQ) (by decide) (by decide) (fun _ => rfl)
theorem c_X10_alarms (I : Inv K s) (cp : CPc h s sS P ch ea fa sv lf ln tx tp)
    (hQ : Q (.inl (some (.int (nI (s 10))))) h) : jCT G M_X10_alarms 1 0 0 X [.ref 0] h Q := by
  refine jCT_of [some (.ref 0)] 0 rfl (by decide +kernel) rfl rfl ?_
  obtain ⟨c0, gs, hhs, hsa, hbe, hpg, hli⟩ := cp
  have cp : CPc h s sS P ch ea fa sv lf ln tx tp := ⟨c0, gs, hhs, hsa, hbe, hpg, hli⟩
  obtain ⟨fx, fy, fr, w, rt, ti, x9, y9, D, E, L, m, num, den, g⟩ := gs
  have g0 := g
  have hgr := g.gr I
  obtain ⟨g1, g2, g3, g4, g5, g6, g7, g8, g9, g10, g11, g12, g13, g14, g15, g16, e1, e2, e3⟩ := g
  have hn := I.n12
  have hs1 := I.s1
  refine J_aload_n (by rfl) (by rfl) dX10_alarms_0 ?_
  refine J_get dX10_alarms_1 f_X10_12 (by repeat (first | assumption | exact jget_same2 (by (try simp only [List.length_set]); exact jlt (by assumption)) | refine jget_ne (by first | decide | assumption | omega) ?_)) (by rfl) ?_
  refine J_get dX10_alarms_4 f_X10_62 (by repeat (first | assumption | exact jget_same2 (by (try simp only [List.length_set]); exact jlt (by assumption)) | refine jget_ne (by first | decide | assumption | omega) ?_)) (by rfl) ?_
  refine J_get dX10_alarms_7 f_X10_202 (by repeat (first | assumption | exact jget_same2 (by (try simp only [List.length_set]); exact jlt (by assumption)) | refine jget_ne (by first | decide | assumption | omega) ?_)) (by rfl) ?_
  refine J_get dX10_alarms_10 f_X10_229 (by repeat (first | assumption | exact jget_same2 (by (try simp only [List.length_set]); exact jlt (by assumption)) | refine jget_ne (by first | decide | assumption | omega) ?_)) (by rfl) ?_
  exact J_ireturn dX10_alarms_13 rfl (hQ) (by decide) (by decide) (fun _ => rfl)
theorem c_X10_reached (I : Inv K s) (cp : CPc h s sS P ch ea fa sv lf ln tx tp)
    (hQ : Q (.inl (some (.int (nI (s 11))))) h) : jCT G M_X10_reached 1 0 0 X [.ref 0] h Q := by
  refine jCT_of [some (.ref 0)] 0 rfl (by decide +kernel) rfl rfl ?_
  obtain ⟨c0, gs, hhs, hsa, hbe, hpg, hli⟩ := cp
  have cp : CPc h s sS P ch ea fa sv lf ln tx tp := ⟨c0, gs, hhs, hsa, hbe, hpg, hli⟩
  obtain ⟨fx, fy, fr, w, rt, ti, x9, y9, D, E, L, m, num, den, g⟩ := gs
  have g0 := g
  have hgr := g.gr I
  obtain ⟨g1, g2, g3, g4, g5, g6, g7, g8, g9, g10, g11, g12, g13, g14, g15, g16, e1, e2, e3⟩ := g
  have hn := I.n12
  have hs1 := I.s1
  refine J_aload_n (by rfl) (by rfl) dX10_reached_0 ?_
  refine J_get dX10_reached_1 f_X10_12 (by repeat (first | assumption | exact jget_same2 (by (try simp only [List.length_set]); exact jlt (by assumption)) | refine jget_ne (by first | decide | assumption | omega) ?_)) (by rfl) ?_
  refine J_get dX10_reached_4 f_X10_62 (by repeat (first | assumption | exact jget_same2 (by (try simp only [List.length_set]); exact jlt (by assumption)) | refine jget_ne (by first | decide | assumption | omega) ?_)) (by rfl) ?_
  refine J_get dX10_reached_7 f_X10_202 (by repeat (first | assumption | exact jget_same2 (by (try simp only [List.length_set]); exact jlt (by assumption)) | refine jget_ne (by first | decide | assumption | omega) ?_)) (by rfl) ?_
  refine J_get dX10_reached_10 f_X10_232 (by repeat (first | assumption | exact jget_same2 (by (try simp only [List.length_set]); exact jlt (by assumption)) | refine jget_ne (by first | decide | assumption | omega) ?_)) (by rfl) ?_
  exact J_ireturn dX10_reached_13 rfl (hQ) (by decide) (by decide) (fun _ => rfl)
theorem c_X10_isTouring (I : Inv K s) (cp : CPc h s sS P ch ea fa sv lf ln tx tp)
    (hQ : Q (.inl (some (.int (jb (decide (0 < s 1)))))) h) : jCT G M_X10_isTouring 2 0 0 X [.ref 0] h Q := by
  refine jCT_of [some (.ref 0)] 0 rfl (by decide +kernel) rfl rfl ?_
  obtain ⟨c0, gs, hhs, hsa, hbe, hpg, hli⟩ := cp
  have cp : CPc h s sS P ch ea fa sv lf ln tx tp := ⟨c0, gs, hhs, hsa, hbe, hpg, hli⟩
  obtain ⟨fx, fy, fr, w, rt, ti, x9, y9, D, E, L, m, num, den, g⟩ := gs
  have g0 := g
  have hgr := g.gr I
  obtain ⟨g1, g2, g3, g4, g5, g6, g7, g8, g9, g10, g11, g12, g13, g14, g15, g16, e1, e2, e3⟩ := g
  have hn := I.n12
  have hs1 := I.s1
  refine J_aload_n (by rfl) (by rfl) dX10_isTouring_0 ?_
  refine J_get dX10_isTouring_1 f_X10_12 (by repeat (first | assumption | exact jget_same2 (by (try simp only [List.length_set]); exact jlt (by assumption)) | refine jget_ne (by first | decide | assumption | omega) ?_)) (by rfl) ?_
  refine J_get dX10_isTouring_4 f_X10_62 (by repeat (first | assumption | exact jget_same2 (by (try simp only [List.length_set]); exact jlt (by assumption)) | refine jget_ne (by first | decide | assumption | omega) ?_)) (by rfl) ?_
  refine J_get dX10_isTouring_7 f_X10_144 (by repeat (first | assumption | exact jget_same2 (by (try simp only [List.length_set]); exact jlt (by assumption)) | refine jget_ne (by first | decide | assumption | omega) ?_)) (by rfl) ?_
  refine J_V0v (ci := 8) dX10_isTouring_10 s_X10_148 m_X8_isOn rfl (by repeat (first | assumption | exact jget_same2 (by (try simp only [List.length_set]); exact jlt (by assumption)) | refine jget_ne (by first | decide | assumption | omega) ?_)) rfl (c_X8_isOn g8 hs1 (jKv_i ?_))
  exact J_zreturn dX10_isTouring_13 rfl (by first | rfl | exact jb_n _) (hQ) (by decide) (by decide) (fun _ => rfl)
theorem c_X10_isAlarm (I : Inv K s) (cp : CPc h s sS P ch ea fa sv lf ln tx tp)
    (hQ : Q (.inl (some (.int (jb (decide (s 5 = 1)))))) h) : jCT G M_X10_isAlarm 1 0 0 X [.ref 0] h Q := by
  refine jCT_of [some (.ref 0)] 0 rfl (by decide +kernel) rfl rfl ?_
  obtain ⟨c0, gs, hhs, hsa, hbe, hpg, hli⟩ := cp
  have cp : CPc h s sS P ch ea fa sv lf ln tx tp := ⟨c0, gs, hhs, hsa, hbe, hpg, hli⟩
  obtain ⟨fx, fy, fr, w, rt, ti, x9, y9, D, E, L, m, num, den, g⟩ := gs
  have g0 := g
  have hgr := g.gr I
  obtain ⟨g1, g2, g3, g4, g5, g6, g7, g8, g9, g10, g11, g12, g13, g14, g15, g16, e1, e2, e3⟩ := g
  have hn := I.n12
  have hs1 := I.s1
  refine J_aload_n (by rfl) (by rfl) dX10_isAlarm_0 ?_
  refine J_get dX10_isAlarm_1 f_X10_12 (by repeat (first | assumption | exact jget_same2 (by (try simp only [List.length_set]); exact jlt (by assumption)) | refine jget_ne (by first | decide | assumption | omega) ?_)) (by rfl) ?_
  refine J_get dX10_isAlarm_4 f_X10_62 (by repeat (first | assumption | exact jget_same2 (by (try simp only [List.length_set]); exact jlt (by assumption)) | refine jget_ne (by first | decide | assumption | omega) ?_)) (by rfl) ?_
  refine J_get dX10_isAlarm_7 f_X10_144 (by repeat (first | assumption | exact jget_same2 (by (try simp only [List.length_set]); exact jlt (by assumption)) | refine jget_ne (by first | decide | assumption | omega) ?_)) (by rfl) ?_
  refine J_get dX10_isAlarm_10 f_X10_196 (by repeat (first | assumption | exact jget_same2 (by (try simp only [List.length_set]); exact jlt (by assumption)) | refine jget_ne (by first | decide | assumption | omega) ?_)) (by rfl) ?_
  exact J_zreturn dX10_isAlarm_13 rfl (by first | rfl | exact jb_n _) (hQ) (by decide) (by decide) (fun _ => rfl)
theorem c_X10_updatesLeft (I : Inv K s) (cp : CPc h s sS P ch ea fa sv lf ln tx tp)
    (hQ : Q (.inl (some (.int (nI ((s 6 + costN (s 7) - 1) / costN (s 7)))))) h) : jCT G M_X10_updatesLeft 3 0 0 X [.ref 0] h Q := by
  refine jCT_of [some (.ref 0)] 0 rfl (by decide +kernel) rfl rfl ?_
  obtain ⟨c0, gs, hhs, hsa, hbe, hpg, hli⟩ := cp
  have cp : CPc h s sS P ch ea fa sv lf ln tx tp := ⟨c0, gs, hhs, hsa, hbe, hpg, hli⟩
  obtain ⟨fx, fy, fr, w, rt, ti, x9, y9, D, E, L, m, num, den, g⟩ := gs
  have g0 := g
  have hgr := g.gr I
  obtain ⟨g1, g2, g3, g4, g5, g6, g7, g8, g9, g10, g11, g12, g13, g14, g15, g16, e1, e2, e3⟩ := g
  have hn := I.n12
  have hs1 := I.s1
  refine J_aload_n (by rfl) (by rfl) dX10_updatesLeft_0 ?_
  refine J_get dX10_updatesLeft_1 f_X10_12 (by repeat (first | assumption | exact jget_same2 (by (try simp only [List.length_set]); exact jlt (by assumption)) | refine jget_ne (by first | decide | assumption | omega) ?_)) (by rfl) ?_
  refine J_get dX10_updatesLeft_4 f_X10_62 (by repeat (first | assumption | exact jget_same2 (by (try simp only [List.length_set]); exact jlt (by assumption)) | refine jget_ne (by first | decide | assumption | omega) ?_)) (by rfl) ?_
  refine J_get dX10_updatesLeft_7 f_X10_202 (by repeat (first | assumption | exact jget_same2 (by (try simp only [List.length_set]); exact jlt (by assumption)) | refine jget_ne (by first | decide | assumption | omega) ?_)) (by rfl) ?_
  refine J_V0v (ci := 4) dX10_updatesLeft_10 s_X10_220 m_X4_leftByDivision rfl (by repeat (first | assumption | exact jget_same2 (by (try simp only [List.length_set]); exact jlt (by assumption)) | refine jget_ne (by first | decide | assumption | omega) ?_)) rfl (c_X4_leftByDivision I.mo I.b g10 (jKv_i ?_))
  exact J_ireturn dX10_updatesLeft_13 rfl (hQ) (by decide) (by decide) (fun _ => rfl)
theorem c_X10_updatesLeftByCounting (I : Inv K s) (cp : CPc h s sS P ch ea fa sv lf ln tx tp)
    (hQ : Q (.inl (some (.int (nI ((s 6 + costN (s 7) - 1) / costN (s 7)))))) h) : jCT G M_X10_updatesLeftByCounting 3 0 0 X [.ref 0] h Q := by
  refine jCT_of [some (.ref 0)] 0 rfl (by decide +kernel) rfl rfl ?_
  obtain ⟨c0, gs, hhs, hsa, hbe, hpg, hli⟩ := cp
  have cp : CPc h s sS P ch ea fa sv lf ln tx tp := ⟨c0, gs, hhs, hsa, hbe, hpg, hli⟩
  obtain ⟨fx, fy, fr, w, rt, ti, x9, y9, D, E, L, m, num, den, g⟩ := gs
  have g0 := g
  have hgr := g.gr I
  obtain ⟨g1, g2, g3, g4, g5, g6, g7, g8, g9, g10, g11, g12, g13, g14, g15, g16, e1, e2, e3⟩ := g
  have hn := I.n12
  have hs1 := I.s1
  refine J_aload_n (by rfl) (by rfl) dX10_updatesLeftByCounting_0 ?_
  refine J_get dX10_updatesLeftByCounting_1 f_X10_12 (by repeat (first | assumption | exact jget_same2 (by (try simp only [List.length_set]); exact jlt (by assumption)) | refine jget_ne (by first | decide | assumption | omega) ?_)) (by rfl) ?_
  refine J_get dX10_updatesLeftByCounting_4 f_X10_62 (by repeat (first | assumption | exact jget_same2 (by (try simp only [List.length_set]); exact jlt (by assumption)) | refine jget_ne (by first | decide | assumption | omega) ?_)) (by rfl) ?_
  refine J_get dX10_updatesLeftByCounting_7 f_X10_202 (by repeat (first | assumption | exact jget_same2 (by (try simp only [List.length_set]); exact jlt (by assumption)) | refine jget_ne (by first | decide | assumption | omega) ?_)) (by rfl) ?_
  refine J_V0v (ci := 4) dX10_updatesLeftByCounting_10 s_X10_223 m_X4_leftByCounting rfl (by repeat (first | assumption | exact jget_same2 (by (try simp only [List.length_set]); exact jlt (by assumption)) | refine jget_ne (by first | decide | assumption | omega) ?_)) rfl (c_X4_leftByCounting I.mo I.b g10 (jKv_i ?_))
  exact J_ireturn dX10_updatesLeftByCounting_13 rfl (hQ) (by decide) (by decide) (fun _ => rfl)
theorem c_X10_waypointX (x : Int32) (I : Inv K s) (cp : CPc h s sS P ch ea fa sv lf ln tx tp)
    (hQ1 : isIx x (s 0) = true → Q (.inl (some (.int (nI (s (12 + 3 * nP x + 0)))))) h) (hQ2 : isIx x (s 0) = false → Q (.inr "java/lang/IndexOutOfBoundsException") h) : jCT G M_X10_waypointX 7 1 6 false [.ref 0, .int x] h Q := by
  refine jCT_of [some (.ref 0), some (.int x)] 0 rfl (by decide +kernel) rfl rfl ?_
  obtain ⟨c0, gs, hhs, hsa, hbe, hpg, hli⟩ := cp
  have cp : CPc h s sS P ch ea fa sv lf ln tx tp := ⟨c0, gs, hhs, hsa, hbe, hpg, hli⟩
  obtain ⟨fx, fy, fr, w, rt, ti, x9, y9, D, E, L, m, num, den, g⟩ := gs
  have g0 := g
  have hgr := g.gr I
  obtain ⟨g1, g2, g3, g4, g5, g6, g7, g8, g9, g10, g11, g12, g13, g14, g15, g16, e1, e2, e3⟩ := g
  have hn := I.n12
  have hs1 := I.s1
  refine J_aload_n (by rfl) (by rfl) dX10_waypointX_0 ?_
  refine J_iload_n (by rfl) dX10_waypointX_1 ?_
  refine J_V10x (ci := 10) dX10_waypointX_2 s_X10_74 m_X10_requireWaypoint rfl (by repeat (first | assumption | exact jget_same2 (by (try simp only [List.length_set]); exact jlt (by assumption)) | refine jget_ne (by first | decide | assumption | omega) ?_)) rfl (c_X10_requireWaypoint x I cp (fun c => jKx0_i ?_) (fun c => jKx0_x ?_))
  · obtain ⟨i, rfl, hi, ex⟩ := isIx_k c (by omega)
    have hQ1 := hQ1 c
    obtain ⟨z1, z2, z3⟩ := e1 i (by omega)
    refine J_aload_n (by rfl) (by rfl) dX10_waypointX_5 ?_
    refine J_get dX10_waypointX_6 f_X10_12 (by repeat (first | assumption | exact jget_same2 (by (try simp only [List.length_set]); exact jlt (by assumption)) | refine jget_ne (by first | decide | assumption | omega) ?_)) (by rfl) ?_
    refine J_get dX10_waypointX_9 f_X10_62 (by repeat (first | assumption | exact jget_same2 (by (try simp only [List.length_set]); exact jlt (by assumption)) | refine jget_ne (by first | decide | assumption | omega) ?_)) (by rfl) ?_
    refine J_get dX10_waypointX_12 f_X10_65 (by repeat (first | assumption | exact jget_same2 (by (try simp only [List.length_set]); exact jlt (by assumption)) | refine jget_ne (by first | decide | assumption | omega) ?_)) (by rfl) ?_
    refine J_iload_n (by rfl) dX10_waypointX_15 ?_
    refine J_V1v (ci := 9) dX10_waypointX_16 s_X10_78 m_X9_xOf rfl (by repeat (first | assumption | exact jget_same2 (by (try simp only [List.length_set]); exact jlt (by assumption)) | refine jget_ne (by first | decide | assumption | omega) ?_)) rfl (c_X9_xOf (i := i) (by omega) g3 g4 (jKv_i ?_))
    refine J_topi (nI (s (12 + 3 * nP (nI i) + 0))) (by rw [ex, z1]; rfl) ?_
    exact J_ireturn dX10_waypointX_19 rfl (hQ1) (by decide) (by decide) (fun q => by cases q)
  · exact JX_out rfl (by decide) (by decide) (hQ2 c)
theorem c_X10_waypointY (x : Int32) (I : Inv K s) (cp : CPc h s sS P ch ea fa sv lf ln tx tp)
    (hQ1 : isIx x (s 0) = true → Q (.inl (some (.int (nI (s (12 + 3 * nP x + 1)))))) h) (hQ2 : isIx x (s 0) = false → Q (.inr "java/lang/IndexOutOfBoundsException") h) : jCT G M_X10_waypointY 7 1 6 false [.ref 0, .int x] h Q := by
  refine jCT_of [some (.ref 0), some (.int x)] 0 rfl (by decide +kernel) rfl rfl ?_
  obtain ⟨c0, gs, hhs, hsa, hbe, hpg, hli⟩ := cp
  have cp : CPc h s sS P ch ea fa sv lf ln tx tp := ⟨c0, gs, hhs, hsa, hbe, hpg, hli⟩
  obtain ⟨fx, fy, fr, w, rt, ti, x9, y9, D, E, L, m, num, den, g⟩ := gs
  have g0 := g
  have hgr := g.gr I
  obtain ⟨g1, g2, g3, g4, g5, g6, g7, g8, g9, g10, g11, g12, g13, g14, g15, g16, e1, e2, e3⟩ := g
  have hn := I.n12
  have hs1 := I.s1
  refine J_aload_n (by rfl) (by rfl) dX10_waypointY_0 ?_
  refine J_iload_n (by rfl) dX10_waypointY_1 ?_
  refine J_V10x (ci := 10) dX10_waypointY_2 s_X10_74 m_X10_requireWaypoint rfl (by repeat (first | assumption | exact jget_same2 (by (try simp only [List.length_set]); exact jlt (by assumption)) | refine jget_ne (by first | decide | assumption | omega) ?_)) rfl (c_X10_requireWaypoint x I cp (fun c => jKx0_i ?_) (fun c => jKx0_x ?_))
  · obtain ⟨i, rfl, hi, ex⟩ := isIx_k c (by omega)
    have hQ1 := hQ1 c
    obtain ⟨z1, z2, z3⟩ := e1 i (by omega)
    refine J_aload_n (by rfl) (by rfl) dX10_waypointY_5 ?_
    refine J_get dX10_waypointY_6 f_X10_12 (by repeat (first | assumption | exact jget_same2 (by (try simp only [List.length_set]); exact jlt (by assumption)) | refine jget_ne (by first | decide | assumption | omega) ?_)) (by rfl) ?_
    refine J_get dX10_waypointY_9 f_X10_62 (by repeat (first | assumption | exact jget_same2 (by (try simp only [List.length_set]); exact jlt (by assumption)) | refine jget_ne (by first | decide | assumption | omega) ?_)) (by rfl) ?_
    refine J_get dX10_waypointY_12 f_X10_65 (by repeat (first | assumption | exact jget_same2 (by (try simp only [List.length_set]); exact jlt (by assumption)) | refine jget_ne (by first | decide | assumption | omega) ?_)) (by rfl) ?_
    refine J_iload_n (by rfl) dX10_waypointY_15 ?_
    refine J_V1v (ci := 9) dX10_waypointY_16 s_X10_82 m_X9_yOf rfl (by repeat (first | assumption | exact jget_same2 (by (try simp only [List.length_set]); exact jlt (by assumption)) | refine jget_ne (by first | decide | assumption | omega) ?_)) rfl (c_X9_yOf (i := i) (by omega) g3 g5 (jKv_i ?_))
    refine J_topi (nI (s (12 + 3 * nP (nI i) + 1))) (by rw [ex, z2]; rfl) ?_
    exact J_ireturn dX10_waypointY_19 rfl (hQ1) (by decide) (by decide) (fun q => by cases q)
  · exact JX_out rfl (by decide) (by decide) (hQ2 c)
theorem c_X10_radius (x : Int32) (I : Inv K s) (cp : CPc h s sS P ch ea fa sv lf ln tx tp)
    (hQ1 : isIx x (s 0) = true → Q (.inl (some (.int (nI (s (12 + 3 * nP x + 2)))))) h) (hQ2 : isIx x (s 0) = false → Q (.inr "java/lang/IndexOutOfBoundsException") h) : jCT G M_X10_radius 7 1 6 false [.ref 0, .int x] h Q := by
  refine jCT_of [some (.ref 0), some (.int x)] 0 rfl (by decide +kernel) rfl rfl ?_
  obtain ⟨c0, gs, hhs, hsa, hbe, hpg, hli⟩ := cp
  have cp : CPc h s sS P ch ea fa sv lf ln tx tp := ⟨c0, gs, hhs, hsa, hbe, hpg, hli⟩
  obtain ⟨fx, fy, fr, w, rt, ti, x9, y9, D, E, L, m, num, den, g⟩ := gs
  have g0 := g
  have hgr := g.gr I
  obtain ⟨g1, g2, g3, g4, g5, g6, g7, g8, g9, g10, g11, g12, g13, g14, g15, g16, e1, e2, e3⟩ := g
  have hn := I.n12
  have hs1 := I.s1
  refine J_aload_n (by rfl) (by rfl) dX10_radius_0 ?_
  refine J_iload_n (by rfl) dX10_radius_1 ?_
  refine J_V10x (ci := 10) dX10_radius_2 s_X10_74 m_X10_requireWaypoint rfl (by repeat (first | assumption | exact jget_same2 (by (try simp only [List.length_set]); exact jlt (by assumption)) | refine jget_ne (by first | decide | assumption | omega) ?_)) rfl (c_X10_requireWaypoint x I cp (fun c => jKx0_i ?_) (fun c => jKx0_x ?_))
  · obtain ⟨i, rfl, hi, ex⟩ := isIx_k c (by omega)
    have hQ1 := hQ1 c
    obtain ⟨z1, z2, z3⟩ := e1 i (by omega)
    refine J_aload_n (by rfl) (by rfl) dX10_radius_5 ?_
    refine J_get dX10_radius_6 f_X10_12 (by repeat (first | assumption | exact jget_same2 (by (try simp only [List.length_set]); exact jlt (by assumption)) | refine jget_ne (by first | decide | assumption | omega) ?_)) (by rfl) ?_
    refine J_get dX10_radius_9 f_X10_62 (by repeat (first | assumption | exact jget_same2 (by (try simp only [List.length_set]); exact jlt (by assumption)) | refine jget_ne (by first | decide | assumption | omega) ?_)) (by rfl) ?_
    refine J_get dX10_radius_12 f_X10_65 (by repeat (first | assumption | exact jget_same2 (by (try simp only [List.length_set]); exact jlt (by assumption)) | refine jget_ne (by first | decide | assumption | omega) ?_)) (by rfl) ?_
    refine J_iload_n (by rfl) dX10_radius_15 ?_
    refine J_V1v (ci := 9) dX10_radius_16 s_X10_85 m_X9_radiusOf rfl (by repeat (first | assumption | exact jget_same2 (by (try simp only [List.length_set]); exact jlt (by assumption)) | refine jget_ne (by first | decide | assumption | omega) ?_)) rfl (c_X9_radiusOf (i := i) (by omega) g3 g6 (jKv_i ?_))
    refine J_topi (nI (s (12 + 3 * nP (nI i) + 2))) (by rw [ex, z3]; rfl) ?_
    exact J_ireturn dX10_radius_19 rfl (hQ1) (by decide) (by decide) (fun q => by cases q)
  · exact JX_out rfl (by decide) (by decide) (hQ2 c)
theorem c_X10_routeLength (I : Inv K s) (cp : CPc h s sS P ch ea fa sv lf ln tx tp)
    (hQ1 : 0 < s 1 → Q (.inl (some (.int (nI (s 1))))) h) (hQ2 : ¬ 0 < s 1 → Q (.inr "java/lang/IllegalStateException") h) : jCT G M_X10_routeLength 7 1 6 false [.ref 0] h Q := by
  refine jCT_of [some (.ref 0)] 0 rfl (by decide +kernel) rfl rfl ?_
  obtain ⟨c0, gs, hhs, hsa, hbe, hpg, hli⟩ := cp
  have cp : CPc h s sS P ch ea fa sv lf ln tx tp := ⟨c0, gs, hhs, hsa, hbe, hpg, hli⟩
  obtain ⟨fx, fy, fr, w, rt, ti, x9, y9, D, E, L, m, num, den, g⟩ := gs
  have g0 := g
  have hgr := g.gr I
  obtain ⟨g1, g2, g3, g4, g5, g6, g7, g8, g9, g10, g11, g12, g13, g14, g15, g16, e1, e2, e3⟩ := g
  have hn := I.n12
  have hs1 := I.s1
  refine J_aload_n (by rfl) (by rfl) dX10_routeLength_0 ?_
  refine J_V00x (ci := 10) dX10_routeLength_1 s_X10_154 m_X10_requireTour rfl (by repeat (first | assumption | exact jget_same2 (by (try simp only [List.length_set]); exact jlt (by assumption)) | refine jget_ne (by first | decide | assumption | omega) ?_)) rfl (c_X10_requireTour I cp (fun c => jKx0_i ?_) (fun c => jKx0_x ?_))
  · obtain ⟨rfl, rfl, rfl, hr⟩ := e3 c
    have hQ1 := hQ1 c
    refine J_aload_n (by rfl) (by rfl) dX10_routeLength_4 ?_
    refine J_get dX10_routeLength_5 f_X10_12 (by repeat (first | assumption | exact jget_same2 (by (try simp only [List.length_set]); exact jlt (by assumption)) | refine jget_ne (by first | decide | assumption | omega) ?_)) (by rfl) ?_
    refine J_get dX10_routeLength_8 f_X10_62 (by repeat (first | assumption | exact jget_same2 (by (try simp only [List.length_set]); exact jlt (by assumption)) | refine jget_ne (by first | decide | assumption | omega) ?_)) (by rfl) ?_
    refine J_get dX10_routeLength_11 f_X10_144 (by repeat (first | assumption | exact jget_same2 (by (try simp only [List.length_set]); exact jlt (by assumption)) | refine jget_ne (by first | decide | assumption | omega) ?_)) (by rfl) ?_
    refine J_get dX10_routeLength_14 f_X10_157 (by repeat (first | assumption | exact jget_same2 (by (try simp only [List.length_set]); exact jlt (by assumption)) | refine jget_ne (by first | decide | assumption | omega) ?_)) (by rfl) ?_
    exact J_ireturn dX10_routeLength_17 rfl (hQ1) (by decide) (by decide) (fun q => by cases q)
  · exact JX_out rfl (by decide) (by decide) (hQ2 c)
theorem c_X10_hikerX (I : Inv K s) (cp : CPc h s sS P ch ea fa sv lf ln tx tp)
    (hQ1 : 0 < s 1 → Q (.inl (some (.int (nI (s 3))))) h) (hQ2 : ¬ 0 < s 1 → Q (.inr "java/lang/IllegalStateException") h) : jCT G M_X10_hikerX 7 1 6 false [.ref 0] h Q := by
  refine jCT_of [some (.ref 0)] 0 rfl (by decide +kernel) rfl rfl ?_
  obtain ⟨c0, gs, hhs, hsa, hbe, hpg, hli⟩ := cp
  have cp : CPc h s sS P ch ea fa sv lf ln tx tp := ⟨c0, gs, hhs, hsa, hbe, hpg, hli⟩
  obtain ⟨fx, fy, fr, w, rt, ti, x9, y9, D, E, L, m, num, den, g⟩ := gs
  have g0 := g
  have hgr := g.gr I
  obtain ⟨g1, g2, g3, g4, g5, g6, g7, g8, g9, g10, g11, g12, g13, g14, g15, g16, e1, e2, e3⟩ := g
  have hn := I.n12
  have hs1 := I.s1
  refine J_aload_n (by rfl) (by rfl) dX10_hikerX_0 ?_
  refine J_V00x (ci := 10) dX10_hikerX_1 s_X10_154 m_X10_requireTour rfl (by repeat (first | assumption | exact jget_same2 (by (try simp only [List.length_set]); exact jlt (by assumption)) | refine jget_ne (by first | decide | assumption | omega) ?_)) rfl (c_X10_requireTour I cp (fun c => jKx0_i ?_) (fun c => jKx0_x ?_))
  · obtain ⟨rfl, rfl, rfl, hr⟩ := e3 c
    have hQ1 := hQ1 c
    refine J_aload_n (by rfl) (by rfl) dX10_hikerX_4 ?_
    refine J_get dX10_hikerX_5 f_X10_12 (by repeat (first | assumption | exact jget_same2 (by (try simp only [List.length_set]); exact jlt (by assumption)) | refine jget_ne (by first | decide | assumption | omega) ?_)) (by rfl) ?_
    refine J_get dX10_hikerX_8 f_X10_62 (by repeat (first | assumption | exact jget_same2 (by (try simp only [List.length_set]); exact jlt (by assumption)) | refine jget_ne (by first | decide | assumption | omega) ?_)) (by rfl) ?_
    refine J_get dX10_hikerX_11 f_X10_144 (by repeat (first | assumption | exact jget_same2 (by (try simp only [List.length_set]); exact jlt (by assumption)) | refine jget_ne (by first | decide | assumption | omega) ?_)) (by rfl) ?_
    refine J_get dX10_hikerX_14 f_X10_178 (by repeat (first | assumption | exact jget_same2 (by (try simp only [List.length_set]); exact jlt (by assumption)) | refine jget_ne (by first | decide | assumption | omega) ?_)) (by rfl) ?_
    exact J_ireturn dX10_hikerX_17 rfl (hQ1) (by decide) (by decide) (fun q => by cases q)
  · exact JX_out rfl (by decide) (by decide) (hQ2 c)
theorem c_X10_hikerY (I : Inv K s) (cp : CPc h s sS P ch ea fa sv lf ln tx tp)
    (hQ1 : 0 < s 1 → Q (.inl (some (.int (nI (s 4))))) h) (hQ2 : ¬ 0 < s 1 → Q (.inr "java/lang/IllegalStateException") h) : jCT G M_X10_hikerY 7 1 6 false [.ref 0] h Q := by
  refine jCT_of [some (.ref 0)] 0 rfl (by decide +kernel) rfl rfl ?_
  obtain ⟨c0, gs, hhs, hsa, hbe, hpg, hli⟩ := cp
  have cp : CPc h s sS P ch ea fa sv lf ln tx tp := ⟨c0, gs, hhs, hsa, hbe, hpg, hli⟩
  obtain ⟨fx, fy, fr, w, rt, ti, x9, y9, D, E, L, m, num, den, g⟩ := gs
  have g0 := g
  have hgr := g.gr I
  obtain ⟨g1, g2, g3, g4, g5, g6, g7, g8, g9, g10, g11, g12, g13, g14, g15, g16, e1, e2, e3⟩ := g
  have hn := I.n12
  have hs1 := I.s1
  refine J_aload_n (by rfl) (by rfl) dX10_hikerY_0 ?_
  refine J_V00x (ci := 10) dX10_hikerY_1 s_X10_154 m_X10_requireTour rfl (by repeat (first | assumption | exact jget_same2 (by (try simp only [List.length_set]); exact jlt (by assumption)) | refine jget_ne (by first | decide | assumption | omega) ?_)) rfl (c_X10_requireTour I cp (fun c => jKx0_i ?_) (fun c => jKx0_x ?_))
  · obtain ⟨rfl, rfl, rfl, hr⟩ := e3 c
    have hQ1 := hQ1 c
    refine J_aload_n (by rfl) (by rfl) dX10_hikerY_4 ?_
    refine J_get dX10_hikerY_5 f_X10_12 (by repeat (first | assumption | exact jget_same2 (by (try simp only [List.length_set]); exact jlt (by assumption)) | refine jget_ne (by first | decide | assumption | omega) ?_)) (by rfl) ?_
    refine J_get dX10_hikerY_8 f_X10_62 (by repeat (first | assumption | exact jget_same2 (by (try simp only [List.length_set]); exact jlt (by assumption)) | refine jget_ne (by first | decide | assumption | omega) ?_)) (by rfl) ?_
    refine J_get dX10_hikerY_11 f_X10_144 (by repeat (first | assumption | exact jget_same2 (by (try simp only [List.length_set]); exact jlt (by assumption)) | refine jget_ne (by first | decide | assumption | omega) ?_)) (by rfl) ?_
    refine J_get dX10_hikerY_14 f_X10_181 (by repeat (first | assumption | exact jget_same2 (by (try simp only [List.length_set]); exact jlt (by assumption)) | refine jget_ne (by first | decide | assumption | omega) ?_)) (by rfl) ?_
    exact J_ireturn dX10_hikerY_17 rfl (hQ1) (by decide) (by decide) (fun q => by cases q)
  · exact JX_out rfl (by decide) (by decide) (hQ2 c)
theorem c_X10_target (I : Inv K s) (cp : CPc h s sS P ch ea fa sv lf ln tx tp)
    (hQ1 : 0 < s 1 → Q (.inl (some (.int (nI (aimS s))))) h) (hQ2 : ¬ 0 < s 1 → Q (.inr "java/lang/IllegalStateException") h) : jCT G M_X10_target 7 1 6 false [.ref 0] h Q := by
  refine jCT_of [some (.ref 0)] 0 rfl (by decide +kernel) rfl rfl ?_
  obtain ⟨c0, gs, hhs, hsa, hbe, hpg, hli⟩ := cp
  have cp : CPc h s sS P ch ea fa sv lf ln tx tp := ⟨c0, gs, hhs, hsa, hbe, hpg, hli⟩
  obtain ⟨fx, fy, fr, w, rt, ti, x9, y9, D, E, L, m, num, den, g⟩ := gs
  have g0 := g
  have hgr := g.gr I
  obtain ⟨g1, g2, g3, g4, g5, g6, g7, g8, g9, g10, g11, g12, g13, g14, g15, g16, e1, e2, e3⟩ := g
  have hn := I.n12
  have hs1 := I.s1
  refine J_aload_n (by rfl) (by rfl) dX10_target_0 ?_
  refine J_V00x (ci := 10) dX10_target_1 s_X10_154 m_X10_requireTour rfl (by repeat (first | assumption | exact jget_same2 (by (try simp only [List.length_set]); exact jlt (by assumption)) | refine jget_ne (by first | decide | assumption | omega) ?_)) rfl (c_X10_requireTour I cp (fun c => jKx0_i ?_) (fun c => jKx0_x ?_))
  · obtain ⟨rfl, rfl, rfl, hr⟩ := e3 c
    have ht := (I.t c).2.2.2.1
    have hQ1 := hQ1 c
    refine J_aload_n (by rfl) (by rfl) dX10_target_4 ?_
    refine J_get dX10_target_5 f_X10_12 (by repeat (first | assumption | exact jget_same2 (by (try simp only [List.length_set]); exact jlt (by assumption)) | refine jget_ne (by first | decide | assumption | omega) ?_)) (by rfl) ?_
    refine J_get dX10_target_8 f_X10_62 (by repeat (first | assumption | exact jget_same2 (by (try simp only [List.length_set]); exact jlt (by assumption)) | refine jget_ne (by first | decide | assumption | omega) ?_)) (by rfl) ?_
    refine J_get dX10_target_11 f_X10_144 (by repeat (first | assumption | exact jget_same2 (by (try simp only [List.length_set]); exact jlt (by assumption)) | refine jget_ne (by first | decide | assumption | omega) ?_)) (by rfl) ?_
    refine J_V0v (ci := 8) dX10_target_14 s_X10_174 m_X8_targetWaypoint rfl (by repeat (first | assumption | exact jget_same2 (by (try simp only [List.length_set]); exact jlt (by assumption)) | refine jget_ne (by first | decide | assumption | omega) ?_)) rfl (c_X8_targetWaypoint (rt := rt) ht hs1 g8 g9 (jKv_i ?_))
    refine J_topi (nI (aimS s)) (by rw [hr _ ht]; rfl) ?_
    exact J_ireturn dX10_target_17 rfl (hQ1) (by decide) (by decide) (fun q => by cases q)
  · exact JX_out rfl (by decide) (by decide) (hQ2 c)
theorem c_X10_hasTrail (x y : Int32) (I : Inv K s) (cp : CPc h s sS P ch ea fa sv lf ln tx tp)
    (hQ1 : both s x y = true → Q (.inl (some (.int (jb (decide (0 < wS s (nP x * 12 + nP y))))))) h) (hQ2 : both s x y = false → Q (.inr "java/lang/IndexOutOfBoundsException") h) : jCT G M_X10_hasTrail 7 2 12 false [.ref 0, .int x, .int y] h Q := by
  refine jCT_of [some (.ref 0), some (.int x), some (.int y)] 0 rfl (by decide +kernel) rfl rfl ?_
  obtain ⟨c0, gs, hhs, hsa, hbe, hpg, hli⟩ := cp
  have cp : CPc h s sS P ch ea fa sv lf ln tx tp := ⟨c0, gs, hhs, hsa, hbe, hpg, hli⟩
  obtain ⟨fx, fy, fr, w, rt, ti, x9, y9, D, E, L, m, num, den, g⟩ := gs
  have g0 := g
  have hgr := g.gr I
  obtain ⟨g1, g2, g3, g4, g5, g6, g7, g8, g9, g10, g11, g12, g13, g14, g15, g16, e1, e2, e3⟩ := g
  have hn := I.n12
  have hs1 := I.s1
  refine J_aload_n (by rfl) (by rfl) dX10_hasTrail_0 ?_
  refine J_iload_n (by rfl) dX10_hasTrail_1 ?_
  refine J_V10x (ci := 10) dX10_hasTrail_2 s_X10_74 m_X10_requireWaypoint rfl (by repeat (first | assumption | exact jget_same2 (by (try simp only [List.length_set]); exact jlt (by assumption)) | refine jget_ne (by first | decide | assumption | omega) ?_)) rfl (c_X10_requireWaypoint x I cp (fun c => jKx0_i ?_) (fun c => jKx0_x ?_))
  · refine J_aload_n (by rfl) (by rfl) dX10_hasTrail_5 ?_
    refine J_iload_n (by rfl) dX10_hasTrail_6 ?_
    refine J_V10x (ci := 10) dX10_hasTrail_7 s_X10_74 m_X10_requireWaypoint rfl (by repeat (first | assumption | exact jget_same2 (by (try simp only [List.length_set]); exact jlt (by assumption)) | refine jget_ne (by first | decide | assumption | omega) ?_)) rfl (c_X10_requireWaypoint y I cp (fun c9 => jKx0_i ?_) (fun c9 => jKx0_x ?_))
    · obtain ⟨i, j, rfl, rfl, hi, hj, ex, ey⟩ := both_t hn c c9
      have hQ1 := hQ1 (by unfold both; rw [c, c9]; rfl)
      rw [ex, ey, ← e2 _ (by omega)] at hQ1
      refine J_aload_n (by rfl) (by rfl) dX10_hasTrail_10 ?_
      refine J_get dX10_hasTrail_11 f_X10_12 (by repeat (first | assumption | exact jget_same2 (by (try simp only [List.length_set]); exact jlt (by assumption)) | refine jget_ne (by first | decide | assumption | omega) ?_)) (by rfl) ?_
      refine J_get dX10_hasTrail_14 f_X10_62 (by repeat (first | assumption | exact jget_same2 (by (try simp only [List.length_set]); exact jlt (by assumption)) | refine jget_ne (by first | decide | assumption | omega) ?_)) (by rfl) ?_
      refine J_get dX10_hasTrail_17 f_X10_65 (by repeat (first | assumption | exact jget_same2 (by (try simp only [List.length_set]); exact jlt (by assumption)) | refine jget_ne (by first | decide | assumption | omega) ?_)) (by rfl) ?_
      refine J_iload_n (by rfl) dX10_hasTrail_20 ?_
      refine J_iload_n (by rfl) dX10_hasTrail_21 ?_
      refine J_V2v (ci := 9) dX10_hasTrail_22 s_X10_91 m_X9_areJoined rfl (by repeat (first | assumption | exact jget_same2 (by (try simp only [List.length_set]); exact jlt (by assumption)) | refine jget_ne (by first | decide | assumption | omega) ?_)) rfl (c_X9_areJoined (i := i) (j := j) (by omega) (by omega) g3 g7 (hgr.lt (by omega) (by omega)) (jKv_i ?_))
      exact J_zreturn dX10_hasTrail_25 rfl (jb_n _) (hQ1) (by decide) (by decide) (fun q => by cases q)
    · exact JX_out rfl (by decide) (by decide) (hQ2 (by unfold both; rw [c, c9]; rfl))
  · exact JX_out rfl (by decide) (by decide) (hQ2 (by unfold both; rw [c]; rfl))
end FACE
