/-! The law's loop and its entry -/
section LOOP
variable {G : jG} {F : jF} {h h' : jH} {i kc kn K th : Nat} {l6 l7 l8 : Option Value} {f : Nat → Int64} {g : Nat → UInt64}
theorem and63 (x : Int32) : ∃ k, k < 64 ∧ x &&& nI 63 = nI k := by
  refine ⟨(x.toBitVec &&& 63#32).toNat, ?_, ?_⟩
  · rw [BitVec.toNat_and]
    exact Nat.lt_of_le_of_lt Nat.and_le_right (by decide)
  · apply Int32.toBitVec_inj.mp
    apply BitVec.eq_of_toNat_eq
    unfold nI
    simp
theorem law_step (hi : i + 4 ≤ g_L G) (hL : g_L G ≤ 2048) (hc : kc + 10 ≤ room_1.cells) (hn : kn + 60 ≤ room_1.slots) (hK : K < 2 ^ 29) (g1 : JI K h th) (o1 : h[125]? = some (.inl (3, 1, .inr (.inl f)))) (o2 : h[126]? = some (.inl (4, 1, .inr (.inr (.inr (.inl g))))))
    (next : ∀ h' th' f' g' l6 l7 l8, JI (K + 13) h' th' → h'[125]? = some (.inl (3, 1, .inr (.inl f'))) → h'[126]? = some (.inl (4, 1, .inr (.inr (.inr (.inl g'))))) → J G room_1 F M_L_law false (kc + 10) (kn + 60) 2508 [some (.retAddr 0), some (.ref 0), some (.ref 116), some (.ref 125), some (.ref 126), some (.int (nI i)), l6, l7, l8] [] h') :
    J G room_1 F M_L_law false kc kn 37 [some (.retAddr 0), some (.ref 0), some (.ref 116), some (.ref 125), some (.ref 126), some (.int (nI i)), l6, l7, l8] [] h := by
  refine J_aload_n (by rfl) (by rfl) dL_law_37 ?_
  refine J_iload (by rfl) dL_law_38 ?_
  refine J_xald i dL_law_40 rfl (by omega) (by omega) ?_
  refine J_bipush (nI 63) (by decide) dL_law_41 ?_
  refine J_iand dL_law_43 ?_
  obtain ⟨k, hk, e⟩ := and63 (g_S G i)
  rw [e]
  by_cases hd : 52 ≤ k
  · refine J_tableOut 2508 dL_law_44 (Or.inr (by rw [nI_toInt (by omega)]; omega)) (by decide) ?_
    exact J_widen (by omega) (by omega) (next h th f g _ _ _ (JI.mono g1 (by omega)) o1 o2)
  · have hk2 : k = 0 ∨ k = 1 ∨ k = 2 ∨ k = 3 ∨ k = 4 ∨ k = 5 ∨ k = 6 ∨ k = 7 ∨ k = 8 ∨ k = 9 ∨ k = 10 ∨ k = 11 ∨ k = 12 ∨ k = 13 ∨ k = 14 ∨ k = 15 ∨ k = 16 ∨ k = 17 ∨ k = 18 ∨ k = 19 ∨ k = 20 ∨ k = 21 ∨ k = 22 ∨ k = 23 ∨ k = 24 ∨ k = 25 ∨ k = 26 ∨ k = 27 ∨ k = 28 ∨ k = 29 ∨ k = 30 ∨ k = 31 ∨ k = 32 ∨ k = 33 ∨ k = 34 ∨ k = 35 ∨ k = 36 ∨ k = 37 ∨ k = 38 ∨ k = 39 ∨ k = 40 ∨ k = 41 ∨ k = 42 ∨ k = 43 ∨ k = 44 ∨ k = 45 ∨ k = 46 ∨ k = 47 ∨ k = 48 ∨ k = 49 ∨ k = 50 ∨ k = 51 := by omega
    rcases hk2 with rfl | rfl | rfl | rfl | rfl | rfl | rfl | rfl | rfl | rfl | rfl | rfl | rfl | rfl | rfl | rfl | rfl | rfl | rfl | rfl | rfl | rfl | rfl | rfl | rfl | rfl | rfl | rfl | rfl | rfl | rfl | rfl | rfl | rfl | rfl | rfl | rfl | rfl | rfl | rfl | rfl | rfl | rfl | rfl | rfl | rfl | rfl | rfl | rfl | rfl | rfl | rfl
    · exact J_tableIn (off := 224) 268 dL_law_44 (by decide) (by decide) (by decide) (by decide) (law_0 hi hL hc hn hK g1 o1 o2 next)
    · exact J_tableIn (off := 304) 348 dL_law_44 (by decide) (by decide) (by decide) (by decide) (law_1 hi hL hc hn hK g1 o1 o2 next)
    · exact J_tableIn (off := 384) 428 dL_law_44 (by decide) (by decide) (by decide) (by decide) (law_2 hi hL hc hn hK g1 o1 o2 next)
    · exact J_tableIn (off := 452) 496 dL_law_44 (by decide) (by decide) (by decide) (by decide) (law_3 hi hL hc hn hK g1 o1 o2 next)
    · exact J_tableIn (off := 520) 564 dL_law_44 (by decide) (by decide) (by decide) (by decide) (law_4 hi hL hc hn hK g1 o1 o2 next)
    · exact J_tableIn (off := 564) 608 dL_law_44 (by decide) (by decide) (by decide) (by decide) (law_5 hi hL hc hn hK g1 o1 o2 next)
    · exact J_tableIn (off := 639) 683 dL_law_44 (by decide) (by decide) (by decide) (by decide) (law_6 hi hL hc hn hK g1 o1 o2 next)
    · exact J_tableIn (off := 695) 739 dL_law_44 (by decide) (by decide) (by decide) (by decide) (law_7 hi hL hc hn hK g1 o1 o2 next)
    · exact J_tableIn (off := 751) 795 dL_law_44 (by decide) (by decide) (by decide) (by decide) (law_8 hi hL hc hn hK g1 o1 o2 next)
    · exact J_tableIn (off := 807) 851 dL_law_44 (by decide) (by decide) (by decide) (by decide) (lawn_waypoints hc hn g1 o1 o2 next)
    · exact J_tableIn (off := 820) 864 dL_law_44 (by decide) (by decide) (by decide) (by decide) (lawq_waypointX hi hL hc hn hK g1 o1 o2 next)
    · exact J_tableIn (off := 876) 920 dL_law_44 (by decide) (by decide) (by decide) (by decide) (lawq_waypointY hi hL hc hn hK g1 o1 o2 next)
    · exact J_tableIn (off := 932) 976 dL_law_44 (by decide) (by decide) (by decide) (by decide) (lawq_radius hi hL hc hn hK g1 o1 o2 next)
    · exact J_tableIn (off := 988) 1032 dL_law_44 (by decide) (by decide) (by decide) (by decide) (lawn_trails hc hn g1 o1 o2 next)
    · exact J_tableIn (off := 1001) 1045 dL_law_44 (by decide) (by decide) (by decide) (by decide) (lawg_hasTrail hi hL hc hn hK g1 o1 o2 next)
    · exact J_tableIn (off := 1076) 1120 dL_law_44 (by decide) (by decide) (by decide) (by decide) (lawq_trailLength hi hL hc hn hK g1 o1 o2 next)
    · exact J_tableIn (off := 1144) 1188 dL_law_44 (by decide) (by decide) (by decide) (by decide) (lawg_distance hi hL hc hn hK g1 o1 o2 next)
    · exact J_tableIn (off := 1212) 1256 dL_law_44 (by decide) (by decide) (by decide) (by decide) (lawg_distanceByRelaxation hi hL hc hn hK g1 o1 o2 next)
    · exact J_tableIn (off := 1280) 1324 dL_law_44 (by decide) (by decide) (by decide) (by decide) (lawg_components hi hL hc hn hK g1 o1 o2 next)
    · exact J_tableIn (off := 1293) 1337 dL_law_44 (by decide) (by decide) (by decide) (by decide) (lawg_componentsByMerging hi hL hc hn hK g1 o1 o2 next)
    · exact J_tableIn (off := 1306) 1350 dL_law_44 (by decide) (by decide) (by decide) (by decide) (lawq_nearest hi hL hc hn hK g1 o1 o2 next)
    · exact J_tableIn (off := 1374) 1418 dL_law_44 (by decide) (by decide) (by decide) (by decide) (lawg_isTouring hi hL hc hn hK g1 o1 o2 next)
    · exact J_tableIn (off := 1387) 1431 dL_law_44 (by decide) (by decide) (by decide) (by decide) (lawq_routeLength hi hL hc hn hK g1 o1 o2 next)
    · exact J_tableIn (off := 1431) 1475 dL_law_44 (by decide) (by decide) (by decide) (by decide) (lawq_routeWaypoint hi hL hc hn hK g1 o1 o2 next)
    · exact J_tableIn (off := 1487) 1531 dL_law_44 (by decide) (by decide) (by decide) (by decide) (lawq_turn hi hL hc hn hK g1 o1 o2 next)
    · exact J_tableIn (off := 1543) 1587 dL_law_44 (by decide) (by decide) (by decide) (by decide) (lawq_target hi hL hc hn hK g1 o1 o2 next)
    · exact J_tableIn (off := 1587) 1631 dL_law_44 (by decide) (by decide) (by decide) (by decide) (lawq_hikerX hi hL hc hn hK g1 o1 o2 next)
    · exact J_tableIn (off := 1631) 1675 dL_law_44 (by decide) (by decide) (by decide) (by decide) (lawq_hikerY hi hL hc hn hK g1 o1 o2 next)
    · exact J_tableIn (off := 1675) 1719 dL_law_44 (by decide) (by decide) (by decide) (by decide) (lawg_drift hi hL hc hn hK g1 o1 o2 next)
    · exact J_tableIn (off := 1719) 1763 dL_law_44 (by decide) (by decide) (by decide) (by decide) (lawg_isAlarm hi hL hc hn hK g1 o1 o2 next)
    · exact J_tableIn (off := 1732) 1776 dL_law_44 (by decide) (by decide) (by decide) (by decide) (lawg_forecast hi hL hc hn hK g1 o1 o2 next)
    · exact J_tableIn (off := 1800) 1844 dL_law_44 (by decide) (by decide) (by decide) (by decide) (lawn_battery hc hn g1 o1 o2 next)
    · exact J_tableIn (off := 1813) 1857 dL_law_44 (by decide) (by decide) (by decide) (by decide) (lawn_mode hc hn g1 o1 o2 next)
    · exact J_tableIn (off := 1826) 1870 dL_law_44 (by decide) (by decide) (by decide) (by decide) (lawn_tolerance hc hn g1 o1 o2 next)
    · exact J_tableIn (off := 1839) 1883 dL_law_44 (by decide) (by decide) (by decide) (by decide) (lawn_updatesLeft hc hn g1 o1 o2 next)
    · exact J_tableIn (off := 1852) 1896 dL_law_44 (by decide) (by decide) (by decide) (by decide) (lawn_updatesLeftByCounting hc hn g1 o1 o2 next)
    · exact J_tableIn (off := 1865) 1909 dL_law_44 (by decide) (by decide) (by decide) (by decide) (lawn_updates hc hn g1 o1 o2 next)
    · exact J_tableIn (off := 1878) 1922 dL_law_44 (by decide) (by decide) (by decide) (by decide) (lawn_alarms hc hn g1 o1 o2 next)
    · exact J_tableIn (off := 1891) 1935 dL_law_44 (by decide) (by decide) (by decide) (by decide) (lawn_reached hc hn g1 o1 o2 next)
    · exact J_tableIn (off := 1904) 1948 dL_law_44 (by decide) (by decide) (by decide) (by decide) (lawg_alarmRate hi hL hc hn hK g1 o1 o2 next)
    · exact J_tableIn (off := 1970) 2014 dL_law_44 (by decide) (by decide) (by decide) (by decide) (lawg_meanTrailLength hi hL hc hn hK g1 o1 o2 next)
    · exact J_tableIn (off := 2035) 2079 dL_law_44 (by decide) (by decide) (by decide) (by decide) (lawg_isConsistent hi hL hc hn hK g1 o1 o2 next)
    · exact J_tableIn (off := 2048) 2092 dL_law_44 (by decide) (by decide) (by decide) (by decide) (lawg_writeRoute hi hL hc hn hK g1 o1 o2 next)
    · exact J_tableIn (off := 2061) 2105 dL_law_44 (by decide) (by decide) (by decide) (by decide) (lawg_writeTrails hi hL hc hn hK g1 o1 o2 next)
    · exact J_tableIn (off := 2117) 2161 dL_law_44 (by decide) (by decide) (by decide) (by decide) (lawg_charAt hi hL hc hn hK g1 o1 o2 next)
    · exact J_tableIn (off := 2173) 2217 dL_law_44 (by decide) (by decide) (by decide) (by decide) (lawg_type hi hL hc hn hK g1 o1 o2 next)
    · exact J_tableIn (off := 2231) 2275 dL_law_44 (by decide) (by decide) (by decide) (by decide) (lawg_run hi hL hc hn hK g1 o1 o2 next)
    · exact J_tableIn (off := 2275) 2319 dL_law_44 (by decide) (by decide) (by decide) (by decide) (lawg_errorPosition hi hL hc hn hK g1 o1 o2 next)
    · exact J_tableIn (off := 2319) 2363 dL_law_44 (by decide) (by decide) (by decide) (by decide) (lawg_failedCommand hi hL hc hn hK g1 o1 o2 next)
    · exact J_tableIn (off := 2363) 2407 dL_law_44 (by decide) (by decide) (by decide) (by decide) (lawg_undo hi hL hc hn hK g1 o1 o2 next)
    · exact J_tableIn (off := 2407) 2451 dL_law_44 (by decide) (by decide) (by decide) (by decide) (lawg_save hi hL hc hn hK g1 o1 o2 next)
    · exact J_tableIn (off := 2420) 2464 dL_law_44 (by decide) (by decide) (by decide) (by decide) (lawg_restore hi hL hc hn hK g1 o1 o2 next)
theorem sub4 {L : Nat} (h : L ≤ 2048) : (nI L - nI 4).toInt = (L : Int) - 4 := by
  rw [Int32.toInt_sub, nI_toInt (by omega), nI_toInt (by omega)]
  exact Int.bmod_eq_of_le (by omega) (by omega)
theorem law_loop (hL : g_L G ≤ 2048) (fin : ∀ kc kn lo (h : jH), kc ≤ room_1.cells → kn ≤ room_1.slots → J G room_1 F M_L_law false kc kn 2515 lo [.int (nI 1)] h) :
    ∀ (n i kc kn K th : Nat) (h : jH) (f : Nat → Int64) (g : Nat → UInt64) (l6 l7 l8 : Option Value), g_L G ≤ i + 4 * n → i ≤ 4096 → kc + 10 * n ≤ room_1.cells → kn + 60 * n ≤ room_1.slots → K + 13 * n ≤ 2 ^ 28 → JI K h th → h[125]? = some (.inl (3, 1, .inr (.inl f))) → h[126]? = some (.inl (4, 1, .inr (.inr (.inr (.inl g))))) → J G room_1 F M_L_law false kc kn 28 [some (.retAddr 0), some (.ref 0), some (.ref 116), some (.ref 125), some (.ref 126), some (.int (nI i)), l6, l7, l8] [] h := by
  intro n
  induction n with
  | zero =>
    intro i kc kn K th h f g l6 l7 l8 hi hi2 hc hn hK g1 o1 o2
    refine J_iload (by rfl) dL_law_28 ?_
    refine J_aload_n (by rfl) (by rfl) dL_law_30 ?_
    refine J_xlen dL_law_31 ?_
    refine J_iconst (nI 4) (by decide) dL_law_32 ?_
    refine J_isub dL_law_33 ?_
    refine J_icmp_gt 2514 dL_law_34 (by decide) (fun c34 => ?_) (fun c34 => ?_)
    · refine J_iconst (nI 1) (by decide) dL_law_2514 ?_
      exact fin _ _ _ _ (by omega) (by omega)
    · rw [Int32.lt_iff_toInt_lt, sub4 hL, nI_toInt (by omega)] at c34
      omega
  | succ n ih =>
    intro i kc kn K th h f g l6 l7 l8 hi hi2 hc hn hK g1 o1 o2
    refine J_iload (by rfl) dL_law_28 ?_
    refine J_aload_n (by rfl) (by rfl) dL_law_30 ?_
    refine J_xlen dL_law_31 ?_
    refine J_iconst (nI 4) (by decide) dL_law_32 ?_
    refine J_isub dL_law_33 ?_
    refine J_icmp_gt 2514 dL_law_34 (by decide) (fun c34 => ?_) (fun c34 => ?_)
    · refine J_iconst (nI 1) (by decide) dL_law_2514 ?_
      exact fin _ _ _ _ (by omega) (by omega)
    · rw [Int32.lt_iff_toInt_lt, sub4 hL, nI_toInt (by omega)] at c34
      refine law_step (by omega) hL (by omega) (by omega) (by omega) g1 o1 o2 (fun h' th' f' g' l6 l7 l8 j1 j2 j3 => ?_)
      refine J_iinc_5 (nI 4) dL_law_2508 (by decide) ?_
      rw [nI_add]
      refine J_goto 28 dL_law_2511 (by decide) ?_
      exact ih (i + 4) (kc + 10) (kn + 60) (K + 13) th' h' f' g' l6 l7 l8 (by omega) (by omega) (by omega) (by omega) (by omega) j1 j2 j3
theorem GP.grow {s fx fy fr w rt : Nat → Nat} {ti x y : Nat} {D E L : Nat → Nat} {m : Nat → Bool} {num den : Nat} (g : GP h s fx fy fr w rt ti x y D E L m num den) (hf : ∀ j, j < 116 → h'[j]? = h[j]?) : GP h' s fx fy fr w rt ti x y D E L m num den := by
  obtain ⟨g1, g2, g3, g4, g5, g6, g7, g8, g9, g10, g11, g12, g13, g14, g15, g16, e1, e2, e3⟩ := g
  refine ⟨?_, ?_, ?_, ?_, ?_, ?_, ?_, ?_, ?_, ?_, ?_, ?_, ?_, ?_, ?_, ?_, e1, e2, e3⟩
  all_goals (rw [hf _ (by decide)]; assumption)
theorem GS.grow {s : Nat → Nat} (g : GS h s) (hf : ∀ j, j < 116 → h'[j]? = h[j]?) : GS h' s := by
  obtain ⟨fx, fy, fr, w, rt, ti, x, y, D, E, L, m, num, den, g⟩ := g
  exact GS.mk (g.grow hf)
theorem PS.grow {p : Nat} {s : Nat → Nat} (g : PS p h s) (hp : p + 8 < 116) (hf : ∀ j, j < 116 → h'[j]? = h[j]?) : PS p h' s := by
  obtain ⟨fx, fy, fr, w, rt, ti, x, y, q0, q1, q2, q3, q4, q5, q6, q7, q8, e1, e2, e3⟩ := g
  refine ⟨fx, fy, fr, w, rt, ti, x, y, ?_, ?_, ?_, ?_, ?_, ?_, ?_, ?_, ?_, e1, e2, e3⟩
  all_goals (rw [hf _ (by omega)]; assumption)
theorem HS.grow {P : Nat → Nat} {ch : Nat} (g : HS h P ch) (hf : ∀ j, j < 116 → h'[j]? = h[j]?) : HS h' P ch := by
  obtain ⟨nx, f, o, r, n8, c8, f8, a, p⟩ := g
  refine ⟨nx, f, (hf _ (by omega)).trans o, (hf _ (by omega)).trans r, n8, c8, f8, fun j hj => ?_, fun i hi => ⟨(p i hi).1.grow (by omega) hf, (p i hi).2⟩⟩
  obtain ⟨s, hs⟩ := a j hj
  exact ⟨s, hs.grow (by omega) hf⟩
theorem CPc.grow {s sS P : Nat → Nat} {ch : Nat} {ea fa : Int32} {sv : Bool} {lf : Nat → Nat} {ln : Nat} {tx : Nat → Nat} {tp : Nat} (g : CPc h s sS P ch ea fa sv lf ln tx tp) (hf : ∀ j, j < 116 → h'[j]? = h[j]?) : CPc h' s sS P ch ea fa sv lf ln tx tp := by
  obtain ⟨c0, gs, hs, sa, be, ⟨po, ct, vc, ks, as_, vs, p1, p2, p3, p4, p5⟩, ⟨f, l1, l2, l3⟩⟩ := g
  refine ⟨(hf _ (by omega)).trans c0, gs.grow hf, hs.grow hf, ⟨sa.1.grow (by omega) hf, sa.2⟩, ?_, ⟨po, ct, vc, ks, as_, vs, (hf _ (by omega)).trans p1, (hf _ (by omega)).trans p2, (hf _ (by omega)).trans p3, (hf _ (by omega)).trans p4, (hf _ (by omega)).trans p5⟩, ⟨f, (hf _ (by omega)).trans l1, (hf _ (by omega)).trans l2, l3⟩⟩
  obtain ⟨s9, h9⟩ := be
  exact ⟨s9, h9.grow (by omega) hf⟩
theorem MPc.grow {s sm P : Nat → Nat} {ch : Nat} {ea fa : Int32} {sv : Bool} {lf : Nat → Nat} {ln : Nat} {tx : Nat → Nat} {tp : Nat} (g : MPc h s sm P ch th ea fa sv lf ln tx tp) (hf : ∀ j, j < 125 → h'[j]? = h[j]?) : MPc h' s sm P ch th ea fa sv lf ln tx tp := by
  obtain ⟨an, he, cm, W, F, C, h1, h2, h3, h4, h5, h6, h7, h8, h9⟩ := g
  exact ⟨an, he, cm, W, F, C, (hf _ (by omega)).trans h1, (hf _ (by omega)).trans h2, (hf _ (by omega)).trans h3, (hf _ (by omega)).trans h4, (hf _ (by omega)).trans h5, (hf _ (by omega)).trans h6, (hf _ (by omega)).trans h7, (hf _ (by omega)).trans h8, (hf _ (by omega)).trans h9⟩
theorem app_at {h : jH} {r : jH} {j : Nat} (hj : j < h.length) : (h ++ r)[j]? = h[j]? := List.getElem?_append_left hj
theorem Inv_0 : Inv 0 s00 := by
  have a : ∀ k, 12 ≤ k → s00 k = 0 := fun k hk => s00_0 (by omega) (by omega) (by omega)
  have z : ∀ k, wS s00 k = 0 := fun k => a (48 + k) (by omega)
  refine ⟨⟨by decide, fun i j hi hj => by rw [z]; omega, fun i j hi hj hp => by rw [z] at hp; omega, fun i j hi hj => by rw [z, z]⟩, fun i hi => z _, fun i hi => ?_, fun h => absurd h (by decide), by decide, fun _ => by decide, by decide, by decide, by decide, by decide⟩
  unfold pX pY pR
  rw [a _ (by omega), a _ (by omega), a _ (by omega)]
  omega
theorem law_entry (hL : g_L G ≤ 2048) (fin : ∀ kc kn lo (h : jH), kc ≤ room_1.cells → kn ≤ room_1.slots → J G room_1 F M_L_law false kc kn 2515 lo [.int (nI 1)] h) :
    J G room_1 F M_L_law true 0 0 0 [some (.retAddr 0), none, none, none, none, none, none, none, none] [] [] := by
  refine J_new dL_law_0 n_L_8 (by decide) (by decide) ?_
  refine J_dup (by rfl) dL_law_3 ?_
  refine J_I00 dL_law_4 s_L_136 m_X10_init rfl (c_X10_init rfl rfl (fun h1 l1 cp => jK0_i ?_)) (by decide +kernel)
  refine J_astore_1 dL_law_7 ?_
  refine J_new dL_law_8 n_L_137 (by decide) (by decide) ?_
  refine J_dup (by rfl) dL_law_11 ?_
  rw [l1]
  refine J_I00 dL_law_12 s_L_139 m_X11_init rfl (c_X11_init (by rw [List.length_append, l1]; rfl) (by rw [List.getElem?_append_right (by omega), l1]; rfl) (fun h2 l2 ag mp => jK0_i ?_)) (by decide +kernel)
  refine J_astore_2 dL_law_15 ?_
  refine J_iconst (nI 1) (by decide) dL_law_16 ?_
  refine J_newL 1 dL_law_17 aw_long rfl (by decide) (by decide) (by decide) ?_
  refine J_astore_3 dL_law_19 ?_
  refine J_iconst (nI 1) (by decide) dL_law_20 ?_
  refine J_newD 1 dL_law_21 aw_double rfl (by decide) (by decide) (by decide) ?_
  refine J_astore_4 dL_law_23 ?_
  refine J_iconst (nI 0) (by decide) dL_law_25 ?_
  refine J_istore_5 dL_law_26 ?_
  refine J_plain ?_
  rw [List.length_append, l2]
  have a5 : ∀ j, j < 125 → ((h2 ++ [.inl (3, 1, .inr (.inl (fun _ => 0)))]) ++ [.inl (4, 1, .inr (.inr (.inr (.inl (fun _ => 0)))))])[j]? = h2[j]? := fun j hj => by rw [app_at (by rw [List.length_append, l2]; show j < 126; omega), app_at (by omega)]
  have a6 : ∀ j, j < 116 → ((h2 ++ [.inl (3, 1, .inr (.inl (fun _ => 0)))]) ++ [.inl (4, 1, .inr (.inr (.inr (.inl (fun _ => 0)))))])[j]? = h1[j]? := fun j hj => by rw [a5 j (by omega), ag j hj, app_at (by omega)]
  have ji : JI 0 ((h2 ++ [.inl (3, 1, .inr (.inl (fun _ => 0)))]) ++ [.inl (4, 1, .inr (.inr (.inr (.inl (fun _ => 0)))))]) 0 := by
    refine ⟨s00, s00, fun _ => 0, fun _ => 0, 0, -1, -1, false, fun _ => 0, 0, fun _ => 0, 0, (cp (fun _ => 0) (fun _ => 0)).grow a6, mp.grow a5, Inv_0, (fun w => by cases w), fun j hj => absurd hj (by omega), by omega, by omega, fun k hk => absurd hk (by omega), by omega, fun k hk => absurd hk (by omega), Or.inl rfl, Or.inl rfl⟩
  refine law_loop hL fin 512 0 _ _ 0 0 _ (fun _ => 0) (fun _ => 0) none none none (by omega) (by decide) (by decide) (by decide) (by decide) ji ?_ ?_
  · rw [app_at (by rw [List.length_append, l2]; show 125 < 126; omega), List.getElem?_append_right (by omega), l2]; rfl
  · rw [List.getElem?_append_right (by rw [List.length_append, l2]; show 126 ≤ 126; omega), List.length_append, l2]; rfl
end LOOP
