/-! Tour, Meter, Drift, Line on their places in the guide -/
abbrev hTour (c ti x y : Nat) (al : Bool) : jC := .inr (8, [.ref 9, .int (nI c), .int (nI ti), .int (nI x), .int (nI y), .int (jb al)])
abbrev hMeter (b m t u a r : Nat) : jC := .inr (4, [.int (nI b), .int (nI m), .int (nI t), .int (nI u), .int (nI a), .int (nI r)])
section TOUR
variable {G : jG} {X : Bool} {h : jH} {Q : jQ_} {c ti x y : Nat} {al : Bool} {rt : Nat → Nat}
theorem c_X8_isOn (hT : h[8]? = some (hTour c ti x y al)) (hc : c ≤ 12) (hQ : Q (.inl (some (.int (jb (decide (0 < c)))))) h) : jCT G M_X8_isOn 1 0 0 X [.ref 8] h Q := by
  refine jCT_of [some (.ref 8)] 0 rfl (by decide +kernel) rfl rfl ?_
  refine J_aload_n (by rfl) (by rfl) dX8_isOn_0 ?_
  refine J_get dX8_isOn_1 f_X8_21 (by repeat (first | assumption | exact jget_same2 (by (try simp only [List.length_set]); exact jlt (by assumption)) | refine jget_ne (by first | decide | assumption | omega) ?_)) (by rfl) ?_
  refine J_if_le_n 11 dX8_isOn_4 (by decide) (fun c4 => ?_) (fun c4 => ?_)
  · refine J_iconst (nI 0) (by decide) dX8_isOn_11 ?_
    exact J_zreturn dX8_isOn_12 rfl (by first | rfl | exact jb_n _) (by rw [show decide (0 < c) = false by simp; omega] at hQ; exact hQ) (by decide) (by decide) (fun _ => rfl)
  · refine J_iconst (nI 1) (by decide) dX8_isOn_7 ?_
    refine J_goto 12 dX8_isOn_8 (by decide) ?_
    exact J_zreturn dX8_isOn_12 rfl (by first | rfl | exact jb_n _) (by rw [show decide (0 < c) = true by simp; omega] at hQ; exact hQ) (by decide) (by decide) (fun _ => rfl)
theorem c_X8_hasIndex (z : Int32) (hT : h[8]? = some (hTour c ti x y al)) (hQ : Q (.inl (some (.int (jb (isIx z c))))) h) : jCT G M_X8_hasIndex 1 0 0 X [.ref 8, .int z] h Q := by
  refine jCT_of [some (.ref 8), some (.int z)] 0 rfl (by decide +kernel) rfl rfl ?_
  refine J_iload_n (by rfl) dX8_hasIndex_0 ?_
  refine J_if_lt 16 dX8_hasIndex_1 (by decide) (fun c1 => ?_) (fun c1 => ?_)
  · refine J_iconst (nI 0) (by decide) dX8_hasIndex_16 ?_
    exact J_zreturn dX8_hasIndex_17 rfl (by first | rfl | exact jb_n _) (by rw [show isIx z c = false by simp [isIx, c1]] at hQ; exact hQ) (by decide) (by decide) (fun _ => rfl)
  · refine J_iload_n (by rfl) dX8_hasIndex_4 ?_
    refine J_aload_n (by rfl) (by rfl) dX8_hasIndex_5 ?_
    refine J_get dX8_hasIndex_6 f_X8_21 (by repeat (first | assumption | exact jget_same2 (by (try simp only [List.length_set]); exact jlt (by assumption)) | refine jget_ne (by first | decide | assumption | omega) ?_)) (by rfl) ?_
    refine J_icmp_ge 16 dX8_hasIndex_9 (by decide) (fun c9 => ?_) (fun c9 => ?_)
    · refine J_iconst (nI 0) (by decide) dX8_hasIndex_16 ?_
      exact J_zreturn dX8_hasIndex_17 rfl (by first | rfl | exact jb_n _) (by rw [show isIx z c = false by simp only [isIx, decide_eq_false_iff_not]; intro q; exact absurd q.2 (Int32.not_lt.mpr c9)] at hQ; exact hQ) (by decide) (by decide) (fun _ => rfl)
    · refine J_iconst (nI 1) (by decide) dX8_hasIndex_12 ?_
      refine J_goto 17 dX8_hasIndex_13 (by decide) ?_
      exact J_zreturn dX8_hasIndex_17 rfl (by first | rfl | exact jb_n _) (by rw [show isIx z c = true by simp only [isIx, decide_eq_true_eq]; exact ⟨c1, Int32.not_le.mp c9⟩] at hQ; exact hQ) (by decide) (by decide) (fun _ => rfl)
theorem c_X8_isInner {i : Nat} (hi : i < c) (hT : h[8]? = some (hTour c ti x y al)) (hc : c ≤ 12) (hQ : Q (.inl (some (.int (jb (decide (0 < i ∧ i + 1 < c)))))) h) : jCT G M_X8_isInner 1 0 0 X [.ref 8, .int (nI i)] h Q := by
  refine jCT_of [some (.ref 8), some (.int (nI i))] 0 rfl (by decide +kernel) rfl rfl ?_
  refine J_iload_n (by rfl) dX8_isInner_0 ?_
  refine J_if_le_n 18 dX8_isInner_1 (by decide) (fun c1 => ?_) (fun c1 => ?_)
  · refine J_iconst (nI 0) (by decide) dX8_isInner_18 ?_
    exact J_zreturn dX8_isInner_19 rfl (by first | rfl | exact jb_n _) (by rw [show decide (0 < i ∧ i + 1 < c) = false by simp; omega] at hQ; exact hQ) (by decide) (by decide) (fun _ => rfl)
  · refine J_iload_n (by rfl) dX8_isInner_4 ?_
    refine J_aload_n (by rfl) (by rfl) dX8_isInner_5 ?_
    refine J_get dX8_isInner_6 f_X8_21 (by repeat (first | assumption | exact jget_same2 (by (try simp only [List.length_set]); exact jlt (by assumption)) | refine jget_ne (by first | decide | assumption | omega) ?_)) (by rfl) ?_
    refine J_iconst (nI 1) (by decide) dX8_isInner_9 ?_
    refine J_isub_n (by omega) dX8_isInner_10 ?_
    refine J_icmp_ge_n 18 dX8_isInner_11 (by decide) (fun c11 => ?_) (fun c11 => ?_)
    · refine J_iconst (nI 0) (by decide) dX8_isInner_18 ?_
      exact J_zreturn dX8_isInner_19 rfl (by first | rfl | exact jb_n _) (by rw [show decide (0 < i ∧ i + 1 < c) = false by simp; omega] at hQ; exact hQ) (by decide) (by decide) (fun _ => rfl)
    · refine J_iconst (nI 1) (by decide) dX8_isInner_14 ?_
      refine J_goto 19 dX8_isInner_15 (by decide) ?_
      exact J_zreturn dX8_isInner_19 rfl (by first | rfl | exact jb_n _) (by rw [show decide (0 < i ∧ i + 1 < c) = true by simp; omega] at hQ; exact hQ) (by decide) (by decide) (fun _ => rfl)
theorem c_X8_waypointAt {i : Nat} (hi : i < c) (hc : c ≤ 12) (hT : h[8]? = some (hTour c ti x y al)) (hA : h[9]? = some (ia 12 rt)) (hQ : Q (.inl (some (.int (nI (rt i))))) h) : jCT G M_X8_waypointAt 1 0 0 X [.ref 8, .int (nI i)] h Q := by
  refine jCT_of [some (.ref 8), some (.int (nI i))] 0 rfl (by decide +kernel) rfl rfl ?_
  refine J_iload_n (by rfl) dX8_waypointAt_0 ?_
  refine J_if_lt_n 27 dX8_waypointAt_1 (by decide) ?_
  refine J_iload_n (by rfl) dX8_waypointAt_4 ?_
  refine J_aload_n (by rfl) (by rfl) dX8_waypointAt_5 ?_
  refine J_get dX8_waypointAt_6 f_X8_21 (by repeat (first | assumption | exact jget_same2 (by (try simp only [List.length_set]); exact jlt (by assumption)) | refine jget_ne (by first | decide | assumption | omega) ?_)) (by rfl) ?_
  refine J_icmp_ge_n 27 dX8_waypointAt_9 (by decide) (fun c9 => ?_) (fun c9 => ?_)
  · omega
  · refine J_iload_n (by rfl) dX8_waypointAt_12 ?_
    refine J_bipush (nI 12) (by decide) dX8_waypointAt_13 ?_
    refine J_icmp_ge_n 27 dX8_waypointAt_15 (by decide) (fun c15 => ?_) (fun c15 => ?_)
    · omega
    · refine J_aload_n (by rfl) (by rfl) dX8_waypointAt_18 ?_
      refine J_get dX8_waypointAt_19 f_X8_9 (by repeat (first | assumption | exact jget_same2 (by (try simp only [List.length_set]); exact jlt (by assumption)) | refine jget_ne (by first | decide | assumption | omega) ?_)) (by rfl) ?_
      refine J_iload_n (by rfl) dX8_waypointAt_22 ?_
      refine J_iald_n (i) dX8_waypointAt_23 (by repeat (first | assumption | exact jget_same2 (by (try simp only [List.length_set]); exact jlt (by assumption)) | refine jget_ne (by first | decide | assumption | omega) ?_)) (by first | rfl | (simp only [pk_mul, nI_add]; done) | (simp only [pk_mul, nI_add]; congr 1; omega) | (congr 1; omega)) (by omega) ?_
      refine J_goto 28 dX8_waypointAt_24 (by decide) ?_
      exact J_ireturn dX8_waypointAt_28 rfl (hQ) (by decide) (by decide) (fun _ => rfl)
theorem c_X8_targetWaypoint (hi : ti < c) (hc : c ≤ 12) (hT : h[8]? = some (hTour c ti x y al)) (hA : h[9]? = some (ia 12 rt)) (hQ : Q (.inl (some (.int (nI (rt ti))))) h) : jCT G M_X8_targetWaypoint 2 0 0 X [.ref 8] h Q := by
  refine jCT_of [some (.ref 8)] 0 rfl (by decide +kernel) rfl rfl ?_
  refine J_aload_n (by rfl) (by rfl) dX8_targetWaypoint_0 ?_
  refine J_aload_n (by rfl) (by rfl) dX8_targetWaypoint_1 ?_
  refine J_get dX8_targetWaypoint_2 f_X8_25 (by repeat (first | assumption | exact jget_same2 (by (try simp only [List.length_set]); exact jlt (by assumption)) | refine jget_ne (by first | decide | assumption | omega) ?_)) (by rfl) ?_
  refine J_V1v (ci := 8) dX8_targetWaypoint_5 s_X8_38 m_X8_waypointAt rfl (by repeat (first | assumption | exact jget_same2 (by (try simp only [List.length_set]); exact jlt (by assumption)) | refine jget_ne (by first | decide | assumption | omega) ?_)) rfl (c_X8_waypointAt hi hc hT hA (jKv_i ?_))
  exact J_ireturn dX8_targetWaypoint_8 rfl (hQ) (by decide) (by decide) (fun _ => rfl)
theorem c_X8_append {v : Nat} (hc : c < 12) (hT : h[8]? = some (hTour c ti x y al)) (hA : h[9]? = some (ia 12 rt)) (hQ : Q (.inl none) ((h.set 9 (ia 12 (updN rt c v))).set 8 (hTour (c + 1) ti x y al))) : jCT G M_X8_append 1 0 0 X [.ref 8, .int (nI v)] h Q := by
  refine jCT_of [some (.ref 8), some (.int (nI v))] 0 rfl (by decide +kernel) rfl rfl ?_
  refine J_aload_n (by rfl) (by rfl) dX8_append_0 ?_
  refine J_get dX8_append_1 f_X8_21 (by repeat (first | assumption | exact jget_same2 (by (try simp only [List.length_set]); exact jlt (by assumption)) | refine jget_ne (by first | decide | assumption | omega) ?_)) (by rfl) ?_
  refine J_if_lt_n 36 dX8_append_4 (by decide) ?_
  refine J_aload_n (by rfl) (by rfl) dX8_append_7 ?_
  refine J_get dX8_append_8 f_X8_21 (by repeat (first | assumption | exact jget_same2 (by (try simp only [List.length_set]); exact jlt (by assumption)) | refine jget_ne (by first | decide | assumption | omega) ?_)) (by rfl) ?_
  refine J_bipush (nI 12) (by decide) dX8_append_11 ?_
  refine J_icmp_ge_n 36 dX8_append_13 (by decide) (fun c13 => ?_) (fun c13 => ?_)
  · omega
  · refine J_aload_n (by rfl) (by rfl) dX8_append_16 ?_
    refine J_get dX8_append_17 f_X8_9 (by repeat (first | assumption | exact jget_same2 (by (try simp only [List.length_set]); exact jlt (by assumption)) | refine jget_ne (by first | decide | assumption | omega) ?_)) (by rfl) ?_
    refine J_aload_n (by rfl) (by rfl) dX8_append_20 ?_
    refine J_get dX8_append_21 f_X8_21 (by repeat (first | assumption | exact jget_same2 (by (try simp only [List.length_set]); exact jlt (by assumption)) | refine jget_ne (by first | decide | assumption | omega) ?_)) (by rfl) ?_
    refine J_iload_n (by rfl) dX8_append_24 ?_
    refine J_iast_n (c) dX8_append_25 (by repeat (first | assumption | exact jget_same2 (by (try simp only [List.length_set]); exact jlt (by assumption)) | refine jget_ne (by first | decide | assumption | omega) ?_)) (by first | rfl | (simp only [pk_mul, nI_add]; done) | (simp only [pk_mul, nI_add]; congr 1; omega) | (congr 1; omega)) (by omega) ?_
    refine J_aload_n (by rfl) (by rfl) dX8_append_26 ?_
    refine J_dup (by rfl) dX8_append_27 ?_
    refine J_get dX8_append_28 f_X8_21 (by repeat (first | assumption | exact jget_same2 (by (try simp only [List.length_set]); exact jlt (by assumption)) | refine jget_ne (by first | decide | assumption | omega) ?_)) (by rfl) ?_
    refine J_iconst (nI 1) (by decide) dX8_append_31 ?_
    refine J_iadd dX8_append_32 ?_
    try rw [nI_add]
    refine J_put_1 dX8_append_33 p_X8_21 (by repeat (first | assumption | exact jget_same2 (by (try simp only [List.length_set]); exact jlt (by assumption)) | refine jget_ne (by first | decide | assumption | omega) ?_)) ?_
    exact J_return dX8_append_36 rfl (hQ) (by decide) (by decide) (fun _ => rfl)
theorem c_X8_end (hT : h[8]? = some (hTour c ti x y al)) (hQ : Q (.inl none) (((h.set 8 (hTour 0 ti x y al)).set 8 (hTour 0 0 x y al)).set 8 (hTour 0 0 x y false))) : jCT G M_X8_end 1 0 0 X [.ref 8] h Q := by
  refine jCT_of [some (.ref 8)] 0 rfl (by decide +kernel) rfl rfl ?_
  refine J_aload_n (by rfl) (by rfl) dX8_end_0 ?_
  refine J_iconst (nI 0) (by decide) dX8_end_1 ?_
  refine J_put_1 dX8_end_2 p_X8_21 (by repeat (first | assumption | exact jget_same2 (by (try simp only [List.length_set]); exact jlt (by assumption)) | refine jget_ne (by first | decide | assumption | omega) ?_)) ?_
  refine J_aload_n (by rfl) (by rfl) dX8_end_5 ?_
  refine J_iconst (nI 0) (by decide) dX8_end_6 ?_
  refine J_put_2 dX8_end_7 p_X8_25 (by repeat (first | assumption | exact jget_same2 (by (try simp only [List.length_set]); exact jlt (by assumption)) | refine jget_ne (by first | decide | assumption | omega) ?_)) ?_
  refine J_aload_n (by rfl) (by rfl) dX8_end_10 ?_
  refine J_iconst (nI 0) (by decide) dX8_end_11 ?_
  refine J_put_5 dX8_end_12 p_X8_34 (by repeat (first | assumption | exact jget_same2 (by (try simp only [List.length_set]); exact jlt (by assumption)) | refine jget_ne (by first | decide | assumption | omega) ?_)) ?_
  exact J_return dX8_end_15 rfl (hQ) (by decide) (by decide) (fun _ => rfl)
theorem c_X8_advance (hi : ti < c) (hc : c ≤ 12) (hT : h[8]? = some (hTour c ti x y al)) (hQ : Q (.inl none) (if ti + 1 < c then h.set 8 (hTour c (ti + 1) x y al) else (((h.set 8 (hTour c (ti + 1) x y al)).set 8 (hTour 0 (ti + 1) x y al)).set 8 (hTour 0 0 x y al)).set 8 (hTour 0 0 x y false))) : jCT G M_X8_advance 2 0 0 X [.ref 8] h Q := by
  refine jCT_of [some (.ref 8)] 0 rfl (by decide +kernel) rfl rfl ?_
  refine J_aload_n (by rfl) (by rfl) dX8_advance_0 ?_
  refine J_dup (by rfl) dX8_advance_1 ?_
  refine J_get dX8_advance_2 f_X8_25 (by repeat (first | assumption | exact jget_same2 (by (try simp only [List.length_set]); exact jlt (by assumption)) | refine jget_ne (by first | decide | assumption | omega) ?_)) (by rfl) ?_
  refine J_iconst (nI 1) (by decide) dX8_advance_5 ?_
  refine J_iadd dX8_advance_6 ?_
  try rw [nI_add]
  refine J_put_2 dX8_advance_7 p_X8_25 (by repeat (first | assumption | exact jget_same2 (by (try simp only [List.length_set]); exact jlt (by assumption)) | refine jget_ne (by first | decide | assumption | omega) ?_)) ?_
  refine J_aload_n (by rfl) (by rfl) dX8_advance_10 ?_
  refine J_get dX8_advance_11 f_X8_25 (by repeat (first | assumption | exact jget_same2 (by (try simp only [List.length_set]); exact jlt (by assumption)) | refine jget_ne (by first | decide | assumption | omega) ?_)) (by rfl) ?_
  refine J_aload_n (by rfl) (by rfl) dX8_advance_14 ?_
  refine J_get dX8_advance_15 f_X8_21 (by repeat (first | assumption | exact jget_same2 (by (try simp only [List.length_set]); exact jlt (by assumption)) | refine jget_ne (by first | decide | assumption | omega) ?_)) (by rfl) ?_
  refine J_icmp_lt_n 25 dX8_advance_18 (by decide) (fun c18 => ?_) (fun c18 => ?_)
  · exact J_return dX8_advance_25 rfl (by rw [if_pos c18] at hQ; exact hQ) (by decide) (by decide) (fun _ => rfl)
  · refine J_aload_n (by rfl) (by rfl) dX8_advance_21 ?_
    refine J_V00 (ci := 8) dX8_advance_22 s_X8_42 m_X8_end rfl (by repeat (first | assumption | exact jget_same2 (by (try simp only [List.length_set]); exact jlt (by assumption)) | refine jget_ne (by first | decide | assumption | omega) ?_)) rfl (c_X8_end (c := c) (ti := ti + 1) (by exact jget_same2 (jlt hT)) (jK0_i ?_))
    exact J_return dX8_advance_25 rfl (by rw [if_neg (by omega)] at hQ; exact hQ) (by decide) (by decide) (fun _ => rfl)
end TOUR
def costN (m : Nat) : Nat := if m = 0 then 1 else if m = 1 then 2 else 4
section METER
variable {G : jG} {X : Bool} {h : jH} {Q : jQ_} {b m t u a r : Nat}
theorem c_X4_cost (hm : m ≤ 2) (hT : h[10]? = some (hMeter b m t u a r)) (hQ : Q (.inl (some (.int (nI (costN m))))) h) : jCT G M_X4_cost 1 0 0 X [.ref 10] h Q := by
  refine jCT_of [some (.ref 10)] 0 rfl (by decide +kernel) rfl rfl ?_
  refine J_aload_n (by rfl) (by rfl) dX4_cost_0 ?_
  refine J_get dX4_cost_1 f_X4_15 (by repeat (first | assumption | exact jget_same2 (by (try simp only [List.length_set]); exact jlt (by assumption)) | refine jget_ne (by first | decide | assumption | omega) ?_)) (by rfl) ?_
  rcases (show m = 0 ∨ m = 1 ∨ m = 2 by omega) with rfl | rfl | rfl
  · refine J_lookup (off := 28) 32 dX4_cost_4 (by decide) (by decide) (by decide) ?_
    refine J_iconst (nI 1) (by decide) dX4_cost_32 ?_
    exact J_ireturn dX4_cost_33 rfl (hQ) (by decide) (by decide) (fun _ => rfl)
  · refine J_lookup (off := 30) 34 dX4_cost_4 (by decide) (by decide) (by decide) ?_
    refine J_iconst (nI 2) (by decide) dX4_cost_34 ?_
    exact J_ireturn dX4_cost_35 rfl (hQ) (by decide) (by decide) (fun _ => rfl)
  · refine J_lookup (off := 32) 36 dX4_cost_4 (by decide) (by decide) (by decide) ?_
    refine J_iconst (nI 4) (by decide) dX4_cost_36 ?_
    exact J_ireturn dX4_cost_37 rfl (hQ) (by decide) (by decide) (fun _ => rfl)
theorem c_X4_spend {v : Nat} (hb : b ≤ 1000) (hv : v ≤ 1000) (hT : h[10]? = some (hMeter b m t u a r)) (hQ : Q (.inl none) (h.set 10 (hMeter (b - v) m t u a r))) : jCT G M_X4_spend 1 0 0 X [.ref 10, .int (nI v)] h Q := by
  refine jCT_of [some (.ref 10), some (.int (nI v))] 0 rfl (by decide +kernel) rfl rfl ?_
  refine J_aload_n (by rfl) (by rfl) dX4_spend_0 ?_
  refine J_aload_n (by rfl) (by rfl) dX4_spend_1 ?_
  refine J_get dX4_spend_2 f_X4_9 (by repeat (first | assumption | exact jget_same2 (by (try simp only [List.length_set]); exact jlt (by assumption)) | refine jget_ne (by first | decide | assumption | omega) ?_)) (by rfl) ?_
  refine J_iload_n (by rfl) dX4_spend_5 ?_
  refine J_icmp_le_n 18 dX4_spend_6 (by decide) (fun c6 => ?_) (fun c6 => ?_)
  · refine J_iconst (nI 0) (by decide) dX4_spend_18 ?_
    refine J_put_0 dX4_spend_19 p_X4_9 (by repeat (first | assumption | exact jget_same2 (by (try simp only [List.length_set]); exact jlt (by assumption)) | refine jget_ne (by first | decide | assumption | omega) ?_)) ?_
    exact J_return dX4_spend_22 rfl (by rw [show b - v = 0 by omega] at hQ; exact hQ) (by decide) (by decide) (fun _ => rfl)
  · refine J_aload_n (by rfl) (by rfl) dX4_spend_9 ?_
    refine J_get dX4_spend_10 f_X4_9 (by repeat (first | assumption | exact jget_same2 (by (try simp only [List.length_set]); exact jlt (by assumption)) | refine jget_ne (by first | decide | assumption | omega) ?_)) (by rfl) ?_
    refine J_iload_n (by rfl) dX4_spend_13 ?_
    refine J_isub_n (by omega) dX4_spend_14 ?_
    refine J_goto 19 dX4_spend_15 (by decide) ?_
    refine J_put_0 dX4_spend_19 p_X4_9 (by repeat (first | assumption | exact jget_same2 (by (try simp only [List.length_set]); exact jlt (by assumption)) | refine jget_ne (by first | decide | assumption | omega) ?_)) ?_
    exact J_return dX4_spend_22 rfl (hQ) (by decide) (by decide) (fun _ => rfl)
theorem c_X4_refill {v : Nat} (hb : b ≤ 1000) (hv : v ≤ 1000) (hT : h[10]? = some (hMeter b m t u a r)) (hQ : Q (.inl (some (.int (nI (min (b + v) 1000))))) (h.set 10 (hMeter (min (b + v) 1000) m t u a r))) : jCT G M_X4_refill 1 0 0 X [.ref 10, .int (nI v)] h Q := by
  refine jCT_of [some (.ref 10), some (.int (nI v))] 0 rfl (by decide +kernel) rfl rfl ?_
  refine J_aload_n (by rfl) (by rfl) dX4_refill_0 ?_
  refine J_aload_n (by rfl) (by rfl) dX4_refill_1 ?_
  refine J_get dX4_refill_2 f_X4_9 (by repeat (first | assumption | exact jget_same2 (by (try simp only [List.length_set]); exact jlt (by assumption)) | refine jget_ne (by first | decide | assumption | omega) ?_)) (by rfl) ?_
  refine J_iload_n (by rfl) dX4_refill_5 ?_
  refine J_iadd dX4_refill_6 ?_
  try rw [nI_add]
  refine J_sipush (nI 1000) (by decide) dX4_refill_7 ?_
  refine J_icmp_ge_n 22 dX4_refill_10 (by decide) (fun c10 => ?_) (fun c10 => ?_)
  · refine J_sipush (nI 1000) (by decide) dX4_refill_22 ?_
    refine J_put_0 dX4_refill_25 p_X4_9 (by repeat (first | assumption | exact jget_same2 (by (try simp only [List.length_set]); exact jlt (by assumption)) | refine jget_ne (by first | decide | assumption | omega) ?_)) ?_
    refine J_aload_n (by rfl) (by rfl) dX4_refill_28 ?_
    refine J_get dX4_refill_29 f_X4_9 (by repeat (first | assumption | exact jget_same2 (by (try simp only [List.length_set]); exact jlt (by assumption)) | refine jget_ne (by first | decide | assumption | omega) ?_)) (by rfl) ?_
    exact J_ireturn dX4_refill_32 rfl (by rw [show min (b + v) 1000 = 1000 by omega] at hQ; exact hQ) (by decide) (by decide) (fun _ => rfl)
  · refine J_aload_n (by rfl) (by rfl) dX4_refill_13 ?_
    refine J_get dX4_refill_14 f_X4_9 (by repeat (first | assumption | exact jget_same2 (by (try simp only [List.length_set]); exact jlt (by assumption)) | refine jget_ne (by first | decide | assumption | omega) ?_)) (by rfl) ?_
    refine J_iload_n (by rfl) dX4_refill_17 ?_
    refine J_iadd dX4_refill_18 ?_
    try rw [nI_add]
    refine J_goto 25 dX4_refill_19 (by decide) ?_
    refine J_put_0 dX4_refill_25 p_X4_9 (by repeat (first | assumption | exact jget_same2 (by (try simp only [List.length_set]); exact jlt (by assumption)) | refine jget_ne (by first | decide | assumption | omega) ?_)) ?_
    refine J_aload_n (by rfl) (by rfl) dX4_refill_28 ?_
    refine J_get dX4_refill_29 f_X4_9 (by repeat (first | assumption | exact jget_same2 (by (try simp only [List.length_set]); exact jlt (by assumption)) | refine jget_ne (by first | decide | assumption | omega) ?_)) (by rfl) ?_
    exact J_ireturn dX4_refill_32 rfl (by rw [show min (b + v) 1000 = b + v by omega] at hQ; exact hQ) (by decide) (by decide) (fun _ => rfl)
theorem c_X4_exchangeMode {v : Nat} (hT : h[10]? = some (hMeter b m t u a r)) (hQ : Q (.inl (some (.int (nI m)))) (h.set 10 (hMeter b v t u a r))) : jCT G M_X4_exchangeMode 1 0 0 X [.ref 10, .int (nI v)] h Q := by
  refine jCT_of [some (.ref 10), some (.int (nI v)), none] 1 rfl (by decide +kernel) rfl rfl ?_
  refine J_aload_n (by rfl) (by rfl) dX4_exchangeMode_0 ?_
  refine J_get dX4_exchangeMode_1 f_X4_15 (by repeat (first | assumption | exact jget_same2 (by (try simp only [List.length_set]); exact jlt (by assumption)) | refine jget_ne (by first | decide | assumption | omega) ?_)) (by rfl) ?_
  refine J_istore_2 dX4_exchangeMode_4 ?_
  refine J_aload_n (by rfl) (by rfl) dX4_exchangeMode_5 ?_
  refine J_iload_n (by rfl) dX4_exchangeMode_6 ?_
  refine J_put_1 dX4_exchangeMode_7 p_X4_15 (by repeat (first | assumption | exact jget_same2 (by (try simp only [List.length_set]); exact jlt (by assumption)) | refine jget_ne (by first | decide | assumption | omega) ?_)) ?_
  refine J_iload_n (by rfl) dX4_exchangeMode_10 ?_
  exact J_ireturn dX4_exchangeMode_11 rfl (hQ) (by decide) (by decide) (fun _ => rfl)
theorem c_X4_exchangeTolerance {v : Nat} (hT : h[10]? = some (hMeter b m t u a r)) (hQ : Q (.inl (some (.int (nI t)))) (h.set 10 (hMeter b m v u a r))) : jCT G M_X4_exchangeTolerance 1 0 0 X [.ref 10, .int (nI v)] h Q := by
  refine jCT_of [some (.ref 10), some (.int (nI v)), none] 1 rfl (by decide +kernel) rfl rfl ?_
  refine J_aload_n (by rfl) (by rfl) dX4_exchangeTolerance_0 ?_
  refine J_get dX4_exchangeTolerance_1 f_X4_18 (by repeat (first | assumption | exact jget_same2 (by (try simp only [List.length_set]); exact jlt (by assumption)) | refine jget_ne (by first | decide | assumption | omega) ?_)) (by rfl) ?_
  refine J_istore_2 dX4_exchangeTolerance_4 ?_
  refine J_aload_n (by rfl) (by rfl) dX4_exchangeTolerance_5 ?_
  refine J_iload_n (by rfl) dX4_exchangeTolerance_6 ?_
  refine J_put_2 dX4_exchangeTolerance_7 p_X4_18 (by repeat (first | assumption | exact jget_same2 (by (try simp only [List.length_set]); exact jlt (by assumption)) | refine jget_ne (by first | decide | assumption | omega) ?_)) ?_
  refine J_iload_n (by rfl) dX4_exchangeTolerance_10 ?_
  exact J_ireturn dX4_exchangeTolerance_11 rfl (hQ) (by decide) (by decide) (fun _ => rfl)
theorem costN_pos (m : Nat) : 1 ≤ costN m ∧ costN m ≤ 4 := by unfold costN; split; omega; split <;> omega
theorem c_X4_leftByDivision (hm : m ≤ 2) (hb : b ≤ 1000) (hT : h[10]? = some (hMeter b m t u a r)) (hQ : Q (.inl (some (.int (nI ((b + costN m - 1) / costN m))))) h) : jCT G M_X4_leftByDivision 2 0 0 X [.ref 10] h Q := by
  refine jCT_of [some (.ref 10), none] 1 rfl (by decide +kernel) rfl rfl ?_
  obtain ⟨h1, h2⟩ := costN_pos m
  refine J_aload_n (by rfl) (by rfl) dX4_leftByDivision_0 ?_
  refine J_V0v (ci := 4) dX4_leftByDivision_1 s_X4_30 m_X4_cost rfl (by repeat (first | assumption | exact jget_same2 (by (try simp only [List.length_set]); exact jlt (by assumption)) | refine jget_ne (by first | decide | assumption | omega) ?_)) rfl (c_X4_cost hm hT (jKv_i ?_))
  refine J_istore_1 dX4_leftByDivision_4 ?_
  refine J_iload_n (by rfl) dX4_leftByDivision_5 ?_
  refine J_if_le_n 22 dX4_leftByDivision_6 (by decide) (fun c6 => ?_) (fun c6 => ?_)
  · omega
  · refine J_aload_n (by rfl) (by rfl) dX4_leftByDivision_9 ?_
    refine J_get dX4_leftByDivision_10 f_X4_9 (by repeat (first | assumption | exact jget_same2 (by (try simp only [List.length_set]); exact jlt (by assumption)) | refine jget_ne (by first | decide | assumption | omega) ?_)) (by rfl) ?_
    refine J_iload_n (by rfl) dX4_leftByDivision_13 ?_
    refine J_iadd dX4_leftByDivision_14 ?_
    try rw [nI_add]
    refine J_iconst (nI 1) (by decide) dX4_leftByDivision_15 ?_
    refine J_isub_n (by omega) dX4_leftByDivision_16 ?_
    refine J_iload_n (by rfl) dX4_leftByDivision_17 ?_
    refine J_idiv_n (by omega) (by omega) (by omega) dX4_leftByDivision_18 ?_
    refine J_goto 23 dX4_leftByDivision_19 (by decide) ?_
    exact J_ireturn dX4_leftByDivision_23 rfl (hQ) (by decide) (by decide) (fun _ => rfl)
theorem c_X4_leftByCounting (hm : m ≤ 2) (hb : b ≤ 1000) (hT : h[10]? = some (hMeter b m t u a r)) (hQ : Q (.inl (some (.int (nI ((b + costN m - 1) / costN m))))) h) : jCT G M_X4_leftByCounting 2 0 0 X [.ref 10] h Q := by
  refine jCT_of [some (.ref 10), none, none, none] 3 rfl (by decide +kernel) rfl rfl ?_
  obtain ⟨h1, h2⟩ := costN_pos m
  have hco : costN m = 1 ∨ costN m = 2 ∨ costN m = 4 := by unfold costN; split; omega; split <;> omega
  refine J_aload_n (by rfl) (by rfl) dX4_leftByCounting_0 ?_
  refine J_V0v (ci := 4) dX4_leftByCounting_1 s_X4_30 m_X4_cost rfl (by repeat (first | assumption | exact jget_same2 (by (try simp only [List.length_set]); exact jlt (by assumption)) | refine jget_ne (by first | decide | assumption | omega) ?_)) rfl (c_X4_cost hm hT (jKv_i ?_))
  refine J_istore_1 dX4_leftByCounting_4 ?_
  refine J_aload_n (by rfl) (by rfl) dX4_leftByCounting_5 ?_
  refine J_get dX4_leftByCounting_6 f_X4_9 (by repeat (first | assumption | exact jget_same2 (by (try simp only [List.length_set]); exact jlt (by assumption)) | refine jget_ne (by first | decide | assumption | omega) ?_)) (by rfl) ?_
  refine J_istore_2 dX4_leftByCounting_9 ?_
  refine J_iconst (nI 0) (by decide) dX4_leftByCounting_10 ?_
  refine J_istore_3 dX4_leftByCounting_11 ?_
  generalize costN m = co at hco hQ ⊢
  suffices loop : ∀ k i, 1000 - i ≤ k → (i = 0 ∨ (i - 1) * co < b) → J G (jR 2 0 0) (jFin G Q X 0 0) M_X4_leftByCounting X 0 0 12 [some (.ref 10), some (.int (nI co)), some (.int (iI ((b : Int) - (i * co : Nat)))), some (.int (nI i))] [] h by
    have := loop 1000 0 (by omega) (Or.inl rfl)
    rw [show ((b : Int) - (0 * co : Nat)) = (b : Int) by simp, iI_n] at this
    exact this
  intro k
  induction k with
  | zero =>
    intro i hk hi
    have hi1 : i ≤ 1000 := by rcases hco with rfl | rfl | rfl <;> omega
    have hz : iI ((b : Int) - (i * co : Nat)) ≤ 0 ↔ (b : Int) - (i * co : Nat) ≤ 0 := by rw [show (0 : Int32) = iI 0 from rfl, iI_le (by rcases hco with rfl | rfl | rfl <;> omega) (by omega) (by omega) (by omega)]
    refine J_iload_n (by rfl) dX4_leftByCounting_12 ?_
    refine J_if_le 33 dX4_leftByCounting_13 (by decide) (fun c13 => ?_) (fun c13 => ?_)
    · have c13 := hz.mp c13
      refine J_iload_n (by rfl) dX4_leftByCounting_33 ?_
      exact J_ireturn dX4_leftByCounting_34 rfl (by rw [show (b + co - 1) / co = i by rcases hco with rfl | rfl | rfl <;> omega] at hQ; exact hQ) (by decide) (by decide) (fun _ => rfl)
    · have c13 : ¬ (b : Int) - (i * co : Nat) ≤ 0 := fun z => c13 (hz.mpr z)
      exfalso
      rcases hco with rfl | rfl | rfl <;> omega
  | succ k ih =>
    intro i hk hi
    have hi1 : i ≤ 1000 := by rcases hco with rfl | rfl | rfl <;> omega
    have hz : iI ((b : Int) - (i * co : Nat)) ≤ 0 ↔ (b : Int) - (i * co : Nat) ≤ 0 := by rw [show (0 : Int32) = iI 0 from rfl, iI_le (by rcases hco with rfl | rfl | rfl <;> omega) (by omega) (by omega) (by omega)]
    refine J_iload_n (by rfl) dX4_leftByCounting_12 ?_
    refine J_if_le 33 dX4_leftByCounting_13 (by decide) (fun c13 => ?_) (fun c13 => ?_)
    · have c13 := hz.mp c13
      refine J_iload_n (by rfl) dX4_leftByCounting_33 ?_
      exact J_ireturn dX4_leftByCounting_34 rfl (by rw [show (b + co - 1) / co = i by rcases hco with rfl | rfl | rfl <;> omega] at hQ; exact hQ) (by decide) (by decide) (fun _ => rfl)
    · have c13 : ¬ (b : Int) - (i * co : Nat) ≤ 0 := fun z => c13 (hz.mpr z)
      refine J_iload_n (by rfl) dX4_leftByCounting_16 ?_
      refine J_sipush (nI 1000) (by decide) dX4_leftByCounting_17 ?_
      refine J_icmp_ge_n 33 dX4_leftByCounting_20 (by decide) (fun c20 => ?_) (fun c20 => ?_)
      · exfalso
        rcases hco with rfl | rfl | rfl <;> omega
      · refine J_iload_n (by rfl) dX4_leftByCounting_23 ?_
        refine J_iload_n (by rfl) dX4_leftByCounting_24 ?_
        refine J_isub dX4_leftByCounting_25 ?_
        refine J_topi (iI ((b : Int) - ((i + 1) * co : Nat))) (by rw [← iI_n co, iI_sub]; congr 1; rw [Nat.add_mul]; omega) ?_
        refine J_istore_2 dX4_leftByCounting_26 ?_
        refine J_iinc_3 (nI 1) dX4_leftByCounting_27 (by decide) ?_
        try rw [nI_add]
        refine J_goto 12 dX4_leftByCounting_30 (by decide) ?_
        exact ih (i + 1) (by omega) (Or.inr (by rw [Nat.add_sub_cancel]; omega))
end METER

/-! the drift: the way (a, b) to the hiker, the leg (c, d) -/
abbrev hDrift (num den : Nat) : jC := .inr (0, [.long (lN num), .long (lN den)])
def lI (z : Int) : Int64 := Int64.ofInt z
theorem lI_n (n : Nat) : lI (n : Int) = lN n := by unfold lI lN; rw [Int64.ofInt_eq_ofNat]
theorem lI_mul (a b : Int) : lI a * lI b = lI (a * b) := (Int64.ofInt_mul a b).symm
theorem lI_sub (a b : Int) : lI a - lI b = lI (a - b) := (Int64.ofInt_sub a b).symm
theorem lI_sq (z : Int) : lI z * lI z = lN (z.natAbs * z.natAbs) := by rw [lI_mul, ← Int.natAbs_mul_self, lI_n]
theorem iI_l {z : Int} (h1 : -2 ^ 31 ≤ z) (h2 : z < 2 ^ 31) : (iI z).toInt64 = lI z := by
  unfold lI
  apply Int64.toInt_inj.mp
  rw [Int32.toInt_toInt64, iI_toInt h1 h2, Int64.toInt_ofInt_of_le (by omega) (by omega)]
def dAlong (a b c d : Int) : Int := a * c + b * d
def dWhole (c d : Int) : Int := c * c + d * d
def dCross (a b c d : Int) : Int := c * b - d * a
def dNum (a b c d : Int) : Nat := if dAlong a b c d ≤ 0 then a.natAbs * a.natAbs + b.natAbs * b.natAbs else if dWhole c d ≤ dAlong a b c d then (a - c).natAbs * (a - c).natAbs + (b - d).natAbs * (b - d).natAbs else (dCross a b c d).natAbs * (dCross a b c d).natAbs
def dDen (a b c d : Int) : Nat := if dAlong a b c d ≤ 0 then 1 else if dWhole c d ≤ dAlong a b c d then 1 else (dWhole c d).natAbs
theorem mul_bd {a b A B : Int} (ha1 : -A ≤ a) (ha2 : a ≤ A) (hb1 : -B ≤ b) (hb2 : b ≤ B) : -(A * B) ≤ a * b ∧ a * b ≤ A * B := by
  have h1 : a.natAbs ≤ A.natAbs := by omega
  have h2 : b.natAbs ≤ B.natAbs := by omega
  have h3 := Nat.mul_le_mul h1 h2
  rw [← Int.natAbs_mul, ← Int.natAbs_mul] at h3
  have h4 : (0 : Int) ≤ A * B := Int.mul_nonneg (by omega) (by omega)
  omega
section DRIFT
variable {G : jG} {X : Bool} {h : jH} {Q : jQ_} {num den : Nat}
theorem c_X0_measure {a b c d : Int} (ha : -99 ≤ a ∧ a ≤ 99) (hb : -99 ≤ b ∧ b ≤ 99) (hc : -99 ≤ c ∧ c ≤ 99) (hd : -99 ≤ d ∧ d ≤ 99) (hT : h[16]? = some (hDrift num den))
    (hQ : ∀ h', (∀ j, j ≠ 16 → h'[j]? = h[j]?) → h'[16]? = some (hDrift (dNum a b c d) (dDen a b c d)) → h'.length = h.length → Q (.inl none) h') : jCT G M_X0_measure 1 0 0 X [.ref 16, .int (iI a), .int (iI b), .int (iI c), .int (iI d)] h Q := by
  refine jCT_of [some (.ref 16), some (.int (iI a)), some (.int (iI b)), some (.int (iI c)), some (.int (iI d)), none, none, none, none] 4 rfl (by decide +kernel) rfl rfl ?_
  have hlt := jlt hT
  obtain ⟨e1, e2⟩ := mul_bd ha.1 ha.2 hc.1 hc.2
  obtain ⟨e3, e4⟩ := mul_bd hb.1 hb.2 hd.1 hd.2
  obtain ⟨e5, e6⟩ := mul_bd hc.1 hc.2 hc.1 hc.2
  obtain ⟨e7, e8⟩ := mul_bd hd.1 hd.2 hd.1 hd.2
  obtain ⟨e9, e10⟩ := mul_bd hc.1 hc.2 hb.1 hb.2
  obtain ⟨e11, e12⟩ := mul_bd hd.1 hd.2 ha.1 ha.2
  have hout : ∀ (c1 c2 : jC) (j : Nat), j ≠ 16 → ((h.set 16 c1).set 16 c2)[j]? = h[j]? := fun c1 c2 j hj => by rw [List.getElem?_set_ne (fun q => hj q.symm), List.getElem?_set_ne (fun q => hj q.symm)]
  have hw0 : (0 : Int) ≤ dWhole c d := by unfold dWhole; rw [← Int.natAbs_mul_self (a := c), ← Int.natAbs_mul_self (a := d)]; omega
  refine J_iload_n (by rfl) dX0_measure_0 ?_
  refine J_iload_n (by rfl) dX0_measure_1 ?_
  refine J_imul dX0_measure_2 ?_
  try rw [pk_mul]
  refine J_iload_n (by rfl) dX0_measure_3 ?_
  refine J_iload (by rfl) dX0_measure_4 ?_
  refine J_imul dX0_measure_6 ?_
  try rw [pk_mul]
  refine J_iadd dX0_measure_7 ?_
  try rw [nI_add]
  refine J_topi (iI (dAlong a b c d)) (by simp only [iI_mul, iI_add]; rfl) ?_
  refine J_istore_5 dX0_measure_8 ?_
  refine J_iload_n (by rfl) dX0_measure_10 ?_
  refine J_iload_n (by rfl) dX0_measure_11 ?_
  refine J_imul dX0_measure_12 ?_
  try rw [pk_mul]
  refine J_iload (by rfl) dX0_measure_13 ?_
  refine J_iload (by rfl) dX0_measure_15 ?_
  refine J_imul dX0_measure_17 ?_
  try rw [pk_mul]
  refine J_iadd dX0_measure_18 ?_
  try rw [nI_add]
  refine J_topi (iI (dWhole c d)) (by simp only [iI_mul, iI_add]; rfl) ?_
  refine J_istore_6 dX0_measure_19 ?_
  refine J_aload_n (by rfl) (by rfl) dX0_measure_21 ?_
  refine J_lconst (lN 1) (by decide) dX0_measure_22 ?_
  refine J_put_1 dX0_measure_23 p_X0_9 (by repeat (first | assumption | exact jget_same2 (by (try simp only [List.length_set]); exact jlt (by assumption)) | refine jget_ne (by first | decide | assumption | omega) ?_)) ?_
  refine J_iload (by rfl) dX0_measure_26 ?_
  refine J_if_gt 46 dX0_measure_28 (by decide) (fun c28 => ?_) (fun c28 => ?_)
  · have c28 : ¬ dAlong a b c d ≤ 0 := fun z => absurd c28 (by rw [Int32.not_lt, show (0 : Int32) = iI 0 from rfl, iI_le (by unfold dAlong; omega) (by unfold dAlong; omega) (by omega) (by omega)]; exact z)
    refine J_iload (by rfl) dX0_measure_46 ?_
    refine J_iload (by rfl) dX0_measure_48 ?_
    refine J_icmp_lt 83 dX0_measure_50 (by decide) (fun c50 => ?_) (fun c50 => ?_)
    · have c50 : ¬ dWhole c d ≤ dAlong a b c d := fun z => absurd c50 (by rw [Int32.not_lt, iI_le (by omega) (by unfold dWhole; omega) (by unfold dAlong; omega) (by unfold dAlong; omega)]; exact z)
      refine J_iload_n (by rfl) dX0_measure_83 ?_
      refine J_i2l dX0_measure_84 ?_
      refine J_iload_n (by rfl) dX0_measure_85 ?_
      refine J_i2l dX0_measure_86 ?_
      refine J_lmul dX0_measure_87 ?_
      refine J_iload (by rfl) dX0_measure_88 ?_
      refine J_i2l dX0_measure_90 ?_
      refine J_iload_n (by rfl) dX0_measure_91 ?_
      refine J_i2l dX0_measure_92 ?_
      refine J_lmul dX0_measure_93 ?_
      refine J_lsub dX0_measure_94 ?_
      refine J_topl (lI (dCross a b c d)) (by rw [iI_l (by omega) (by omega), iI_l (by omega) (by omega), iI_l (by omega) (by omega), iI_l (by omega) (by omega), lI_mul, lI_mul, lI_sub]; rfl) ?_
      refine J_lstore dX0_measure_95 (by decide) ?_
      show J G _ _ _ _ _ _ _ [some (.ref 16), some (.int (iI a)), some (.int (iI b)), some (.int (iI c)), some (.int (iI d)), some (.int (iI (dAlong a b c d))), some (.int (iI (dWhole c d))), some (.long (lI (dCross a b c d))), none] _ _
      refine J_aload_n (by rfl) (by rfl) dX0_measure_97 ?_
      refine J_lload (by rfl) dX0_measure_98 ?_
      refine J_lload (by rfl) dX0_measure_100 ?_
      refine J_lmul dX0_measure_102 ?_
      refine J_topl (lN ((dCross a b c d).natAbs * (dCross a b c d).natAbs)) (lI_sq _) ?_
      refine J_put_0 dX0_measure_103 p_X0_15 (by repeat (first | assumption | exact jget_same2 (by (try simp only [List.length_set]); exact jlt (by assumption)) | refine jget_ne (by first | decide | assumption | omega) ?_)) ?_
      refine J_aload_n (by rfl) (by rfl) dX0_measure_106 ?_
      refine J_iload (by rfl) dX0_measure_107 ?_
      refine J_i2l dX0_measure_109 ?_
      refine J_topl (lN (dWhole c d).natAbs) (by rw [iI_l (by omega) (by unfold dWhole; omega), ← lI_n]; congr 1; omega) ?_
      refine J_put_1 dX0_measure_110 p_X0_9 (by repeat (first | assumption | exact jget_same2 (by (try simp only [List.length_set]); exact jlt (by assumption)) | refine jget_ne (by first | decide | assumption | omega) ?_)) ?_
      exact J_return dX0_measure_113 rfl (hQ _ (fun j hj => by simp only [List.getElem?_set_ne (fun q => hj q.symm)]) (by rw [show dNum a b c d = (dCross a b c d).natAbs * (dCross a b c d).natAbs by unfold dNum; rw [if_neg c28, if_neg c50], show dDen a b c d = (dWhole c d).natAbs by unfold dDen; rw [if_neg c28, if_neg c50]]; exact jget_same2 (by simp only [List.length_set]; exact hlt)) (by simp only [List.length_set])) (by decide) (by decide) (fun _ => rfl)
    · have c50 : dWhole c d ≤ dAlong a b c d := by rwa [Int32.not_lt, iI_le (by omega) (by unfold dWhole; omega) (by unfold dAlong; omega) (by unfold dAlong; omega)] at c50
      refine J_iload_n (by rfl) dX0_measure_53 ?_
      refine J_iload_n (by rfl) dX0_measure_54 ?_
      refine J_isub dX0_measure_55 ?_
      refine J_topi (iI (a - c)) (iI_sub a c) ?_
      refine J_istore_7 dX0_measure_56 ?_
      refine J_iload_n (by rfl) dX0_measure_58 ?_
      refine J_iload (by rfl) dX0_measure_59 ?_
      refine J_isub dX0_measure_61 ?_
      refine J_topi (iI (b - d)) (iI_sub b d) ?_
      refine J_istore_8 dX0_measure_62 ?_
      refine J_aload_n (by rfl) (by rfl) dX0_measure_64 ?_
      refine J_iload (by rfl) dX0_measure_65 ?_
      refine J_iload (by rfl) dX0_measure_67 ?_
      refine J_imul dX0_measure_69 ?_
      try rw [pk_mul]
      refine J_iload (by rfl) dX0_measure_70 ?_
      refine J_iload (by rfl) dX0_measure_72 ?_
      refine J_imul dX0_measure_74 ?_
      try rw [pk_mul]
      refine J_iadd dX0_measure_75 ?_
      try rw [nI_add]
      have hb1 : (a - c).natAbs * (a - c).natAbs ≤ 198 * 198 := Nat.mul_le_mul (by omega) (by omega)
      have hb2 : (b - d).natAbs * (b - d).natAbs ≤ 198 * 198 := Nat.mul_le_mul (by omega) (by omega)
      refine J_topi (nI ((a - c).natAbs * (a - c).natAbs + (b - d).natAbs * (b - d).natAbs)) (by rw [iI_sq, iI_sq, nI_add]) ?_
      refine J_i2l dX0_measure_76 ?_
      refine J_topl (lN ((a - c).natAbs * (a - c).natAbs + (b - d).natAbs * (b - d).natAbs)) (nI_l (by omega)) ?_
      refine J_put_0 dX0_measure_77 p_X0_15 (by repeat (first | assumption | exact jget_same2 (by (try simp only [List.length_set]); exact jlt (by assumption)) | refine jget_ne (by first | decide | assumption | omega) ?_)) ?_
      refine J_goto 113 dX0_measure_80 (by decide) ?_
      exact J_return dX0_measure_113 rfl (hQ _ (fun j hj => by simp only [List.getElem?_set_ne (fun q => hj q.symm)]) (by rw [show dNum a b c d = (a - c).natAbs * (a - c).natAbs + (b - d).natAbs * (b - d).natAbs by unfold dNum; rw [if_neg c28, if_pos c50], show dDen a b c d = 1 by unfold dDen; rw [if_neg c28, if_pos c50]]; exact jget_same2 (by simp only [List.length_set]; exact hlt)) (by simp only [List.length_set])) (by decide) (by decide) (fun _ => rfl)
  · have c28 : dAlong a b c d ≤ 0 := by rwa [Int32.not_lt, show (0 : Int32) = iI 0 from rfl, iI_le (by unfold dAlong; omega) (by unfold dAlong; omega) (by omega) (by omega)] at c28
    refine J_aload_n (by rfl) (by rfl) dX0_measure_31 ?_
    refine J_iload_n (by rfl) dX0_measure_32 ?_
    refine J_iload_n (by rfl) dX0_measure_33 ?_
    refine J_imul dX0_measure_34 ?_
    try rw [pk_mul]
    refine J_iload_n (by rfl) dX0_measure_35 ?_
    refine J_iload_n (by rfl) dX0_measure_36 ?_
    refine J_imul dX0_measure_37 ?_
    try rw [pk_mul]
    refine J_iadd dX0_measure_38 ?_
    try rw [nI_add]
    have hb1 : a.natAbs * a.natAbs ≤ 99 * 99 := Nat.mul_le_mul (by omega) (by omega)
    have hb2 : b.natAbs * b.natAbs ≤ 99 * 99 := Nat.mul_le_mul (by omega) (by omega)
    refine J_topi (nI (a.natAbs * a.natAbs + b.natAbs * b.natAbs)) (by rw [iI_sq, iI_sq, nI_add]) ?_
    refine J_i2l dX0_measure_39 ?_
    refine J_topl (lN (a.natAbs * a.natAbs + b.natAbs * b.natAbs)) (nI_l (by omega)) ?_
    refine J_put_0 dX0_measure_40 p_X0_15 (by repeat (first | assumption | exact jget_same2 (by (try simp only [List.length_set]); exact jlt (by assumption)) | refine jget_ne (by first | decide | assumption | omega) ?_)) ?_
    refine J_goto 113 dX0_measure_43 (by decide) ?_
    exact J_return dX0_measure_113 rfl (hQ _ (fun j hj => by simp only [List.getElem?_set_ne (fun q => hj q.symm)]) (by rw [show dNum a b c d = a.natAbs * a.natAbs + b.natAbs * b.natAbs by unfold dNum; rw [if_pos c28], show dDen a b c d = 1 by unfold dDen; rw [if_pos c28]]; exact jget_same2 (by simp only [List.length_set]; exact hlt)) (by simp only [List.length_set])) (by decide) (by decide) (fun _ => rfl)
theorem lg_cmpn {a b : Nat} (ha : a < 2 ^ 63) (hb : b < 2 ^ 63) : lg_cmp (lN a) (lN b) ≤ 0 ↔ a ≤ b := by
  rw [lg_cmp_le]
  exact pk_lLE ha hb
theorem c_X0_isAbove {lim : Nat} (hl : lim ≤ 1000) (hn : num < 2 ^ 40) (hd : den < 2 ^ 20) (hT : h[16]? = some (hDrift num den)) (hQ : Q (.inl (some (.int (jb (decide (lim * lim * den < num)))))) h) : jCT G M_X0_isAbove 1 0 0 X [.ref 16, .int (nI lim)] h Q := by
  refine jCT_of [some (.ref 16), some (.int (nI lim))] 0 rfl (by decide +kernel) rfl rfl ?_
  have hb : lim * lim * den < 2 ^ 63 := Nat.lt_of_le_of_lt (Nat.mul_le_mul (Nat.mul_le_mul hl hl) (Nat.le_of_lt hd)) (by decide)
  refine J_aload_n (by rfl) (by rfl) dX0_isAbove_0 ?_
  refine J_get dX0_isAbove_1 f_X0_15 (by repeat (first | assumption | exact jget_same2 (by (try simp only [List.length_set]); exact jlt (by assumption)) | refine jget_ne (by first | decide | assumption | omega) ?_)) (by rfl) ?_
  refine J_iload_n (by rfl) dX0_isAbove_4 ?_
  refine J_i2l dX0_isAbove_5 ?_
  refine J_iload_n (by rfl) dX0_isAbove_6 ?_
  refine J_i2l dX0_isAbove_7 ?_
  refine J_lmul dX0_isAbove_8 ?_
  refine J_aload_n (by rfl) (by rfl) dX0_isAbove_9 ?_
  refine J_get dX0_isAbove_10 f_X0_9 (by repeat (first | assumption | exact jget_same2 (by (try simp only [List.length_set]); exact jlt (by assumption)) | refine jget_ne (by first | decide | assumption | omega) ?_)) (by rfl) ?_
  refine J_lmul dX0_isAbove_13 ?_
  refine J_topl (lN (lim * lim * den)) (by rw [nI_l (by omega), lN_mul, lN_mul]) ?_
  refine J_lcmp dX0_isAbove_14 ?_
  refine J_if_le 22 dX0_isAbove_15 (by decide) (fun c15 => ?_) (fun c15 => ?_)
  · rw [lg_cmpn (by omega) hb] at c15
    refine J_iconst (nI 0) (by decide) dX0_isAbove_22 ?_
    exact J_zreturn dX0_isAbove_23 rfl (by first | rfl | exact jb_n _) (by rw [show decide (lim * lim * den < num) = false by simp; omega] at hQ; exact hQ) (by decide) (by decide) (fun _ => rfl)
  · rw [lg_cmpn (by omega) hb] at c15
    refine J_iconst (nI 1) (by decide) dX0_isAbove_18 ?_
    refine J_goto 23 dX0_isAbove_19 (by decide) ?_
    exact J_zreturn dX0_isAbove_23 rfl (by first | rfl | exact jb_n _) (by rw [show decide (lim * lim * den < num) = true by simp; omega] at hQ; exact hQ) (by decide) (by decide) (fun _ => rfl)
theorem c_X0_roundedDown (hn : num < 1000 * 1000 * den) (hd : den < 2 ^ 20) (hT : h[16]? = some (hDrift num den)) (hQ : ∀ r, r < 1000 → r * r * den ≤ num → num < (r + 1) * (r + 1) * den → Q (.inl (some (.int (nI r)))) h) : jCT G M_X0_roundedDown 1 0 0 X [.ref 16] h Q := by
  refine jCT_of [some (.ref 16), none] 1 rfl (by decide +kernel) rfl rfl ?_
  refine J_iconst (nI 0) (by decide) dX0_roundedDown_0 ?_
  refine J_istore_1 dX0_roundedDown_1 ?_
  suffices loop : ∀ k r, 1000 - r ≤ k → r ≤ 1000 → r * r * den ≤ num → J G (jR 1 0 0) (jFin G Q X 0 0) M_X0_roundedDown X 0 0 2 [some (.ref 16), some (.int (nI r))] [] h by
    exact loop 1000 0 (by omega) (by omega) (by simp)
  intro k
  induction k with
  | zero =>
    intro r hk hr hrn
    exfalso
    have : r = 1000 := by omega
    subst this
    omega
  | succ k ih =>
    intro r hk hr hrn
    have hr9 : r < 1000 := by
      rcases Nat.lt_or_ge r 1000 with q | q
      · exact q
      · have : r = 1000 := by omega
        subst this
        omega
    have hb : (r + 1) * (r + 1) * den < 2 ^ 63 := Nat.lt_of_le_of_lt (Nat.mul_le_mul (Nat.mul_le_mul (show r + 1 ≤ 1000 by omega) (show r + 1 ≤ 1000 by omega)) (Nat.le_of_lt hd)) (by decide)
    have hn2 : num < 2 ^ 63 := Nat.lt_of_lt_of_le hn (Nat.le_trans (Nat.mul_le_mul_left _ (Nat.le_of_lt hd)) (by decide))
    refine J_iload_n (by rfl) dX0_roundedDown_2 ?_
    refine J_sipush (nI 1000) (by decide) dX0_roundedDown_3 ?_
    refine J_icmp_ge_n 37 dX0_roundedDown_6 (by decide) (fun c6 => ?_) (fun c6 => ?_)
    · omega
    · refine J_iload_n (by rfl) dX0_roundedDown_9 ?_
      refine J_i2l dX0_roundedDown_10 ?_
      refine J_lconst (lN 1) (by decide) dX0_roundedDown_11 ?_
      refine J_ladd dX0_roundedDown_12 ?_
      refine J_iload_n (by rfl) dX0_roundedDown_13 ?_
      refine J_i2l dX0_roundedDown_14 ?_
      refine J_lconst (lN 1) (by decide) dX0_roundedDown_15 ?_
      refine J_ladd dX0_roundedDown_16 ?_
      refine J_lmul dX0_roundedDown_17 ?_
      refine J_aload_n (by rfl) (by rfl) dX0_roundedDown_18 ?_
      refine J_get dX0_roundedDown_19 f_X0_9 (by repeat (first | assumption | exact jget_same2 (by (try simp only [List.length_set]); exact jlt (by assumption)) | refine jget_ne (by first | decide | assumption | omega) ?_)) (by rfl) ?_
      refine J_lmul dX0_roundedDown_22 ?_
      refine J_topl (lN ((r + 1) * (r + 1) * den)) (by rw [nI_l (by omega), lN_add, lN_mul, lN_mul]) ?_
      refine J_aload_n (by rfl) (by rfl) dX0_roundedDown_23 ?_
      refine J_get dX0_roundedDown_24 f_X0_15 (by repeat (first | assumption | exact jget_same2 (by (try simp only [List.length_set]); exact jlt (by assumption)) | refine jget_ne (by first | decide | assumption | omega) ?_)) (by rfl) ?_
      refine J_lcmp dX0_roundedDown_27 ?_
      refine J_if_gt 37 dX0_roundedDown_28 (by decide) (fun c28 => ?_) (fun c28 => ?_)
      · have c28 : ¬ (r + 1) * (r + 1) * den ≤ num := fun z => absurd c28 (by rw [Int32.not_lt, lg_cmpn hb hn2]; exact z)
        refine J_iload_n (by rfl) dX0_roundedDown_37 ?_
        exact J_ireturn dX0_roundedDown_38 rfl (hQ r hr9 hrn (by omega)) (by decide) (by decide) (fun _ => rfl)
      · rw [Int32.not_lt, lg_cmpn hb hn2] at c28
        refine J_iinc_1 (nI 1) dX0_roundedDown_31 (by decide) ?_
        try rw [nI_add]
        refine J_goto 2 dX0_roundedDown_34 (by decide) ?_
        exact ih (r + 1) (by omega) (by omega) c28
end DRIFT

/-! the output line: its signs by a list -/
abbrev hLine (n : Nat) : jC := .inr (3, [.ref 115, .int (nI n)])
section LINE
variable {G : jG} {X : Bool} {h : jH} {Q : jQ_} {n : Nat} {f : Nat → Nat}
theorem c_X3_clear (hT : h[114]? = some (hLine n)) (hQ : Q (.inl none) (h.set 114 (hLine 0))) : jCT G M_X3_clear 1 0 0 X [.ref 114] h Q := by
  refine jCT_of [some (.ref 114)] 0 rfl (by decide +kernel) rfl rfl ?_
  refine J_aload_n (by rfl) (by rfl) dX3_clear_0 ?_
  refine J_iconst (nI 0) (by decide) dX3_clear_1 ?_
  refine J_put_1 dX3_clear_2 p_X3_15 (by repeat (first | assumption | exact jget_same2 (by (try simp only [List.length_set]); exact jlt (by assumption)) | refine jget_ne (by first | decide | assumption | omega) ?_)) ?_
  exact J_return dX3_clear_5 rfl (hQ) (by decide) (by decide) (fun _ => rfl)
theorem c_X3_putSign {v : Nat} (hn : n < 80) (hv : v < 65536) (hT : h[114]? = some (hLine n)) (hA : h[115]? = some (ca 80 f)) (hQ : Q (.inl none) ((h.set 115 (ca 80 (updN f n v))).set 114 (hLine (n + 1)))) : jCT G M_X3_putSign 1 0 0 X [.ref 114, .int (nI v)] h Q := by
  refine jCT_of [some (.ref 114), some (.int (nI v))] 0 rfl (by decide +kernel) rfl rfl ?_
  refine J_aload_n (by rfl) (by rfl) dX3_putSign_0 ?_
  refine J_get dX3_putSign_1 f_X3_15 (by repeat (first | assumption | exact jget_same2 (by (try simp only [List.length_set]); exact jlt (by assumption)) | refine jget_ne (by first | decide | assumption | omega) ?_)) (by rfl) ?_
  refine J_if_lt_n 36 dX3_putSign_4 (by decide) ?_
  refine J_aload_n (by rfl) (by rfl) dX3_putSign_7 ?_
  refine J_get dX3_putSign_8 f_X3_15 (by repeat (first | assumption | exact jget_same2 (by (try simp only [List.length_set]); exact jlt (by assumption)) | refine jget_ne (by first | decide | assumption | omega) ?_)) (by rfl) ?_
  refine J_bipush (nI 80) (by decide) dX3_putSign_11 ?_
  refine J_icmp_ge_n 36 dX3_putSign_13 (by decide) (fun c13 => ?_) (fun c13 => ?_)
  · omega
  · refine J_aload_n (by rfl) (by rfl) dX3_putSign_16 ?_
    refine J_get dX3_putSign_17 f_X3_9 (by repeat (first | assumption | exact jget_same2 (by (try simp only [List.length_set]); exact jlt (by assumption)) | refine jget_ne (by first | decide | assumption | omega) ?_)) (by rfl) ?_
    refine J_aload_n (by rfl) (by rfl) dX3_putSign_20 ?_
    refine J_get dX3_putSign_21 f_X3_15 (by repeat (first | assumption | exact jget_same2 (by (try simp only [List.length_set]); exact jlt (by assumption)) | refine jget_ne (by first | decide | assumption | omega) ?_)) (by rfl) ?_
    refine J_iload_n (by rfl) dX3_putSign_24 ?_
    refine J_cast_n (by omega) (n) dX3_putSign_25 (by repeat (first | assumption | exact jget_same2 (by (try simp only [List.length_set]); exact jlt (by assumption)) | refine jget_ne (by first | decide | assumption | omega) ?_)) (by first | rfl | (simp only [pk_mul, nI_add]; done) | (simp only [pk_mul, nI_add]; congr 1; omega) | (congr 1; omega)) (by omega) ?_
    refine J_aload_n (by rfl) (by rfl) dX3_putSign_26 ?_
    refine J_dup (by rfl) dX3_putSign_27 ?_
    refine J_get dX3_putSign_28 f_X3_15 (by repeat (first | assumption | exact jget_same2 (by (try simp only [List.length_set]); exact jlt (by assumption)) | refine jget_ne (by first | decide | assumption | omega) ?_)) (by rfl) ?_
    refine J_iconst (nI 1) (by decide) dX3_putSign_31 ?_
    refine J_iadd dX3_putSign_32 ?_
    try rw [nI_add]
    refine J_put_1 dX3_putSign_33 p_X3_15 (by repeat (first | assumption | exact jget_same2 (by (try simp only [List.length_set]); exact jlt (by assumption)) | refine jget_ne (by first | decide | assumption | omega) ?_)) ?_
    exact J_return dX3_putSign_36 rfl (hQ) (by decide) (by decide) (fun _ => rfl)
theorem i2c_n {v : Nat} (hv : v < 65536) : ((nI v).toUInt32 % 65536).toInt32 = nI v := by
  rw [pk_char, pk_tn (by omega), Nat.mod_eq_of_lt hv]
theorem c_X3_putNumber {v : Nat} (hv : v < 100) (hn : n + 2 ≤ 80) (hT : h[114]? = some (hLine n)) (hA : h[115]? = some (ca 80 f)) (hQ : Q (.inl none) (if v < 10 then (h.set 115 (ca 80 (updN f n (48 + v)))).set 114 (hLine (n + 1)) else ((((h.set 115 (ca 80 (updN f n (48 + v / 10)))).set 114 (hLine (n + 1))).set 115 (ca 80 (updN (updN f n (48 + v / 10)) (n + 1) (48 + v % 10)))).set 114 (hLine (n + 2))))) : jCT G M_X3_putNumber 2 0 0 X [.ref 114, .int (nI v)] h Q := by
  refine jCT_of [some (.ref 114), some (.int (nI v))] 0 rfl (by decide +kernel) rfl rfl ?_
  have l1 := jlt hT
  have l2 := jlt hA
  refine J_iload_n (by rfl) dX3_putNumber_0 ?_
  refine J_bipush (nI 10) (by decide) dX3_putNumber_1 ?_
  refine J_icmp_lt_n 21 dX3_putNumber_3 (by decide) (fun c3 => ?_) (fun c3 => ?_)
  · rw [if_pos c3] at hQ
    refine J_aload_n (by rfl) (by rfl) dX3_putNumber_21 ?_
    refine J_bipush (nI 48) (by decide) dX3_putNumber_22 ?_
    refine J_iload_n (by rfl) dX3_putNumber_24 ?_
    refine J_bipush (nI 10) (by decide) dX3_putNumber_25 ?_
    refine J_irem_n (by omega) (by omega) (by omega) dX3_putNumber_27 ?_
    refine J_iadd dX3_putNumber_28 ?_
    try rw [nI_add]
    refine J_i2c dX3_putNumber_29 ?_
    refine J_topi (nI (48 + v)) (by rw [show v % 10 = v by omega, i2c_n (by omega)]) ?_
    refine J_V10 (ci := 3) dX3_putNumber_30 s_X3_19 m_X3_putSign rfl (by repeat (first | assumption | exact jget_same2 (by (try simp only [List.length_set]); exact jlt (by assumption)) | refine jget_ne (by first | decide | assumption | omega) ?_)) rfl (c_X3_putSign (v := 48 + v) (by omega) (by omega) hT hA (jK0_i ?_))
    exact J_return dX3_putNumber_33 rfl (hQ) (by decide) (by decide) (fun _ => rfl)
  · rw [if_neg (by omega)] at hQ
    refine J_aload_n (by rfl) (by rfl) dX3_putNumber_6 ?_
    refine J_bipush (nI 48) (by decide) dX3_putNumber_7 ?_
    refine J_iload_n (by rfl) dX3_putNumber_9 ?_
    refine J_bipush (nI 10) (by decide) dX3_putNumber_10 ?_
    refine J_idiv_n (by omega) (by omega) (by omega) dX3_putNumber_12 ?_
    refine J_bipush (nI 10) (by decide) dX3_putNumber_13 ?_
    refine J_irem_n (by omega) (by omega) (by omega) dX3_putNumber_15 ?_
    refine J_iadd dX3_putNumber_16 ?_
    try rw [nI_add]
    refine J_i2c dX3_putNumber_17 ?_
    refine J_topi (nI (48 + v / 10)) (by rw [show v / 10 % 10 = v / 10 by omega, i2c_n (by omega)]) ?_
    refine J_V10 (ci := 3) dX3_putNumber_18 s_X3_19 m_X3_putSign rfl (by repeat (first | assumption | exact jget_same2 (by (try simp only [List.length_set]); exact jlt (by assumption)) | refine jget_ne (by first | decide | assumption | omega) ?_)) rfl (c_X3_putSign (v := 48 + v / 10) (by omega) (by omega) hT hA (jK0_i ?_))
    refine J_aload_n (by rfl) (by rfl) dX3_putNumber_21 ?_
    refine J_bipush (nI 48) (by decide) dX3_putNumber_22 ?_
    refine J_iload_n (by rfl) dX3_putNumber_24 ?_
    refine J_bipush (nI 10) (by decide) dX3_putNumber_25 ?_
    refine J_irem_n (by omega) (by omega) (by omega) dX3_putNumber_27 ?_
    refine J_iadd dX3_putNumber_28 ?_
    try rw [nI_add]
    refine J_i2c dX3_putNumber_29 ?_
    refine J_topi (nI (48 + v % 10)) (by rw [i2c_n (by omega)]) ?_
    refine J_V10 (ci := 3) dX3_putNumber_30 s_X3_19 m_X3_putSign rfl (by repeat (first | assumption | exact jget_same2 (by (try simp only [List.length_set]); exact jlt (by assumption)) | refine jget_ne (by first | decide | assumption | omega) ?_)) rfl (c_X3_putSign (n := n + 1) (f := updN f n (48 + v / 10)) (v := 48 + v % 10) (by omega) (by omega) (by exact jget_same2 (by simp only [List.length_set]; exact l1)) (by rw [jget_ne (by decide) (jget_same2 l2)]) (jK0_i ?_))
    exact J_return dX3_putNumber_33 rfl (hQ) (by decide) (by decide) (fun _ => rfl)
end LINE
