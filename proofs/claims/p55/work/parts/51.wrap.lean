/-! The law's wrappers -/
section WRAP
variable {G : jG} {h : jH} {Q : jQ_}
theorem w_addWaypoint (x y z : Int32){vs : List Value} (c0 : h[0]? = some (.inr (10, vs)))
    (hc : ∀ Q' : jQ_, (∀ (v : Int32) h', Q (.inl (some (.int v))) h' → Q' (.inl (some (.int v))) h') → (∀ E h', (E = "java/lang/IllegalArgumentException" ∧ Q (.inl (some (.int (-900001)))) h') ∨ (E = "java/lang/IllegalStateException" ∧ Q (.inl (some (.int (-900002)))) h') → Q' (.inr E) h') → jCT G M_X10_addWaypoint 8 1 6 false [.ref 0, .int x, .int y, .int z] h Q') : jCT G M_L_addWaypoint 9 1 6 false [.ref 0, .int x, .int y, .int z] h Q := by
  refine jCT_ofH [some (.ref 0), some (.int x), some (.int y), some (.int z), none]  1 rfl (by decide +kernel) rfl rfl ?_
  refine J_aload_n (by rfl) (by rfl) dL_addWaypoint_0 ?_
  refine J_iload_n (by rfl) dL_addWaypoint_1 ?_
  refine J_iload_n (by rfl) dL_addWaypoint_2 ?_
  refine J_iload_n (by rfl) dL_addWaypoint_3 ?_
  refine J_V3vx (ci := 10) dL_addWaypoint_4 s_L_9 m_X10_addWaypoint rfl (by repeat (first | assumption | exact jget_same2 (by (try simp only [List.length_set]); exact jlt (by assumption)) | refine jget_ne (by first | decide | assumption | omega) ?_)) rfl (hc _ (fun v h' hq => jKx_i ?_) (fun E h' hx => jKx_x ?_))
  · exact J_ireturn dL_addWaypoint_7 rfl (hq) (by decide) (by decide) (fun q => by cases q)
  · rcases hx with ⟨rfl, hq⟩ | ⟨rfl, hq⟩
    · refine JX_catch [] ⟨0, 7, 8, 15⟩ [⟨0, 7, 13, 18⟩] 4 2 rfl rfl (by intro z hz; cases hz) (by decide) (by decide) c_L_15 (by decide) (.inr ⟨rfl, dL_addWaypoint_8⟩) (by decide) ?_
      refine J_ldcI dL_addWaypoint_10 k_L_17 ?_
      exact J_ireturn dL_addWaypoint_12 rfl (hq) (by decide) (by decide) (fun q => by cases q)
    · refine JX_catch [⟨0, 7, 8, 15⟩] ⟨0, 7, 13, 18⟩ [] 4 2 rfl rfl (by intro z hz; simp only [List.mem_cons, List.not_mem_nil, or_false] at hz; rcases hz with rfl <;> first | exact .inr ⟨by decide, _, c_L_15, by decide⟩) (by decide) (by decide) c_L_18 (by decide) (.inr ⟨rfl, dL_addWaypoint_13⟩) (by decide) ?_
      refine J_ldcI dL_addWaypoint_15 k_L_20 ?_
      exact J_ireturn dL_addWaypoint_17 rfl (hq) (by decide) (by decide) (fun q => by cases q)
theorem w_addTrail (x y z : Int32){vs : List Value} (c0 : h[0]? = some (.inr (10, vs)))
    (hc : ∀ Q' : jQ_, (∀ (v : Int32) h', Q (.inl (some (.int v))) h' → Q' (.inl (some (.int v))) h') → (∀ E h', (E = "java/lang/IndexOutOfBoundsException" ∧ Q (.inl (some (.int (-900001)))) h') ∨ (E = "java/lang/IllegalArgumentException" ∧ Q (.inl (some (.int (-900002)))) h') ∨ (E = "java/lang/IllegalStateException" ∧ Q (.inl (some (.int (-900003)))) h') → Q' (.inr E) h') → jCT G M_X10_addTrail 8 1 6 false [.ref 0, .int x, .int y, .int z] h Q') : jCT G M_L_addTrail 9 1 6 false [.ref 0, .int x, .int y, .int z] h Q := by
  refine jCT_ofH [some (.ref 0), some (.int x), some (.int y), some (.int z), none]  1 rfl (by decide +kernel) rfl rfl ?_
  refine J_aload_n (by rfl) (by rfl) dL_addTrail_0 ?_
  refine J_iload_n (by rfl) dL_addTrail_1 ?_
  refine J_iload_n (by rfl) dL_addTrail_2 ?_
  refine J_iload_n (by rfl) dL_addTrail_3 ?_
  refine J_V3vx (ci := 10) dL_addTrail_4 s_L_21 m_X10_addTrail rfl (by repeat (first | assumption | exact jget_same2 (by (try simp only [List.length_set]); exact jlt (by assumption)) | refine jget_ne (by first | decide | assumption | omega) ?_)) rfl (hc _ (fun v h' hq => jKx_i ?_) (fun E h' hx => jKx_x ?_))
  · exact J_ireturn dL_addTrail_7 rfl (hq) (by decide) (by decide) (fun q => by cases q)
  · rcases hx with ⟨rfl, hq⟩ | ⟨rfl, hq⟩ | ⟨rfl, hq⟩
    · refine JX_catch [] ⟨0, 7, 8, 24⟩ [⟨0, 7, 13, 15⟩, ⟨0, 7, 18, 18⟩] 4 2 rfl rfl (by intro z hz; cases hz) (by decide) (by decide) c_L_24 (by decide) (.inr ⟨rfl, dL_addTrail_8⟩) (by decide) ?_
      refine J_ldcI dL_addTrail_10 k_L_17 ?_
      exact J_ireturn dL_addTrail_12 rfl (hq) (by decide) (by decide) (fun q => by cases q)
    · refine JX_catch [⟨0, 7, 8, 24⟩] ⟨0, 7, 13, 15⟩ [⟨0, 7, 18, 18⟩] 4 2 rfl rfl (by intro z hz; simp only [List.mem_cons, List.not_mem_nil, or_false] at hz; rcases hz with rfl <;> first | exact .inr ⟨by decide, _, c_L_24, by decide⟩) (by decide) (by decide) c_L_15 (by decide) (.inr ⟨rfl, dL_addTrail_13⟩) (by decide) ?_
      refine J_ldcI dL_addTrail_15 k_L_20 ?_
      exact J_ireturn dL_addTrail_17 rfl (hq) (by decide) (by decide) (fun q => by cases q)
    · refine JX_catch [⟨0, 7, 8, 24⟩, ⟨0, 7, 13, 15⟩] ⟨0, 7, 18, 18⟩ [] 4 2 rfl rfl (by intro z hz; simp only [List.mem_cons, List.not_mem_nil, or_false] at hz; rcases hz with rfl | rfl <;> first | exact .inr ⟨by decide, _, c_L_24, by decide⟩ | exact .inr ⟨by decide, _, c_L_15, by decide⟩) (by decide) (by decide) c_L_18 (by decide) (.inr ⟨rfl, dL_addTrail_18⟩) (by decide) ?_
      refine J_ldcI dL_addTrail_20 k_L_26 ?_
      exact J_ireturn dL_addTrail_22 rfl (hq) (by decide) (by decide) (fun q => by cases q)
theorem w_removeTrail (x y : Int32){vs : List Value} (c0 : h[0]? = some (.inr (10, vs)))
    (hc : ∀ Q' : jQ_, (∀ (v : Int32) h', Q (.inl (some (.int v))) h' → Q' (.inl (some (.int v))) h') → (∀ E h', (E = "java/lang/IndexOutOfBoundsException" ∧ Q (.inl (some (.int (-900001)))) h') ∨ (E = "java/util/NoSuchElementException" ∧ Q (.inl (some (.int (-900002)))) h') → Q' (.inr E) h') → jCT G M_X10_removeTrail 8 1 6 false [.ref 0, .int x, .int y] h Q') : jCT G M_L_removeTrail 9 1 6 false [.ref 0, .int x, .int y] h Q := by
  refine jCT_ofH [some (.ref 0), some (.int x), some (.int y), none]  1 rfl (by decide +kernel) rfl rfl ?_
  refine J_aload_n (by rfl) (by rfl) dL_removeTrail_0 ?_
  refine J_iload_n (by rfl) dL_removeTrail_1 ?_
  refine J_iload_n (by rfl) dL_removeTrail_2 ?_
  refine J_V2vx (ci := 10) dL_removeTrail_3 s_L_27 m_X10_removeTrail rfl (by repeat (first | assumption | exact jget_same2 (by (try simp only [List.length_set]); exact jlt (by assumption)) | refine jget_ne (by first | decide | assumption | omega) ?_)) rfl (hc _ (fun v h' hq => jKx_i ?_) (fun E h' hx => jKx_x ?_))
  · exact J_ireturn dL_removeTrail_6 rfl (hq) (by decide) (by decide) (fun q => by cases q)
  · rcases hx with ⟨rfl, hq⟩ | ⟨rfl, hq⟩
    · refine JX_catch [] ⟨0, 6, 7, 24⟩ [⟨0, 6, 11, 31⟩] 3 1 rfl rfl (by intro z hz; cases hz) (by decide) (by decide) c_L_24 (by decide) (.inl ⟨3, rfl, rfl, dL_removeTrail_7⟩) (by decide) ?_
      refine J_ldcI dL_removeTrail_8 k_L_17 ?_
      exact J_ireturn dL_removeTrail_10 rfl (hq) (by decide) (by decide) (fun q => by cases q)
    · refine JX_catch [⟨0, 6, 7, 24⟩] ⟨0, 6, 11, 31⟩ [] 3 1 rfl rfl (by intro z hz; simp only [List.mem_cons, List.not_mem_nil, or_false] at hz; rcases hz with rfl <;> first | exact .inr ⟨by decide, _, c_L_24, by decide⟩) (by decide) (by decide) c_L_31 (by decide) (.inl ⟨3, rfl, rfl, dL_removeTrail_11⟩) (by decide) ?_
      refine J_ldcI dL_removeTrail_12 k_L_20 ?_
      exact J_ireturn dL_removeTrail_14 rfl (hq) (by decide) (by decide) (fun q => by cases q)
theorem w_startTour (x y : Int32){vs : List Value} (c0 : h[0]? = some (.inr (10, vs)))
    (hc : ∀ Q' : jQ_, (∀ (v : Int32) h', Q (.inl (some (.int v))) h' → Q' (.inl (some (.int v))) h') → (∀ E h', (E = "java/lang/IndexOutOfBoundsException" ∧ Q (.inl (some (.int (-900001)))) h') ∨ (E = "java/lang/IllegalArgumentException" ∧ Q (.inl (some (.int (-900002)))) h') ∨ (E = "java/lang/IllegalStateException" ∧ Q (.inl (some (.int (-900003)))) h') ∨ (E = "java/util/NoSuchElementException" ∧ Q (.inl (some (.int (-900004)))) h') → Q' (.inr E) h') → jCT G M_X10_startTour 8 1 6 false [.ref 0, .int x, .int y] h Q') : jCT G M_L_startTour 9 1 6 false [.ref 0, .int x, .int y] h Q := by
  refine jCT_ofH [some (.ref 0), some (.int x), some (.int y), none]  1 rfl (by decide +kernel) rfl rfl ?_
  refine J_aload_n (by rfl) (by rfl) dL_startTour_0 ?_
  refine J_iload_n (by rfl) dL_startTour_1 ?_
  refine J_iload_n (by rfl) dL_startTour_2 ?_
  refine J_V2vx (ci := 10) dL_startTour_3 s_L_33 m_X10_startTour rfl (by repeat (first | assumption | exact jget_same2 (by (try simp only [List.length_set]); exact jlt (by assumption)) | refine jget_ne (by first | decide | assumption | omega) ?_)) rfl (hc _ (fun v h' hq => jKx_i ?_) (fun E h' hx => jKx_x ?_))
  · exact J_ireturn dL_startTour_6 rfl (hq) (by decide) (by decide) (fun q => by cases q)
  · rcases hx with ⟨rfl, hq⟩ | ⟨rfl, hq⟩ | ⟨rfl, hq⟩ | ⟨rfl, hq⟩
    · refine JX_catch [] ⟨0, 6, 7, 24⟩ [⟨0, 6, 11, 15⟩, ⟨0, 6, 15, 18⟩, ⟨0, 6, 19, 31⟩] 3 1 rfl rfl (by intro z hz; cases hz) (by decide) (by decide) c_L_24 (by decide) (.inl ⟨3, rfl, rfl, dL_startTour_7⟩) (by decide) ?_
      refine J_ldcI dL_startTour_8 k_L_17 ?_
      exact J_ireturn dL_startTour_10 rfl (hq) (by decide) (by decide) (fun q => by cases q)
    · refine JX_catch [⟨0, 6, 7, 24⟩] ⟨0, 6, 11, 15⟩ [⟨0, 6, 15, 18⟩, ⟨0, 6, 19, 31⟩] 3 1 rfl rfl (by intro z hz; simp only [List.mem_cons, List.not_mem_nil, or_false] at hz; rcases hz with rfl <;> first | exact .inr ⟨by decide, _, c_L_24, by decide⟩) (by decide) (by decide) c_L_15 (by decide) (.inl ⟨3, rfl, rfl, dL_startTour_11⟩) (by decide) ?_
      refine J_ldcI dL_startTour_12 k_L_20 ?_
      exact J_ireturn dL_startTour_14 rfl (hq) (by decide) (by decide) (fun q => by cases q)
    · refine JX_catch [⟨0, 6, 7, 24⟩, ⟨0, 6, 11, 15⟩] ⟨0, 6, 15, 18⟩ [⟨0, 6, 19, 31⟩] 3 1 rfl rfl (by intro z hz; simp only [List.mem_cons, List.not_mem_nil, or_false] at hz; rcases hz with rfl | rfl <;> first | exact .inr ⟨by decide, _, c_L_24, by decide⟩ | exact .inr ⟨by decide, _, c_L_15, by decide⟩) (by decide) (by decide) c_L_18 (by decide) (.inl ⟨3, rfl, rfl, dL_startTour_15⟩) (by decide) ?_
      refine J_ldcI dL_startTour_16 k_L_26 ?_
      exact J_ireturn dL_startTour_18 rfl (hq) (by decide) (by decide) (fun q => by cases q)
    · refine JX_catch [⟨0, 6, 7, 24⟩, ⟨0, 6, 11, 15⟩, ⟨0, 6, 15, 18⟩] ⟨0, 6, 19, 31⟩ [] 3 1 rfl rfl (by intro z hz; simp only [List.mem_cons, List.not_mem_nil, or_false] at hz; rcases hz with rfl | rfl | rfl <;> first | exact .inr ⟨by decide, _, c_L_24, by decide⟩ | exact .inr ⟨by decide, _, c_L_15, by decide⟩ | exact .inr ⟨by decide, _, c_L_18, by decide⟩) (by decide) (by decide) c_L_31 (by decide) (.inl ⟨3, rfl, rfl, dL_startTour_19⟩) (by decide) ?_
      refine J_ldcI dL_startTour_20 k_L_36 ?_
      exact J_ireturn dL_startTour_22 rfl (hq) (by decide) (by decide) (fun q => by cases q)
theorem w_setMode (x : Int32){vs : List Value} (c0 : h[0]? = some (.inr (10, vs)))
    (hc : ∀ Q' : jQ_, (∀ (v : Int32) h', Q (.inl (some (.int v))) h' → Q' (.inl (some (.int v))) h') → (∀ E h', (E = "java/lang/IllegalArgumentException" ∧ Q (.inl (some (.int (-900001)))) h') → Q' (.inr E) h') → jCT G M_X10_setMode 8 1 6 false [.ref 0, .int x] h Q') : jCT G M_L_setMode 9 1 6 false [.ref 0, .int x] h Q := by
  refine jCT_ofH [some (.ref 0), some (.int x), none]  1 rfl (by decide +kernel) rfl rfl ?_
  refine J_aload_n (by rfl) (by rfl) dL_setMode_0 ?_
  refine J_iload_n (by rfl) dL_setMode_1 ?_
  refine J_V1vx (ci := 10) dL_setMode_2 s_L_45 m_X10_setMode rfl (by repeat (first | assumption | exact jget_same2 (by (try simp only [List.length_set]); exact jlt (by assumption)) | refine jget_ne (by first | decide | assumption | omega) ?_)) rfl (hc _ (fun v h' hq => jKx_i ?_) (fun E h' hx => jKx_x ?_))
  · exact J_ireturn dL_setMode_5 rfl (hq) (by decide) (by decide) (fun q => by cases q)
  · rcases hx with ⟨rfl, hq⟩
    · refine JX_catch [] ⟨0, 5, 6, 15⟩ [] 2 1 rfl rfl (by intro z hz; cases hz) (by decide) (by decide) c_L_15 (by decide) (.inl ⟨2, rfl, rfl, dL_setMode_6⟩) (by decide) ?_
      refine J_ldcI dL_setMode_7 k_L_17 ?_
      exact J_ireturn dL_setMode_9 rfl (hq) (by decide) (by decide) (fun q => by cases q)
theorem w_setTolerance (x : Int32){vs : List Value} (c0 : h[0]? = some (.inr (10, vs)))
    (hc : ∀ Q' : jQ_, (∀ (v : Int32) h', Q (.inl (some (.int v))) h' → Q' (.inl (some (.int v))) h') → (∀ E h', (E = "java/lang/IllegalArgumentException" ∧ Q (.inl (some (.int (-900001)))) h') → Q' (.inr E) h') → jCT G M_X10_setTolerance 8 1 6 false [.ref 0, .int x] h Q') : jCT G M_L_setTolerance 9 1 6 false [.ref 0, .int x] h Q := by
  refine jCT_ofH [some (.ref 0), some (.int x), none]  1 rfl (by decide +kernel) rfl rfl ?_
  refine J_aload_n (by rfl) (by rfl) dL_setTolerance_0 ?_
  refine J_iload_n (by rfl) dL_setTolerance_1 ?_
  refine J_V1vx (ci := 10) dL_setTolerance_2 s_L_41 m_X10_setTolerance rfl (by repeat (first | assumption | exact jget_same2 (by (try simp only [List.length_set]); exact jlt (by assumption)) | refine jget_ne (by first | decide | assumption | omega) ?_)) rfl (hc _ (fun v h' hq => jKx_i ?_) (fun E h' hx => jKx_x ?_))
  · exact J_ireturn dL_setTolerance_5 rfl (hq) (by decide) (by decide) (fun q => by cases q)
  · rcases hx with ⟨rfl, hq⟩
    · refine JX_catch [] ⟨0, 5, 6, 15⟩ [] 2 1 rfl rfl (by intro z hz; cases hz) (by decide) (by decide) c_L_15 (by decide) (.inl ⟨2, rfl, rfl, dL_setTolerance_6⟩) (by decide) ?_
      refine J_ldcI dL_setTolerance_7 k_L_17 ?_
      exact J_ireturn dL_setTolerance_9 rfl (hq) (by decide) (by decide) (fun q => by cases q)
theorem w_charge (x : Int32){vs : List Value} (c0 : h[0]? = some (.inr (10, vs)))
    (hc : ∀ Q' : jQ_, (∀ (v : Int32) h', Q (.inl (some (.int v))) h' → Q' (.inl (some (.int v))) h') → (∀ E h', (E = "java/lang/IllegalArgumentException" ∧ Q (.inl (some (.int (-900001)))) h') → Q' (.inr E) h') → jCT G M_X10_charge 8 1 6 false [.ref 0, .int x] h Q') : jCT G M_L_charge 9 1 6 false [.ref 0, .int x] h Q := by
  refine jCT_ofH [some (.ref 0), some (.int x), none]  1 rfl (by decide +kernel) rfl rfl ?_
  refine J_aload_n (by rfl) (by rfl) dL_charge_0 ?_
  refine J_iload_n (by rfl) dL_charge_1 ?_
  refine J_V1vx (ci := 10) dL_charge_2 s_L_48 m_X10_charge rfl (by repeat (first | assumption | exact jget_same2 (by (try simp only [List.length_set]); exact jlt (by assumption)) | refine jget_ne (by first | decide | assumption | omega) ?_)) rfl (hc _ (fun v h' hq => jKx_i ?_) (fun E h' hx => jKx_x ?_))
  · exact J_ireturn dL_charge_5 rfl (hq) (by decide) (by decide) (fun q => by cases q)
  · rcases hx with ⟨rfl, hq⟩
    · refine JX_catch [] ⟨0, 5, 6, 15⟩ [] 2 1 rfl rfl (by intro z hz; cases hz) (by decide) (by decide) c_L_15 (by decide) (.inl ⟨2, rfl, rfl, dL_charge_6⟩) (by decide) ?_
      refine J_ldcI dL_charge_7 k_L_17 ?_
      exact J_ireturn dL_charge_9 rfl (hq) (by decide) (by decide) (fun q => by cases q)
theorem w_stopTour {vs : List Value} (c0 : h[0]? = some (.inr (10, vs)))
    (hc : ∀ Q' : jQ_, (∀ (v : Int32) h', Q (.inl (some (.int v))) h' → Q' (.inl (some (.int v))) h') → (∀ E h', (E = "java/lang/IllegalStateException" ∧ Q (.inl (some (.int (-900001)))) h') → Q' (.inr E) h') → jCT G M_X10_stopTour 8 1 6 false [.ref 0] h Q') : jCT G M_L_stopTour 9 1 6 false [.ref 0] h Q := by
  refine jCT_ofH [some (.ref 0), none]  1 rfl (by decide +kernel) rfl rfl ?_
  refine J_aload_n (by rfl) (by rfl) dL_stopTour_0 ?_
  refine J_V0vx (ci := 10) dL_stopTour_1 s_L_37 m_X10_stopTour rfl (by repeat (first | assumption | exact jget_same2 (by (try simp only [List.length_set]); exact jlt (by assumption)) | refine jget_ne (by first | decide | assumption | omega) ?_)) rfl (hc _ (fun v h' hq => jKx_i ?_) (fun E h' hx => jKx_x ?_))
  · exact J_ireturn dL_stopTour_4 rfl (hq) (by decide) (by decide) (fun q => by cases q)
  · rcases hx with ⟨rfl, hq⟩
    · refine JX_catch [] ⟨0, 4, 5, 18⟩ [] 1 1 rfl rfl (by intro z hz; cases hz) (by decide) (by decide) c_L_18 (by decide) (.inl ⟨1, rfl, rfl, dL_stopTour_5⟩) (by decide) ?_
      refine J_ldcI dL_stopTour_6 k_L_17 ?_
      exact J_ireturn dL_stopTour_8 rfl (hq) (by decide) (by decide) (fun q => by cases q)
theorem w_update (x y : Int32){vs : List Value} (c0 : h[0]? = some (.inr (10, vs)))
    (hc : ∀ Q' : jQ_, (∀ (v : Bool) h', Q (.inl (some (.int (jb v)))) h' → Q' (.inl (some (.int (jb v)))) h') → (∀ E h', (E = "java/lang/IllegalArgumentException" ∧ Q (.inl (some (.int (-900001)))) h') ∨ (E = "java/lang/IllegalStateException" ∧ Q (.inl (some (.int (-900002)))) h') ∨ (E = "java/lang/UnsupportedOperationException" ∧ Q (.inl (some (.int (-900003)))) h') → Q' (.inr E) h') → jCT G M_X10_update 8 1 6 false [.ref 0, .int x, .int y] h Q') : jCT G M_L_update 9 1 6 false [.ref 0, .int x, .int y] h Q := by
  refine jCT_ofH [some (.ref 0), some (.int x), some (.int y), none]  1 rfl (by decide +kernel) rfl rfl ?_
  refine J_aload_n (by rfl) (by rfl) dL_update_0 ?_
  refine J_iload_n (by rfl) dL_update_1 ?_
  refine J_iload_n (by rfl) dL_update_2 ?_
  refine J_V2vx (ci := 10) dL_update_3 s_L_77 m_X10_update rfl (by repeat (first | assumption | exact jget_same2 (by (try simp only [List.length_set]); exact jlt (by assumption)) | refine jget_ne (by first | decide | assumption | omega) ?_)) rfl (hc _ (fun v h' hq => jKx_i ?_) (fun E h' hx => jKx_x ?_))
  · refine J_if_eq_b 13 dL_update_6 (by decide) (fun c6 => ?_) (fun c6 => ?_)
    · subst c6
      refine J_iconst (nI 0) (by decide) dL_update_13 ?_
      exact J_ireturn dL_update_14 rfl (hq) (by decide) (by decide) (fun q => by cases q)
    · subst c6
      refine J_iconst (nI 1) (by decide) dL_update_9 ?_
      refine J_goto 14 dL_update_10 (by decide) ?_
      exact J_ireturn dL_update_14 rfl (hq) (by decide) (by decide) (fun q => by cases q)
  · rcases hx with ⟨rfl, hq⟩ | ⟨rfl, hq⟩ | ⟨rfl, hq⟩
    · refine JX_catch [] ⟨0, 14, 15, 15⟩ [⟨0, 14, 19, 18⟩, ⟨0, 14, 23, 69⟩] 3 1 rfl rfl (by intro z hz; cases hz) (by decide) (by decide) c_L_15 (by decide) (.inl ⟨3, rfl, rfl, dL_update_15⟩) (by decide) ?_
      refine J_ldcI dL_update_16 k_L_17 ?_
      exact J_ireturn dL_update_18 rfl (hq) (by decide) (by decide) (fun q => by cases q)
    · refine JX_catch [⟨0, 14, 15, 15⟩] ⟨0, 14, 19, 18⟩ [⟨0, 14, 23, 69⟩] 3 1 rfl rfl (by intro z hz; simp only [List.mem_cons, List.not_mem_nil, or_false] at hz; rcases hz with rfl <;> first | exact .inr ⟨by decide, _, c_L_15, by decide⟩) (by decide) (by decide) c_L_18 (by decide) (.inl ⟨3, rfl, rfl, dL_update_19⟩) (by decide) ?_
      refine J_ldcI dL_update_20 k_L_20 ?_
      exact J_ireturn dL_update_22 rfl (hq) (by decide) (by decide) (fun q => by cases q)
    · refine JX_catch [⟨0, 14, 15, 15⟩, ⟨0, 14, 19, 18⟩] ⟨0, 14, 23, 69⟩ [] 3 1 rfl rfl (by intro z hz; simp only [List.mem_cons, List.not_mem_nil, or_false] at hz; rcases hz with rfl | rfl <;> first | exact .inr ⟨by decide, _, c_L_15, by decide⟩ | exact .inr ⟨by decide, _, c_L_18, by decide⟩) (by decide) (by decide) c_L_69 (by decide) (.inl ⟨3, rfl, rfl, dL_update_23⟩) (by decide) ?_
      refine J_ldcI dL_update_24 k_L_26 ?_
      exact J_ireturn dL_update_26 rfl (hq) (by decide) (by decide) (fun q => by cases q)
theorem w_target {vs : List Value} (c0 : h[0]? = some (.inr (10, vs)))
    (hc : ∀ Q' : jQ_, (∀ (v : Int32) h', Q (.inl (some (.int v))) h' → Q' (.inl (some (.int v))) h') → (∀ E h', (E = "java/lang/IllegalStateException" ∧ Q (.inl (some (.int (-900001)))) h') → Q' (.inr E) h') → jCT G M_X10_target 7 1 6 false [.ref 0] h Q') : jCT G M_L_target 8 1 6 false [.ref 0] h Q := by
  refine jCT_ofH [some (.ref 0), none]  1 rfl (by decide +kernel) rfl rfl ?_
  refine J_aload_n (by rfl) (by rfl) dL_target_0 ?_
  refine J_V0vx (ci := 10) dL_target_1 s_L_60 m_X10_target rfl (by repeat (first | assumption | exact jget_same2 (by (try simp only [List.length_set]); exact jlt (by assumption)) | refine jget_ne (by first | decide | assumption | omega) ?_)) rfl (hc _ (fun v h' hq => jKx_i ?_) (fun E h' hx => jKx_x ?_))
  · exact J_ireturn dL_target_4 rfl (hq) (by decide) (by decide) (fun q => by cases q)
  · rcases hx with ⟨rfl, hq⟩
    · refine JX_catch [] ⟨0, 4, 5, 18⟩ [] 1 1 rfl rfl (by intro z hz; cases hz) (by decide) (by decide) c_L_18 (by decide) (.inl ⟨1, rfl, rfl, dL_target_5⟩) (by decide) ?_
      refine J_ldcI dL_target_6 k_L_17 ?_
      exact J_ireturn dL_target_8 rfl (hq) (by decide) (by decide) (fun q => by cases q)
theorem w_drift {vs : List Value} (c0 : h[0]? = some (.inr (10, vs)))
    (hc : ∀ Q' : jQ_, (∀ (v : Int32) h', Q (.inl (some (.int v))) h' → Q' (.inl (some (.int v))) h') → (∀ E h', (E = "java/lang/IllegalStateException" ∧ Q (.inl (some (.int (-900001)))) h') → Q' (.inr E) h') → jCT G M_X10_drift 7 1 6 false [.ref 0] h Q') : jCT G M_L_drift 8 1 6 false [.ref 0] h Q := by
  refine jCT_ofH [some (.ref 0), none]  1 rfl (by decide +kernel) rfl rfl ?_
  refine J_aload_n (by rfl) (by rfl) dL_drift_0 ?_
  refine J_V0vx (ci := 10) dL_drift_1 s_L_63 m_X10_drift rfl (by repeat (first | assumption | exact jget_same2 (by (try simp only [List.length_set]); exact jlt (by assumption)) | refine jget_ne (by first | decide | assumption | omega) ?_)) rfl (hc _ (fun v h' hq => jKx_i ?_) (fun E h' hx => jKx_x ?_))
  · exact J_ireturn dL_drift_4 rfl (hq) (by decide) (by decide) (fun q => by cases q)
  · rcases hx with ⟨rfl, hq⟩
    · refine JX_catch [] ⟨0, 4, 5, 18⟩ [] 1 1 rfl rfl (by intro z hz; cases hz) (by decide) (by decide) c_L_18 (by decide) (.inl ⟨1, rfl, rfl, dL_drift_5⟩) (by decide) ?_
      refine J_ldcI dL_drift_6 k_L_17 ?_
      exact J_ireturn dL_drift_8 rfl (hq) (by decide) (by decide) (fun q => by cases q)
theorem w_undo {vs : List Value} (c0 : h[0]? = some (.inr (10, vs)))
    (hc : ∀ Q' : jQ_, (∀ (v : Int32) h', Q (.inl (some (.int v))) h' → Q' (.inl (some (.int v))) h') → (∀ E h', (E = "java/lang/IllegalStateException" ∧ Q (.inl (some (.int (-900001)))) h') → Q' (.inr E) h') → jCT G M_X10_undo 7 1 6 false [.ref 0] h Q') : jCT G M_L_undo 8 1 6 false [.ref 0] h Q := by
  refine jCT_ofH [some (.ref 0), none]  1 rfl (by decide +kernel) rfl rfl ?_
  refine J_aload_n (by rfl) (by rfl) dL_undo_0 ?_
  refine J_V0vx (ci := 10) dL_undo_1 s_L_71 m_X10_undo rfl (by repeat (first | assumption | exact jget_same2 (by (try simp only [List.length_set]); exact jlt (by assumption)) | refine jget_ne (by first | decide | assumption | omega) ?_)) rfl (hc _ (fun v h' hq => jKx_i ?_) (fun E h' hx => jKx_x ?_))
  · exact J_ireturn dL_undo_4 rfl (hq) (by decide) (by decide) (fun q => by cases q)
  · rcases hx with ⟨rfl, hq⟩
    · refine JX_catch [] ⟨0, 4, 5, 18⟩ [] 1 1 rfl rfl (by intro z hz; cases hz) (by decide) (by decide) c_L_18 (by decide) (.inl ⟨1, rfl, rfl, dL_undo_5⟩) (by decide) ?_
      refine J_ldcI dL_undo_6 k_L_17 ?_
      exact J_ireturn dL_undo_8 rfl (hq) (by decide) (by decide) (fun q => by cases q)
theorem w_restore {vs : List Value} (c0 : h[0]? = some (.inr (10, vs)))
    (hc : ∀ Q' : jQ_, (∀ (v : Int32) h', Q (.inl (some (.int v))) h' → Q' (.inl (some (.int v))) h') → (∀ E h', (E = "java/lang/IllegalStateException" ∧ Q (.inl (some (.int (-900001)))) h') → Q' (.inr E) h') → jCT G M_X10_restore 7 1 6 false [.ref 0] h Q') : jCT G M_L_restore 8 1 6 false [.ref 0] h Q := by
  refine jCT_ofH [some (.ref 0), none]  1 rfl (by decide +kernel) rfl rfl ?_
  refine J_aload_n (by rfl) (by rfl) dL_restore_0 ?_
  refine J_V0vx (ci := 10) dL_restore_1 s_L_74 m_X10_restore rfl (by repeat (first | assumption | exact jget_same2 (by (try simp only [List.length_set]); exact jlt (by assumption)) | refine jget_ne (by first | decide | assumption | omega) ?_)) rfl (hc _ (fun v h' hq => jKx_i ?_) (fun E h' hx => jKx_x ?_))
  · exact J_ireturn dL_restore_4 rfl (hq) (by decide) (by decide) (fun q => by cases q)
  · rcases hx with ⟨rfl, hq⟩
    · refine JX_catch [] ⟨0, 4, 5, 18⟩ [] 1 1 rfl rfl (by intro z hz; cases hz) (by decide) (by decide) c_L_18 (by decide) (.inl ⟨1, rfl, rfl, dL_restore_5⟩) (by decide) ?_
      refine J_ldcI dL_restore_6 k_L_17 ?_
      exact J_ireturn dL_restore_8 rfl (hq) (by decide) (by decide) (fun q => by cases q)
theorem w_nearest (x y : Int32){vs : List Value} (c0 : h[0]? = some (.inr (10, vs)))
    (hc : ∀ Q' : jQ_, (∀ (v : Int32) h', Q (.inl (some (.int v))) h' → Q' (.inl (some (.int v))) h') → (∀ E h', (E = "java/lang/IllegalArgumentException" ∧ Q (.inl (some (.int (-900001)))) h') ∨ (E = "java/util/NoSuchElementException" ∧ Q (.inl (some (.int (-900002)))) h') → Q' (.inr E) h') → jCT G M_X10_nearest 7 2 12 false [.ref 0, .int x, .int y] h Q') : jCT G M_L_nearest 8 2 12 false [.ref 0, .int x, .int y] h Q := by
  refine jCT_ofH [some (.ref 0), some (.int x), some (.int y), none]  1 rfl (by decide +kernel) rfl rfl ?_
  refine J_aload_n (by rfl) (by rfl) dL_nearest_0 ?_
  refine J_iload_n (by rfl) dL_nearest_1 ?_
  refine J_iload_n (by rfl) dL_nearest_2 ?_
  refine J_V2vx (ci := 10) dL_nearest_3 s_L_57 m_X10_nearest rfl (by repeat (first | assumption | exact jget_same2 (by (try simp only [List.length_set]); exact jlt (by assumption)) | refine jget_ne (by first | decide | assumption | omega) ?_)) rfl (hc _ (fun v h' hq => jKx_i ?_) (fun E h' hx => jKx_x ?_))
  · exact J_ireturn dL_nearest_6 rfl (hq) (by decide) (by decide) (fun q => by cases q)
  · rcases hx with ⟨rfl, hq⟩ | ⟨rfl, hq⟩
    · refine JX_catch [] ⟨0, 6, 7, 15⟩ [⟨0, 6, 11, 31⟩] 3 1 rfl rfl (by intro z hz; cases hz) (by decide) (by decide) c_L_15 (by decide) (.inl ⟨3, rfl, rfl, dL_nearest_7⟩) (by decide) ?_
      refine J_ldcI dL_nearest_8 k_L_17 ?_
      exact J_ireturn dL_nearest_10 rfl (hq) (by decide) (by decide) (fun q => by cases q)
    · refine JX_catch [⟨0, 6, 7, 15⟩] ⟨0, 6, 11, 31⟩ [] 3 1 rfl rfl (by intro z hz; simp only [List.mem_cons, List.not_mem_nil, or_false] at hz; rcases hz with rfl <;> first | exact .inr ⟨by decide, _, c_L_15, by decide⟩) (by decide) (by decide) c_L_31 (by decide) (.inl ⟨3, rfl, rfl, dL_nearest_11⟩) (by decide) ?_
      refine J_ldcI dL_nearest_12 k_L_20 ?_
      exact J_ireturn dL_nearest_14 rfl (hq) (by decide) (by decide) (fun q => by cases q)
theorem w_distance (x y : Int32){vs : List Value} (c0 : h[0]? = some (.inr (10, vs)))
    (hc : ∀ Q' : jQ_, (∀ (v : Int32) h', Q (.inl (some (.int v))) h' → Q' (.inl (some (.int v))) h') → (∀ E h', (E = "java/lang/IndexOutOfBoundsException" ∧ Q (.inl (some (.int (-900001)))) h') ∨ (E = "java/util/NoSuchElementException" ∧ Q (.inl (some (.int (-900002)))) h') → Q' (.inr E) h') → jCT G M_X10_distance 7 3 18 false [.ref 0, .int x, .int y] h Q') : jCT G M_L_distance 8 3 18 false [.ref 0, .int x, .int y] h Q := by
  refine jCT_ofH [some (.ref 0), some (.int x), some (.int y), none]  1 rfl (by decide +kernel) rfl rfl ?_
  refine J_aload_n (by rfl) (by rfl) dL_distance_0 ?_
  refine J_iload_n (by rfl) dL_distance_1 ?_
  refine J_iload_n (by rfl) dL_distance_2 ?_
  refine J_V2vx (ci := 10) dL_distance_3 s_L_51 m_X10_distance rfl (by repeat (first | assumption | exact jget_same2 (by (try simp only [List.length_set]); exact jlt (by assumption)) | refine jget_ne (by first | decide | assumption | omega) ?_)) rfl (hc _ (fun v h' hq => jKx_i ?_) (fun E h' hx => jKx_x ?_))
  · exact J_ireturn dL_distance_6 rfl (hq) (by decide) (by decide) (fun q => by cases q)
  · rcases hx with ⟨rfl, hq⟩ | ⟨rfl, hq⟩
    · refine JX_catch [] ⟨0, 6, 7, 24⟩ [⟨0, 6, 11, 31⟩] 3 1 rfl rfl (by intro z hz; cases hz) (by decide) (by decide) c_L_24 (by decide) (.inl ⟨3, rfl, rfl, dL_distance_7⟩) (by decide) ?_
      refine J_ldcI dL_distance_8 k_L_17 ?_
      exact J_ireturn dL_distance_10 rfl (hq) (by decide) (by decide) (fun q => by cases q)
    · refine JX_catch [⟨0, 6, 7, 24⟩] ⟨0, 6, 11, 31⟩ [] 3 1 rfl rfl (by intro z hz; simp only [List.mem_cons, List.not_mem_nil, or_false] at hz; rcases hz with rfl <;> first | exact .inr ⟨by decide, _, c_L_24, by decide⟩) (by decide) (by decide) c_L_31 (by decide) (.inl ⟨3, rfl, rfl, dL_distance_11⟩) (by decide) ?_
      refine J_ldcI dL_distance_12 k_L_20 ?_
      exact J_ireturn dL_distance_14 rfl (hq) (by decide) (by decide) (fun q => by cases q)
theorem w_distanceByRelaxation (x y : Int32){vs : List Value} (c0 : h[0]? = some (.inr (10, vs)))
    (hc : ∀ Q' : jQ_, (∀ (v : Int32) h', Q (.inl (some (.int v))) h' → Q' (.inl (some (.int v))) h') → (∀ E h', (E = "java/lang/IndexOutOfBoundsException" ∧ Q (.inl (some (.int (-900001)))) h') ∨ (E = "java/util/NoSuchElementException" ∧ Q (.inl (some (.int (-900002)))) h') → Q' (.inr E) h') → jCT G M_X10_distanceByRelaxation 7 3 18 false [.ref 0, .int x, .int y] h Q') : jCT G M_L_distanceByRelaxation 8 3 18 false [.ref 0, .int x, .int y] h Q := by
  refine jCT_ofH [some (.ref 0), some (.int x), some (.int y), none]  1 rfl (by decide +kernel) rfl rfl ?_
  refine J_aload_n (by rfl) (by rfl) dL_distanceByRelaxation_0 ?_
  refine J_iload_n (by rfl) dL_distanceByRelaxation_1 ?_
  refine J_iload_n (by rfl) dL_distanceByRelaxation_2 ?_
  refine J_V2vx (ci := 10) dL_distanceByRelaxation_3 s_L_54 m_X10_distanceByRelaxation rfl (by repeat (first | assumption | exact jget_same2 (by (try simp only [List.length_set]); exact jlt (by assumption)) | refine jget_ne (by first | decide | assumption | omega) ?_)) rfl (hc _ (fun v h' hq => jKx_i ?_) (fun E h' hx => jKx_x ?_))
  · exact J_ireturn dL_distanceByRelaxation_6 rfl (hq) (by decide) (by decide) (fun q => by cases q)
  · rcases hx with ⟨rfl, hq⟩ | ⟨rfl, hq⟩
    · refine JX_catch [] ⟨0, 6, 7, 24⟩ [⟨0, 6, 11, 31⟩] 3 1 rfl rfl (by intro z hz; cases hz) (by decide) (by decide) c_L_24 (by decide) (.inl ⟨3, rfl, rfl, dL_distanceByRelaxation_7⟩) (by decide) ?_
      refine J_ldcI dL_distanceByRelaxation_8 k_L_17 ?_
      exact J_ireturn dL_distanceByRelaxation_10 rfl (hq) (by decide) (by decide) (fun q => by cases q)
    · refine JX_catch [⟨0, 6, 7, 24⟩] ⟨0, 6, 11, 31⟩ [] 3 1 rfl rfl (by intro z hz; simp only [List.mem_cons, List.not_mem_nil, or_false] at hz; rcases hz with rfl <;> first | exact .inr ⟨by decide, _, c_L_24, by decide⟩) (by decide) (by decide) c_L_31 (by decide) (.inl ⟨3, rfl, rfl, dL_distanceByRelaxation_11⟩) (by decide) ?_
      refine J_ldcI dL_distanceByRelaxation_12 k_L_20 ?_
      exact J_ireturn dL_distanceByRelaxation_14 rfl (hq) (by decide) (by decide) (fun q => by cases q)
theorem w_run {vs : List Value} (c0 : h[0]? = some (.inr (10, vs)))
    (hc : ∀ Q' : jQ_, (∀ (v : Int32) h', Q (.inl (some (.int v))) h' → Q' (.inl (some (.int v))) h') → (∀ E h', (E = "java/lang/IllegalArgumentException" ∧ Q (.inl (some (.int (-900001)))) h') ∨ (E = "java/lang/UnsupportedOperationException" ∧ Q (.inl (some (.int (-900002)))) h') → Q' (.inr E) h') → jCT G M_X10_run 9 1 6 false [.ref 0] h Q') : jCT G M_L_run 10 1 6 false [.ref 0] h Q := by
  refine jCT_ofH [some (.ref 0), none]  1 rfl (by decide +kernel) rfl rfl ?_
  refine J_aload_n (by rfl) (by rfl) dL_run_0 ?_
  refine J_V0vx (ci := 10) dL_run_1 s_L_66 m_X10_run rfl (by repeat (first | assumption | exact jget_same2 (by (try simp only [List.length_set]); exact jlt (by assumption)) | refine jget_ne (by first | decide | assumption | omega) ?_)) rfl (hc _ (fun v h' hq => jKx_i ?_) (fun E h' hx => jKx_x ?_))
  · exact J_ireturn dL_run_4 rfl (hq) (by decide) (by decide) (fun q => by cases q)
  · rcases hx with ⟨rfl, hq⟩ | ⟨rfl, hq⟩
    · refine JX_catch [] ⟨0, 4, 5, 15⟩ [⟨0, 4, 9, 69⟩] 1 1 rfl rfl (by intro z hz; cases hz) (by decide) (by decide) c_L_15 (by decide) (.inl ⟨1, rfl, rfl, dL_run_5⟩) (by decide) ?_
      refine J_ldcI dL_run_6 k_L_17 ?_
      exact J_ireturn dL_run_8 rfl (hq) (by decide) (by decide) (fun q => by cases q)
    · refine JX_catch [⟨0, 4, 5, 15⟩] ⟨0, 4, 9, 69⟩ [] 1 1 rfl rfl (by intro z hz; simp only [List.mem_cons, List.not_mem_nil, or_false] at hz; rcases hz with rfl <;> first | exact .inr ⟨by decide, _, c_L_15, by decide⟩) (by decide) (by decide) c_L_69 (by decide) (.inl ⟨1, rfl, rfl, dL_run_9⟩) (by decide) ?_
      refine J_ldcI dL_run_10 k_L_20 ?_
      exact J_ireturn dL_run_12 rfl (hq) (by decide) (by decide) (fun q => by cases q)
end WRAP
