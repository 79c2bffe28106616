/-! The law's wrappers -/
section WRAP
variable {G : jG} {h : jH} {Q : jQ_}
theorem w_addWaypoint (x y z : Int32){vs : List Value} (c0 : h[0]? = some (.inr (10, vs)))
    (hc : ∀ Q' : jQ_, (∀ (v : Int32) h' (f : Nat → Int64), h'[125]? = some (.inl (3, 1, .inr (.inl (f)))) → Q (.inl (some (.int (nI 0)))) (h'.set 125 (.inl (3, 1, .inr (.inl (vp_updL f 0 (v.toInt64)))))) → Q' (.inl (some (.int v))) h') → (∀ E h', (E = "java/lang/IllegalArgumentException" ∧ Q (.inl (some (.int (nI 1)))) h') ∨ (E = "java/lang/IllegalStateException" ∧ Q (.inl (some (.int (nI 2)))) h') → Q' (.inr E) h') → jCT G M_X10_addWaypoint 8 1 6 false [.ref 0, .int x, .int y, .int z] h Q') : jCT G M_L_addWaypoint 9 1 6 false [.ref 0, .int x, .int y, .int z, .ref 125] h Q := by
  refine jCT_ofH [some (.ref 0), some (.int x), some (.int y), some (.int z), some (.ref 125), none]  1 rfl (by decide +kernel) rfl rfl ?_
  refine J_aload (by rfl) (by rfl) dL_addWaypoint_0 ?_
  refine J_iconst (nI 0) (by decide) dL_addWaypoint_2 ?_
  refine J_aload_n (by rfl) (by rfl) dL_addWaypoint_3 ?_
  refine J_iload_n (by rfl) dL_addWaypoint_4 ?_
  refine J_iload_n (by rfl) dL_addWaypoint_5 ?_
  refine J_iload_n (by rfl) dL_addWaypoint_6 ?_
  refine J_V3vx (ci := 10) dL_addWaypoint_7 s_L_7 m_X10_addWaypoint rfl (by repeat (first | assumption | exact jget_same2 (by (try simp only [List.length_set]); exact jlt (by assumption)) | refine jget_ne (by first | decide | assumption | omega) ?_)) rfl (hc _ (fun v h' f ho hq => jKx_i ?_) (fun E h' hx => jKx_x ?_))
  · refine J_i2l dL_addWaypoint_10 ?_
    refine J_last (0) dL_addWaypoint_11 (by repeat (first | assumption | exact jget_same2 (by (try simp only [List.length_set]); exact jlt (by assumption)) | refine jget_ne (by first | decide | assumption | omega) ?_)) (by first | rfl | (simp only [pk_mul, nI_add]; done) | (simp only [pk_mul, nI_add]; congr 1; omega) | (congr 1; omega)) (by omega) ?_
    refine J_goto 23 dL_addWaypoint_12 (by decide) ?_
    refine J_iconst (nI 0) (by decide) dL_addWaypoint_23 ?_
    exact J_ireturn dL_addWaypoint_24 rfl (hq) (by decide) (by decide) (fun q => by cases q)
  · rcases hx with ⟨rfl, hq⟩ | ⟨rfl, hq⟩
    · refine JX_catch [] ⟨0, 12, 15, 13⟩ [⟨0, 12, 19, 15⟩] 5 2 rfl rfl (by intro z hz; cases hz) (by decide) (by decide) c_L_13 (by decide) (.inr ⟨rfl, dL_addWaypoint_15⟩) (by decide) ?_
      refine J_iconst (nI 1) (by decide) dL_addWaypoint_17 ?_
      exact J_ireturn dL_addWaypoint_18 rfl (hq) (by decide) (by decide) (fun q => by cases q)
    · refine JX_catch [⟨0, 12, 15, 13⟩] ⟨0, 12, 19, 15⟩ [] 5 2 rfl rfl (by intro z hz; simp only [List.mem_cons, List.not_mem_nil, or_false] at hz; rcases hz with rfl <;> first | exact .inr ⟨by decide, _, c_L_13, by decide⟩) (by decide) (by decide) c_L_15 (by decide) (.inr ⟨rfl, dL_addWaypoint_19⟩) (by decide) ?_
      refine J_iconst (nI 2) (by decide) dL_addWaypoint_21 ?_
      exact J_ireturn dL_addWaypoint_22 rfl (hq) (by decide) (by decide) (fun q => by cases q)
theorem w_addTrail (x y z : Int32){vs : List Value} (c0 : h[0]? = some (.inr (10, vs)))
    (hc : ∀ Q' : jQ_, (∀ (v : Int32) h' (f : Nat → Int64), h'[125]? = some (.inl (3, 1, .inr (.inl (f)))) → Q (.inl (some (.int (nI 0)))) (h'.set 125 (.inl (3, 1, .inr (.inl (vp_updL f 0 (v.toInt64)))))) → Q' (.inl (some (.int v))) h') → (∀ E h', (E = "java/lang/IndexOutOfBoundsException" ∧ Q (.inl (some (.int (nI 1)))) h') ∨ (E = "java/lang/IllegalArgumentException" ∧ Q (.inl (some (.int (nI 2)))) h') ∨ (E = "java/lang/IllegalStateException" ∧ Q (.inl (some (.int (nI 3)))) h') → Q' (.inr E) h') → jCT G M_X10_addTrail 8 1 6 false [.ref 0, .int x, .int y, .int z] h Q') : jCT G M_L_addTrail 9 1 6 false [.ref 0, .int x, .int y, .int z, .ref 125] h Q := by
  refine jCT_ofH [some (.ref 0), some (.int x), some (.int y), some (.int z), some (.ref 125), none]  1 rfl (by decide +kernel) rfl rfl ?_
  refine J_aload (by rfl) (by rfl) dL_addTrail_0 ?_
  refine J_iconst (nI 0) (by decide) dL_addTrail_2 ?_
  refine J_aload_n (by rfl) (by rfl) dL_addTrail_3 ?_
  refine J_iload_n (by rfl) dL_addTrail_4 ?_
  refine J_iload_n (by rfl) dL_addTrail_5 ?_
  refine J_iload_n (by rfl) dL_addTrail_6 ?_
  refine J_V3vx (ci := 10) dL_addTrail_7 s_L_17 m_X10_addTrail rfl (by repeat (first | assumption | exact jget_same2 (by (try simp only [List.length_set]); exact jlt (by assumption)) | refine jget_ne (by first | decide | assumption | omega) ?_)) rfl (hc _ (fun v h' f ho hq => jKx_i ?_) (fun E h' hx => jKx_x ?_))
  · refine J_i2l dL_addTrail_10 ?_
    refine J_last (0) dL_addTrail_11 (by repeat (first | assumption | exact jget_same2 (by (try simp only [List.length_set]); exact jlt (by assumption)) | refine jget_ne (by first | decide | assumption | omega) ?_)) (by first | rfl | (simp only [pk_mul, nI_add]; done) | (simp only [pk_mul, nI_add]; congr 1; omega) | (congr 1; omega)) (by omega) ?_
    refine J_goto 27 dL_addTrail_12 (by decide) ?_
    refine J_iconst (nI 0) (by decide) dL_addTrail_27 ?_
    exact J_ireturn dL_addTrail_28 rfl (hq) (by decide) (by decide) (fun q => by cases q)
  · rcases hx with ⟨rfl, hq⟩ | ⟨rfl, hq⟩ | ⟨rfl, hq⟩
    · refine JX_catch [] ⟨0, 12, 15, 20⟩ [⟨0, 12, 19, 13⟩, ⟨0, 12, 23, 15⟩] 5 2 rfl rfl (by intro z hz; cases hz) (by decide) (by decide) c_L_20 (by decide) (.inr ⟨rfl, dL_addTrail_15⟩) (by decide) ?_
      refine J_iconst (nI 1) (by decide) dL_addTrail_17 ?_
      exact J_ireturn dL_addTrail_18 rfl (hq) (by decide) (by decide) (fun q => by cases q)
    · refine JX_catch [⟨0, 12, 15, 20⟩] ⟨0, 12, 19, 13⟩ [⟨0, 12, 23, 15⟩] 5 2 rfl rfl (by intro z hz; simp only [List.mem_cons, List.not_mem_nil, or_false] at hz; rcases hz with rfl <;> first | exact .inr ⟨by decide, _, c_L_20, by decide⟩) (by decide) (by decide) c_L_13 (by decide) (.inr ⟨rfl, dL_addTrail_19⟩) (by decide) ?_
      refine J_iconst (nI 2) (by decide) dL_addTrail_21 ?_
      exact J_ireturn dL_addTrail_22 rfl (hq) (by decide) (by decide) (fun q => by cases q)
    · refine JX_catch [⟨0, 12, 15, 20⟩, ⟨0, 12, 19, 13⟩] ⟨0, 12, 23, 15⟩ [] 5 2 rfl rfl (by intro z hz; simp only [List.mem_cons, List.not_mem_nil, or_false] at hz; rcases hz with rfl | rfl <;> first | exact .inr ⟨by decide, _, c_L_20, by decide⟩ | exact .inr ⟨by decide, _, c_L_13, by decide⟩) (by decide) (by decide) c_L_15 (by decide) (.inr ⟨rfl, dL_addTrail_23⟩) (by decide) ?_
      refine J_iconst (nI 3) (by decide) dL_addTrail_25 ?_
      exact J_ireturn dL_addTrail_26 rfl (hq) (by decide) (by decide) (fun q => by cases q)
theorem w_removeTrail (x y : Int32){vs : List Value} (c0 : h[0]? = some (.inr (10, vs)))
    (hc : ∀ Q' : jQ_, (∀ (v : Int32) h' (f : Nat → Int64), h'[125]? = some (.inl (3, 1, .inr (.inl (f)))) → Q (.inl (some (.int (nI 0)))) (h'.set 125 (.inl (3, 1, .inr (.inl (vp_updL f 0 (v.toInt64)))))) → Q' (.inl (some (.int v))) h') → (∀ E h', (E = "java/lang/IndexOutOfBoundsException" ∧ Q (.inl (some (.int (nI 1)))) h') ∨ (E = "java/util/NoSuchElementException" ∧ Q (.inl (some (.int (nI 2)))) h') → Q' (.inr E) h') → jCT G M_X10_removeTrail 8 1 6 false [.ref 0, .int x, .int y] h Q') : jCT G M_L_removeTrail 9 1 6 false [.ref 0, .int x, .int y, .ref 125] h Q := by
  refine jCT_ofH [some (.ref 0), some (.int x), some (.int y), some (.ref 125), none]  1 rfl (by decide +kernel) rfl rfl ?_
  refine J_aload_n (by rfl) (by rfl) dL_removeTrail_0 ?_
  refine J_iconst (nI 0) (by decide) dL_removeTrail_1 ?_
  refine J_aload_n (by rfl) (by rfl) dL_removeTrail_2 ?_
  refine J_iload_n (by rfl) dL_removeTrail_3 ?_
  refine J_iload_n (by rfl) dL_removeTrail_4 ?_
  refine J_V2vx (ci := 10) dL_removeTrail_5 s_L_22 m_X10_removeTrail rfl (by repeat (first | assumption | exact jget_same2 (by (try simp only [List.length_set]); exact jlt (by assumption)) | refine jget_ne (by first | decide | assumption | omega) ?_)) rfl (hc _ (fun v h' f ho hq => jKx_i ?_) (fun E h' hx => jKx_x ?_))
  · refine J_i2l dL_removeTrail_8 ?_
    refine J_last (0) dL_removeTrail_9 (by repeat (first | assumption | exact jget_same2 (by (try simp only [List.length_set]); exact jlt (by assumption)) | refine jget_ne (by first | decide | assumption | omega) ?_)) (by first | rfl | (simp only [pk_mul, nI_add]; done) | (simp only [pk_mul, nI_add]; congr 1; omega) | (congr 1; omega)) (by omega) ?_
    refine J_goto 21 dL_removeTrail_10 (by decide) ?_
    refine J_iconst (nI 0) (by decide) dL_removeTrail_21 ?_
    exact J_ireturn dL_removeTrail_22 rfl (hq) (by decide) (by decide) (fun q => by cases q)
  · rcases hx with ⟨rfl, hq⟩ | ⟨rfl, hq⟩
    · refine JX_catch [] ⟨0, 10, 13, 20⟩ [⟨0, 10, 17, 26⟩] 4 2 rfl rfl (by intro z hz; cases hz) (by decide) (by decide) c_L_20 (by decide) (.inr ⟨rfl, dL_removeTrail_13⟩) (by decide) ?_
      refine J_iconst (nI 1) (by decide) dL_removeTrail_15 ?_
      exact J_ireturn dL_removeTrail_16 rfl (hq) (by decide) (by decide) (fun q => by cases q)
    · refine JX_catch [⟨0, 10, 13, 20⟩] ⟨0, 10, 17, 26⟩ [] 4 2 rfl rfl (by intro z hz; simp only [List.mem_cons, List.not_mem_nil, or_false] at hz; rcases hz with rfl <;> first | exact .inr ⟨by decide, _, c_L_20, by decide⟩) (by decide) (by decide) c_L_26 (by decide) (.inr ⟨rfl, dL_removeTrail_17⟩) (by decide) ?_
      refine J_iconst (nI 2) (by decide) dL_removeTrail_19 ?_
      exact J_ireturn dL_removeTrail_20 rfl (hq) (by decide) (by decide) (fun q => by cases q)
theorem w_startTour (x y : Int32){vs : List Value} (c0 : h[0]? = some (.inr (10, vs)))
    (hc : ∀ Q' : jQ_, (∀ (v : Int32) h' (f : Nat → Int64), h'[125]? = some (.inl (3, 1, .inr (.inl (f)))) → Q (.inl (some (.int (nI 0)))) (h'.set 125 (.inl (3, 1, .inr (.inl (vp_updL f 0 (v.toInt64)))))) → Q' (.inl (some (.int v))) h') → (∀ E h', (E = "java/lang/IndexOutOfBoundsException" ∧ Q (.inl (some (.int (nI 1)))) h') ∨ (E = "java/lang/IllegalArgumentException" ∧ Q (.inl (some (.int (nI 2)))) h') ∨ (E = "java/lang/IllegalStateException" ∧ Q (.inl (some (.int (nI 3)))) h') ∨ (E = "java/util/NoSuchElementException" ∧ Q (.inl (some (.int (nI 4)))) h') → Q' (.inr E) h') → jCT G M_X10_startTour 8 1 6 false [.ref 0, .int x, .int y] h Q') : jCT G M_L_startTour 9 1 6 false [.ref 0, .int x, .int y, .ref 125] h Q := by
  refine jCT_ofH [some (.ref 0), some (.int x), some (.int y), some (.ref 125), none]  1 rfl (by decide +kernel) rfl rfl ?_
  refine J_aload_n (by rfl) (by rfl) dL_startTour_0 ?_
  refine J_iconst (nI 0) (by decide) dL_startTour_1 ?_
  refine J_aload_n (by rfl) (by rfl) dL_startTour_2 ?_
  refine J_iload_n (by rfl) dL_startTour_3 ?_
  refine J_iload_n (by rfl) dL_startTour_4 ?_
  refine J_V2vx (ci := 10) dL_startTour_5 s_L_28 m_X10_startTour rfl (by repeat (first | assumption | exact jget_same2 (by (try simp only [List.length_set]); exact jlt (by assumption)) | refine jget_ne (by first | decide | assumption | omega) ?_)) rfl (hc _ (fun v h' f ho hq => jKx_i ?_) (fun E h' hx => jKx_x ?_))
  · refine J_i2l dL_startTour_8 ?_
    refine J_last (0) dL_startTour_9 (by repeat (first | assumption | exact jget_same2 (by (try simp only [List.length_set]); exact jlt (by assumption)) | refine jget_ne (by first | decide | assumption | omega) ?_)) (by first | rfl | (simp only [pk_mul, nI_add]; done) | (simp only [pk_mul, nI_add]; congr 1; omega) | (congr 1; omega)) (by omega) ?_
    refine J_goto 29 dL_startTour_10 (by decide) ?_
    refine J_iconst (nI 0) (by decide) dL_startTour_29 ?_
    exact J_ireturn dL_startTour_30 rfl (hq) (by decide) (by decide) (fun q => by cases q)
  · rcases hx with ⟨rfl, hq⟩ | ⟨rfl, hq⟩ | ⟨rfl, hq⟩ | ⟨rfl, hq⟩
    · refine JX_catch [] ⟨0, 10, 13, 20⟩ [⟨0, 10, 17, 13⟩, ⟨0, 10, 21, 15⟩, ⟨0, 10, 25, 26⟩] 4 2 rfl rfl (by intro z hz; cases hz) (by decide) (by decide) c_L_20 (by decide) (.inr ⟨rfl, dL_startTour_13⟩) (by decide) ?_
      refine J_iconst (nI 1) (by decide) dL_startTour_15 ?_
      exact J_ireturn dL_startTour_16 rfl (hq) (by decide) (by decide) (fun q => by cases q)
    · refine JX_catch [⟨0, 10, 13, 20⟩] ⟨0, 10, 17, 13⟩ [⟨0, 10, 21, 15⟩, ⟨0, 10, 25, 26⟩] 4 2 rfl rfl (by intro z hz; simp only [List.mem_cons, List.not_mem_nil, or_false] at hz; rcases hz with rfl <;> first | exact .inr ⟨by decide, _, c_L_20, by decide⟩) (by decide) (by decide) c_L_13 (by decide) (.inr ⟨rfl, dL_startTour_17⟩) (by decide) ?_
      refine J_iconst (nI 2) (by decide) dL_startTour_19 ?_
      exact J_ireturn dL_startTour_20 rfl (hq) (by decide) (by decide) (fun q => by cases q)
    · refine JX_catch [⟨0, 10, 13, 20⟩, ⟨0, 10, 17, 13⟩] ⟨0, 10, 21, 15⟩ [⟨0, 10, 25, 26⟩] 4 2 rfl rfl (by intro z hz; simp only [List.mem_cons, List.not_mem_nil, or_false] at hz; rcases hz with rfl | rfl <;> first | exact .inr ⟨by decide, _, c_L_20, by decide⟩ | exact .inr ⟨by decide, _, c_L_13, by decide⟩) (by decide) (by decide) c_L_15 (by decide) (.inr ⟨rfl, dL_startTour_21⟩) (by decide) ?_
      refine J_iconst (nI 3) (by decide) dL_startTour_23 ?_
      exact J_ireturn dL_startTour_24 rfl (hq) (by decide) (by decide) (fun q => by cases q)
    · refine JX_catch [⟨0, 10, 13, 20⟩, ⟨0, 10, 17, 13⟩, ⟨0, 10, 21, 15⟩] ⟨0, 10, 25, 26⟩ [] 4 2 rfl rfl (by intro z hz; simp only [List.mem_cons, List.not_mem_nil, or_false] at hz; rcases hz with rfl | rfl | rfl <;> first | exact .inr ⟨by decide, _, c_L_20, by decide⟩ | exact .inr ⟨by decide, _, c_L_13, by decide⟩ | exact .inr ⟨by decide, _, c_L_15, by decide⟩) (by decide) (by decide) c_L_26 (by decide) (.inr ⟨rfl, dL_startTour_25⟩) (by decide) ?_
      refine J_iconst (nI 4) (by decide) dL_startTour_27 ?_
      exact J_ireturn dL_startTour_28 rfl (hq) (by decide) (by decide) (fun q => by cases q)
theorem w_setMode (x : Int32){vs : List Value} (c0 : h[0]? = some (.inr (10, vs)))
    (hc : ∀ Q' : jQ_, (∀ (v : Int32) h' (f : Nat → Int64), h'[125]? = some (.inl (3, 1, .inr (.inl (f)))) → Q (.inl (some (.int (nI 0)))) (h'.set 125 (.inl (3, 1, .inr (.inl (vp_updL f 0 (v.toInt64)))))) → Q' (.inl (some (.int v))) h') → (∀ E h', (E = "java/lang/IllegalArgumentException" ∧ Q (.inl (some (.int (nI 1)))) h') → Q' (.inr E) h') → jCT G M_X10_setMode 8 1 6 false [.ref 0, .int x] h Q') : jCT G M_L_setMode 9 1 6 false [.ref 0, .int x, .ref 125] h Q := by
  refine jCT_ofH [some (.ref 0), some (.int x), some (.ref 125), none]  1 rfl (by decide +kernel) rfl rfl ?_
  refine J_aload_n (by rfl) (by rfl) dL_setMode_0 ?_
  refine J_iconst (nI 0) (by decide) dL_setMode_1 ?_
  refine J_aload_n (by rfl) (by rfl) dL_setMode_2 ?_
  refine J_iload_n (by rfl) dL_setMode_3 ?_
  refine J_V1vx (ci := 10) dL_setMode_4 s_L_45 m_X10_setMode rfl (by repeat (first | assumption | exact jget_same2 (by (try simp only [List.length_set]); exact jlt (by assumption)) | refine jget_ne (by first | decide | assumption | omega) ?_)) rfl (hc _ (fun v h' f ho hq => jKx_i ?_) (fun E h' hx => jKx_x ?_))
  · refine J_i2l dL_setMode_7 ?_
    refine J_last (0) dL_setMode_8 (by repeat (first | assumption | exact jget_same2 (by (try simp only [List.length_set]); exact jlt (by assumption)) | refine jget_ne (by first | decide | assumption | omega) ?_)) (by first | rfl | (simp only [pk_mul, nI_add]; done) | (simp only [pk_mul, nI_add]; congr 1; omega) | (congr 1; omega)) (by omega) ?_
    refine J_goto 15 dL_setMode_9 (by decide) ?_
    refine J_iconst (nI 0) (by decide) dL_setMode_15 ?_
    exact J_ireturn dL_setMode_16 rfl (hq) (by decide) (by decide) (fun q => by cases q)
  · rcases hx with ⟨rfl, hq⟩
    · refine JX_catch [] ⟨0, 9, 12, 13⟩ [] 3 1 rfl rfl (by intro z hz; cases hz) (by decide) (by decide) c_L_13 (by decide) (.inl ⟨3, rfl, rfl, dL_setMode_12⟩) (by decide) ?_
      refine J_iconst (nI 1) (by decide) dL_setMode_13 ?_
      exact J_ireturn dL_setMode_14 rfl (hq) (by decide) (by decide) (fun q => by cases q)
theorem w_setTolerance (x : Int32){vs : List Value} (c0 : h[0]? = some (.inr (10, vs)))
    (hc : ∀ Q' : jQ_, (∀ (v : Int32) h' (f : Nat → Int64), h'[125]? = some (.inl (3, 1, .inr (.inl (f)))) → Q (.inl (some (.int (nI 0)))) (h'.set 125 (.inl (3, 1, .inr (.inl (vp_updL f 0 (v.toInt64)))))) → Q' (.inl (some (.int v))) h') → (∀ E h', (E = "java/lang/IllegalArgumentException" ∧ Q (.inl (some (.int (nI 1)))) h') → Q' (.inr E) h') → jCT G M_X10_setTolerance 8 1 6 false [.ref 0, .int x] h Q') : jCT G M_L_setTolerance 9 1 6 false [.ref 0, .int x, .ref 125] h Q := by
  refine jCT_ofH [some (.ref 0), some (.int x), some (.ref 125), none]  1 rfl (by decide +kernel) rfl rfl ?_
  refine J_aload_n (by rfl) (by rfl) dL_setTolerance_0 ?_
  refine J_iconst (nI 0) (by decide) dL_setTolerance_1 ?_
  refine J_aload_n (by rfl) (by rfl) dL_setTolerance_2 ?_
  refine J_iload_n (by rfl) dL_setTolerance_3 ?_
  refine J_V1vx (ci := 10) dL_setTolerance_4 s_L_41 m_X10_setTolerance rfl (by repeat (first | assumption | exact jget_same2 (by (try simp only [List.length_set]); exact jlt (by assumption)) | refine jget_ne (by first | decide | assumption | omega) ?_)) rfl (hc _ (fun v h' f ho hq => jKx_i ?_) (fun E h' hx => jKx_x ?_))
  · refine J_i2l dL_setTolerance_7 ?_
    refine J_last (0) dL_setTolerance_8 (by repeat (first | assumption | exact jget_same2 (by (try simp only [List.length_set]); exact jlt (by assumption)) | refine jget_ne (by first | decide | assumption | omega) ?_)) (by first | rfl | (simp only [pk_mul, nI_add]; done) | (simp only [pk_mul, nI_add]; congr 1; omega) | (congr 1; omega)) (by omega) ?_
    refine J_goto 15 dL_setTolerance_9 (by decide) ?_
    refine J_iconst (nI 0) (by decide) dL_setTolerance_15 ?_
    exact J_ireturn dL_setTolerance_16 rfl (hq) (by decide) (by decide) (fun q => by cases q)
  · rcases hx with ⟨rfl, hq⟩
    · refine JX_catch [] ⟨0, 9, 12, 13⟩ [] 3 1 rfl rfl (by intro z hz; cases hz) (by decide) (by decide) c_L_13 (by decide) (.inl ⟨3, rfl, rfl, dL_setTolerance_12⟩) (by decide) ?_
      refine J_iconst (nI 1) (by decide) dL_setTolerance_13 ?_
      exact J_ireturn dL_setTolerance_14 rfl (hq) (by decide) (by decide) (fun q => by cases q)
theorem w_charge (x : Int32){vs : List Value} (c0 : h[0]? = some (.inr (10, vs)))
    (hc : ∀ Q' : jQ_, (∀ (v : Int32) h' (f : Nat → Int64), h'[125]? = some (.inl (3, 1, .inr (.inl (f)))) → Q (.inl (some (.int (nI 0)))) (h'.set 125 (.inl (3, 1, .inr (.inl (vp_updL f 0 (v.toInt64)))))) → Q' (.inl (some (.int v))) h') → (∀ E h', (E = "java/lang/IllegalArgumentException" ∧ Q (.inl (some (.int (nI 1)))) h') → Q' (.inr E) h') → jCT G M_X10_charge 8 1 6 false [.ref 0, .int x] h Q') : jCT G M_L_charge 9 1 6 false [.ref 0, .int x, .ref 125] h Q := by
  refine jCT_ofH [some (.ref 0), some (.int x), some (.ref 125), none]  1 rfl (by decide +kernel) rfl rfl ?_
  refine J_aload_n (by rfl) (by rfl) dL_charge_0 ?_
  refine J_iconst (nI 0) (by decide) dL_charge_1 ?_
  refine J_aload_n (by rfl) (by rfl) dL_charge_2 ?_
  refine J_iload_n (by rfl) dL_charge_3 ?_
  refine J_V1vx (ci := 10) dL_charge_4 s_L_48 m_X10_charge rfl (by repeat (first | assumption | exact jget_same2 (by (try simp only [List.length_set]); exact jlt (by assumption)) | refine jget_ne (by first | decide | assumption | omega) ?_)) rfl (hc _ (fun v h' f ho hq => jKx_i ?_) (fun E h' hx => jKx_x ?_))
  · refine J_i2l dL_charge_7 ?_
    refine J_last (0) dL_charge_8 (by repeat (first | assumption | exact jget_same2 (by (try simp only [List.length_set]); exact jlt (by assumption)) | refine jget_ne (by first | decide | assumption | omega) ?_)) (by first | rfl | (simp only [pk_mul, nI_add]; done) | (simp only [pk_mul, nI_add]; congr 1; omega) | (congr 1; omega)) (by omega) ?_
    refine J_goto 15 dL_charge_9 (by decide) ?_
    refine J_iconst (nI 0) (by decide) dL_charge_15 ?_
    exact J_ireturn dL_charge_16 rfl (hq) (by decide) (by decide) (fun q => by cases q)
  · rcases hx with ⟨rfl, hq⟩
    · refine JX_catch [] ⟨0, 9, 12, 13⟩ [] 3 1 rfl rfl (by intro z hz; cases hz) (by decide) (by decide) c_L_13 (by decide) (.inl ⟨3, rfl, rfl, dL_charge_12⟩) (by decide) ?_
      refine J_iconst (nI 1) (by decide) dL_charge_13 ?_
      exact J_ireturn dL_charge_14 rfl (hq) (by decide) (by decide) (fun q => by cases q)
theorem w_stopTour {vs : List Value} (c0 : h[0]? = some (.inr (10, vs)))
    (hc : ∀ Q' : jQ_, (∀ (v : Int32) h' (f : Nat → Int64), h'[125]? = some (.inl (3, 1, .inr (.inl (f)))) → Q (.inl (some (.int (nI 0)))) (h'.set 125 (.inl (3, 1, .inr (.inl (vp_updL f 0 (v.toInt64)))))) → Q' (.inl (some (.int v))) h') → (∀ E h', (E = "java/lang/IllegalStateException" ∧ Q (.inl (some (.int (nI 1)))) h') → Q' (.inr E) h') → jCT G M_X10_stopTour 8 1 6 false [.ref 0] h Q') : jCT G M_L_stopTour 9 1 6 false [.ref 0, .ref 125] h Q := by
  refine jCT_ofH [some (.ref 0), some (.ref 125), none]  1 rfl (by decide +kernel) rfl rfl ?_
  refine J_aload_n (by rfl) (by rfl) dL_stopTour_0 ?_
  refine J_iconst (nI 0) (by decide) dL_stopTour_1 ?_
  refine J_aload_n (by rfl) (by rfl) dL_stopTour_2 ?_
  refine J_V0vx (ci := 10) dL_stopTour_3 s_L_31 m_X10_stopTour rfl (by repeat (first | assumption | exact jget_same2 (by (try simp only [List.length_set]); exact jlt (by assumption)) | refine jget_ne (by first | decide | assumption | omega) ?_)) rfl (hc _ (fun v h' f ho hq => jKx_i ?_) (fun E h' hx => jKx_x ?_))
  · refine J_i2l dL_stopTour_6 ?_
    refine J_last (0) dL_stopTour_7 (by repeat (first | assumption | exact jget_same2 (by (try simp only [List.length_set]); exact jlt (by assumption)) | refine jget_ne (by first | decide | assumption | omega) ?_)) (by first | rfl | (simp only [pk_mul, nI_add]; done) | (simp only [pk_mul, nI_add]; congr 1; omega) | (congr 1; omega)) (by omega) ?_
    refine J_goto 14 dL_stopTour_8 (by decide) ?_
    refine J_iconst (nI 0) (by decide) dL_stopTour_14 ?_
    exact J_ireturn dL_stopTour_15 rfl (hq) (by decide) (by decide) (fun q => by cases q)
  · rcases hx with ⟨rfl, hq⟩
    · refine JX_catch [] ⟨0, 8, 11, 15⟩ [] 2 1 rfl rfl (by intro z hz; cases hz) (by decide) (by decide) c_L_15 (by decide) (.inl ⟨2, rfl, rfl, dL_stopTour_11⟩) (by decide) ?_
      refine J_iconst (nI 1) (by decide) dL_stopTour_12 ?_
      exact J_ireturn dL_stopTour_13 rfl (hq) (by decide) (by decide) (fun q => by cases q)
theorem w_update (x y : Int32){vs : List Value} (c0 : h[0]? = some (.inr (10, vs)))
    (hc : ∀ Q' : jQ_, (∀ (v : Bool) h' (f : Nat → Int64), h'[125]? = some (.inl (3, 1, .inr (.inl (f)))) → Q (.inl (some (.int (nI 0)))) (h'.set 125 (.inl (3, 1, .inr (.inl (vp_updL f 0 (if v = true then 1 else 0)))))) → Q' (.inl (some (.int (jb v)))) h') → (∀ E h', (E = "java/lang/IllegalArgumentException" ∧ Q (.inl (some (.int (nI 1)))) h') ∨ (E = "java/lang/IllegalStateException" ∧ Q (.inl (some (.int (nI 2)))) h') ∨ (E = "java/lang/UnsupportedOperationException" ∧ Q (.inl (some (.int (nI 3)))) h') → Q' (.inr E) h') → jCT G M_X10_update 8 1 6 false [.ref 0, .int x, .int y] h Q') : jCT G M_L_update 9 1 6 false [.ref 0, .int x, .int y, .ref 125] h Q := by
  refine jCT_ofH [some (.ref 0), some (.int x), some (.int y), some (.ref 125), none]  1 rfl (by decide +kernel) rfl rfl ?_
  refine J_aload_n (by rfl) (by rfl) dL_update_0 ?_
  refine J_iconst (nI 0) (by decide) dL_update_1 ?_
  refine J_aload_n (by rfl) (by rfl) dL_update_2 ?_
  refine J_iload_n (by rfl) dL_update_3 ?_
  refine J_iload_n (by rfl) dL_update_4 ?_
  refine J_V2vx (ci := 10) dL_update_5 s_L_35 m_X10_update rfl (by repeat (first | assumption | exact jget_same2 (by (try simp only [List.length_set]); exact jlt (by assumption)) | refine jget_ne (by first | decide | assumption | omega) ?_)) rfl (hc _ (fun v h' f ho hq => jKx_i ?_) (fun E h' hx => jKx_x ?_))
  · refine J_if_eq_b 15 dL_update_8 (by decide) (fun c8 => ?_) (fun c8 => ?_)
    · subst c8
      refine J_lconst (lN 0) (by decide) dL_update_15 ?_
      refine J_last (0) dL_update_16 (by repeat (first | assumption | exact jget_same2 (by (try simp only [List.length_set]); exact jlt (by assumption)) | refine jget_ne (by first | decide | assumption | omega) ?_)) (by first | rfl | (simp only [pk_mul, nI_add]; done) | (simp only [pk_mul, nI_add]; congr 1; omega) | (congr 1; omega)) (by omega) ?_
      refine J_goto 32 dL_update_17 (by decide) ?_
      refine J_iconst (nI 0) (by decide) dL_update_32 ?_
      exact J_ireturn dL_update_33 rfl (hq) (by decide) (by decide) (fun q => by cases q)
    · subst c8
      refine J_lconst (lN 1) (by decide) dL_update_11 ?_
      refine J_goto 16 dL_update_12 (by decide) ?_
      refine J_last (0) dL_update_16 (by repeat (first | assumption | exact jget_same2 (by (try simp only [List.length_set]); exact jlt (by assumption)) | refine jget_ne (by first | decide | assumption | omega) ?_)) (by first | rfl | (simp only [pk_mul, nI_add]; done) | (simp only [pk_mul, nI_add]; congr 1; omega) | (congr 1; omega)) (by omega) ?_
      refine J_goto 32 dL_update_17 (by decide) ?_
      refine J_iconst (nI 0) (by decide) dL_update_32 ?_
      exact J_ireturn dL_update_33 rfl (hq) (by decide) (by decide) (fun q => by cases q)
  · rcases hx with ⟨rfl, hq⟩ | ⟨rfl, hq⟩ | ⟨rfl, hq⟩
    · refine JX_catch [] ⟨0, 17, 20, 13⟩ [⟨0, 17, 24, 15⟩, ⟨0, 17, 28, 39⟩] 4 2 rfl rfl (by intro z hz; cases hz) (by decide) (by decide) c_L_13 (by decide) (.inr ⟨rfl, dL_update_20⟩) (by decide) ?_
      refine J_iconst (nI 1) (by decide) dL_update_22 ?_
      exact J_ireturn dL_update_23 rfl (hq) (by decide) (by decide) (fun q => by cases q)
    · refine JX_catch [⟨0, 17, 20, 13⟩] ⟨0, 17, 24, 15⟩ [⟨0, 17, 28, 39⟩] 4 2 rfl rfl (by intro z hz; simp only [List.mem_cons, List.not_mem_nil, or_false] at hz; rcases hz with rfl <;> first | exact .inr ⟨by decide, _, c_L_13, by decide⟩) (by decide) (by decide) c_L_15 (by decide) (.inr ⟨rfl, dL_update_24⟩) (by decide) ?_
      refine J_iconst (nI 2) (by decide) dL_update_26 ?_
      exact J_ireturn dL_update_27 rfl (hq) (by decide) (by decide) (fun q => by cases q)
    · refine JX_catch [⟨0, 17, 20, 13⟩, ⟨0, 17, 24, 15⟩] ⟨0, 17, 28, 39⟩ [] 4 2 rfl rfl (by intro z hz; simp only [List.mem_cons, List.not_mem_nil, or_false] at hz; rcases hz with rfl | rfl <;> first | exact .inr ⟨by decide, _, c_L_13, by decide⟩ | exact .inr ⟨by decide, _, c_L_15, by decide⟩) (by decide) (by decide) c_L_39 (by decide) (.inr ⟨rfl, dL_update_28⟩) (by decide) ?_
      refine J_iconst (nI 3) (by decide) dL_update_30 ?_
      exact J_ireturn dL_update_31 rfl (hq) (by decide) (by decide) (fun q => by cases q)
theorem w_waypointX (x : Int32){vs : List Value} (c0 : h[0]? = some (.inr (10, vs)))
    (hc : ∀ Q' : jQ_, (∀ (v : Int32) h' (f : Nat → Int64), h'[125]? = some (.inl (3, 1, .inr (.inl (f)))) → Q (.inl (some (.int (nI 0)))) (h'.set 125 (.inl (3, 1, .inr (.inl (vp_updL f 0 (v.toInt64)))))) → Q' (.inl (some (.int v))) h') → (∀ E h', (E = "java/lang/IndexOutOfBoundsException" ∧ Q (.inl (some (.int (nI 1)))) h') → Q' (.inr E) h') → jCT G M_X10_waypointX 7 1 6 false [.ref 0, .int x] h Q') : jCT G M_L_waypointX 8 1 6 false [.ref 0, .int x, .ref 125] h Q := by
  refine jCT_ofH [some (.ref 0), some (.int x), some (.ref 125), none]  1 rfl (by decide +kernel) rfl rfl ?_
  refine J_aload_n (by rfl) (by rfl) dL_waypointX_0 ?_
  refine J_iconst (nI 0) (by decide) dL_waypointX_1 ?_
  refine J_aload_n (by rfl) (by rfl) dL_waypointX_2 ?_
  refine J_iload_n (by rfl) dL_waypointX_3 ?_
  refine J_V1vx (ci := 10) dL_waypointX_4 s_L_51 m_X10_waypointX rfl (by repeat (first | assumption | exact jget_same2 (by (try simp only [List.length_set]); exact jlt (by assumption)) | refine jget_ne (by first | decide | assumption | omega) ?_)) rfl (hc _ (fun v h' f ho hq => jKx_i ?_) (fun E h' hx => jKx_x ?_))
  · refine J_i2l dL_waypointX_7 ?_
    refine J_last (0) dL_waypointX_8 (by repeat (first | assumption | exact jget_same2 (by (try simp only [List.length_set]); exact jlt (by assumption)) | refine jget_ne (by first | decide | assumption | omega) ?_)) (by first | rfl | (simp only [pk_mul, nI_add]; done) | (simp only [pk_mul, nI_add]; congr 1; omega) | (congr 1; omega)) (by omega) ?_
    refine J_goto 15 dL_waypointX_9 (by decide) ?_
    refine J_iconst (nI 0) (by decide) dL_waypointX_15 ?_
    exact J_ireturn dL_waypointX_16 rfl (hq) (by decide) (by decide) (fun q => by cases q)
  · rcases hx with ⟨rfl, hq⟩
    · refine JX_catch [] ⟨0, 9, 12, 20⟩ [] 3 1 rfl rfl (by intro z hz; cases hz) (by decide) (by decide) c_L_20 (by decide) (.inl ⟨3, rfl, rfl, dL_waypointX_12⟩) (by decide) ?_
      refine J_iconst (nI 1) (by decide) dL_waypointX_13 ?_
      exact J_ireturn dL_waypointX_14 rfl (hq) (by decide) (by decide) (fun q => by cases q)
theorem w_waypointY (x : Int32){vs : List Value} (c0 : h[0]? = some (.inr (10, vs)))
    (hc : ∀ Q' : jQ_, (∀ (v : Int32) h' (f : Nat → Int64), h'[125]? = some (.inl (3, 1, .inr (.inl (f)))) → Q (.inl (some (.int (nI 0)))) (h'.set 125 (.inl (3, 1, .inr (.inl (vp_updL f 0 (v.toInt64)))))) → Q' (.inl (some (.int v))) h') → (∀ E h', (E = "java/lang/IndexOutOfBoundsException" ∧ Q (.inl (some (.int (nI 1)))) h') → Q' (.inr E) h') → jCT G M_X10_waypointY 7 1 6 false [.ref 0, .int x] h Q') : jCT G M_L_waypointY 8 1 6 false [.ref 0, .int x, .ref 125] h Q := by
  refine jCT_ofH [some (.ref 0), some (.int x), some (.ref 125), none]  1 rfl (by decide +kernel) rfl rfl ?_
  refine J_aload_n (by rfl) (by rfl) dL_waypointY_0 ?_
  refine J_iconst (nI 0) (by decide) dL_waypointY_1 ?_
  refine J_aload_n (by rfl) (by rfl) dL_waypointY_2 ?_
  refine J_iload_n (by rfl) dL_waypointY_3 ?_
  refine J_V1vx (ci := 10) dL_waypointY_4 s_L_54 m_X10_waypointY rfl (by repeat (first | assumption | exact jget_same2 (by (try simp only [List.length_set]); exact jlt (by assumption)) | refine jget_ne (by first | decide | assumption | omega) ?_)) rfl (hc _ (fun v h' f ho hq => jKx_i ?_) (fun E h' hx => jKx_x ?_))
  · refine J_i2l dL_waypointY_7 ?_
    refine J_last (0) dL_waypointY_8 (by repeat (first | assumption | exact jget_same2 (by (try simp only [List.length_set]); exact jlt (by assumption)) | refine jget_ne (by first | decide | assumption | omega) ?_)) (by first | rfl | (simp only [pk_mul, nI_add]; done) | (simp only [pk_mul, nI_add]; congr 1; omega) | (congr 1; omega)) (by omega) ?_
    refine J_goto 15 dL_waypointY_9 (by decide) ?_
    refine J_iconst (nI 0) (by decide) dL_waypointY_15 ?_
    exact J_ireturn dL_waypointY_16 rfl (hq) (by decide) (by decide) (fun q => by cases q)
  · rcases hx with ⟨rfl, hq⟩
    · refine JX_catch [] ⟨0, 9, 12, 20⟩ [] 3 1 rfl rfl (by intro z hz; cases hz) (by decide) (by decide) c_L_20 (by decide) (.inl ⟨3, rfl, rfl, dL_waypointY_12⟩) (by decide) ?_
      refine J_iconst (nI 1) (by decide) dL_waypointY_13 ?_
      exact J_ireturn dL_waypointY_14 rfl (hq) (by decide) (by decide) (fun q => by cases q)
theorem w_radius (x : Int32){vs : List Value} (c0 : h[0]? = some (.inr (10, vs)))
    (hc : ∀ Q' : jQ_, (∀ (v : Int32) h' (f : Nat → Int64), h'[125]? = some (.inl (3, 1, .inr (.inl (f)))) → Q (.inl (some (.int (nI 0)))) (h'.set 125 (.inl (3, 1, .inr (.inl (vp_updL f 0 (v.toInt64)))))) → Q' (.inl (some (.int v))) h') → (∀ E h', (E = "java/lang/IndexOutOfBoundsException" ∧ Q (.inl (some (.int (nI 1)))) h') → Q' (.inr E) h') → jCT G M_X10_radius 7 1 6 false [.ref 0, .int x] h Q') : jCT G M_L_radius 8 1 6 false [.ref 0, .int x, .ref 125] h Q := by
  refine jCT_ofH [some (.ref 0), some (.int x), some (.ref 125), none]  1 rfl (by decide +kernel) rfl rfl ?_
  refine J_aload_n (by rfl) (by rfl) dL_radius_0 ?_
  refine J_iconst (nI 0) (by decide) dL_radius_1 ?_
  refine J_aload_n (by rfl) (by rfl) dL_radius_2 ?_
  refine J_iload_n (by rfl) dL_radius_3 ?_
  refine J_V1vx (ci := 10) dL_radius_4 s_L_57 m_X10_radius rfl (by repeat (first | assumption | exact jget_same2 (by (try simp only [List.length_set]); exact jlt (by assumption)) | refine jget_ne (by first | decide | assumption | omega) ?_)) rfl (hc _ (fun v h' f ho hq => jKx_i ?_) (fun E h' hx => jKx_x ?_))
  · refine J_i2l dL_radius_7 ?_
    refine J_last (0) dL_radius_8 (by repeat (first | assumption | exact jget_same2 (by (try simp only [List.length_set]); exact jlt (by assumption)) | refine jget_ne (by first | decide | assumption | omega) ?_)) (by first | rfl | (simp only [pk_mul, nI_add]; done) | (simp only [pk_mul, nI_add]; congr 1; omega) | (congr 1; omega)) (by omega) ?_
    refine J_goto 15 dL_radius_9 (by decide) ?_
    refine J_iconst (nI 0) (by decide) dL_radius_15 ?_
    exact J_ireturn dL_radius_16 rfl (hq) (by decide) (by decide) (fun q => by cases q)
  · rcases hx with ⟨rfl, hq⟩
    · refine JX_catch [] ⟨0, 9, 12, 20⟩ [] 3 1 rfl rfl (by intro z hz; cases hz) (by decide) (by decide) c_L_20 (by decide) (.inl ⟨3, rfl, rfl, dL_radius_12⟩) (by decide) ?_
      refine J_iconst (nI 1) (by decide) dL_radius_13 ?_
      exact J_ireturn dL_radius_14 rfl (hq) (by decide) (by decide) (fun q => by cases q)
theorem w_routeLength {vs : List Value} (c0 : h[0]? = some (.inr (10, vs)))
    (hc : ∀ Q' : jQ_, (∀ (v : Int32) h' (f : Nat → Int64), h'[125]? = some (.inl (3, 1, .inr (.inl (f)))) → Q (.inl (some (.int (nI 0)))) (h'.set 125 (.inl (3, 1, .inr (.inl (vp_updL f 0 (v.toInt64)))))) → Q' (.inl (some (.int v))) h') → (∀ E h', (E = "java/lang/IllegalStateException" ∧ Q (.inl (some (.int (nI 1)))) h') → Q' (.inr E) h') → jCT G M_X10_routeLength 7 1 6 false [.ref 0] h Q') : jCT G M_L_routeLength 8 1 6 false [.ref 0, .ref 125] h Q := by
  refine jCT_ofH [some (.ref 0), some (.ref 125), none]  1 rfl (by decide +kernel) rfl rfl ?_
  refine J_aload_n (by rfl) (by rfl) dL_routeLength_0 ?_
  refine J_iconst (nI 0) (by decide) dL_routeLength_1 ?_
  refine J_aload_n (by rfl) (by rfl) dL_routeLength_2 ?_
  refine J_V0vx (ci := 10) dL_routeLength_3 s_L_75 m_X10_routeLength rfl (by repeat (first | assumption | exact jget_same2 (by (try simp only [List.length_set]); exact jlt (by assumption)) | refine jget_ne (by first | decide | assumption | omega) ?_)) rfl (hc _ (fun v h' f ho hq => jKx_i ?_) (fun E h' hx => jKx_x ?_))
  · refine J_i2l dL_routeLength_6 ?_
    refine J_last (0) dL_routeLength_7 (by repeat (first | assumption | exact jget_same2 (by (try simp only [List.length_set]); exact jlt (by assumption)) | refine jget_ne (by first | decide | assumption | omega) ?_)) (by first | rfl | (simp only [pk_mul, nI_add]; done) | (simp only [pk_mul, nI_add]; congr 1; omega) | (congr 1; omega)) (by omega) ?_
    refine J_goto 14 dL_routeLength_8 (by decide) ?_
    refine J_iconst (nI 0) (by decide) dL_routeLength_14 ?_
    exact J_ireturn dL_routeLength_15 rfl (hq) (by decide) (by decide) (fun q => by cases q)
  · rcases hx with ⟨rfl, hq⟩
    · refine JX_catch [] ⟨0, 8, 11, 15⟩ [] 2 1 rfl rfl (by intro z hz; cases hz) (by decide) (by decide) c_L_15 (by decide) (.inl ⟨2, rfl, rfl, dL_routeLength_11⟩) (by decide) ?_
      refine J_iconst (nI 1) (by decide) dL_routeLength_12 ?_
      exact J_ireturn dL_routeLength_13 rfl (hq) (by decide) (by decide) (fun q => by cases q)
theorem w_target {vs : List Value} (c0 : h[0]? = some (.inr (10, vs)))
    (hc : ∀ Q' : jQ_, (∀ (v : Int32) h' (f : Nat → Int64), h'[125]? = some (.inl (3, 1, .inr (.inl (f)))) → Q (.inl (some (.int (nI 0)))) (h'.set 125 (.inl (3, 1, .inr (.inl (vp_updL f 0 (v.toInt64)))))) → Q' (.inl (some (.int v))) h') → (∀ E h', (E = "java/lang/IllegalStateException" ∧ Q (.inl (some (.int (nI 1)))) h') → Q' (.inr E) h') → jCT G M_X10_target 7 1 6 false [.ref 0] h Q') : jCT G M_L_target 8 1 6 false [.ref 0, .ref 125] h Q := by
  refine jCT_ofH [some (.ref 0), some (.ref 125), none]  1 rfl (by decide +kernel) rfl rfl ?_
  refine J_aload_n (by rfl) (by rfl) dL_target_0 ?_
  refine J_iconst (nI 0) (by decide) dL_target_1 ?_
  refine J_aload_n (by rfl) (by rfl) dL_target_2 ?_
  refine J_V0vx (ci := 10) dL_target_3 s_L_85 m_X10_target rfl (by repeat (first | assumption | exact jget_same2 (by (try simp only [List.length_set]); exact jlt (by assumption)) | refine jget_ne (by first | decide | assumption | omega) ?_)) rfl (hc _ (fun v h' f ho hq => jKx_i ?_) (fun E h' hx => jKx_x ?_))
  · refine J_i2l dL_target_6 ?_
    refine J_last (0) dL_target_7 (by repeat (first | assumption | exact jget_same2 (by (try simp only [List.length_set]); exact jlt (by assumption)) | refine jget_ne (by first | decide | assumption | omega) ?_)) (by first | rfl | (simp only [pk_mul, nI_add]; done) | (simp only [pk_mul, nI_add]; congr 1; omega) | (congr 1; omega)) (by omega) ?_
    refine J_goto 14 dL_target_8 (by decide) ?_
    refine J_iconst (nI 0) (by decide) dL_target_14 ?_
    exact J_ireturn dL_target_15 rfl (hq) (by decide) (by decide) (fun q => by cases q)
  · rcases hx with ⟨rfl, hq⟩
    · refine JX_catch [] ⟨0, 8, 11, 15⟩ [] 2 1 rfl rfl (by intro z hz; cases hz) (by decide) (by decide) c_L_15 (by decide) (.inl ⟨2, rfl, rfl, dL_target_11⟩) (by decide) ?_
      refine J_iconst (nI 1) (by decide) dL_target_12 ?_
      exact J_ireturn dL_target_13 rfl (hq) (by decide) (by decide) (fun q => by cases q)
theorem w_hikerX {vs : List Value} (c0 : h[0]? = some (.inr (10, vs)))
    (hc : ∀ Q' : jQ_, (∀ (v : Int32) h' (f : Nat → Int64), h'[125]? = some (.inl (3, 1, .inr (.inl (f)))) → Q (.inl (some (.int (nI 0)))) (h'.set 125 (.inl (3, 1, .inr (.inl (vp_updL f 0 (v.toInt64)))))) → Q' (.inl (some (.int v))) h') → (∀ E h', (E = "java/lang/IllegalStateException" ∧ Q (.inl (some (.int (nI 1)))) h') → Q' (.inr E) h') → jCT G M_X10_hikerX 7 1 6 false [.ref 0] h Q') : jCT G M_L_hikerX 8 1 6 false [.ref 0, .ref 125] h Q := by
  refine jCT_ofH [some (.ref 0), some (.ref 125), none]  1 rfl (by decide +kernel) rfl rfl ?_
  refine J_aload_n (by rfl) (by rfl) dL_hikerX_0 ?_
  refine J_iconst (nI 0) (by decide) dL_hikerX_1 ?_
  refine J_aload_n (by rfl) (by rfl) dL_hikerX_2 ?_
  refine J_V0vx (ci := 10) dL_hikerX_3 s_L_88 m_X10_hikerX rfl (by repeat (first | assumption | exact jget_same2 (by (try simp only [List.length_set]); exact jlt (by assumption)) | refine jget_ne (by first | decide | assumption | omega) ?_)) rfl (hc _ (fun v h' f ho hq => jKx_i ?_) (fun E h' hx => jKx_x ?_))
  · refine J_i2l dL_hikerX_6 ?_
    refine J_last (0) dL_hikerX_7 (by repeat (first | assumption | exact jget_same2 (by (try simp only [List.length_set]); exact jlt (by assumption)) | refine jget_ne (by first | decide | assumption | omega) ?_)) (by first | rfl | (simp only [pk_mul, nI_add]; done) | (simp only [pk_mul, nI_add]; congr 1; omega) | (congr 1; omega)) (by omega) ?_
    refine J_goto 14 dL_hikerX_8 (by decide) ?_
    refine J_iconst (nI 0) (by decide) dL_hikerX_14 ?_
    exact J_ireturn dL_hikerX_15 rfl (hq) (by decide) (by decide) (fun q => by cases q)
  · rcases hx with ⟨rfl, hq⟩
    · refine JX_catch [] ⟨0, 8, 11, 15⟩ [] 2 1 rfl rfl (by intro z hz; cases hz) (by decide) (by decide) c_L_15 (by decide) (.inl ⟨2, rfl, rfl, dL_hikerX_11⟩) (by decide) ?_
      refine J_iconst (nI 1) (by decide) dL_hikerX_12 ?_
      exact J_ireturn dL_hikerX_13 rfl (hq) (by decide) (by decide) (fun q => by cases q)
theorem w_hikerY {vs : List Value} (c0 : h[0]? = some (.inr (10, vs)))
    (hc : ∀ Q' : jQ_, (∀ (v : Int32) h' (f : Nat → Int64), h'[125]? = some (.inl (3, 1, .inr (.inl (f)))) → Q (.inl (some (.int (nI 0)))) (h'.set 125 (.inl (3, 1, .inr (.inl (vp_updL f 0 (v.toInt64)))))) → Q' (.inl (some (.int v))) h') → (∀ E h', (E = "java/lang/IllegalStateException" ∧ Q (.inl (some (.int (nI 1)))) h') → Q' (.inr E) h') → jCT G M_X10_hikerY 7 1 6 false [.ref 0] h Q') : jCT G M_L_hikerY 8 1 6 false [.ref 0, .ref 125] h Q := by
  refine jCT_ofH [some (.ref 0), some (.ref 125), none]  1 rfl (by decide +kernel) rfl rfl ?_
  refine J_aload_n (by rfl) (by rfl) dL_hikerY_0 ?_
  refine J_iconst (nI 0) (by decide) dL_hikerY_1 ?_
  refine J_aload_n (by rfl) (by rfl) dL_hikerY_2 ?_
  refine J_V0vx (ci := 10) dL_hikerY_3 s_L_91 m_X10_hikerY rfl (by repeat (first | assumption | exact jget_same2 (by (try simp only [List.length_set]); exact jlt (by assumption)) | refine jget_ne (by first | decide | assumption | omega) ?_)) rfl (hc _ (fun v h' f ho hq => jKx_i ?_) (fun E h' hx => jKx_x ?_))
  · refine J_i2l dL_hikerY_6 ?_
    refine J_last (0) dL_hikerY_7 (by repeat (first | assumption | exact jget_same2 (by (try simp only [List.length_set]); exact jlt (by assumption)) | refine jget_ne (by first | decide | assumption | omega) ?_)) (by first | rfl | (simp only [pk_mul, nI_add]; done) | (simp only [pk_mul, nI_add]; congr 1; omega) | (congr 1; omega)) (by omega) ?_
    refine J_goto 14 dL_hikerY_8 (by decide) ?_
    refine J_iconst (nI 0) (by decide) dL_hikerY_14 ?_
    exact J_ireturn dL_hikerY_15 rfl (hq) (by decide) (by decide) (fun q => by cases q)
  · rcases hx with ⟨rfl, hq⟩
    · refine JX_catch [] ⟨0, 8, 11, 15⟩ [] 2 1 rfl rfl (by intro z hz; cases hz) (by decide) (by decide) c_L_15 (by decide) (.inl ⟨2, rfl, rfl, dL_hikerY_11⟩) (by decide) ?_
      refine J_iconst (nI 1) (by decide) dL_hikerY_12 ?_
      exact J_ireturn dL_hikerY_13 rfl (hq) (by decide) (by decide) (fun q => by cases q)
theorem w_drift {vs : List Value} (c0 : h[0]? = some (.inr (10, vs)))
    (hc : ∀ Q' : jQ_, (∀ (v : Int32) h' (f : Nat → Int64), h'[125]? = some (.inl (3, 1, .inr (.inl (f)))) → Q (.inl (some (.int (nI 0)))) (h'.set 125 (.inl (3, 1, .inr (.inl (vp_updL f 0 (v.toInt64)))))) → Q' (.inl (some (.int v))) h') → (∀ E h', (E = "java/lang/IllegalStateException" ∧ Q (.inl (some (.int (nI 1)))) h') → Q' (.inr E) h') → jCT G M_X10_drift 7 1 6 false [.ref 0] h Q') : jCT G M_L_drift 8 1 6 false [.ref 0, .ref 125] h Q := by
  refine jCT_ofH [some (.ref 0), some (.ref 125), none]  1 rfl (by decide +kernel) rfl rfl ?_
  refine J_aload_n (by rfl) (by rfl) dL_drift_0 ?_
  refine J_iconst (nI 0) (by decide) dL_drift_1 ?_
  refine J_aload_n (by rfl) (by rfl) dL_drift_2 ?_
  refine J_V0vx (ci := 10) dL_drift_3 s_L_94 m_X10_drift rfl (by repeat (first | assumption | exact jget_same2 (by (try simp only [List.length_set]); exact jlt (by assumption)) | refine jget_ne (by first | decide | assumption | omega) ?_)) rfl (hc _ (fun v h' f ho hq => jKx_i ?_) (fun E h' hx => jKx_x ?_))
  · refine J_i2l dL_drift_6 ?_
    refine J_last (0) dL_drift_7 (by repeat (first | assumption | exact jget_same2 (by (try simp only [List.length_set]); exact jlt (by assumption)) | refine jget_ne (by first | decide | assumption | omega) ?_)) (by first | rfl | (simp only [pk_mul, nI_add]; done) | (simp only [pk_mul, nI_add]; congr 1; omega) | (congr 1; omega)) (by omega) ?_
    refine J_goto 14 dL_drift_8 (by decide) ?_
    refine J_iconst (nI 0) (by decide) dL_drift_14 ?_
    exact J_ireturn dL_drift_15 rfl (hq) (by decide) (by decide) (fun q => by cases q)
  · rcases hx with ⟨rfl, hq⟩
    · refine JX_catch [] ⟨0, 8, 11, 15⟩ [] 2 1 rfl rfl (by intro z hz; cases hz) (by decide) (by decide) c_L_15 (by decide) (.inl ⟨2, rfl, rfl, dL_drift_11⟩) (by decide) ?_
      refine J_iconst (nI 1) (by decide) dL_drift_12 ?_
      exact J_ireturn dL_drift_13 rfl (hq) (by decide) (by decide) (fun q => by cases q)
theorem w_alarmRate {vs : List Value} (c0 : h[0]? = some (.inr (10, vs)))
    (hc : ∀ Q' : jQ_, (∀ (v : UInt32) h' (f : Nat → UInt64), vf_n64 (FP.f2d v) → h'[126]? = some (.inl (4, 1, .inr (.inr (.inr (.inl (f)))))) → Q (.inl (some (.int (nI 0)))) (h'.set 126 (.inl (4, 1, .inr (.inr (.inr (.inl (vf_upd f 0 (FP.f2d v)))))))) → Q' (.inl (some (.float v))) h') → (∀ E h', (E = "java/lang/ArithmeticException" ∧ Q (.inl (some (.int (nI 1)))) h') → Q' (.inr E) h') → jCT G M_X10_alarmRate 7 1 6 false [.ref 0] h Q') : jCT G M_L_alarmRate 8 1 6 false [.ref 0, .ref 126] h Q := by
  refine jCT_ofH [some (.ref 0), some (.ref 126), none]  1 rfl (by decide +kernel) rfl rfl ?_
  refine J_aload_n (by rfl) (by rfl) dL_alarmRate_0 ?_
  refine J_iconst (nI 0) (by decide) dL_alarmRate_1 ?_
  refine J_aload_n (by rfl) (by rfl) dL_alarmRate_2 ?_
  refine J_V0vx (ci := 10) dL_alarmRate_3 s_L_101 m_X10_alarmRate rfl (by repeat (first | assumption | exact jget_same2 (by (try simp only [List.length_set]); exact jlt (by assumption)) | refine jget_ne (by first | decide | assumption | omega) ?_)) rfl (hc _ (fun v h' f hf ho hq => jKx_i ?_) (fun E h' hx => jKx_x ?_))
  · refine J_f2d (hf) dL_alarmRate_6 ?_
    refine J_dast (0) dL_alarmRate_7 (by repeat (first | assumption | exact jget_same2 (by (try simp only [List.length_set]); exact jlt (by assumption)) | refine jget_ne (by first | decide | assumption | omega) ?_)) (by first | rfl | (simp only [pk_mul, nI_add]; done) | (simp only [pk_mul, nI_add]; congr 1; omega) | (congr 1; omega)) (by omega) ?_
    refine J_goto 14 dL_alarmRate_8 (by decide) ?_
    refine J_iconst (nI 0) (by decide) dL_alarmRate_14 ?_
    exact J_ireturn dL_alarmRate_15 rfl (hq) (by decide) (by decide) (fun q => by cases q)
  · rcases hx with ⟨rfl, hq⟩
    · refine JX_catch [] ⟨0, 8, 11, 105⟩ [] 2 1 rfl rfl (by intro z hz; cases hz) (by decide) (by decide) c_L_105 (by decide) (.inl ⟨2, rfl, rfl, dL_alarmRate_11⟩) (by decide) ?_
      refine J_iconst (nI 1) (by decide) dL_alarmRate_12 ?_
      exact J_ireturn dL_alarmRate_13 rfl (hq) (by decide) (by decide) (fun q => by cases q)
theorem w_meanTrailLength {vs : List Value} (c0 : h[0]? = some (.inr (10, vs)))
    (hc : ∀ Q' : jQ_, (∀ (v : UInt64) h' (f : Nat → UInt64), h'[126]? = some (.inl (4, 1, .inr (.inr (.inr (.inl (f)))))) → Q (.inl (some (.int (nI 0)))) (h'.set 126 (.inl (4, 1, .inr (.inr (.inr (.inl (vf_upd f 0 v))))))) → Q' (.inl (some (.double v))) h') → (∀ E h', (E = "java/lang/ArithmeticException" ∧ Q (.inl (some (.int (nI 1)))) h') → Q' (.inr E) h') → jCT G M_X10_meanTrailLength 7 1 6 false [.ref 0] h Q') : jCT G M_L_meanTrailLength 8 1 6 false [.ref 0, .ref 126] h Q := by
  refine jCT_ofH [some (.ref 0), some (.ref 126), none]  1 rfl (by decide +kernel) rfl rfl ?_
  refine J_aload_n (by rfl) (by rfl) dL_meanTrailLength_0 ?_
  refine J_iconst (nI 0) (by decide) dL_meanTrailLength_1 ?_
  refine J_aload_n (by rfl) (by rfl) dL_meanTrailLength_2 ?_
  refine J_V0vx (ci := 10) dL_meanTrailLength_3 s_L_107 m_X10_meanTrailLength rfl (by repeat (first | assumption | exact jget_same2 (by (try simp only [List.length_set]); exact jlt (by assumption)) | refine jget_ne (by first | decide | assumption | omega) ?_)) rfl (hc _ (fun v h' f ho hq => jKx_i ?_) (fun E h' hx => jKx_x ?_))
  · refine J_dast (0) dL_meanTrailLength_6 (by repeat (first | assumption | exact jget_same2 (by (try simp only [List.length_set]); exact jlt (by assumption)) | refine jget_ne (by first | decide | assumption | omega) ?_)) (by first | rfl | (simp only [pk_mul, nI_add]; done) | (simp only [pk_mul, nI_add]; congr 1; omega) | (congr 1; omega)) (by omega) ?_
    refine J_goto 13 dL_meanTrailLength_7 (by decide) ?_
    refine J_iconst (nI 0) (by decide) dL_meanTrailLength_13 ?_
    exact J_ireturn dL_meanTrailLength_14 rfl (hq) (by decide) (by decide) (fun q => by cases q)
  · rcases hx with ⟨rfl, hq⟩
    · refine JX_catch [] ⟨0, 7, 10, 105⟩ [] 2 1 rfl rfl (by intro z hz; cases hz) (by decide) (by decide) c_L_105 (by decide) (.inl ⟨2, rfl, rfl, dL_meanTrailLength_10⟩) (by decide) ?_
      refine J_iconst (nI 1) (by decide) dL_meanTrailLength_11 ?_
      exact J_ireturn dL_meanTrailLength_12 rfl (hq) (by decide) (by decide) (fun q => by cases q)
theorem w_writeTrails (x : Int32){vs : List Value} (c0 : h[0]? = some (.inr (10, vs)))
    (hc : ∀ Q' : jQ_, (∀ (v : Int32) h' (f : Nat → Int64), h'[125]? = some (.inl (3, 1, .inr (.inl (f)))) → Q (.inl (some (.int (nI 0)))) (h'.set 125 (.inl (3, 1, .inr (.inl (vp_updL f 0 (v.toInt64)))))) → Q' (.inl (some (.int v))) h') → (∀ E h', (E = "java/lang/IndexOutOfBoundsException" ∧ Q (.inl (some (.int (nI 1)))) h') → Q' (.inr E) h') → jCT G M_X10_writeTrails 7 1 6 false [.ref 0, .int x] h Q') : jCT G M_L_writeTrails 8 1 6 false [.ref 0, .int x, .ref 125] h Q := by
  refine jCT_ofH [some (.ref 0), some (.int x), some (.ref 125), none]  1 rfl (by decide +kernel) rfl rfl ?_
  refine J_aload_n (by rfl) (by rfl) dL_writeTrails_0 ?_
  refine J_iconst (nI 0) (by decide) dL_writeTrails_1 ?_
  refine J_aload_n (by rfl) (by rfl) dL_writeTrails_2 ?_
  refine J_iload_n (by rfl) dL_writeTrails_3 ?_
  refine J_V1vx (ci := 10) dL_writeTrails_4 s_L_111 m_X10_writeTrails rfl (by repeat (first | assumption | exact jget_same2 (by (try simp only [List.length_set]); exact jlt (by assumption)) | refine jget_ne (by first | decide | assumption | omega) ?_)) rfl (hc _ (fun v h' f ho hq => jKx_i ?_) (fun E h' hx => jKx_x ?_))
  · refine J_i2l dL_writeTrails_7 ?_
    refine J_last (0) dL_writeTrails_8 (by repeat (first | assumption | exact jget_same2 (by (try simp only [List.length_set]); exact jlt (by assumption)) | refine jget_ne (by first | decide | assumption | omega) ?_)) (by first | rfl | (simp only [pk_mul, nI_add]; done) | (simp only [pk_mul, nI_add]; congr 1; omega) | (congr 1; omega)) (by omega) ?_
    refine J_goto 15 dL_writeTrails_9 (by decide) ?_
    refine J_iconst (nI 0) (by decide) dL_writeTrails_15 ?_
    exact J_ireturn dL_writeTrails_16 rfl (hq) (by decide) (by decide) (fun q => by cases q)
  · rcases hx with ⟨rfl, hq⟩
    · refine JX_catch [] ⟨0, 9, 12, 20⟩ [] 3 1 rfl rfl (by intro z hz; cases hz) (by decide) (by decide) c_L_20 (by decide) (.inl ⟨3, rfl, rfl, dL_writeTrails_12⟩) (by decide) ?_
      refine J_iconst (nI 1) (by decide) dL_writeTrails_13 ?_
      exact J_ireturn dL_writeTrails_14 rfl (hq) (by decide) (by decide) (fun q => by cases q)
theorem w_charAt (x : Int32){vs : List Value} (c0 : h[0]? = some (.inr (10, vs)))
    (hc : ∀ Q' : jQ_, (∀ (v : Int32) h' (f : Nat → Int64), h'[125]? = some (.inl (3, 1, .inr (.inl (f)))) → Q (.inl (some (.int (nI 0)))) (h'.set 125 (.inl (3, 1, .inr (.inl (vp_updL f 0 (v.toInt64)))))) → Q' (.inl (some (.int v))) h') → (∀ E h', (E = "java/lang/IndexOutOfBoundsException" ∧ Q (.inl (some (.int (nI 1)))) h') → Q' (.inr E) h') → jCT G M_X10_charAt 7 1 6 false [.ref 0, .int x] h Q') : jCT G M_L_charAt 8 1 6 false [.ref 0, .int x, .ref 125] h Q := by
  refine jCT_ofH [some (.ref 0), some (.int x), some (.ref 125), none]  1 rfl (by decide +kernel) rfl rfl ?_
  refine J_aload_n (by rfl) (by rfl) dL_charAt_0 ?_
  refine J_iconst (nI 0) (by decide) dL_charAt_1 ?_
  refine J_aload_n (by rfl) (by rfl) dL_charAt_2 ?_
  refine J_iload_n (by rfl) dL_charAt_3 ?_
  refine J_V1vx (ci := 10) dL_charAt_4 s_L_114 m_X10_charAt rfl (by repeat (first | assumption | exact jget_same2 (by (try simp only [List.length_set]); exact jlt (by assumption)) | refine jget_ne (by first | decide | assumption | omega) ?_)) rfl (hc _ (fun v h' f ho hq => jKx_i ?_) (fun E h' hx => jKx_x ?_))
  · refine J_i2l dL_charAt_7 ?_
    refine J_last (0) dL_charAt_8 (by repeat (first | assumption | exact jget_same2 (by (try simp only [List.length_set]); exact jlt (by assumption)) | refine jget_ne (by first | decide | assumption | omega) ?_)) (by first | rfl | (simp only [pk_mul, nI_add]; done) | (simp only [pk_mul, nI_add]; congr 1; omega) | (congr 1; omega)) (by omega) ?_
    refine J_goto 15 dL_charAt_9 (by decide) ?_
    refine J_iconst (nI 0) (by decide) dL_charAt_15 ?_
    exact J_ireturn dL_charAt_16 rfl (hq) (by decide) (by decide) (fun q => by cases q)
  · rcases hx with ⟨rfl, hq⟩
    · refine JX_catch [] ⟨0, 9, 12, 20⟩ [] 3 1 rfl rfl (by intro z hz; cases hz) (by decide) (by decide) c_L_20 (by decide) (.inl ⟨3, rfl, rfl, dL_charAt_12⟩) (by decide) ?_
      refine J_iconst (nI 1) (by decide) dL_charAt_13 ?_
      exact J_ireturn dL_charAt_14 rfl (hq) (by decide) (by decide) (fun q => by cases q)
theorem w_type (x : Int32){vs : List Value} (c0 : h[0]? = some (.inr (10, vs)))
    (hc : ∀ Q' : jQ_, (∀ (v : Int32) h' (f : Nat → Int64), h'[125]? = some (.inl (3, 1, .inr (.inl (f)))) → Q (.inl (some (.int (nI 0)))) (h'.set 125 (.inl (3, 1, .inr (.inl (vp_updL f 0 (v.toInt64)))))) → Q' (.inl (some (.int v))) h') → (∀ E h', (E = "java/lang/IllegalStateException" ∧ Q (.inl (some (.int (nI 1)))) h') → Q' (.inr E) h') → jCT G M_X10_type 7 1 6 false [.ref 0, .int x] h Q') : jCT G M_L_type 8 1 6 false [.ref 0, .int x, .ref 125] h Q := by
  refine jCT_ofH [some (.ref 0), some (.int x), some (.ref 125), none]  1 rfl (by decide +kernel) rfl rfl ?_
  refine J_aload_n (by rfl) (by rfl) dL_type_0 ?_
  refine J_iconst (nI 0) (by decide) dL_type_1 ?_
  refine J_aload_n (by rfl) (by rfl) dL_type_2 ?_
  refine J_iload_n (by rfl) dL_type_3 ?_
  refine J_V1vx (ci := 10) dL_type_4 s_L_117 m_X10_type rfl (by repeat (first | assumption | exact jget_same2 (by (try simp only [List.length_set]); exact jlt (by assumption)) | refine jget_ne (by first | decide | assumption | omega) ?_)) rfl (hc _ (fun v h' f ho hq => jKx_i ?_) (fun E h' hx => jKx_x ?_))
  · refine J_i2l dL_type_7 ?_
    refine J_last (0) dL_type_8 (by repeat (first | assumption | exact jget_same2 (by (try simp only [List.length_set]); exact jlt (by assumption)) | refine jget_ne (by first | decide | assumption | omega) ?_)) (by first | rfl | (simp only [pk_mul, nI_add]; done) | (simp only [pk_mul, nI_add]; congr 1; omega) | (congr 1; omega)) (by omega) ?_
    refine J_goto 15 dL_type_9 (by decide) ?_
    refine J_iconst (nI 0) (by decide) dL_type_15 ?_
    exact J_ireturn dL_type_16 rfl (hq) (by decide) (by decide) (fun q => by cases q)
  · rcases hx with ⟨rfl, hq⟩
    · refine JX_catch [] ⟨0, 9, 12, 15⟩ [] 3 1 rfl rfl (by intro z hz; cases hz) (by decide) (by decide) c_L_15 (by decide) (.inl ⟨3, rfl, rfl, dL_type_12⟩) (by decide) ?_
      refine J_iconst (nI 1) (by decide) dL_type_13 ?_
      exact J_ireturn dL_type_14 rfl (hq) (by decide) (by decide) (fun q => by cases q)
theorem w_errorPosition {vs : List Value} (c0 : h[0]? = some (.inr (10, vs)))
    (hc : ∀ Q' : jQ_, (∀ (v : Int32) h' (f : Nat → Int64), h'[125]? = some (.inl (3, 1, .inr (.inl (f)))) → Q (.inl (some (.int (nI 0)))) (h'.set 125 (.inl (3, 1, .inr (.inl (vp_updL f 0 (v.toInt64)))))) → Q' (.inl (some (.int v))) h') → (∀ E h', (E = "java/util/NoSuchElementException" ∧ Q (.inl (some (.int (nI 1)))) h') → Q' (.inr E) h') → jCT G M_X10_errorPosition 7 1 6 false [.ref 0] h Q') : jCT G M_L_errorPosition 8 1 6 false [.ref 0, .ref 125] h Q := by
  refine jCT_ofH [some (.ref 0), some (.ref 125), none]  1 rfl (by decide +kernel) rfl rfl ?_
  refine J_aload_n (by rfl) (by rfl) dL_errorPosition_0 ?_
  refine J_iconst (nI 0) (by decide) dL_errorPosition_1 ?_
  refine J_aload_n (by rfl) (by rfl) dL_errorPosition_2 ?_
  refine J_V0vx (ci := 10) dL_errorPosition_3 s_L_124 m_X10_errorPosition rfl (by repeat (first | assumption | exact jget_same2 (by (try simp only [List.length_set]); exact jlt (by assumption)) | refine jget_ne (by first | decide | assumption | omega) ?_)) rfl (hc _ (fun v h' f ho hq => jKx_i ?_) (fun E h' hx => jKx_x ?_))
  · refine J_i2l dL_errorPosition_6 ?_
    refine J_last (0) dL_errorPosition_7 (by repeat (first | assumption | exact jget_same2 (by (try simp only [List.length_set]); exact jlt (by assumption)) | refine jget_ne (by first | decide | assumption | omega) ?_)) (by first | rfl | (simp only [pk_mul, nI_add]; done) | (simp only [pk_mul, nI_add]; congr 1; omega) | (congr 1; omega)) (by omega) ?_
    refine J_goto 14 dL_errorPosition_8 (by decide) ?_
    refine J_iconst (nI 0) (by decide) dL_errorPosition_14 ?_
    exact J_ireturn dL_errorPosition_15 rfl (hq) (by decide) (by decide) (fun q => by cases q)
  · rcases hx with ⟨rfl, hq⟩
    · refine JX_catch [] ⟨0, 8, 11, 26⟩ [] 2 1 rfl rfl (by intro z hz; cases hz) (by decide) (by decide) c_L_26 (by decide) (.inl ⟨2, rfl, rfl, dL_errorPosition_11⟩) (by decide) ?_
      refine J_iconst (nI 1) (by decide) dL_errorPosition_12 ?_
      exact J_ireturn dL_errorPosition_13 rfl (hq) (by decide) (by decide) (fun q => by cases q)
theorem w_failedCommand {vs : List Value} (c0 : h[0]? = some (.inr (10, vs)))
    (hc : ∀ Q' : jQ_, (∀ (v : Int32) h' (f : Nat → Int64), h'[125]? = some (.inl (3, 1, .inr (.inl (f)))) → Q (.inl (some (.int (nI 0)))) (h'.set 125 (.inl (3, 1, .inr (.inl (vp_updL f 0 (v.toInt64)))))) → Q' (.inl (some (.int v))) h') → (∀ E h', (E = "java/util/NoSuchElementException" ∧ Q (.inl (some (.int (nI 1)))) h') → Q' (.inr E) h') → jCT G M_X10_failedCommand 7 1 6 false [.ref 0] h Q') : jCT G M_L_failedCommand 8 1 6 false [.ref 0, .ref 125] h Q := by
  refine jCT_ofH [some (.ref 0), some (.ref 125), none]  1 rfl (by decide +kernel) rfl rfl ?_
  refine J_aload_n (by rfl) (by rfl) dL_failedCommand_0 ?_
  refine J_iconst (nI 0) (by decide) dL_failedCommand_1 ?_
  refine J_aload_n (by rfl) (by rfl) dL_failedCommand_2 ?_
  refine J_V0vx (ci := 10) dL_failedCommand_3 s_L_127 m_X10_failedCommand rfl (by repeat (first | assumption | exact jget_same2 (by (try simp only [List.length_set]); exact jlt (by assumption)) | refine jget_ne (by first | decide | assumption | omega) ?_)) rfl (hc _ (fun v h' f ho hq => jKx_i ?_) (fun E h' hx => jKx_x ?_))
  · refine J_i2l dL_failedCommand_6 ?_
    refine J_last (0) dL_failedCommand_7 (by repeat (first | assumption | exact jget_same2 (by (try simp only [List.length_set]); exact jlt (by assumption)) | refine jget_ne (by first | decide | assumption | omega) ?_)) (by first | rfl | (simp only [pk_mul, nI_add]; done) | (simp only [pk_mul, nI_add]; congr 1; omega) | (congr 1; omega)) (by omega) ?_
    refine J_goto 14 dL_failedCommand_8 (by decide) ?_
    refine J_iconst (nI 0) (by decide) dL_failedCommand_14 ?_
    exact J_ireturn dL_failedCommand_15 rfl (hq) (by decide) (by decide) (fun q => by cases q)
  · rcases hx with ⟨rfl, hq⟩
    · refine JX_catch [] ⟨0, 8, 11, 26⟩ [] 2 1 rfl rfl (by intro z hz; cases hz) (by decide) (by decide) c_L_26 (by decide) (.inl ⟨2, rfl, rfl, dL_failedCommand_11⟩) (by decide) ?_
      refine J_iconst (nI 1) (by decide) dL_failedCommand_12 ?_
      exact J_ireturn dL_failedCommand_13 rfl (hq) (by decide) (by decide) (fun q => by cases q)
theorem w_undo {vs : List Value} (c0 : h[0]? = some (.inr (10, vs)))
    (hc : ∀ Q' : jQ_, (∀ (v : Int32) h' (f : Nat → Int64), h'[125]? = some (.inl (3, 1, .inr (.inl (f)))) → Q (.inl (some (.int (nI 0)))) (h'.set 125 (.inl (3, 1, .inr (.inl (vp_updL f 0 (v.toInt64)))))) → Q' (.inl (some (.int v))) h') → (∀ E h', (E = "java/lang/IllegalStateException" ∧ Q (.inl (some (.int (nI 1)))) h') → Q' (.inr E) h') → jCT G M_X10_undo 7 1 6 false [.ref 0] h Q') : jCT G M_L_undo 8 1 6 false [.ref 0, .ref 125] h Q := by
  refine jCT_ofH [some (.ref 0), some (.ref 125), none]  1 rfl (by decide +kernel) rfl rfl ?_
  refine J_aload_n (by rfl) (by rfl) dL_undo_0 ?_
  refine J_iconst (nI 0) (by decide) dL_undo_1 ?_
  refine J_aload_n (by rfl) (by rfl) dL_undo_2 ?_
  refine J_V0vx (ci := 10) dL_undo_3 s_L_130 m_X10_undo rfl (by repeat (first | assumption | exact jget_same2 (by (try simp only [List.length_set]); exact jlt (by assumption)) | refine jget_ne (by first | decide | assumption | omega) ?_)) rfl (hc _ (fun v h' f ho hq => jKx_i ?_) (fun E h' hx => jKx_x ?_))
  · refine J_i2l dL_undo_6 ?_
    refine J_last (0) dL_undo_7 (by repeat (first | assumption | exact jget_same2 (by (try simp only [List.length_set]); exact jlt (by assumption)) | refine jget_ne (by first | decide | assumption | omega) ?_)) (by first | rfl | (simp only [pk_mul, nI_add]; done) | (simp only [pk_mul, nI_add]; congr 1; omega) | (congr 1; omega)) (by omega) ?_
    refine J_goto 14 dL_undo_8 (by decide) ?_
    refine J_iconst (nI 0) (by decide) dL_undo_14 ?_
    exact J_ireturn dL_undo_15 rfl (hq) (by decide) (by decide) (fun q => by cases q)
  · rcases hx with ⟨rfl, hq⟩
    · refine JX_catch [] ⟨0, 8, 11, 15⟩ [] 2 1 rfl rfl (by intro z hz; cases hz) (by decide) (by decide) c_L_15 (by decide) (.inl ⟨2, rfl, rfl, dL_undo_11⟩) (by decide) ?_
      refine J_iconst (nI 1) (by decide) dL_undo_12 ?_
      exact J_ireturn dL_undo_13 rfl (hq) (by decide) (by decide) (fun q => by cases q)
theorem w_restore {vs : List Value} (c0 : h[0]? = some (.inr (10, vs)))
    (hc : ∀ Q' : jQ_, (∀ (v : Int32) h' (f : Nat → Int64), h'[125]? = some (.inl (3, 1, .inr (.inl (f)))) → Q (.inl (some (.int (nI 0)))) (h'.set 125 (.inl (3, 1, .inr (.inl (vp_updL f 0 (v.toInt64)))))) → Q' (.inl (some (.int v))) h') → (∀ E h', (E = "java/lang/IllegalStateException" ∧ Q (.inl (some (.int (nI 1)))) h') → Q' (.inr E) h') → jCT G M_X10_restore 7 1 6 false [.ref 0] h Q') : jCT G M_L_restore 8 1 6 false [.ref 0, .ref 125] h Q := by
  refine jCT_ofH [some (.ref 0), some (.ref 125), none]  1 rfl (by decide +kernel) rfl rfl ?_
  refine J_aload_n (by rfl) (by rfl) dL_restore_0 ?_
  refine J_iconst (nI 0) (by decide) dL_restore_1 ?_
  refine J_aload_n (by rfl) (by rfl) dL_restore_2 ?_
  refine J_V0vx (ci := 10) dL_restore_3 s_L_133 m_X10_restore rfl (by repeat (first | assumption | exact jget_same2 (by (try simp only [List.length_set]); exact jlt (by assumption)) | refine jget_ne (by first | decide | assumption | omega) ?_)) rfl (hc _ (fun v h' f ho hq => jKx_i ?_) (fun E h' hx => jKx_x ?_))
  · refine J_i2l dL_restore_6 ?_
    refine J_last (0) dL_restore_7 (by repeat (first | assumption | exact jget_same2 (by (try simp only [List.length_set]); exact jlt (by assumption)) | refine jget_ne (by first | decide | assumption | omega) ?_)) (by first | rfl | (simp only [pk_mul, nI_add]; done) | (simp only [pk_mul, nI_add]; congr 1; omega) | (congr 1; omega)) (by omega) ?_
    refine J_goto 14 dL_restore_8 (by decide) ?_
    refine J_iconst (nI 0) (by decide) dL_restore_14 ?_
    exact J_ireturn dL_restore_15 rfl (hq) (by decide) (by decide) (fun q => by cases q)
  · rcases hx with ⟨rfl, hq⟩
    · refine JX_catch [] ⟨0, 8, 11, 15⟩ [] 2 1 rfl rfl (by intro z hz; cases hz) (by decide) (by decide) c_L_15 (by decide) (.inl ⟨2, rfl, rfl, dL_restore_11⟩) (by decide) ?_
      refine J_iconst (nI 1) (by decide) dL_restore_12 ?_
      exact J_ireturn dL_restore_13 rfl (hq) (by decide) (by decide) (fun q => by cases q)
theorem w_hasTrail (x y : Int32){vs : List Value} (c0 : h[0]? = some (.inr (10, vs)))
    (hc : ∀ Q' : jQ_, (∀ (v : Bool) h' (f : Nat → Int64), h'[125]? = some (.inl (3, 1, .inr (.inl (f)))) → Q (.inl (some (.int (nI 0)))) (h'.set 125 (.inl (3, 1, .inr (.inl (vp_updL f 0 (if v = true then 1 else 0)))))) → Q' (.inl (some (.int (jb v)))) h') → (∀ E h', (E = "java/lang/IndexOutOfBoundsException" ∧ Q (.inl (some (.int (nI 1)))) h') → Q' (.inr E) h') → jCT G M_X10_hasTrail 7 2 12 false [.ref 0, .int x, .int y] h Q') : jCT G M_L_hasTrail 8 2 12 false [.ref 0, .int x, .int y, .ref 125] h Q := by
  refine jCT_ofH [some (.ref 0), some (.int x), some (.int y), some (.ref 125), none]  1 rfl (by decide +kernel) rfl rfl ?_
  refine J_aload_n (by rfl) (by rfl) dL_hasTrail_0 ?_
  refine J_iconst (nI 0) (by decide) dL_hasTrail_1 ?_
  refine J_aload_n (by rfl) (by rfl) dL_hasTrail_2 ?_
  refine J_iload_n (by rfl) dL_hasTrail_3 ?_
  refine J_iload_n (by rfl) dL_hasTrail_4 ?_
  refine J_V2vx (ci := 10) dL_hasTrail_5 s_L_60 m_X10_hasTrail rfl (by repeat (first | assumption | exact jget_same2 (by (try simp only [List.length_set]); exact jlt (by assumption)) | refine jget_ne (by first | decide | assumption | omega) ?_)) rfl (hc _ (fun v h' f ho hq => jKx_i ?_) (fun E h' hx => jKx_x ?_))
  · refine J_if_eq_b 15 dL_hasTrail_8 (by decide) (fun c8 => ?_) (fun c8 => ?_)
    · subst c8
      refine J_lconst (lN 0) (by decide) dL_hasTrail_15 ?_
      refine J_last (0) dL_hasTrail_16 (by repeat (first | assumption | exact jget_same2 (by (try simp only [List.length_set]); exact jlt (by assumption)) | refine jget_ne (by first | decide | assumption | omega) ?_)) (by first | rfl | (simp only [pk_mul, nI_add]; done) | (simp only [pk_mul, nI_add]; congr 1; omega) | (congr 1; omega)) (by omega) ?_
      refine J_goto 24 dL_hasTrail_17 (by decide) ?_
      refine J_iconst (nI 0) (by decide) dL_hasTrail_24 ?_
      exact J_ireturn dL_hasTrail_25 rfl (hq) (by decide) (by decide) (fun q => by cases q)
    · subst c8
      refine J_lconst (lN 1) (by decide) dL_hasTrail_11 ?_
      refine J_goto 16 dL_hasTrail_12 (by decide) ?_
      refine J_last (0) dL_hasTrail_16 (by repeat (first | assumption | exact jget_same2 (by (try simp only [List.length_set]); exact jlt (by assumption)) | refine jget_ne (by first | decide | assumption | omega) ?_)) (by first | rfl | (simp only [pk_mul, nI_add]; done) | (simp only [pk_mul, nI_add]; congr 1; omega) | (congr 1; omega)) (by omega) ?_
      refine J_goto 24 dL_hasTrail_17 (by decide) ?_
      refine J_iconst (nI 0) (by decide) dL_hasTrail_24 ?_
      exact J_ireturn dL_hasTrail_25 rfl (hq) (by decide) (by decide) (fun q => by cases q)
  · rcases hx with ⟨rfl, hq⟩
    · refine JX_catch [] ⟨0, 17, 20, 20⟩ [] 4 2 rfl rfl (by intro z hz; cases hz) (by decide) (by decide) c_L_20 (by decide) (.inr ⟨rfl, dL_hasTrail_20⟩) (by decide) ?_
      refine J_iconst (nI 1) (by decide) dL_hasTrail_22 ?_
      exact J_ireturn dL_hasTrail_23 rfl (hq) (by decide) (by decide) (fun q => by cases q)
theorem w_nearest (x y : Int32){vs : List Value} (c0 : h[0]? = some (.inr (10, vs)))
    (hc : ∀ Q' : jQ_, (∀ (v : Int32) h' (f : Nat → Int64), h'[125]? = some (.inl (3, 1, .inr (.inl (f)))) → Q (.inl (some (.int (nI 0)))) (h'.set 125 (.inl (3, 1, .inr (.inl (vp_updL f 0 (v.toInt64)))))) → Q' (.inl (some (.int v))) h') → (∀ E h', (E = "java/lang/IllegalArgumentException" ∧ Q (.inl (some (.int (nI 1)))) h') ∨ (E = "java/util/NoSuchElementException" ∧ Q (.inl (some (.int (nI 2)))) h') → Q' (.inr E) h') → jCT G M_X10_nearest 7 2 12 false [.ref 0, .int x, .int y] h Q') : jCT G M_L_nearest 8 2 12 false [.ref 0, .int x, .int y, .ref 125] h Q := by
  refine jCT_ofH [some (.ref 0), some (.int x), some (.int y), some (.ref 125), none]  1 rfl (by decide +kernel) rfl rfl ?_
  refine J_aload_n (by rfl) (by rfl) dL_nearest_0 ?_
  refine J_iconst (nI 0) (by decide) dL_nearest_1 ?_
  refine J_aload_n (by rfl) (by rfl) dL_nearest_2 ?_
  refine J_iload_n (by rfl) dL_nearest_3 ?_
  refine J_iload_n (by rfl) dL_nearest_4 ?_
  refine J_V2vx (ci := 10) dL_nearest_5 s_L_72 m_X10_nearest rfl (by repeat (first | assumption | exact jget_same2 (by (try simp only [List.length_set]); exact jlt (by assumption)) | refine jget_ne (by first | decide | assumption | omega) ?_)) rfl (hc _ (fun v h' f ho hq => jKx_i ?_) (fun E h' hx => jKx_x ?_))
  · refine J_i2l dL_nearest_8 ?_
    refine J_last (0) dL_nearest_9 (by repeat (first | assumption | exact jget_same2 (by (try simp only [List.length_set]); exact jlt (by assumption)) | refine jget_ne (by first | decide | assumption | omega) ?_)) (by first | rfl | (simp only [pk_mul, nI_add]; done) | (simp only [pk_mul, nI_add]; congr 1; omega) | (congr 1; omega)) (by omega) ?_
    refine J_goto 21 dL_nearest_10 (by decide) ?_
    refine J_iconst (nI 0) (by decide) dL_nearest_21 ?_
    exact J_ireturn dL_nearest_22 rfl (hq) (by decide) (by decide) (fun q => by cases q)
  · rcases hx with ⟨rfl, hq⟩ | ⟨rfl, hq⟩
    · refine JX_catch [] ⟨0, 10, 13, 13⟩ [⟨0, 10, 17, 26⟩] 4 2 rfl rfl (by intro z hz; cases hz) (by decide) (by decide) c_L_13 (by decide) (.inr ⟨rfl, dL_nearest_13⟩) (by decide) ?_
      refine J_iconst (nI 1) (by decide) dL_nearest_15 ?_
      exact J_ireturn dL_nearest_16 rfl (hq) (by decide) (by decide) (fun q => by cases q)
    · refine JX_catch [⟨0, 10, 13, 13⟩] ⟨0, 10, 17, 26⟩ [] 4 2 rfl rfl (by intro z hz; simp only [List.mem_cons, List.not_mem_nil, or_false] at hz; rcases hz with rfl <;> first | exact .inr ⟨by decide, _, c_L_13, by decide⟩) (by decide) (by decide) c_L_26 (by decide) (.inr ⟨rfl, dL_nearest_17⟩) (by decide) ?_
      refine J_iconst (nI 2) (by decide) dL_nearest_19 ?_
      exact J_ireturn dL_nearest_20 rfl (hq) (by decide) (by decide) (fun q => by cases q)
theorem w_routeWaypoint (x : Int32){vs : List Value} (c0 : h[0]? = some (.inr (10, vs)))
    (hc : ∀ Q' : jQ_, (∀ (v : Int32) h' (f : Nat → Int64), h'[125]? = some (.inl (3, 1, .inr (.inl (f)))) → Q (.inl (some (.int (nI 0)))) (h'.set 125 (.inl (3, 1, .inr (.inl (vp_updL f 0 (v.toInt64)))))) → Q' (.inl (some (.int v))) h') → (∀ E h', (E = "java/lang/IllegalStateException" ∧ Q (.inl (some (.int (nI 1)))) h') ∨ (E = "java/lang/IndexOutOfBoundsException" ∧ Q (.inl (some (.int (nI 2)))) h') → Q' (.inr E) h') → jCT G M_X10_routeWaypoint 7 2 12 false [.ref 0, .int x] h Q') : jCT G M_L_routeWaypoint 8 2 12 false [.ref 0, .int x, .ref 125] h Q := by
  refine jCT_ofH [some (.ref 0), some (.int x), some (.ref 125), none]  1 rfl (by decide +kernel) rfl rfl ?_
  refine J_aload_n (by rfl) (by rfl) dL_routeWaypoint_0 ?_
  refine J_iconst (nI 0) (by decide) dL_routeWaypoint_1 ?_
  refine J_aload_n (by rfl) (by rfl) dL_routeWaypoint_2 ?_
  refine J_iload_n (by rfl) dL_routeWaypoint_3 ?_
  refine J_V1vx (ci := 10) dL_routeWaypoint_4 s_L_78 m_X10_routeWaypoint rfl (by repeat (first | assumption | exact jget_same2 (by (try simp only [List.length_set]); exact jlt (by assumption)) | refine jget_ne (by first | decide | assumption | omega) ?_)) rfl (hc _ (fun v h' f ho hq => jKx_i ?_) (fun E h' hx => jKx_x ?_))
  · refine J_i2l dL_routeWaypoint_7 ?_
    refine J_last (0) dL_routeWaypoint_8 (by repeat (first | assumption | exact jget_same2 (by (try simp only [List.length_set]); exact jlt (by assumption)) | refine jget_ne (by first | decide | assumption | omega) ?_)) (by first | rfl | (simp only [pk_mul, nI_add]; done) | (simp only [pk_mul, nI_add]; congr 1; omega) | (congr 1; omega)) (by omega) ?_
    refine J_goto 18 dL_routeWaypoint_9 (by decide) ?_
    refine J_iconst (nI 0) (by decide) dL_routeWaypoint_18 ?_
    exact J_ireturn dL_routeWaypoint_19 rfl (hq) (by decide) (by decide) (fun q => by cases q)
  · rcases hx with ⟨rfl, hq⟩ | ⟨rfl, hq⟩
    · refine JX_catch [] ⟨0, 9, 12, 15⟩ [⟨0, 9, 15, 20⟩] 3 1 rfl rfl (by intro z hz; cases hz) (by decide) (by decide) c_L_15 (by decide) (.inl ⟨3, rfl, rfl, dL_routeWaypoint_12⟩) (by decide) ?_
      refine J_iconst (nI 1) (by decide) dL_routeWaypoint_13 ?_
      exact J_ireturn dL_routeWaypoint_14 rfl (hq) (by decide) (by decide) (fun q => by cases q)
    · refine JX_catch [⟨0, 9, 12, 15⟩] ⟨0, 9, 15, 20⟩ [] 3 1 rfl rfl (by intro z hz; simp only [List.mem_cons, List.not_mem_nil, or_false] at hz; rcases hz with rfl <;> first | exact .inr ⟨by decide, _, c_L_15, by decide⟩) (by decide) (by decide) c_L_20 (by decide) (.inl ⟨3, rfl, rfl, dL_routeWaypoint_15⟩) (by decide) ?_
      refine J_iconst (nI 2) (by decide) dL_routeWaypoint_16 ?_
      exact J_ireturn dL_routeWaypoint_17 rfl (hq) (by decide) (by decide) (fun q => by cases q)
theorem w_forecast (x y : Int32){vs : List Value} (c0 : h[0]? = some (.inr (10, vs)))
    (hc : ∀ Q' : jQ_, (∀ (v : Int32) h' (f : Nat → Int64), h'[125]? = some (.inl (3, 1, .inr (.inl (f)))) → Q (.inl (some (.int (nI 0)))) (h'.set 125 (.inl (3, 1, .inr (.inl (vp_updL f 0 (v.toInt64)))))) → Q' (.inl (some (.int v))) h') → (∀ E h', (E = "java/lang/IllegalArgumentException" ∧ Q (.inl (some (.int (nI 1)))) h') ∨ (E = "java/lang/IllegalStateException" ∧ Q (.inl (some (.int (nI 2)))) h') → Q' (.inr E) h') → jCT G M_X10_forecast 7 2 12 false [.ref 0, .int x, .int y] h Q') : jCT G M_L_forecast 8 2 12 false [.ref 0, .int x, .int y, .ref 125] h Q := by
  refine jCT_ofH [some (.ref 0), some (.int x), some (.int y), some (.ref 125), none]  1 rfl (by decide +kernel) rfl rfl ?_
  refine J_aload_n (by rfl) (by rfl) dL_forecast_0 ?_
  refine J_iconst (nI 0) (by decide) dL_forecast_1 ?_
  refine J_aload_n (by rfl) (by rfl) dL_forecast_2 ?_
  refine J_iload_n (by rfl) dL_forecast_3 ?_
  refine J_iload_n (by rfl) dL_forecast_4 ?_
  refine J_V2vx (ci := 10) dL_forecast_5 s_L_97 m_X10_forecast rfl (by repeat (first | assumption | exact jget_same2 (by (try simp only [List.length_set]); exact jlt (by assumption)) | refine jget_ne (by first | decide | assumption | omega) ?_)) rfl (hc _ (fun v h' f ho hq => jKx_i ?_) (fun E h' hx => jKx_x ?_))
  · refine J_i2l dL_forecast_8 ?_
    refine J_last (0) dL_forecast_9 (by repeat (first | assumption | exact jget_same2 (by (try simp only [List.length_set]); exact jlt (by assumption)) | refine jget_ne (by first | decide | assumption | omega) ?_)) (by first | rfl | (simp only [pk_mul, nI_add]; done) | (simp only [pk_mul, nI_add]; congr 1; omega) | (congr 1; omega)) (by omega) ?_
    refine J_goto 21 dL_forecast_10 (by decide) ?_
    refine J_iconst (nI 0) (by decide) dL_forecast_21 ?_
    exact J_ireturn dL_forecast_22 rfl (hq) (by decide) (by decide) (fun q => by cases q)
  · rcases hx with ⟨rfl, hq⟩ | ⟨rfl, hq⟩
    · refine JX_catch [] ⟨0, 10, 13, 13⟩ [⟨0, 10, 17, 15⟩] 4 2 rfl rfl (by intro z hz; cases hz) (by decide) (by decide) c_L_13 (by decide) (.inr ⟨rfl, dL_forecast_13⟩) (by decide) ?_
      refine J_iconst (nI 1) (by decide) dL_forecast_15 ?_
      exact J_ireturn dL_forecast_16 rfl (hq) (by decide) (by decide) (fun q => by cases q)
    · refine JX_catch [⟨0, 10, 13, 13⟩] ⟨0, 10, 17, 15⟩ [] 4 2 rfl rfl (by intro z hz; simp only [List.mem_cons, List.not_mem_nil, or_false] at hz; rcases hz with rfl <;> first | exact .inr ⟨by decide, _, c_L_13, by decide⟩) (by decide) (by decide) c_L_15 (by decide) (.inr ⟨rfl, dL_forecast_17⟩) (by decide) ?_
      refine J_iconst (nI 2) (by decide) dL_forecast_19 ?_
      exact J_ireturn dL_forecast_20 rfl (hq) (by decide) (by decide) (fun q => by cases q)
theorem w_trailLength (x y : Int32){vs : List Value} (c0 : h[0]? = some (.inr (10, vs)))
    (hc : ∀ Q' : jQ_, (∀ (v : Int32) h' (f : Nat → Int64), h'[125]? = some (.inl (3, 1, .inr (.inl (f)))) → Q (.inl (some (.int (nI 0)))) (h'.set 125 (.inl (3, 1, .inr (.inl (vp_updL f 0 (v.toInt64)))))) → Q' (.inl (some (.int v))) h') → (∀ E h', (E = "java/lang/IndexOutOfBoundsException" ∧ Q (.inl (some (.int (nI 1)))) h') ∨ (E = "java/util/NoSuchElementException" ∧ Q (.inl (some (.int (nI 2)))) h') → Q' (.inr E) h') → jCT G M_X10_trailLength 7 3 18 false [.ref 0, .int x, .int y] h Q') : jCT G M_L_trailLength 8 3 18 false [.ref 0, .int x, .int y, .ref 125] h Q := by
  refine jCT_ofH [some (.ref 0), some (.int x), some (.int y), some (.ref 125), none]  1 rfl (by decide +kernel) rfl rfl ?_
  refine J_aload_n (by rfl) (by rfl) dL_trailLength_0 ?_
  refine J_iconst (nI 0) (by decide) dL_trailLength_1 ?_
  refine J_aload_n (by rfl) (by rfl) dL_trailLength_2 ?_
  refine J_iload_n (by rfl) dL_trailLength_3 ?_
  refine J_iload_n (by rfl) dL_trailLength_4 ?_
  refine J_V2vx (ci := 10) dL_trailLength_5 s_L_63 m_X10_trailLength rfl (by repeat (first | assumption | exact jget_same2 (by (try simp only [List.length_set]); exact jlt (by assumption)) | refine jget_ne (by first | decide | assumption | omega) ?_)) rfl (hc _ (fun v h' f ho hq => jKx_i ?_) (fun E h' hx => jKx_x ?_))
  · refine J_i2l dL_trailLength_8 ?_
    refine J_last (0) dL_trailLength_9 (by repeat (first | assumption | exact jget_same2 (by (try simp only [List.length_set]); exact jlt (by assumption)) | refine jget_ne (by first | decide | assumption | omega) ?_)) (by first | rfl | (simp only [pk_mul, nI_add]; done) | (simp only [pk_mul, nI_add]; congr 1; omega) | (congr 1; omega)) (by omega) ?_
    refine J_goto 21 dL_trailLength_10 (by decide) ?_
    refine J_iconst (nI 0) (by decide) dL_trailLength_21 ?_
    exact J_ireturn dL_trailLength_22 rfl (hq) (by decide) (by decide) (fun q => by cases q)
  · rcases hx with ⟨rfl, hq⟩ | ⟨rfl, hq⟩
    · refine JX_catch [] ⟨0, 10, 13, 20⟩ [⟨0, 10, 17, 26⟩] 4 2 rfl rfl (by intro z hz; cases hz) (by decide) (by decide) c_L_20 (by decide) (.inr ⟨rfl, dL_trailLength_13⟩) (by decide) ?_
      refine J_iconst (nI 1) (by decide) dL_trailLength_15 ?_
      exact J_ireturn dL_trailLength_16 rfl (hq) (by decide) (by decide) (fun q => by cases q)
    · refine JX_catch [⟨0, 10, 13, 20⟩] ⟨0, 10, 17, 26⟩ [] 4 2 rfl rfl (by intro z hz; simp only [List.mem_cons, List.not_mem_nil, or_false] at hz; rcases hz with rfl <;> first | exact .inr ⟨by decide, _, c_L_20, by decide⟩) (by decide) (by decide) c_L_26 (by decide) (.inr ⟨rfl, dL_trailLength_17⟩) (by decide) ?_
      refine J_iconst (nI 2) (by decide) dL_trailLength_19 ?_
      exact J_ireturn dL_trailLength_20 rfl (hq) (by decide) (by decide) (fun q => by cases q)
theorem w_distance (x y : Int32){vs : List Value} (c0 : h[0]? = some (.inr (10, vs)))
    (hc : ∀ Q' : jQ_, (∀ (v : Int32) h' (f : Nat → Int64), h'[125]? = some (.inl (3, 1, .inr (.inl (f)))) → Q (.inl (some (.int (nI 0)))) (h'.set 125 (.inl (3, 1, .inr (.inl (vp_updL f 0 (v.toInt64)))))) → Q' (.inl (some (.int v))) h') → (∀ E h', (E = "java/lang/IndexOutOfBoundsException" ∧ Q (.inl (some (.int (nI 1)))) h') ∨ (E = "java/util/NoSuchElementException" ∧ Q (.inl (some (.int (nI 2)))) h') → Q' (.inr E) h') → jCT G M_X10_distance 7 3 18 false [.ref 0, .int x, .int y] h Q') : jCT G M_L_distance 8 3 18 false [.ref 0, .int x, .int y, .ref 125] h Q := by
  refine jCT_ofH [some (.ref 0), some (.int x), some (.int y), some (.ref 125), none]  1 rfl (by decide +kernel) rfl rfl ?_
  refine J_aload_n (by rfl) (by rfl) dL_distance_0 ?_
  refine J_iconst (nI 0) (by decide) dL_distance_1 ?_
  refine J_aload_n (by rfl) (by rfl) dL_distance_2 ?_
  refine J_iload_n (by rfl) dL_distance_3 ?_
  refine J_iload_n (by rfl) dL_distance_4 ?_
  refine J_V2vx (ci := 10) dL_distance_5 s_L_66 m_X10_distance rfl (by repeat (first | assumption | exact jget_same2 (by (try simp only [List.length_set]); exact jlt (by assumption)) | refine jget_ne (by first | decide | assumption | omega) ?_)) rfl (hc _ (fun v h' f ho hq => jKx_i ?_) (fun E h' hx => jKx_x ?_))
  · refine J_i2l dL_distance_8 ?_
    refine J_last (0) dL_distance_9 (by repeat (first | assumption | exact jget_same2 (by (try simp only [List.length_set]); exact jlt (by assumption)) | refine jget_ne (by first | decide | assumption | omega) ?_)) (by first | rfl | (simp only [pk_mul, nI_add]; done) | (simp only [pk_mul, nI_add]; congr 1; omega) | (congr 1; omega)) (by omega) ?_
    refine J_goto 21 dL_distance_10 (by decide) ?_
    refine J_iconst (nI 0) (by decide) dL_distance_21 ?_
    exact J_ireturn dL_distance_22 rfl (hq) (by decide) (by decide) (fun q => by cases q)
  · rcases hx with ⟨rfl, hq⟩ | ⟨rfl, hq⟩
    · refine JX_catch [] ⟨0, 10, 13, 20⟩ [⟨0, 10, 17, 26⟩] 4 2 rfl rfl (by intro z hz; cases hz) (by decide) (by decide) c_L_20 (by decide) (.inr ⟨rfl, dL_distance_13⟩) (by decide) ?_
      refine J_iconst (nI 1) (by decide) dL_distance_15 ?_
      exact J_ireturn dL_distance_16 rfl (hq) (by decide) (by decide) (fun q => by cases q)
    · refine JX_catch [⟨0, 10, 13, 20⟩] ⟨0, 10, 17, 26⟩ [] 4 2 rfl rfl (by intro z hz; simp only [List.mem_cons, List.not_mem_nil, or_false] at hz; rcases hz with rfl <;> first | exact .inr ⟨by decide, _, c_L_20, by decide⟩) (by decide) (by decide) c_L_26 (by decide) (.inr ⟨rfl, dL_distance_17⟩) (by decide) ?_
      refine J_iconst (nI 2) (by decide) dL_distance_19 ?_
      exact J_ireturn dL_distance_20 rfl (hq) (by decide) (by decide) (fun q => by cases q)
theorem w_distanceByRelaxation (x y : Int32){vs : List Value} (c0 : h[0]? = some (.inr (10, vs)))
    (hc : ∀ Q' : jQ_, (∀ (v : Int32) h' (f : Nat → Int64), h'[125]? = some (.inl (3, 1, .inr (.inl (f)))) → Q (.inl (some (.int (nI 0)))) (h'.set 125 (.inl (3, 1, .inr (.inl (vp_updL f 0 (v.toInt64)))))) → Q' (.inl (some (.int v))) h') → (∀ E h', (E = "java/lang/IndexOutOfBoundsException" ∧ Q (.inl (some (.int (nI 1)))) h') ∨ (E = "java/util/NoSuchElementException" ∧ Q (.inl (some (.int (nI 2)))) h') → Q' (.inr E) h') → jCT G M_X10_distanceByRelaxation 7 3 18 false [.ref 0, .int x, .int y] h Q') : jCT G M_L_distanceByRelaxation 8 3 18 false [.ref 0, .int x, .int y, .ref 125] h Q := by
  refine jCT_ofH [some (.ref 0), some (.int x), some (.int y), some (.ref 125), none]  1 rfl (by decide +kernel) rfl rfl ?_
  refine J_aload_n (by rfl) (by rfl) dL_distanceByRelaxation_0 ?_
  refine J_iconst (nI 0) (by decide) dL_distanceByRelaxation_1 ?_
  refine J_aload_n (by rfl) (by rfl) dL_distanceByRelaxation_2 ?_
  refine J_iload_n (by rfl) dL_distanceByRelaxation_3 ?_
  refine J_iload_n (by rfl) dL_distanceByRelaxation_4 ?_
  refine J_V2vx (ci := 10) dL_distanceByRelaxation_5 s_L_69 m_X10_distanceByRelaxation rfl (by repeat (first | assumption | exact jget_same2 (by (try simp only [List.length_set]); exact jlt (by assumption)) | refine jget_ne (by first | decide | assumption | omega) ?_)) rfl (hc _ (fun v h' f ho hq => jKx_i ?_) (fun E h' hx => jKx_x ?_))
  · refine J_i2l dL_distanceByRelaxation_8 ?_
    refine J_last (0) dL_distanceByRelaxation_9 (by repeat (first | assumption | exact jget_same2 (by (try simp only [List.length_set]); exact jlt (by assumption)) | refine jget_ne (by first | decide | assumption | omega) ?_)) (by first | rfl | (simp only [pk_mul, nI_add]; done) | (simp only [pk_mul, nI_add]; congr 1; omega) | (congr 1; omega)) (by omega) ?_
    refine J_goto 21 dL_distanceByRelaxation_10 (by decide) ?_
    refine J_iconst (nI 0) (by decide) dL_distanceByRelaxation_21 ?_
    exact J_ireturn dL_distanceByRelaxation_22 rfl (hq) (by decide) (by decide) (fun q => by cases q)
  · rcases hx with ⟨rfl, hq⟩ | ⟨rfl, hq⟩
    · refine JX_catch [] ⟨0, 10, 13, 20⟩ [⟨0, 10, 17, 26⟩] 4 2 rfl rfl (by intro z hz; cases hz) (by decide) (by decide) c_L_20 (by decide) (.inr ⟨rfl, dL_distanceByRelaxation_13⟩) (by decide) ?_
      refine J_iconst (nI 1) (by decide) dL_distanceByRelaxation_15 ?_
      exact J_ireturn dL_distanceByRelaxation_16 rfl (hq) (by decide) (by decide) (fun q => by cases q)
    · refine JX_catch [⟨0, 10, 13, 20⟩] ⟨0, 10, 17, 26⟩ [] 4 2 rfl rfl (by intro z hz; simp only [List.mem_cons, List.not_mem_nil, or_false] at hz; rcases hz with rfl <;> first | exact .inr ⟨by decide, _, c_L_20, by decide⟩) (by decide) (by decide) c_L_26 (by decide) (.inr ⟨rfl, dL_distanceByRelaxation_17⟩) (by decide) ?_
      refine J_iconst (nI 2) (by decide) dL_distanceByRelaxation_19 ?_
      exact J_ireturn dL_distanceByRelaxation_20 rfl (hq) (by decide) (by decide) (fun q => by cases q)
theorem w_turn (x : Int32){vs : List Value} (c0 : h[0]? = some (.inr (10, vs)))
    (hc : ∀ Q' : jQ_, (∀ (v : Int32) h' (f : Nat → Int64), h'[125]? = some (.inl (3, 1, .inr (.inl (f)))) → Q (.inl (some (.int (nI 0)))) (h'.set 125 (.inl (3, 1, .inr (.inl (vp_updL f 0 (v.toInt64)))))) → Q' (.inl (some (.int v))) h') → (∀ E h', (E = "java/lang/IllegalStateException" ∧ Q (.inl (some (.int (nI 1)))) h') ∨ (E = "java/lang/IndexOutOfBoundsException" ∧ Q (.inl (some (.int (nI 2)))) h') ∨ (E = "java/util/NoSuchElementException" ∧ Q (.inl (some (.int (nI 3)))) h') → Q' (.inr E) h') → jCT G M_X10_turn 7 3 18 false [.ref 0, .int x] h Q') : jCT G M_L_turn 8 3 18 false [.ref 0, .int x, .ref 125] h Q := by
  refine jCT_ofH [some (.ref 0), some (.int x), some (.ref 125), none]  1 rfl (by decide +kernel) rfl rfl ?_
  refine J_aload_n (by rfl) (by rfl) dL_turn_0 ?_
  refine J_iconst (nI 0) (by decide) dL_turn_1 ?_
  refine J_aload_n (by rfl) (by rfl) dL_turn_2 ?_
  refine J_iload_n (by rfl) dL_turn_3 ?_
  refine J_V1vx (ci := 10) dL_turn_4 s_L_81 m_X10_turn rfl (by repeat (first | assumption | exact jget_same2 (by (try simp only [List.length_set]); exact jlt (by assumption)) | refine jget_ne (by first | decide | assumption | omega) ?_)) rfl (hc _ (fun v h' f ho hq => jKx_i ?_) (fun E h' hx => jKx_x ?_))
  · refine J_i2l dL_turn_7 ?_
    refine J_last (0) dL_turn_8 (by repeat (first | assumption | exact jget_same2 (by (try simp only [List.length_set]); exact jlt (by assumption)) | refine jget_ne (by first | decide | assumption | omega) ?_)) (by first | rfl | (simp only [pk_mul, nI_add]; done) | (simp only [pk_mul, nI_add]; congr 1; omega) | (congr 1; omega)) (by omega) ?_
    refine J_goto 21 dL_turn_9 (by decide) ?_
    refine J_iconst (nI 0) (by decide) dL_turn_21 ?_
    exact J_ireturn dL_turn_22 rfl (hq) (by decide) (by decide) (fun q => by cases q)
  · rcases hx with ⟨rfl, hq⟩ | ⟨rfl, hq⟩ | ⟨rfl, hq⟩
    · refine JX_catch [] ⟨0, 9, 12, 15⟩ [⟨0, 9, 15, 20⟩, ⟨0, 9, 18, 26⟩] 3 1 rfl rfl (by intro z hz; cases hz) (by decide) (by decide) c_L_15 (by decide) (.inl ⟨3, rfl, rfl, dL_turn_12⟩) (by decide) ?_
      refine J_iconst (nI 1) (by decide) dL_turn_13 ?_
      exact J_ireturn dL_turn_14 rfl (hq) (by decide) (by decide) (fun q => by cases q)
    · refine JX_catch [⟨0, 9, 12, 15⟩] ⟨0, 9, 15, 20⟩ [⟨0, 9, 18, 26⟩] 3 1 rfl rfl (by intro z hz; simp only [List.mem_cons, List.not_mem_nil, or_false] at hz; rcases hz with rfl <;> first | exact .inr ⟨by decide, _, c_L_15, by decide⟩) (by decide) (by decide) c_L_20 (by decide) (.inl ⟨3, rfl, rfl, dL_turn_15⟩) (by decide) ?_
      refine J_iconst (nI 2) (by decide) dL_turn_16 ?_
      exact J_ireturn dL_turn_17 rfl (hq) (by decide) (by decide) (fun q => by cases q)
    · refine JX_catch [⟨0, 9, 12, 15⟩, ⟨0, 9, 15, 20⟩] ⟨0, 9, 18, 26⟩ [] 3 1 rfl rfl (by intro z hz; simp only [List.mem_cons, List.not_mem_nil, or_false] at hz; rcases hz with rfl | rfl <;> first | exact .inr ⟨by decide, _, c_L_15, by decide⟩ | exact .inr ⟨by decide, _, c_L_20, by decide⟩) (by decide) (by decide) c_L_26 (by decide) (.inl ⟨3, rfl, rfl, dL_turn_18⟩) (by decide) ?_
      refine J_iconst (nI 3) (by decide) dL_turn_19 ?_
      exact J_ireturn dL_turn_20 rfl (hq) (by decide) (by decide) (fun q => by cases q)
theorem w_run {vs : List Value} (c0 : h[0]? = some (.inr (10, vs)))
    (hc : ∀ Q' : jQ_, (∀ (v : Int32) h' (f : Nat → Int64), h'[125]? = some (.inl (3, 1, .inr (.inl (f)))) → Q (.inl (some (.int (nI 0)))) (h'.set 125 (.inl (3, 1, .inr (.inl (vp_updL f 0 (v.toInt64)))))) → Q' (.inl (some (.int v))) h') → (∀ E h', (E = "java/lang/IllegalArgumentException" ∧ Q (.inl (some (.int (nI 1)))) h') ∨ (E = "java/lang/UnsupportedOperationException" ∧ Q (.inl (some (.int (nI 2)))) h') → Q' (.inr E) h') → jCT G M_X10_run 9 1 6 false [.ref 0] h Q') : jCT G M_L_run 10 1 6 false [.ref 0, .ref 125] h Q := by
  refine jCT_ofH [some (.ref 0), some (.ref 125), none]  1 rfl (by decide +kernel) rfl rfl ?_
  refine J_aload_n (by rfl) (by rfl) dL_run_0 ?_
  refine J_iconst (nI 0) (by decide) dL_run_1 ?_
  refine J_aload_n (by rfl) (by rfl) dL_run_2 ?_
  refine J_V0vx (ci := 10) dL_run_3 s_L_121 m_X10_run rfl (by repeat (first | assumption | exact jget_same2 (by (try simp only [List.length_set]); exact jlt (by assumption)) | refine jget_ne (by first | decide | assumption | omega) ?_)) rfl (hc _ (fun v h' f ho hq => jKx_i ?_) (fun E h' hx => jKx_x ?_))
  · refine J_i2l dL_run_6 ?_
    refine J_last (0) dL_run_7 (by repeat (first | assumption | exact jget_same2 (by (try simp only [List.length_set]); exact jlt (by assumption)) | refine jget_ne (by first | decide | assumption | omega) ?_)) (by first | rfl | (simp only [pk_mul, nI_add]; done) | (simp only [pk_mul, nI_add]; congr 1; omega) | (congr 1; omega)) (by omega) ?_
    refine J_goto 17 dL_run_8 (by decide) ?_
    refine J_iconst (nI 0) (by decide) dL_run_17 ?_
    exact J_ireturn dL_run_18 rfl (hq) (by decide) (by decide) (fun q => by cases q)
  · rcases hx with ⟨rfl, hq⟩ | ⟨rfl, hq⟩
    · refine JX_catch [] ⟨0, 8, 11, 13⟩ [⟨0, 8, 14, 39⟩] 2 1 rfl rfl (by intro z hz; cases hz) (by decide) (by decide) c_L_13 (by decide) (.inl ⟨2, rfl, rfl, dL_run_11⟩) (by decide) ?_
      refine J_iconst (nI 1) (by decide) dL_run_12 ?_
      exact J_ireturn dL_run_13 rfl (hq) (by decide) (by decide) (fun q => by cases q)
    · refine JX_catch [⟨0, 8, 11, 13⟩] ⟨0, 8, 14, 39⟩ [] 2 1 rfl rfl (by intro z hz; simp only [List.mem_cons, List.not_mem_nil, or_false] at hz; rcases hz with rfl <;> first | exact .inr ⟨by decide, _, c_L_13, by decide⟩) (by decide) (by decide) c_L_39 (by decide) (.inl ⟨2, rfl, rfl, dL_run_14⟩) (by decide) ?_
      refine J_iconst (nI 2) (by decide) dL_run_15 ?_
      exact J_ireturn dL_run_16 rfl (hq) (by decide) (by decide) (fun q => by cases q)
end WRAP
