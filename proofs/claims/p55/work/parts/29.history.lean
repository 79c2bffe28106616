/-! History: the ring of the states before the latest changes -/
abbrev HQ (h : jH) (P : Nat → Nat) (ch nx : Nat) (f : Nat → Option Nat) : Prop :=
  (h[17]? = some (.inr (2, [.ref 18, .int (nI nx), .int (nI ch)]))) ∧
  (h[18]? = some (hRing f)) ∧
  (nx < 8) ∧
  (ch ≤ 8) ∧
  (∀ j, j < 8 → f j = some (19 + 9 * j)) ∧
  (∀ j, j < 8 → ∃ s, PS (19 + 9 * j) h s) ∧
  (∀ i, i < ch → PS (19 + 9 * ((nx + 8 - ch + i) % 8)) h (fun k => P (204 * i + k)) ∧ P (204 * i + 1) ≤ 12)
theorem HQ.o {h : jH} {P : Nat → Nat} {ch nx : Nat} {f : Nat → Option Nat} (I : HQ h P ch nx f) : h[17]? = some (.inr (2, [.ref 18, .int (nI nx), .int (nI ch)])) := I.1
theorem HQ.r {h : jH} {P : Nat → Nat} {ch nx : Nat} {f : Nat → Option Nat} (I : HQ h P ch nx f) : h[18]? = some (hRing f) := I.2.1
theorem HQ.n8 {h : jH} {P : Nat → Nat} {ch nx : Nat} {f : Nat → Option Nat} (I : HQ h P ch nx f) : nx < 8 := I.2.2.1
theorem HQ.c8 {h : jH} {P : Nat → Nat} {ch nx : Nat} {f : Nat → Option Nat} (I : HQ h P ch nx f) : ch ≤ 8 := I.2.2.2.1
theorem HQ.f8 {h : jH} {P : Nat → Nat} {ch nx : Nat} {f : Nat → Option Nat} (I : HQ h P ch nx f) : ∀ j, j < 8 → f j = some (19 + 9 * j) := I.2.2.2.2.1
theorem HQ.a {h : jH} {P : Nat → Nat} {ch nx : Nat} {f : Nat → Option Nat} (I : HQ h P ch nx f) : ∀ j, j < 8 → ∃ s, PS (19 + 9 * j) h s := I.2.2.2.2.2.1
theorem HQ.p {h : jH} {P : Nat → Nat} {ch nx : Nat} {f : Nat → Option Nat} (I : HQ h P ch nx f) : ∀ i, i < ch → PS (19 + 9 * ((nx + 8 - ch + i) % 8)) h (fun k => P (204 * i + k)) ∧ P (204 * i + 1) ≤ 12 := I.2.2.2.2.2.2
def HS (h : jH) (P : Nat → Nat) (ch : Nat) : Prop := ∃ (nx : Nat) (f : Nat → Option Nat), HQ h P ch nx f
abbrev hC (j : Nat) : Prop := 17 ≤ j ∧ j ≤ 90
theorem HS.frm {C : Nat → Prop} {h h' : jH} {P : Nat → Nat} {ch : Nat} (g : HS h P ch) (hf : jFr C h h') (hc : ∀ j, 17 ≤ j → j ≤ 90 → ¬ C j) : HS h' P ch := by
  obtain ⟨nx, f, o, r, n8, c8, f8, a, p⟩ := g
  refine ⟨nx, f, (hf.2 _ (hc _ (by omega) (by omega))).trans o, (hf.2 _ (hc _ (by omega) (by omega))).trans r, n8, c8, f8, fun j hj => ?_, fun i hi => ⟨(p i hi).1.frm hf (fun j h1 h2 => hc j (by omega) (by omega)), (p i hi).2⟩⟩
  obtain ⟨s, hs⟩ := a j hj
  exact ⟨s, hs.frm hf (fun j h1 h2 => hc j (by omega) (by omega))⟩
theorem PS.at0 {p : Nat} {h : jH} {s : Nat → Nat} (g : PS p h s) : h[p]? = some (.inr (7, [.ref (p + 1), .ref (p + 6), .ref (p + 8)])) := by
  obtain ⟨_, _, _, _, _, _, _, _, q0, _⟩ := g
  exact q0
section HISTORY
variable {G : jG} {X : Bool} {h : jH} {Q : jQ_} {P : Nat → Nat} {ch nx : Nat} {f : Nat → Option Nat} {s : Nat → Nat}
theorem c_X2_slotAt {j : Nat} (hj : j < 8) (g : HQ h P ch nx f) (hQ : Q (.inl (some (.ref (19 + 9 * j)))) h) : jCT G M_X2_slotAt 2 0 0 X [.ref 17, .int (nI j)] h Q := by
  obtain ⟨o, r, n8, c8, f8, a, p⟩ := g
  refine jCT_of [some (.ref 17), some (.int (nI j))] 0 rfl (by decide +kernel) rfl rfl ?_
  refine J_iload_n (by rfl) dX2_slotAt_0 ?_
  refine J_iconst (nI 0) (by decide) dX2_slotAt_1 ?_
  refine J_bipush (nI 7) (by decide) dX2_slotAt_2 ?_
  refine J_SN3v dX2_slotAt_4 s_X2_18 m_X10_isWithin rfl (c_X10_isWithin_n (by omega) (by omega) (jKv_i ?_))
  refine J_if_eq_b 19 dX2_slotAt_7 (by decide) (fun c7 => ?_) (fun c7 => ?_)
  · have c7 : ¬ j ≤ 7 := by simpa using c7
    omega
  · refine J_aload_n (by rfl) (by rfl) dX2_slotAt_10 ?_
    refine J_get dX2_slotAt_11 f_X2_11 (by repeat (first | assumption | exact jget_same2 (by (try simp only [List.length_set]); exact jlt (by assumption)) | refine jget_ne (by first | decide | assumption | omega) ?_)) (by rfl) ?_
    refine J_iload_n (by rfl) dX2_slotAt_14 ?_
    refine J_aald (j) dX2_slotAt_15 (by repeat (first | assumption | exact jget_same2 (by (try simp only [List.length_set]); exact jlt (by assumption)) | refine jget_ne (by first | decide | assumption | omega) ?_)) rfl (by omega) (f8 j hj) ?_
    refine J_goto 20 dX2_slotAt_16 (by decide) ?_
    exact J_areturn dX2_slotAt_20 rfl (Or.inl ⟨_, rfl⟩) rfl (hQ) (by decide) (by decide) (fun _ => rfl)
theorem c_X2_keep (h1 : s 1 ≤ 12) (g : HQ h P ch nx f) (hs : PS 2 h s)
    (hQ : ∀ h', jFr hC h h' → (∀ P', pastN ch P s P' → HS h' P' (min (ch + 1) 8)) → Q (.inl none) h') : jCT G M_X2_keep 4 0 0 X [.ref 17, .ref 2] h Q := by
  have g0 := g
  obtain ⟨o, r, n8, c8, f8, a, p⟩ := g
  refine jCT_of [some (.ref 17), some (.ref 2), none] 1 rfl (by decide +kernel) rfl rfl ?_
  obtain ⟨s0, hs0⟩ := a nx n8
  have hq0 := hs0.at0
  have fin : ∀ h2 nx', nx' = (nx + 1) % 8 → jFr (sC (19 + 9 * nx)) h h2 → PS (19 + 9 * nx) h2 s → Q (.inl none) (h2.set 17 (.inr (2, [.ref 18, .int (nI nx'), .int (nI (min (ch + 1) 8))]))) := by
    intro h2 nx' hnx hf hp
    have hl : 17 < h2.length := by rw [hf.1]; exact jlt o
    have hfs : jFr (fun j => j = 17) h2 (h2.set 17 (.inr (2, [.ref 18, .int (nI nx'), .int (nI (min (ch + 1) 8))]))) := jFr.refl.set 17 _ rfl
    refine hQ _ ((hf.mono (fun j hj => by show 17 ≤ j ∧ j ≤ 90; have := hj.1; have := hj.2; omega)).set 17 _ (by decide)) (fun P' hP' => ⟨nx', f, jget_same2 hl, ?_, by omega, by omega, f8, fun j hj => ?_, fun i hi => ?_⟩)
    · rw [List.getElem?_set_ne (by decide), hf.2 _ (by show ¬ (_ ∧ _); omega)]; exact r
    · by_cases e : j = nx
      · subst e; exact ⟨s, hp.frm hfs (fun k q1 q2 => by omega)⟩
      · obtain ⟨s9, hs9⟩ := a j hj
        exact ⟨s9, (hs9.frm hf (fun k q1 q2 => by show ¬ (_ ∧ _); omega)).frm hfs (fun k q1 q2 => by omega)⟩
    · unfold pastN at hP'
      by_cases e8 : ch = 8
      · rw [if_pos e8] at hP'
        by_cases e7 : i = 7
        · subst e7
          have hx : (nx' + 8 - min (ch + 1) 8 + 7) % 8 = nx := by omega
          rw [hx]
          refine ⟨(hp.frm hfs (fun k q1 q2 => by omega)).ext h1 (fun k hk => hP'.2 k hk), ?_⟩
          have := hP'.2 1 (by omega)
          rw [show 204 * 7 + 1 = 1428 + 1 from rfl, this]; exact h1
        · obtain ⟨q1, q2⟩ := p (i + 1) (by omega)
          have hx : (nx' + 8 - min (ch + 1) 8 + i) % 8 = (nx + 8 - ch + (i + 1)) % 8 := by omega
          have hne : (nx + 8 - ch + (i + 1)) % 8 ≠ nx := by omega
          rw [hx]
          refine ⟨((q1.frm hf (fun k w1 w2 => by show ¬ (_ ∧ _); omega)).frm hfs (fun k w1 w2 => by omega)).ext q2 (fun k hk => hP'.1 i k (by omega) hk), ?_⟩
          rw [hP'.1 i 1 (by omega) (by omega)]; exact q2
      · rw [if_neg e8] at hP'
        by_cases e7 : i = ch
        · subst e7
          have hx : (nx' + 8 - min (i + 1) 8 + i) % 8 = nx := by omega
          rw [hx]
          refine ⟨(hp.frm hfs (fun k q1 q2 => by omega)).ext h1 (fun k hk => hP'.2 k hk), ?_⟩
          rw [hP'.2 1 (by omega)]; exact h1
        · obtain ⟨q1, q2⟩ := p i (by omega)
          have hx : (nx' + 8 - min (ch + 1) 8 + i) % 8 = (nx + 8 - ch + i) % 8 := by omega
          have hne : (nx + 8 - ch + i) % 8 ≠ nx := by omega
          rw [hx]
          refine ⟨((q1.frm hf (fun k w1 w2 => by show ¬ (_ ∧ _); omega)).frm hfs (fun k w1 w2 => by omega)).ext q2 (fun k hk => hP'.1 i k (by omega) hk), ?_⟩
          rw [hP'.1 i 1 (by omega) (by omega)]; exact q2
  refine J_aload_n (by rfl) (by rfl) dX2_keep_0 ?_
  refine J_aload_n (by rfl) (by rfl) dX2_keep_1 ?_
  refine J_get dX2_keep_2 f_X2_22 (by repeat (first | assumption | exact jget_same2 (by (try simp only [List.length_set]); exact jlt (by assumption)) | refine jget_ne (by first | decide | assumption | omega) ?_)) (by rfl) ?_
  refine J_V1v (ci := 2) dX2_keep_5 s_X2_26 m_X2_slotAt rfl (by repeat (first | assumption | exact jget_same2 (by (try simp only [List.length_set]); exact jlt (by assumption)) | refine jget_ne (by first | decide | assumption | omega) ?_)) rfl (c_X2_slotAt n8 g0 (jKv_i ?_))
  refine J_astore_2 dX2_keep_8 ?_
  refine J_aload_n (by rfl) (by rfl) dX2_keep_9 ?_
  refine J_ifnull dX2_keep_10 ?_
  refine J_aload_n (by rfl) (by rfl) dX2_keep_13 ?_
  refine J_aload_n (by rfl) (by rfl) dX2_keep_14 ?_
  refine J_V10 (ci := 7) dX2_keep_15 s_X2_30 m_X7_takeFrom rfl (by repeat (first | assumption | exact jget_same2 (by (try simp only [List.length_set]); exact jlt (by assumption)) | refine jget_ne (by first | decide | assumption | omega) ?_)) rfl (c_X7_takeFrom h1 (by omega) hs0 hs (fun h2 hf hp => (jK0_i ?_)))
  have k17 : h2[17]? = some (.inr (2, [.ref 18, .int (nI nx), .int (nI ch)])) := hf.at (by show ¬ (_ ∧ _); omega) o
  refine J_aload_n (by rfl) (by rfl) dX2_keep_18 ?_
  refine J_aload_n (by rfl) (by rfl) dX2_keep_19 ?_
  refine J_get dX2_keep_20 f_X2_22 (by repeat (first | assumption | exact jget_same2 (by (try simp only [List.length_set]); exact jlt (by assumption)) | refine jget_ne (by first | decide | assumption | omega) ?_)) (by rfl) ?_
  refine J_iconst (nI 1) (by decide) dX2_keep_23 ?_
  refine J_iadd dX2_keep_24 ?_
  try rw [nI_add]
  refine J_bipush (nI 8) (by decide) dX2_keep_25 ?_
  refine J_icmp_ge_n 39 dX2_keep_27 (by decide) (fun c27 => ?_) (fun c27 => ?_)
  · refine J_iconst (nI 0) (by decide) dX2_keep_39 ?_
    refine J_put_1 dX2_keep_40 p_X2_22 (by repeat (first | assumption | exact jget_same2 (by (try simp only [List.length_set]); exact jlt (by assumption)) | refine jget_ne (by first | decide | assumption | omega) ?_)) ?_
    refine J_aload_n (by rfl) (by rfl) dX2_keep_43 ?_
    refine J_aload_n (by rfl) (by rfl) dX2_keep_44 ?_
    refine J_get dX2_keep_45 f_X2_34 (by repeat (first | assumption | exact jget_same2 (by (try simp only [List.length_set]); exact jlt (by assumption)) | refine jget_ne (by first | decide | assumption | omega) ?_)) (by rfl) ?_
    refine J_bipush (nI 8) (by decide) dX2_keep_48 ?_
    refine J_icmp_ge_n 62 dX2_keep_50 (by decide) (fun c50 => ?_) (fun c50 => ?_)
    · refine J_bipush (nI 8) (by decide) dX2_keep_62 ?_
      refine J_put_2 dX2_keep_64 p_X2_34 (by repeat (first | assumption | exact jget_same2 (by (try simp only [List.length_set]); exact jlt (by assumption)) | refine jget_ne (by first | decide | assumption | omega) ?_)) ?_
      exact J_return dX2_keep_67 rfl (by
        simp only [List.set_set]
        have := fin h2 0 (by omega) hf hp
        rw [show min (ch + 1) 8 = 8 by omega] at this
        exact this) (by decide) (by decide) (fun _ => rfl)
    · refine J_aload_n (by rfl) (by rfl) dX2_keep_53 ?_
      refine J_get dX2_keep_54 f_X2_34 (by repeat (first | assumption | exact jget_same2 (by (try simp only [List.length_set]); exact jlt (by assumption)) | refine jget_ne (by first | decide | assumption | omega) ?_)) (by rfl) ?_
      refine J_iconst (nI 1) (by decide) dX2_keep_57 ?_
      refine J_iadd dX2_keep_58 ?_
      try rw [nI_add]
      refine J_goto 64 dX2_keep_59 (by decide) ?_
      refine J_put_2 dX2_keep_64 p_X2_34 (by repeat (first | assumption | exact jget_same2 (by (try simp only [List.length_set]); exact jlt (by assumption)) | refine jget_ne (by first | decide | assumption | omega) ?_)) ?_
      exact J_return dX2_keep_67 rfl (by
        simp only [List.set_set]
        have := fin h2 0 (by omega) hf hp
        rw [show min (ch + 1) 8 = ch + 1 by omega] at this
        exact this) (by decide) (by decide) (fun _ => rfl)
  · refine J_aload_n (by rfl) (by rfl) dX2_keep_30 ?_
    refine J_get dX2_keep_31 f_X2_22 (by repeat (first | assumption | exact jget_same2 (by (try simp only [List.length_set]); exact jlt (by assumption)) | refine jget_ne (by first | decide | assumption | omega) ?_)) (by rfl) ?_
    refine J_iconst (nI 1) (by decide) dX2_keep_34 ?_
    refine J_iadd dX2_keep_35 ?_
    try rw [nI_add]
    refine J_goto 40 dX2_keep_36 (by decide) ?_
    refine J_put_1 dX2_keep_40 p_X2_22 (by repeat (first | assumption | exact jget_same2 (by (try simp only [List.length_set]); exact jlt (by assumption)) | refine jget_ne (by first | decide | assumption | omega) ?_)) ?_
    refine J_aload_n (by rfl) (by rfl) dX2_keep_43 ?_
    refine J_aload_n (by rfl) (by rfl) dX2_keep_44 ?_
    refine J_get dX2_keep_45 f_X2_34 (by repeat (first | assumption | exact jget_same2 (by (try simp only [List.length_set]); exact jlt (by assumption)) | refine jget_ne (by first | decide | assumption | omega) ?_)) (by rfl) ?_
    refine J_bipush (nI 8) (by decide) dX2_keep_48 ?_
    refine J_icmp_ge_n 62 dX2_keep_50 (by decide) (fun c50 => ?_) (fun c50 => ?_)
    · refine J_bipush (nI 8) (by decide) dX2_keep_62 ?_
      refine J_put_2 dX2_keep_64 p_X2_34 (by repeat (first | assumption | exact jget_same2 (by (try simp only [List.length_set]); exact jlt (by assumption)) | refine jget_ne (by first | decide | assumption | omega) ?_)) ?_
      exact J_return dX2_keep_67 rfl (by
        simp only [List.set_set]
        have := fin h2 (nx + 1) (by omega) hf hp
        rw [show min (ch + 1) 8 = 8 by omega] at this
        exact this) (by decide) (by decide) (fun _ => rfl)
    · refine J_aload_n (by rfl) (by rfl) dX2_keep_53 ?_
      refine J_get dX2_keep_54 f_X2_34 (by repeat (first | assumption | exact jget_same2 (by (try simp only [List.length_set]); exact jlt (by assumption)) | refine jget_ne (by first | decide | assumption | omega) ?_)) (by rfl) ?_
      refine J_iconst (nI 1) (by decide) dX2_keep_57 ?_
      refine J_iadd dX2_keep_58 ?_
      try rw [nI_add]
      refine J_goto 64 dX2_keep_59 (by decide) ?_
      refine J_put_2 dX2_keep_64 p_X2_34 (by repeat (first | assumption | exact jget_same2 (by (try simp only [List.length_set]); exact jlt (by assumption)) | refine jget_ne (by first | decide | assumption | omega) ?_)) ?_
      exact J_return dX2_keep_67 rfl (by
        simp only [List.set_set]
        have := fin h2 (nx + 1) (by omega) hf hp
        rw [show min (ch + 1) 8 = ch + 1 by omega] at this
        exact this) (by decide) (by decide) (fun _ => rfl)
theorem c_X2_takeBack {s0 : Nat → Nat} (h0 : 0 < ch) (g : HQ h P ch nx f) (hs : PS 2 h s0)
    (hQ : ∀ h', jFr (fun j => sC 2 j ∨ j = 17) h h' → HS h' P (ch - 1) → PS 2 h' (fun k => P (204 * (ch - 1) + k)) → Q (.inl none) h') : jCT G M_X2_takeBack 4 0 0 X [.ref 17, .ref 2] h Q := by
  have g0 := g
  obtain ⟨o, r, n8, c8, f8, a, p⟩ := g
  refine jCT_of [some (.ref 17), some (.ref 2), none] 1 rfl (by decide +kernel) rfl rfl ?_
  have hl : 17 < h.length := jlt o
  have fin : ∀ nx', nx' = (nx + 7) % 8 → J G (jR 4 0 0) (jFin G Q X 0 0) M_X2_takeBack X 0 0 43 [some (.ref 17), some (.ref 2), none] [] (h.set 17 (.inr (2, [.ref 18, .int (nI nx'), .int (nI (ch - 1))]))) := by
    intro nx' hnx
    have hfs : jFr (fun j => j = 17) h (h.set 17 (.inr (2, [.ref 18, .int (nI nx'), .int (nI (ch - 1))]))) := jFr.refl.set 17 _ rfl
    have gN : HQ (h.set 17 (.inr (2, [.ref 18, .int (nI nx'), .int (nI (ch - 1))]))) P (ch - 1) nx' f := by
      refine ⟨jget_same2 hl, (by repeat (first | assumption | exact jget_same2 (by (try simp only [List.length_set]); exact jlt (by assumption)) | refine jget_ne (by first | decide | assumption | omega) ?_)), by omega, by omega, f8, fun j hj => ?_, fun i hi => ?_⟩
      · obtain ⟨s9, hs9⟩ := a j hj
        exact ⟨s9, hs9.frm hfs (fun k q1 q2 => by omega)⟩
      · have hx : (nx' + 8 - (ch - 1) + i) % 8 = (nx + 8 - ch + i) % 8 := by omega
        rw [hx]
        exact ⟨(p i (by omega)).1.frm hfs (fun k q1 q2 => by omega), (p i (by omega)).2⟩
    have hsN : PS 2 (h.set 17 (.inr (2, [.ref 18, .int (nI nx'), .int (nI (ch - 1))]))) s0 := hs.frm hfs (fun k q1 q2 => by omega)
    have hlast : PS (19 + 9 * nx') (h.set 17 (.inr (2, [.ref 18, .int (nI nx'), .int (nI (ch - 1))]))) (fun k => P (204 * (ch - 1) + k)) := by
      have := (p (ch - 1) (by omega)).1.frm hfs (fun k q1 q2 => by omega)
      rw [show (nx + 8 - ch + (ch - 1)) % 8 = nx' by omega] at this
      exact this
    have hl2 := (p (ch - 1) (by omega)).2
    generalize h.set 17 (.inr (2, [.ref 18, .int (nI nx'), .int (nI (ch - 1))])) = hN at hfs gN hsN hlast ⊢
    have gN0 := gN
    obtain ⟨o, r, n8, c8, f8, a, p⟩ := gN
    have hq0 := hsN.at0
    refine J_aload_n (by rfl) (by rfl) dX2_takeBack_43 ?_
    refine J_aload_n (by rfl) (by rfl) dX2_takeBack_44 ?_
    refine J_get dX2_takeBack_45 f_X2_22 (by repeat (first | assumption | exact jget_same2 (by (try simp only [List.length_set]); exact jlt (by assumption)) | refine jget_ne (by first | decide | assumption | omega) ?_)) (by rfl) ?_
    refine J_V1v (ci := 2) dX2_takeBack_48 s_X2_26 m_X2_slotAt rfl (by repeat (first | assumption | exact jget_same2 (by (try simp only [List.length_set]); exact jlt (by assumption)) | refine jget_ne (by first | decide | assumption | omega) ?_)) rfl (c_X2_slotAt n8 gN0 (jKv_i ?_))
    refine J_astore_2 dX2_takeBack_51 ?_
    refine J_aload_n (by rfl) (by rfl) dX2_takeBack_52 ?_
    refine J_ifnull dX2_takeBack_53 ?_
    refine J_aload_n (by rfl) (by rfl) dX2_takeBack_56 ?_
    refine J_aload_n (by rfl) (by rfl) dX2_takeBack_57 ?_
    refine J_V10 (ci := 7) dX2_takeBack_58 s_X2_30 m_X7_takeFrom rfl (by repeat (first | assumption | exact jget_same2 (by (try simp only [List.length_set]); exact jlt (by assumption)) | refine jget_ne (by first | decide | assumption | omega) ?_)) rfl (c_X7_takeFrom hl2 (by omega) hsN hlast (fun h2 hf hp => (jK0_i ?_)))
    exact J_return dX2_takeBack_61 rfl (by
      refine hQ h2 ((hfs.mono (fun j hj => .inr hj)).trans (hf.mono (fun j hj => .inl hj))) ?_ hp
      exact HS.frm ⟨nx', f, gN0⟩ hf (fun j q1 q2 => by show ¬ (_ ∧ _); omega)) (by decide) (by decide) (fun _ => rfl)
  refine J_aload_n (by rfl) (by rfl) dX2_takeBack_0 ?_
  refine J_aload_n (by rfl) (by rfl) dX2_takeBack_1 ?_
  refine J_get dX2_takeBack_2 f_X2_22 (by repeat (first | assumption | exact jget_same2 (by (try simp only [List.length_set]); exact jlt (by assumption)) | refine jget_ne (by first | decide | assumption | omega) ?_)) (by rfl) ?_
  refine J_if_le_n 17 dX2_takeBack_5 (by decide) (fun c5 => ?_) (fun c5 => ?_)
  · refine J_bipush (nI 7) (by decide) dX2_takeBack_17 ?_
    refine J_put_1 dX2_takeBack_19 p_X2_22 (by repeat (first | assumption | exact jget_same2 (by (try simp only [List.length_set]); exact jlt (by assumption)) | refine jget_ne (by first | decide | assumption | omega) ?_)) ?_
    refine J_aload_n (by rfl) (by rfl) dX2_takeBack_22 ?_
    refine J_aload_n (by rfl) (by rfl) dX2_takeBack_23 ?_
    refine J_get dX2_takeBack_24 f_X2_34 (by repeat (first | assumption | exact jget_same2 (by (try simp only [List.length_set]); exact jlt (by assumption)) | refine jget_ne (by first | decide | assumption | omega) ?_)) (by rfl) ?_
    refine J_if_le_n 39 dX2_takeBack_27 (by decide) (fun c27 => ?_) (fun c27 => ?_)
    · exfalso; omega
    · refine J_aload_n (by rfl) (by rfl) dX2_takeBack_30 ?_
      refine J_get dX2_takeBack_31 f_X2_34 (by repeat (first | assumption | exact jget_same2 (by (try simp only [List.length_set]); exact jlt (by assumption)) | refine jget_ne (by first | decide | assumption | omega) ?_)) (by rfl) ?_
      refine J_iconst (nI 1) (by decide) dX2_takeBack_34 ?_
      refine J_isub_n (by omega) dX2_takeBack_35 ?_
      refine J_goto 40 dX2_takeBack_36 (by decide) ?_
      refine J_put_2 dX2_takeBack_40 p_X2_34 (by repeat (first | assumption | exact jget_same2 (by (try simp only [List.length_set]); exact jlt (by assumption)) | refine jget_ne (by first | decide | assumption | omega) ?_)) ?_
      simp only [List.set_set]
      exact fin 7 (by omega)
  · refine J_aload_n (by rfl) (by rfl) dX2_takeBack_8 ?_
    refine J_get dX2_takeBack_9 f_X2_22 (by repeat (first | assumption | exact jget_same2 (by (try simp only [List.length_set]); exact jlt (by assumption)) | refine jget_ne (by first | decide | assumption | omega) ?_)) (by rfl) ?_
    refine J_iconst (nI 1) (by decide) dX2_takeBack_12 ?_
    refine J_isub_n (by omega) dX2_takeBack_13 ?_
    refine J_goto 19 dX2_takeBack_14 (by decide) ?_
    refine J_put_1 dX2_takeBack_19 p_X2_22 (by repeat (first | assumption | exact jget_same2 (by (try simp only [List.length_set]); exact jlt (by assumption)) | refine jget_ne (by first | decide | assumption | omega) ?_)) ?_
    refine J_aload_n (by rfl) (by rfl) dX2_takeBack_22 ?_
    refine J_aload_n (by rfl) (by rfl) dX2_takeBack_23 ?_
    refine J_get dX2_takeBack_24 f_X2_34 (by repeat (first | assumption | exact jget_same2 (by (try simp only [List.length_set]); exact jlt (by assumption)) | refine jget_ne (by first | decide | assumption | omega) ?_)) (by rfl) ?_
    refine J_if_le_n 39 dX2_takeBack_27 (by decide) (fun c27 => ?_) (fun c27 => ?_)
    · exfalso; omega
    · refine J_aload_n (by rfl) (by rfl) dX2_takeBack_30 ?_
      refine J_get dX2_takeBack_31 f_X2_34 (by repeat (first | assumption | exact jget_same2 (by (try simp only [List.length_set]); exact jlt (by assumption)) | refine jget_ne (by first | decide | assumption | omega) ?_)) (by rfl) ?_
      refine J_iconst (nI 1) (by decide) dX2_takeBack_34 ?_
      refine J_isub_n (by omega) dX2_takeBack_35 ?_
      refine J_goto 40 dX2_takeBack_36 (by decide) ?_
      refine J_put_2 dX2_takeBack_40 p_X2_34 (by repeat (first | assumption | exact jget_same2 (by (try simp only [List.length_set]); exact jlt (by assumption)) | refine jget_ne (by first | decide | assumption | omega) ?_)) ?_
      simp only [List.set_set]
      exact fin (nx - 1) (by omega)
theorem c_X2_forget (g : HQ h P ch nx f) (hQ : ∀ h', jFr hC h h' → HS h' P 0 → Q (.inl none) h') : jCT G M_X2_forget 1 0 0 X [.ref 17] h Q := by
  obtain ⟨o, r, n8, c8, f8, a, p⟩ := g
  refine jCT_of [some (.ref 17)] 0 rfl (by decide +kernel) rfl rfl ?_
  have hl : 17 < h.length := jlt o
  refine J_aload_n (by rfl) (by rfl) dX2_forget_0 ?_
  refine J_iconst (nI 0) (by decide) dX2_forget_1 ?_
  refine J_put_2 dX2_forget_2 p_X2_34 (by repeat (first | assumption | exact jget_same2 (by (try simp only [List.length_set]); exact jlt (by assumption)) | refine jget_ne (by first | decide | assumption | omega) ?_)) ?_
  exact J_return dX2_forget_5 rfl (by
    have hfs : jFr (fun j => j = 17) h (h.set 17 (.inr (2, [.ref 18, .int (nI nx), .int (nI 0)]))) := jFr.refl.set 17 _ rfl
    refine hQ _ (hfs.mono (fun j hj => by subst hj; decide)) ⟨nx, f, jget_same2 hl, (by repeat (first | assumption | exact jget_same2 (by (try simp only [List.length_set]); exact jlt (by assumption)) | refine jget_ne (by first | decide | assumption | omega) ?_)), n8, by omega, f8, fun j hj => ?_, fun i hi => by omega⟩
    obtain ⟨s9, hs9⟩ := a j hj
    exact ⟨s9, hs9.frm hfs (fun k q1 q2 => by omega)⟩) (by decide) (by decide) (fun _ => rfl)
end HISTORY
