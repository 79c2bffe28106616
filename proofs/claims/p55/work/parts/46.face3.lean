/-! The class's face: changes, undo and snapshots, the text, marks -/
section KEEPP
variable {G : jG} {X : Bool} {h : jH} {Q : jQ_} {P : Nat → Nat} {ch nx : Nat} {f : Nat → Option Nat} {s : Nat → Nat}
theorem c_X2_keepP {p0 : Nat} (hp0 : p0 + 9 ≤ 19 ∨ 91 ≤ p0) (h1 : s 1 ≤ 12) (g : HQ h P ch nx f) (hs : PS p0 h s)
    (hQ : ∀ h', jFr hC h h' → (∀ P', pastN ch P s P' → HS h' P' (min (ch + 1) 8)) → Q (.inl none) h') : jCT G M_X2_keep 4 0 0 X [.ref 17, .ref p0] h Q := by
  have g0 := g
  obtain ⟨o, r, n8, c8, f8, a, p⟩ := g
  refine jCT_of [some (.ref 17), some (.ref p0), none] 1 rfl (by decide +kernel) rfl rfl ?_
  obtain ⟨s0, hs0⟩ := a nx n8
  have hq0 := hs0.at0
  have fin : ∀ h2 nx', nx' = (nx + 1) % 8 → jFr (sC (19 + 9 * nx)) h h2 → PS (19 + 9 * nx) h2 s → Q (.inl none) (h2.set 17 (.inr (2, [.ref 18, .int (nI nx'), .int (nI (min (ch + 1) 8))]))) := by
    intro h2 nx' hnx hf hp
    have hl : 17 < h2.length := by rw [hf.1]; exact jlt o
    have hfs : jFr (fun j => j = 17) h2 (h2.set 17 (.inr (2, [.ref 18, .int (nI nx'), .int (nI (min (ch + 1) 8))]))) := jFr.refl.set 17 _ rfl
    refine hQ _ ((hf.mono (fun j hj => by show 17 ≤ j ∧ j ≤ 90; have := hj.1; have := hj.2; omega)).set 17 _ (by decide)) (fun P' hP' => ⟨nx', f, jget_same2 hl, ?_, by omega, by omega, f8, fun j hj => ?_, fun i hi => ?_⟩)
    · rw [List.getElem?_set_ne (by decide), hf.2 _ (by show ¬ (_ ∧ _); omega)]; exact r
    · by_cases e : j = nx
      · subst e; exact ⟨s, hp.frm hfs (fun k q1 q2 => by omega)⟩
      · obtain ⟨s9, hs9⟩ := a j hj
        exact ⟨s9, (hs9.frm hf (fun k q1 q2 => by show ¬ (_ ∧ _); omega)).frm hfs (fun k q1 q2 => by omega)⟩
    · unfold pastN at hP'
      by_cases e8 : ch = 8
      · rw [if_pos e8] at hP'
        by_cases e7 : i = 7
        · subst e7
          have hx : (nx' + 8 - min (ch + 1) 8 + 7) % 8 = nx := by omega
          rw [hx]
          refine ⟨(hp.frm hfs (fun k q1 q2 => by omega)).ext h1 (fun k hk => hP'.2 k hk), ?_⟩
          have := hP'.2 1 (by omega)
          rw [show 204 * 7 + 1 = 1428 + 1 from rfl, this]; exact h1
        · obtain ⟨q1, q2⟩ := p (i + 1) (by omega)
          have hx : (nx' + 8 - min (ch + 1) 8 + i) % 8 = (nx + 8 - ch + (i + 1)) % 8 := by omega
          have hne : (nx + 8 - ch + (i + 1)) % 8 ≠ nx := by omega
          rw [hx]
          refine ⟨((q1.frm hf (fun k w1 w2 => by show ¬ (_ ∧ _); omega)).frm hfs (fun k w1 w2 => by omega)).ext q2 (fun k hk => hP'.1 i k (by omega) hk), ?_⟩
          rw [hP'.1 i 1 (by omega) (by omega)]; exact q2
      · rw [if_neg e8] at hP'
        by_cases e7 : i = ch
        · subst e7
          have hx : (nx' + 8 - min (i + 1) 8 + i) % 8 = nx := by omega
          rw [hx]
          refine ⟨(hp.frm hfs (fun k q1 q2 => by omega)).ext h1 (fun k hk => hP'.2 k hk), ?_⟩
          rw [hP'.2 1 (by omega)]; exact h1
        · obtain ⟨q1, q2⟩ := p i (by omega)
          have hx : (nx' + 8 - min (ch + 1) 8 + i) % 8 = (nx + 8 - ch + i) % 8 := by omega
          have hne : (nx + 8 - ch + i) % 8 ≠ nx := by omega
          rw [hx]
          refine ⟨((q1.frm hf (fun k w1 w2 => by show ¬ (_ ∧ _); omega)).frm hfs (fun k w1 w2 => by omega)).ext q2 (fun k hk => hP'.1 i k (by omega) hk), ?_⟩
          rw [hP'.1 i 1 (by omega) (by omega)]; exact q2
  refine J_aload_n (by rfl) (by rfl) dX2_keep_0 ?_
  refine J_aload_n (by rfl) (by rfl) dX2_keep_1 ?_
  refine J_get dX2_keep_2 f_X2_22 (by repeat (first | assumption | exact jget_same2 (by (try simp only [List.length_set]); exact jlt (by assumption)) | refine jget_ne (by first | decide | assumption | omega) ?_)) (by rfl) ?_
  refine J_V1v (ci := 2) dX2_keep_5 s_X2_26 m_X2_slotAt rfl (by repeat (first | assumption | exact jget_same2 (by (try simp only [List.length_set]); exact jlt (by assumption)) | refine jget_ne (by first | decide | assumption | omega) ?_)) rfl (c_X2_slotAt n8 g0 (jKv_i ?_))
  refine J_astore_2 dX2_keep_8 ?_
  refine J_aload_n (by rfl) (by rfl) dX2_keep_9 ?_
  refine J_ifnull dX2_keep_10 ?_
  refine J_aload_n (by rfl) (by rfl) dX2_keep_13 ?_
  refine J_aload_n (by rfl) (by rfl) dX2_keep_14 ?_
  refine J_V10 (ci := 7) dX2_keep_15 s_X2_30 m_X7_takeFrom rfl (by repeat (first | assumption | exact jget_same2 (by (try simp only [List.length_set]); exact jlt (by assumption)) | refine jget_ne (by first | decide | assumption | omega) ?_)) rfl (c_X7_takeFrom h1 (by omega) hs0 hs (fun h2 hf hp => (jK0_i ?_)))
  have k17 : h2[17]? = some (.inr (2, [.ref 18, .int (nI nx), .int (nI ch)])) := hf.at (by show ¬ (_ ∧ _); omega) o
  refine J_aload_n (by rfl) (by rfl) dX2_keep_18 ?_
  refine J_aload_n (by rfl) (by rfl) dX2_keep_19 ?_
  refine J_get dX2_keep_20 f_X2_22 (by repeat (first | assumption | exact jget_same2 (by (try simp only [List.length_set]); exact jlt (by assumption)) | refine jget_ne (by first | decide | assumption | omega) ?_)) (by rfl) ?_
  refine J_iconst (nI 1) (by decide) dX2_keep_23 ?_
  refine J_iadd dX2_keep_24 ?_
  try rw [nI_add]
  refine J_bipush (nI 8) (by decide) dX2_keep_25 ?_
  refine J_icmp_ge_n 39 dX2_keep_27 (by decide) (fun c27 => ?_) (fun c27 => ?_)
  · refine J_iconst (nI 0) (by decide) dX2_keep_39 ?_
    refine J_put_1 dX2_keep_40 p_X2_22 (by repeat (first | assumption | exact jget_same2 (by (try simp only [List.length_set]); exact jlt (by assumption)) | refine jget_ne (by first | decide | assumption | omega) ?_)) ?_
    refine J_aload_n (by rfl) (by rfl) dX2_keep_43 ?_
    refine J_aload_n (by rfl) (by rfl) dX2_keep_44 ?_
    refine J_get dX2_keep_45 f_X2_34 (by repeat (first | assumption | exact jget_same2 (by (try simp only [List.length_set]); exact jlt (by assumption)) | refine jget_ne (by first | decide | assumption | omega) ?_)) (by rfl) ?_
    refine J_bipush (nI 8) (by decide) dX2_keep_48 ?_
    refine J_icmp_ge_n 62 dX2_keep_50 (by decide) (fun c50 => ?_) (fun c50 => ?_)
    · refine J_bipush (nI 8) (by decide) dX2_keep_62 ?_
      refine J_put_2 dX2_keep_64 p_X2_34 (by repeat (first | assumption | exact jget_same2 (by (try simp only [List.length_set]); exact jlt (by assumption)) | refine jget_ne (by first | decide | assumption | omega) ?_)) ?_
      exact J_return dX2_keep_67 rfl (by
        simp only [List.set_set]
        have := fin h2 0 (by omega) hf hp
        rw [show min (ch + 1) 8 = 8 by omega] at this
        exact this) (by decide) (by decide) (fun _ => rfl)
    · refine J_aload_n (by rfl) (by rfl) dX2_keep_53 ?_
      refine J_get dX2_keep_54 f_X2_34 (by repeat (first | assumption | exact jget_same2 (by (try simp only [List.length_set]); exact jlt (by assumption)) | refine jget_ne (by first | decide | assumption | omega) ?_)) (by rfl) ?_
      refine J_iconst (nI 1) (by decide) dX2_keep_57 ?_
      refine J_iadd dX2_keep_58 ?_
      try rw [nI_add]
      refine J_goto 64 dX2_keep_59 (by decide) ?_
      refine J_put_2 dX2_keep_64 p_X2_34 (by repeat (first | assumption | exact jget_same2 (by (try simp only [List.length_set]); exact jlt (by assumption)) | refine jget_ne (by first | decide | assumption | omega) ?_)) ?_
      exact J_return dX2_keep_67 rfl (by
        simp only [List.set_set]
        have := fin h2 0 (by omega) hf hp
        rw [show min (ch + 1) 8 = ch + 1 by omega] at this
        exact this) (by decide) (by decide) (fun _ => rfl)
  · refine J_aload_n (by rfl) (by rfl) dX2_keep_30 ?_
    refine J_get dX2_keep_31 f_X2_22 (by repeat (first | assumption | exact jget_same2 (by (try simp only [List.length_set]); exact jlt (by assumption)) | refine jget_ne (by first | decide | assumption | omega) ?_)) (by rfl) ?_
    refine J_iconst (nI 1) (by decide) dX2_keep_34 ?_
    refine J_iadd dX2_keep_35 ?_
    try rw [nI_add]
    refine J_goto 40 dX2_keep_36 (by decide) ?_
    refine J_put_1 dX2_keep_40 p_X2_22 (by repeat (first | assumption | exact jget_same2 (by (try simp only [List.length_set]); exact jlt (by assumption)) | refine jget_ne (by first | decide | assumption | omega) ?_)) ?_
    refine J_aload_n (by rfl) (by rfl) dX2_keep_43 ?_
    refine J_aload_n (by rfl) (by rfl) dX2_keep_44 ?_
    refine J_get dX2_keep_45 f_X2_34 (by repeat (first | assumption | exact jget_same2 (by (try simp only [List.length_set]); exact jlt (by assumption)) | refine jget_ne (by first | decide | assumption | omega) ?_)) (by rfl) ?_
    refine J_bipush (nI 8) (by decide) dX2_keep_48 ?_
    refine J_icmp_ge_n 62 dX2_keep_50 (by decide) (fun c50 => ?_) (fun c50 => ?_)
    · refine J_bipush (nI 8) (by decide) dX2_keep_62 ?_
      refine J_put_2 dX2_keep_64 p_X2_34 (by repeat (first | assumption | exact jget_same2 (by (try simp only [List.length_set]); exact jlt (by assumption)) | refine jget_ne (by first | decide | assumption | omega) ?_)) ?_
      exact J_return dX2_keep_67 rfl (by
        simp only [List.set_set]
        have := fin h2 (nx + 1) (by omega) hf hp
        rw [show min (ch + 1) 8 = 8 by omega] at this
        exact this) (by decide) (by decide) (fun _ => rfl)
    · refine J_aload_n (by rfl) (by rfl) dX2_keep_53 ?_
      refine J_get dX2_keep_54 f_X2_34 (by repeat (first | assumption | exact jget_same2 (by (try simp only [List.length_set]); exact jlt (by assumption)) | refine jget_ne (by first | decide | assumption | omega) ?_)) (by rfl) ?_
      refine J_iconst (nI 1) (by decide) dX2_keep_57 ?_
      refine J_iadd dX2_keep_58 ?_
      try rw [nI_add]
      refine J_goto 64 dX2_keep_59 (by decide) ?_
      refine J_put_2 dX2_keep_64 p_X2_34 (by repeat (first | assumption | exact jget_same2 (by (try simp only [List.length_set]); exact jlt (by assumption)) | refine jget_ne (by first | decide | assumption | omega) ?_)) ?_
      exact J_return dX2_keep_67 rfl (by
        simp only [List.set_set]
        have := fin h2 (nx + 1) (by omega) hf hp
        rw [show min (ch + 1) 8 = ch + 1 by omega] at this
        exact this) (by decide) (by decide) (fun _ => rfl)
end KEEPP
def excN (f : Nat) : String := if f = 1 then "java/lang/IndexOutOfBoundsException" else if f = 2 then "java/lang/IllegalArgumentException" else if f = 3 then "java/lang/IllegalStateException" else if f = 4 then "java/util/NoSuchElementException" else "java/lang/UnsupportedOperationException"
theorem flK_le {k t : Nat} (ht : t ≤ 4) : flK k t ≤ 5 := by
  unfold flK
  repeat' split
  all_goals omega
theorem flK_0 {k t : Nat} : flK k t = 0 ↔ t = 0 := by
  unfold flK
  repeat' split
  all_goals omega
section FACE3
variable {G : jG} {X : Bool} {h h' : jH} {Q : jQ_} {ch ch' ln ln' tp tp' K : Nat} {ea fa ea' fa' : Int32} {sv sv' : Bool} {s s' sS sS' s9 P P' lf lf' tx tx' : Nat → Nat}
theorem CPc.upd (cp : CPc h s sS P ch ea fa sv lf ln tx tp) (hf : jFr (fun j => 2 ≤ j ∧ j ≤ 90) h h') (g' : GS h' s') (hs' : HS h' P' ch') : CPc h' s' sS P' ch' ea fa sv lf ln tx tp := by
  obtain ⟨c0, gs, hs, sa, be, ⟨po, ct, vc, ks, as_, vs, p1, p2, p3, p4, p5⟩, ⟨f, l1, l2, l3⟩⟩ := cp
  refine ⟨hf.at (by decide) c0, g', hs', ⟨sa.1.frm hf (fun j a b => by show ¬ (_ ∧ _); omega), sa.2⟩, ?_, ⟨po, ct, vc, ks, as_, vs, hf.at (by decide) p1, hf.at (by decide) p2, hf.at (by decide) p3, hf.at (by decide) p4, hf.at (by decide) p5⟩, ⟨f, hf.at (by decide) l1, hf.at (by decide) l2, l3⟩⟩
  obtain ⟨s9, h9⟩ := be
  exact ⟨s9, h9.frm hf (fun j a b => by show ¬ (_ ∧ _); omega)⟩
theorem CPc.bes (cp : CPc h s sS P ch ea fa sv lf ln tx tp) (hf : jFr (sC 100) h h') (b : PS 100 h' s9) : CPc h' s sS P ch ea fa sv lf ln tx tp := by
  obtain ⟨c0, gs, hs, sa, be, ⟨po, ct, vc, ks, as_, vs, p1, p2, p3, p4, p5⟩, ⟨f, l1, l2, l3⟩⟩ := cp
  exact ⟨hf.at (by decide) c0, gs.frm hf (fun j a b => by show ¬ (_ ∧ _); omega), hs.frm hf (fun j a b => by show ¬ (_ ∧ _); omega), ⟨sa.1.frm hf (fun j a b => by show ¬ (_ ∧ _); omega), sa.2⟩, ⟨_, b⟩, ⟨po, ct, vc, ks, as_, vs, hf.at (by decide) p1, hf.at (by decide) p2, hf.at (by decide) p3, hf.at (by decide) p4, hf.at (by decide) p5⟩, ⟨f, hf.at (by decide) l1, hf.at (by decide) l2, l3⟩⟩
theorem CPc.sas (cp : CPc h s sS P ch ea fa sv lf ln tx tp) (hf : jFr (sC 91) h h') (b : PS 91 h' sS') (h1 : sS' 1 ≤ 12) : CPc h' s sS' P ch ea fa sv lf ln tx tp := by
  obtain ⟨c0, gs, hs, sa, be, ⟨po, ct, vc, ks, as_, vs, p1, p2, p3, p4, p5⟩, ⟨f, l1, l2, l3⟩⟩ := cp
  refine ⟨hf.at (by decide) c0, gs.frm hf (fun j a b => by show ¬ (_ ∧ _); omega), hs.frm hf (fun j a b => by show ¬ (_ ∧ _); omega), ⟨b, fun _ => h1⟩, ?_, ⟨po, ct, vc, ks, as_, vs, hf.at (by decide) p1, hf.at (by decide) p2, hf.at (by decide) p3, hf.at (by decide) p4, hf.at (by decide) p5⟩, ⟨f, hf.at (by decide) l1, hf.at (by decide) l2, l3⟩⟩
  obtain ⟨s9, h9⟩ := be
  exact ⟨s9, h9.frm hf (fun j a b => by show ¬ (_ ∧ _); omega)⟩
theorem CPc.pgs (cp : CPc h s sS P ch ea fa sv lf ln tx tp) (hf : jFr (fun j => 109 ≤ j ∧ j ≤ 113) h h') (b : ∃ (po ct vc : Nat) (ks as_ vs : Nat → Nat), h'[109]? = some (hPg tp' po ct vc) ∧ h'[110]? = some (ca 60 tx') ∧ h'[111]? = some (ia 13 ks) ∧ h'[112]? = some (ia 39 as_) ∧ h'[113]? = some (ia 3 vs)) : CPc h' s sS P ch ea fa sv lf ln tx' tp' := by
  obtain ⟨c0, gs, hs, sa, be, _, ⟨f, l1, l2, l3⟩⟩ := cp
  refine ⟨hf.at (by decide) c0, gs.frm hf (fun j a b => by show ¬ (_ ∧ _); omega), hs.frm hf (fun j a b => by show ¬ (_ ∧ _); omega), ⟨sa.1.frm hf (fun j a b => by show ¬ (_ ∧ _); omega), sa.2⟩, ?_, b, ⟨f, hf.at (by decide) l1, hf.at (by decide) l2, l3⟩⟩
  obtain ⟨s9, h9⟩ := be
  exact ⟨s9, h9.frm hf (fun j a b => by show ¬ (_ ∧ _); omega)⟩
theorem CPc.lns (cp : CPc h s sS P ch ea fa sv lf ln tx tp) (hf : jFr (fun j => 114 ≤ j ∧ j ≤ 115) h h') (b : ∃ f : Nat → Nat, h'[114]? = some (hLine ln') ∧ h'[115]? = some (ca 80 f) ∧ ∀ i, i < ln' → f i = lf' i) : CPc h' s sS P ch ea fa sv lf' ln' tx tp := by
  obtain ⟨c0, gs, hs, sa, be, ⟨po, ct, vc, ks, as_, vs, p1, p2, p3, p4, p5⟩, _⟩ := cp
  refine ⟨hf.at (by decide) c0, gs.frm hf (fun j a b => by show ¬ (_ ∧ _); omega), hs.frm hf (fun j a b => by show ¬ (_ ∧ _); omega), ⟨sa.1.frm hf (fun j a b => by show ¬ (_ ∧ _); omega), sa.2⟩, ?_, ⟨po, ct, vc, ks, as_, vs, hf.at (by decide) p1, hf.at (by decide) p2, hf.at (by decide) p3, hf.at (by decide) p4, hf.at (by decide) p5⟩, b⟩
  obtain ⟨s9, h9⟩ := be
  exact ⟨s9, h9.frm hf (fun j a b => by show ¬ (_ ∧ _); omega)⟩
theorem CPc.c0s (ea' fa' : Int32) (sv' : Bool) (cp : CPc h s sS P ch ea fa sv lf ln tx tp) (hv : sv' = true → sS 1 ≤ 12) : CPc (h.set 0 (.inr (10, [.ref 1, .ref 17, .ref 91, .ref 100, .ref 109, .ref 114, .int (jb sv'), .int ea', .int fa']))) s sS P ch ea' fa' sv' lf ln tx tp := by
  obtain ⟨c0, gs, hs, sa, be, ⟨po, ct, vc, ks, as_, vs, p1, p2, p3, p4, p5⟩, ⟨f, l1, l2, l3⟩⟩ := cp
  have hf : jFr (fun j => j = 0) h (h.set 0 (.inr (10, [.ref 1, .ref 17, .ref 91, .ref 100, .ref 109, .ref 114, .int (jb sv'), .int ea', .int fa']))) := jFr.refl.set 0 _ rfl
  refine ⟨(by repeat (first | assumption | exact jget_same2 (by (try simp only [List.length_set]); exact jlt (by assumption)) | refine jget_ne (by first | decide | assumption | omega) ?_)), gs.frm hf (fun j a b => by omega), hs.frm hf (fun j a b => by omega), ⟨sa.1.frm hf (fun j a b => by omega), hv⟩, ?_, ⟨po, ct, vc, ks, as_, vs, hf.at (by decide) p1, hf.at (by decide) p2, hf.at (by decide) p3, hf.at (by decide) p4, hf.at (by decide) p5⟩, ⟨f, hf.at (by decide) l1, hf.at (by decide) l2, l3⟩⟩
  obtain ⟨s9, h9⟩ := be
  exact ⟨s9, h9.frm hf (fun j a b => by omega)⟩
theorem GS.putC {C : Nat → Prop} (g : GS h s) (hf : jFr C h h') (hc : ∀ j, j = 1 ∨ (11 ≤ j ∧ j ≤ 16) → ¬ C j) (hp : PS 2 h' s') : GS h' s' := by
  obtain ⟨_, _, _, _, _, _, _, _, D, E, L, m, num, den, g1, g2, g3, g4, g5, g6, g7, g8, g9, g10, g11, g12, g13, g14, g15, g16, _, _, _⟩ := g
  obtain ⟨fx, fy, fr, w, rt, ti, x, y, q0, q1, q2, q3, q4, q5, q6, q7, q8, e1, e2, e3⟩ := hp
  exact ⟨fx, fy, fr, w, rt, ti, x, y, D, E, L, m, num, den, hf.at (hc _ (by omega)) g1, q0, q1, q2, q3, q4, q5, q6, q7, q8, hf.at (hc _ (by omega)) g11, hf.at (hc _ (by omega)) g12, hf.at (hc _ (by omega)) g13, hf.at (hc _ (by omega)) g14, hf.at (hc _ (by omega)) g15, hf.at (hc _ (by omega)) g16, e1, e2, e3⟩
theorem c_X10_refuse {f : Nat} (hf : f ≤ 5) (hQ1 : f = 0 → Q (.inl none) h) (hQ2 : f ≠ 0 → Q (.inr (excN f)) h) : jCT G M_X10_refuse 6 1 6 false [.int (nI f)] h Q := by
  refine jCT_of [some (.int (nI f))] 0 rfl (by decide +kernel) rfl rfl ?_
  refine J_iload_n (by rfl) dX10_refuse_0 ?_
  rcases (show f = 0 ∨ f = 1 ∨ f = 2 ∨ f = 3 ∨ f = 4 ∨ f = 5 by omega) with rfl | rfl | rfl | rfl | rfl | rfl
  · refine J_tableOut 91 dX10_refuse_1 (by decide) (by decide) ?_
    exact J_return dX10_refuse_91 rfl (hQ1 rfl) (by decide) (by decide) (fun q => by cases q)
  · refine J_tableIn (off := 35) 36 dX10_refuse_1 (by decide) (by decide) (by decide) (by decide) ?_
    exact J_throwW (i := 0) t_X10_265_269 dX10_refuse_36 dX10_refuse_39 dX10_refuse_40 dX10_refuse_43 dX10_refuse_46 rfl rfl rfl rfl (by decide) (by exact Nat.le_of_ble_eq_true rfl) (by decide) (by decide) (by decide) (by decide) (hQ2 (by decide))
  · refine J_tableIn (off := 46) 47 dX10_refuse_1 (by decide) (by decide) (by decide) (by decide) ?_
    exact J_throwW (i := 1) t_X10_294_298 dX10_refuse_47 dX10_refuse_50 dX10_refuse_51 dX10_refuse_54 dX10_refuse_57 rfl rfl rfl rfl (by decide) (by exact Nat.le_of_ble_eq_true rfl) (by decide) (by decide) (by decide) (by decide) (hQ2 (by decide))
  · refine J_tableIn (off := 57) 58 dX10_refuse_1 (by decide) (by decide) (by decide) (by decide) ?_
    exact J_throwW (i := 2) t_X10_276_280 dX10_refuse_58 dX10_refuse_61 dX10_refuse_62 dX10_refuse_65 dX10_refuse_68 rfl rfl rfl rfl (by decide) (by exact Nat.le_of_ble_eq_true rfl) (by decide) (by decide) (by decide) (by decide) (hQ2 (by decide))
  · refine J_tableIn (off := 68) 69 dX10_refuse_1 (by decide) (by decide) (by decide) (by decide) ?_
    exact J_throwNW (i := 3) t_X10_95_99 dX10_refuse_69 dX10_refuse_72 dX10_refuse_73 dX10_refuse_76 dX10_refuse_79 rfl rfl rfl rfl (by decide) (by exact Nat.le_of_ble_eq_true rfl) (by decide) (by decide) (by decide) (by decide) (hQ2 (by decide))
  · refine J_tableIn (off := 79) 80 dX10_refuse_1 (by decide) (by decide) (by decide) (by decide) ?_
    exact J_throwW (i := 4) t_X10_306_310 dX10_refuse_80 dX10_refuse_83 dX10_refuse_84 dX10_refuse_87 dX10_refuse_90 rfl rfl rfl rfl (by decide) (by exact Nat.le_of_ble_eq_true rfl) (by decide) (by decide) (by decide) (by decide) (hQ2 (by decide))
theorem c_X10_change {k : Nat} (x y z : Int32) (hk : k ≤ 8) (I : Inv K s) (hK : K < 2 ^ 30) (cp : CPc h s sS P ch ea fa sv lf ln tx tp)
    (hQ1 : opT s k x y z = 0 → ∀ h', jFr clC h h' → (∀ P', pastN ch P s P' → CPc h' (opN s k x y z) sS P' (min (ch + 1) 8) ea fa sv lf ln tx tp) → Q (.inl (some (.int (nI (opA s k x y z))))) h')
    (hQ2 : opT s k x y z ≠ 0 → ∀ h', jFr clC h h' → CPc h' s sS P ch ea fa sv lf ln tx tp → Q (.inr (excN (flK k (opT s k x y z)))) h') : jCT G M_X10_change 7 1 6 false [.ref 0, .int (nI k), .int x, .int y, .int z] h Q := by
  refine jCT_of [some (.ref 0), some (.int (nI k)), some (.int x), some (.int y), some (.int z)] 0 rfl (by decide +kernel) rfl rfl ?_
  have c0 := cp.c0
  have gs := cp.gs
  have kk1 : h[1]? = some (.inr (1, [.ref 2, .ref 11, .ref 16])) := by obtain ⟨_, _, _, _, _, _, _, _, _, _, _, _, _, _, g⟩ := gs; exact g.g1
  refine J_aload_n (by rfl) (by rfl) dX10_change_0 ?_
  refine J_get dX10_change_1 f_X10_12 (by repeat (first | assumption | exact jget_same2 (by (try simp only [List.length_set]); exact jlt (by assumption)) | refine jget_ne (by first | decide | assumption | omega) ?_)) (by rfl) ?_
  refine J_iload_n (by rfl) dX10_change_4 ?_
  refine J_iload_n (by rfl) dX10_change_5 ?_
  refine J_iload_n (by rfl) dX10_change_6 ?_
  refine J_iload (by rfl) dX10_change_7 ?_
  refine J_V4v (ci := 1) dX10_change_9 s_X10_330 m_X1_faultOf rfl (by repeat (first | assumption | exact jget_same2 (by (try simp only [List.length_set]); exact jlt (by assumption)) | refine jget_ne (by first | decide | assumption | omega) ?_)) rfl (c_X1_faultOf x y z hk I gs (fun h1 hf1 gs1 => (jKv_i ?_)))
  have cp1 := cp.gset hf1 gs1
  have k0 := cp1.c0
  obtain ⟨nx, f, hq⟩ := cp1.hs
  have k17 := hq.o
  have k1 : h1[1]? = some (.inr (1, [.ref 2, .ref 11, .ref 16])) := by obtain ⟨_, _, _, _, _, _, _, _, _, _, _, _, _, _, g⟩ := gs1; exact g.g1
  refine J_S10x dX10_change_12 s_X10_333 m_X10_refuse rfl (c_X10_refuse (flK_le opT_lt) (fun c12 => jKx0_i ?_) (fun c12 => jKx0_x ?_))
  · have hT := flK_0.mp c12
    refine J_aload_n (by rfl) (by rfl) dX10_change_15 ?_
    refine J_get dX10_change_16 f_X10_19 (by repeat (first | assumption | exact jget_same2 (by (try simp only [List.length_set]); exact jlt (by assumption)) | refine jget_ne (by first | decide | assumption | omega) ?_)) (by rfl) ?_
    refine J_aload_n (by rfl) (by rfl) dX10_change_19 ?_
    refine J_get dX10_change_20 f_X10_12 (by repeat (first | assumption | exact jget_same2 (by (try simp only [List.length_set]); exact jlt (by assumption)) | refine jget_ne (by first | decide | assumption | omega) ?_)) (by rfl) ?_
    refine J_get dX10_change_23 f_X10_62 (by repeat (first | assumption | exact jget_same2 (by (try simp only [List.length_set]); exact jlt (by assumption)) | refine jget_ne (by first | decide | assumption | omega) ?_)) (by rfl) ?_
    refine J_V10 (ci := 2) dX10_change_26 s_X10_311 m_X2_keep rfl (by repeat (first | assumption | exact jget_same2 (by (try simp only [List.length_set]); exact jlt (by assumption)) | refine jget_ne (by first | decide | assumption | omega) ?_)) rfl (c_X2_keep I.s1 hq (GS.ps gs1) (fun h2 hf2 hP2 => (jK0_i ?_)))
    have gs2 : GS h2 s := gs1.frm hf2 (fun j a b => by show ¬ (_ ∧ _); omega)
    have q0 := hf2.at (by decide) k0
    have q1 := hf2.at (by decide) k1
    refine J_aload_n (by rfl) (by rfl) dX10_change_29 ?_
    refine J_get dX10_change_30 f_X10_12 (by repeat (first | assumption | exact jget_same2 (by (try simp only [List.length_set]); exact jlt (by assumption)) | refine jget_ne (by first | decide | assumption | omega) ?_)) (by rfl) ?_
    refine J_iload_n (by rfl) dX10_change_33 ?_
    refine J_iload_n (by rfl) dX10_change_34 ?_
    refine J_iload_n (by rfl) dX10_change_35 ?_
    refine J_iload (by rfl) dX10_change_36 ?_
    refine J_V4v (ci := 1) dX10_change_38 s_X10_336 m_X1_perform rfl (by repeat (first | assumption | exact jget_same2 (by (try simp only [List.length_set]); exact jlt (by assumption)) | refine jget_ne (by first | decide | assumption | omega) ?_)) rfl (c_X1_perform x y z hk I hK gs2 hT (fun h3 hf3 gs3 => (jKv_i ?_)))
    exact J_ireturn dX10_change_41 rfl (by
      refine hQ1 hT h3 ((hf1.mono (fun j hj => ?_)).trans ((hf2.mono (fun j hj => ?_)).trans (hf3.mono (fun j hj => ?_)))) (fun P' hP' => ?_)
      · show j ≤ 115; exact Nat.le_trans hj.2 (by decide)
      · show j ≤ 115; exact Nat.le_trans hj.2 (by decide)
      · show j ≤ 115; exact Nat.le_trans hj.2 (by decide)
      · refine cp1.upd ((hf2.mono (fun j hj => ?_)).trans (hf3.mono (fun j hj => ?_))) gs3 ((hP2 P' hP').frm hf3 (fun j a b => by show ¬ (_ ∧ _); omega))
        · have := hj.1; have := hj.2; omega
        · have := hj.1; have := hj.2; omega) (by decide) (by decide) (fun q => by cases q)
  · have hT : opT s k x y z ≠ 0 := fun e => c12 (flK_0.mpr e)
    exact JX_out rfl (by decide) (by decide) (hQ2 hT h1 (hf1.mono (fun j hj => Nat.le_trans hj.2 (by decide))) cp1)
theorem c_X10_addWaypoint (x y z : Int32) (I : Inv K s) (hK : K < 2 ^ 30) (cp : CPc h s sS P ch ea fa sv lf ln tx tp)
    (hQ1 : opT s 0 x y z = 0 → ∀ h', jFr clC h h' → (∀ P', pastN ch P s P' → CPc h' (opN s 0 x y z) sS P' (min (ch + 1) 8) ea fa sv lf ln tx tp) → Q (.inl (some (.int (nI (opA s 0 x y z))))) h')
    (hQ2 : opT s 0 x y z ≠ 0 → ∀ h', jFr clC h h' → CPc h' s sS P ch ea fa sv lf ln tx tp → Q (.inr (excN (flK 0 (opT s 0 x y z)))) h') : jCT G M_X10_addWaypoint 8 1 6 false [.ref 0, .int x, .int y, .int z] h Q := by
  refine jCT_of [some (.ref 0), some (.int x), some (.int y), some (.int z)] 0 rfl (by decide +kernel) rfl rfl ?_
  have c0 := cp.c0
  refine J_aload_n (by rfl) (by rfl) dX10_addWaypoint_0 ?_
  refine J_iconst (nI 0) (by decide) dX10_addWaypoint_1 ?_
  refine J_iload_n (by rfl) dX10_addWaypoint_2 ?_
  refine J_iload_n (by rfl) dX10_addWaypoint_3 ?_
  refine J_iload_n (by rfl) dX10_addWaypoint_4 ?_
  refine J_V4vx (ci := 10) dX10_addWaypoint_5 s_X10_58 m_X10_change rfl (by repeat (first | assumption | exact jget_same2 (by (try simp only [List.length_set]); exact jlt (by assumption)) | refine jget_ne (by first | decide | assumption | omega) ?_)) rfl (c_X10_change (k := 0) x y z (by decide) I hK cp (fun hT h' hf hP => jKx_i ?_) (fun hT h' hf cp' => jKx_x ?_))
  · exact J_ireturn dX10_addWaypoint_8 rfl (hQ1 hT h' hf hP) (by decide) (by decide) (fun q => by cases q)
  · exact JX_out rfl (by decide) (by decide) (hQ2 hT h' hf cp')
theorem c_X10_addTrail (x y z : Int32) (I : Inv K s) (hK : K < 2 ^ 30) (cp : CPc h s sS P ch ea fa sv lf ln tx tp)
    (hQ1 : opT s 1 x y z = 0 → ∀ h', jFr clC h h' → (∀ P', pastN ch P s P' → CPc h' (opN s 1 x y z) sS P' (min (ch + 1) 8) ea fa sv lf ln tx tp) → Q (.inl (some (.int (nI (opA s 1 x y z))))) h')
    (hQ2 : opT s 1 x y z ≠ 0 → ∀ h', jFr clC h h' → CPc h' s sS P ch ea fa sv lf ln tx tp → Q (.inr (excN (flK 1 (opT s 1 x y z)))) h') : jCT G M_X10_addTrail 8 1 6 false [.ref 0, .int x, .int y, .int z] h Q := by
  refine jCT_of [some (.ref 0), some (.int x), some (.int y), some (.int z)] 0 rfl (by decide +kernel) rfl rfl ?_
  have c0 := cp.c0
  refine J_aload_n (by rfl) (by rfl) dX10_addTrail_0 ?_
  refine J_iconst (nI 1) (by decide) dX10_addTrail_1 ?_
  refine J_iload_n (by rfl) dX10_addTrail_2 ?_
  refine J_iload_n (by rfl) dX10_addTrail_3 ?_
  refine J_iload_n (by rfl) dX10_addTrail_4 ?_
  refine J_V4vx (ci := 10) dX10_addTrail_5 s_X10_58 m_X10_change rfl (by repeat (first | assumption | exact jget_same2 (by (try simp only [List.length_set]); exact jlt (by assumption)) | refine jget_ne (by first | decide | assumption | omega) ?_)) rfl (c_X10_change (k := 1) x y z (by decide) I hK cp (fun hT h' hf hP => jKx_i ?_) (fun hT h' hf cp' => jKx_x ?_))
  · exact J_ireturn dX10_addTrail_8 rfl (hQ1 hT h' hf hP) (by decide) (by decide) (fun q => by cases q)
  · exact JX_out rfl (by decide) (by decide) (hQ2 hT h' hf cp')
theorem c_X10_removeTrail (x y : Int32) (I : Inv K s) (hK : K < 2 ^ 30) (cp : CPc h s sS P ch ea fa sv lf ln tx tp)
    (hQ1 : opT s 2 x y 0 = 0 → ∀ h', jFr clC h h' → (∀ P', pastN ch P s P' → CPc h' (opN s 2 x y 0) sS P' (min (ch + 1) 8) ea fa sv lf ln tx tp) → Q (.inl (some (.int (nI (opA s 2 x y 0))))) h')
    (hQ2 : opT s 2 x y 0 ≠ 0 → ∀ h', jFr clC h h' → CPc h' s sS P ch ea fa sv lf ln tx tp → Q (.inr (excN (flK 2 (opT s 2 x y 0)))) h') : jCT G M_X10_removeTrail 8 1 6 false [.ref 0, .int x, .int y] h Q := by
  refine jCT_of [some (.ref 0), some (.int x), some (.int y)] 0 rfl (by decide +kernel) rfl rfl ?_
  have c0 := cp.c0
  refine J_aload_n (by rfl) (by rfl) dX10_removeTrail_0 ?_
  refine J_iconst (nI 2) (by decide) dX10_removeTrail_1 ?_
  refine J_iload_n (by rfl) dX10_removeTrail_2 ?_
  refine J_iload_n (by rfl) dX10_removeTrail_3 ?_
  refine J_iconst (nI 0) (by decide) dX10_removeTrail_4 ?_
  refine J_V4vx (ci := 10) dX10_removeTrail_5 s_X10_58 m_X10_change rfl (by repeat (first | assumption | exact jget_same2 (by (try simp only [List.length_set]); exact jlt (by assumption)) | refine jget_ne (by first | decide | assumption | omega) ?_)) rfl (c_X10_change (k := 2) x y 0 (by decide) I hK cp (fun hT h' hf hP => jKx_i ?_) (fun hT h' hf cp' => jKx_x ?_))
  · exact J_ireturn dX10_removeTrail_8 rfl (hQ1 hT h' hf hP) (by decide) (by decide) (fun q => by cases q)
  · exact JX_out rfl (by decide) (by decide) (hQ2 hT h' hf cp')
theorem c_X10_startTour (x y : Int32) (I : Inv K s) (hK : K < 2 ^ 30) (cp : CPc h s sS P ch ea fa sv lf ln tx tp)
    (hQ1 : opT s 3 x y 0 = 0 → ∀ h', jFr clC h h' → (∀ P', pastN ch P s P' → CPc h' (opN s 3 x y 0) sS P' (min (ch + 1) 8) ea fa sv lf ln tx tp) → Q (.inl (some (.int (nI (opA s 3 x y 0))))) h')
    (hQ2 : opT s 3 x y 0 ≠ 0 → ∀ h', jFr clC h h' → CPc h' s sS P ch ea fa sv lf ln tx tp → Q (.inr (excN (flK 3 (opT s 3 x y 0)))) h') : jCT G M_X10_startTour 8 1 6 false [.ref 0, .int x, .int y] h Q := by
  refine jCT_of [some (.ref 0), some (.int x), some (.int y)] 0 rfl (by decide +kernel) rfl rfl ?_
  have c0 := cp.c0
  refine J_aload_n (by rfl) (by rfl) dX10_startTour_0 ?_
  refine J_iconst (nI 3) (by decide) dX10_startTour_1 ?_
  refine J_iload_n (by rfl) dX10_startTour_2 ?_
  refine J_iload_n (by rfl) dX10_startTour_3 ?_
  refine J_iconst (nI 0) (by decide) dX10_startTour_4 ?_
  refine J_V4vx (ci := 10) dX10_startTour_5 s_X10_58 m_X10_change rfl (by repeat (first | assumption | exact jget_same2 (by (try simp only [List.length_set]); exact jlt (by assumption)) | refine jget_ne (by first | decide | assumption | omega) ?_)) rfl (c_X10_change (k := 3) x y 0 (by decide) I hK cp (fun hT h' hf hP => jKx_i ?_) (fun hT h' hf cp' => jKx_x ?_))
  · exact J_ireturn dX10_startTour_8 rfl (hQ1 hT h' hf hP) (by decide) (by decide) (fun q => by cases q)
  · exact JX_out rfl (by decide) (by decide) (hQ2 hT h' hf cp')
theorem c_X10_setMode (x : Int32) (I : Inv K s) (hK : K < 2 ^ 30) (cp : CPc h s sS P ch ea fa sv lf ln tx tp)
    (hQ1 : opT s 4 x 0 0 = 0 → ∀ h', jFr clC h h' → (∀ P', pastN ch P s P' → CPc h' (opN s 4 x 0 0) sS P' (min (ch + 1) 8) ea fa sv lf ln tx tp) → Q (.inl (some (.int (nI (opA s 4 x 0 0))))) h')
    (hQ2 : opT s 4 x 0 0 ≠ 0 → ∀ h', jFr clC h h' → CPc h' s sS P ch ea fa sv lf ln tx tp → Q (.inr (excN (flK 4 (opT s 4 x 0 0)))) h') : jCT G M_X10_setMode 8 1 6 false [.ref 0, .int x] h Q := by
  refine jCT_of [some (.ref 0), some (.int x)] 0 rfl (by decide +kernel) rfl rfl ?_
  have c0 := cp.c0
  refine J_aload_n (by rfl) (by rfl) dX10_setMode_0 ?_
  refine J_iconst (nI 4) (by decide) dX10_setMode_1 ?_
  refine J_iload_n (by rfl) dX10_setMode_2 ?_
  refine J_iconst (nI 0) (by decide) dX10_setMode_3 ?_
  refine J_iconst (nI 0) (by decide) dX10_setMode_4 ?_
  refine J_V4vx (ci := 10) dX10_setMode_5 s_X10_58 m_X10_change rfl (by repeat (first | assumption | exact jget_same2 (by (try simp only [List.length_set]); exact jlt (by assumption)) | refine jget_ne (by first | decide | assumption | omega) ?_)) rfl (c_X10_change (k := 4) x 0 0 (by decide) I hK cp (fun hT h' hf hP => jKx_i ?_) (fun hT h' hf cp' => jKx_x ?_))
  · exact J_ireturn dX10_setMode_8 rfl (hQ1 hT h' hf hP) (by decide) (by decide) (fun q => by cases q)
  · exact JX_out rfl (by decide) (by decide) (hQ2 hT h' hf cp')
theorem c_X10_setTolerance (x : Int32) (I : Inv K s) (hK : K < 2 ^ 30) (cp : CPc h s sS P ch ea fa sv lf ln tx tp)
    (hQ1 : opT s 5 x 0 0 = 0 → ∀ h', jFr clC h h' → (∀ P', pastN ch P s P' → CPc h' (opN s 5 x 0 0) sS P' (min (ch + 1) 8) ea fa sv lf ln tx tp) → Q (.inl (some (.int (nI (opA s 5 x 0 0))))) h')
    (hQ2 : opT s 5 x 0 0 ≠ 0 → ∀ h', jFr clC h h' → CPc h' s sS P ch ea fa sv lf ln tx tp → Q (.inr (excN (flK 5 (opT s 5 x 0 0)))) h') : jCT G M_X10_setTolerance 8 1 6 false [.ref 0, .int x] h Q := by
  refine jCT_of [some (.ref 0), some (.int x)] 0 rfl (by decide +kernel) rfl rfl ?_
  have c0 := cp.c0
  refine J_aload_n (by rfl) (by rfl) dX10_setTolerance_0 ?_
  refine J_iconst (nI 5) (by decide) dX10_setTolerance_1 ?_
  refine J_iload_n (by rfl) dX10_setTolerance_2 ?_
  refine J_iconst (nI 0) (by decide) dX10_setTolerance_3 ?_
  refine J_iconst (nI 0) (by decide) dX10_setTolerance_4 ?_
  refine J_V4vx (ci := 10) dX10_setTolerance_5 s_X10_58 m_X10_change rfl (by repeat (first | assumption | exact jget_same2 (by (try simp only [List.length_set]); exact jlt (by assumption)) | refine jget_ne (by first | decide | assumption | omega) ?_)) rfl (c_X10_change (k := 5) x 0 0 (by decide) I hK cp (fun hT h' hf hP => jKx_i ?_) (fun hT h' hf cp' => jKx_x ?_))
  · exact J_ireturn dX10_setTolerance_8 rfl (hQ1 hT h' hf hP) (by decide) (by decide) (fun q => by cases q)
  · exact JX_out rfl (by decide) (by decide) (hQ2 hT h' hf cp')
theorem c_X10_charge (x : Int32) (I : Inv K s) (hK : K < 2 ^ 30) (cp : CPc h s sS P ch ea fa sv lf ln tx tp)
    (hQ1 : opT s 6 x 0 0 = 0 → ∀ h', jFr clC h h' → (∀ P', pastN ch P s P' → CPc h' (opN s 6 x 0 0) sS P' (min (ch + 1) 8) ea fa sv lf ln tx tp) → Q (.inl (some (.int (nI (opA s 6 x 0 0))))) h')
    (hQ2 : opT s 6 x 0 0 ≠ 0 → ∀ h', jFr clC h h' → CPc h' s sS P ch ea fa sv lf ln tx tp → Q (.inr (excN (flK 6 (opT s 6 x 0 0)))) h') : jCT G M_X10_charge 8 1 6 false [.ref 0, .int x] h Q := by
  refine jCT_of [some (.ref 0), some (.int x)] 0 rfl (by decide +kernel) rfl rfl ?_
  have c0 := cp.c0
  refine J_aload_n (by rfl) (by rfl) dX10_charge_0 ?_
  refine J_bipush (nI 6) (by decide) dX10_charge_1 ?_
  refine J_iload_n (by rfl) dX10_charge_3 ?_
  refine J_iconst (nI 0) (by decide) dX10_charge_4 ?_
  refine J_iconst (nI 0) (by decide) dX10_charge_5 ?_
  refine J_V4vx (ci := 10) dX10_charge_6 s_X10_58 m_X10_change rfl (by repeat (first | assumption | exact jget_same2 (by (try simp only [List.length_set]); exact jlt (by assumption)) | refine jget_ne (by first | decide | assumption | omega) ?_)) rfl (c_X10_change (k := 6) x 0 0 (by decide) I hK cp (fun hT h' hf hP => jKx_i ?_) (fun hT h' hf cp' => jKx_x ?_))
  · exact J_ireturn dX10_charge_9 rfl (hQ1 hT h' hf hP) (by decide) (by decide) (fun q => by cases q)
  · exact JX_out rfl (by decide) (by decide) (hQ2 hT h' hf cp')
theorem c_X10_stopTour (I : Inv K s) (hK : K < 2 ^ 30) (cp : CPc h s sS P ch ea fa sv lf ln tx tp)
    (hQ1 : opT s 8 0 0 0 = 0 → ∀ h', jFr clC h h' → (∀ P', pastN ch P s P' → CPc h' (opN s 8 0 0 0) sS P' (min (ch + 1) 8) ea fa sv lf ln tx tp) → Q (.inl (some (.int (nI (opA s 8 0 0 0))))) h')
    (hQ2 : opT s 8 0 0 0 ≠ 0 → ∀ h', jFr clC h h' → CPc h' s sS P ch ea fa sv lf ln tx tp → Q (.inr (excN (flK 8 (opT s 8 0 0 0)))) h') : jCT G M_X10_stopTour 8 1 6 false [.ref 0] h Q := by
  refine jCT_of [some (.ref 0)] 0 rfl (by decide +kernel) rfl rfl ?_
  have c0 := cp.c0
  refine J_aload_n (by rfl) (by rfl) dX10_stopTour_0 ?_
  refine J_bipush (nI 8) (by decide) dX10_stopTour_1 ?_
  refine J_iconst (nI 0) (by decide) dX10_stopTour_3 ?_
  refine J_iconst (nI 0) (by decide) dX10_stopTour_4 ?_
  refine J_iconst (nI 0) (by decide) dX10_stopTour_5 ?_
  refine J_V4vx (ci := 10) dX10_stopTour_6 s_X10_58 m_X10_change rfl (by repeat (first | assumption | exact jget_same2 (by (try simp only [List.length_set]); exact jlt (by assumption)) | refine jget_ne (by first | decide | assumption | omega) ?_)) rfl (c_X10_change (k := 8) 0 0 0 (by decide) I hK cp (fun hT h' hf hP => jKx_i ?_) (fun hT h' hf cp' => jKx_x ?_))
  · exact J_ireturn dX10_stopTour_9 rfl (hQ1 hT h' hf hP) (by decide) (by decide) (fun q => by cases q)
  · exact JX_out rfl (by decide) (by decide) (hQ2 hT h' hf cp')
theorem c_X10_update (x y : Int32) (I : Inv K s) (hK : K < 2 ^ 30) (cp : CPc h s sS P ch ea fa sv lf ln tx tp)
    (hQ1 : opT s 7 x y 0 = 0 → ∀ h', jFr clC h h' → (∀ P', pastN ch P s P' → CPc h' (opN s 7 x y 0) sS P' (min (ch + 1) 8) ea fa sv lf ln tx tp) → Q (.inl (some (.int (jb (decide (opA s 7 x y 0 = 1)))))) h')
    (hQ2 : opT s 7 x y 0 ≠ 0 → ∀ h', jFr clC h h' → CPc h' s sS P ch ea fa sv lf ln tx tp → Q (.inr (excN (flK 7 (opT s 7 x y 0)))) h') : jCT G M_X10_update 8 1 6 false [.ref 0, .int x, .int y] h Q := by
  refine jCT_of [some (.ref 0), some (.int x), some (.int y)] 0 rfl (by decide +kernel) rfl rfl ?_
  have c0 := cp.c0
  refine J_aload_n (by rfl) (by rfl) dX10_update_0 ?_
  refine J_bipush (nI 7) (by decide) dX10_update_1 ?_
  refine J_iload_n (by rfl) dX10_update_3 ?_
  refine J_iload_n (by rfl) dX10_update_4 ?_
  refine J_iconst (nI 0) (by decide) dX10_update_5 ?_
  refine J_V4vx (ci := 10) dX10_update_6 s_X10_58 m_X10_change rfl (by repeat (first | assumption | exact jget_same2 (by (try simp only [List.length_set]); exact jlt (by assumption)) | refine jget_ne (by first | decide | assumption | omega) ?_)) rfl (c_X10_change (k := 7) x y 0 (by decide) I hK cp (fun hT h' hf hP => jKx_i ?_) (fun hT h' hf cp' => jKx_x ?_))
  · have hQ1 := hQ1 hT h' hf hP
    have hA : opA s 7 x y 0 ≤ 1 := by
      have e : opA s 7 x y 0 = if opT s 7 x y 0 = 0 then A7 s x y else 0 := rfl
      rw [e]
      unfold A7
      repeat' split
      all_goals omega
    refine J_iconst (nI 1) (by decide) dX10_update_9 ?_
    refine J_icmp_ne_n 17 dX10_update_10 (by decide) (fun c10 => ?_) (fun c10 => ?_)
    · rw [show decide (opA s 7 x y 0 = 1) = false by simp; omega] at hQ1
      refine J_iconst (nI 0) (by decide) dX10_update_17 ?_
      exact J_zreturn dX10_update_18 rfl (by first | rfl | exact jb_n _) (hQ1) (by decide) (by decide) (fun q => by cases q)
    · rw [show decide (opA s 7 x y 0 = 1) = true by simp; omega] at hQ1
      refine J_iconst (nI 1) (by decide) dX10_update_13 ?_
      refine J_goto 18 dX10_update_14 (by decide) ?_
      exact J_zreturn dX10_update_18 rfl (by first | rfl | exact jb_n _) (hQ1) (by decide) (by decide) (fun q => by cases q)
  · exact JX_out rfl (by decide) (by decide) (hQ2 hT h' hf cp')
theorem c_X10_isConsistent (I : Inv K s) (cp : CPc h s sS P ch ea fa sv lf ln tx tp)
    (hQ : ∀ h', jFr gC h h' → CPc h' s sS P ch ea fa sv lf ln tx tp → Q (.inl (some (.int (jb true)))) h') : jCT G M_X10_isConsistent 16 0 0 X [.ref 0] h Q := by
  refine jCT_of [some (.ref 0), none] 1 rfl (by decide +kernel) rfl rfl ?_
  obtain ⟨c0, gs, hhs, hsa, hbe, hpg, hli⟩ := cp
  have cp : CPc h s sS P ch ea fa sv lf ln tx tp := ⟨c0, gs, hhs, hsa, hbe, hpg, hli⟩
  obtain ⟨fx, fy, fr, w, rt, ti, x9, y9, D, E, L, m, num, den, g⟩ := gs
  have g0 := g
  have hgr := g.gr I
  obtain ⟨g1, g2, g3, g4, g5, g6, g7, g8, g9, g10, g11, g12, g13, g14, g15, g16, e1, e2, e3⟩ := g
  have hn := I.n12
  have hs1 := I.s1
  refine J_aload_n (by rfl) (by rfl) dX10_isConsistent_0 ?_
  refine J_get dX10_isConsistent_1 f_X10_12 (by repeat (first | assumption | exact jget_same2 (by (try simp only [List.length_set]); exact jlt (by assumption)) | refine jget_ne (by first | decide | assumption | omega) ?_)) (by rfl) ?_
  refine J_get dX10_isConsistent_4 f_X10_62 (by repeat (first | assumption | exact jget_same2 (by (try simp only [List.length_set]); exact jlt (by assumption)) | refine jget_ne (by first | decide | assumption | omega) ?_)) (by rfl) ?_
  refine J_astore_1 dX10_isConsistent_7 ?_
  refine J_aload_n (by rfl) (by rfl) dX10_isConsistent_8 ?_
  refine J_get dX10_isConsistent_9 f_X10_12 (by repeat (first | assumption | exact jget_same2 (by (try simp only [List.length_set]); exact jlt (by assumption)) | refine jget_ne (by first | decide | assumption | omega) ?_)) (by rfl) ?_
  refine J_get dX10_isConsistent_12 f_X10_106 (by repeat (first | assumption | exact jget_same2 (by (try simp only [List.length_set]); exact jlt (by assumption)) | refine jget_ne (by first | decide | assumption | omega) ?_)) (by rfl) ?_
  refine J_aload_n (by rfl) (by rfl) dX10_isConsistent_15 ?_
  refine J_get dX10_isConsistent_16 f_X10_65 (by repeat (first | assumption | exact jget_same2 (by (try simp only [List.length_set]); exact jlt (by assumption)) | refine jget_ne (by first | decide | assumption | omega) ?_)) (by rfl) ?_
  refine J_V1v (ci := 5) dX10_isConsistent_19 s_X10_245 m_X5_distancesAgree rfl (by repeat (first | assumption | exact jget_same2 (by (try simp only [List.length_set]); exact jlt (by assumption)) | refine jget_ne (by first | decide | assumption | omega) ?_)) rfl (c_X5_distancesAgree hgr g3 g7 g11 g12 g13 g15 (fun D1 E1 m1 => (jKv_i ?_)))
  have hfs : jFr gC h (((h.set 12 (ia 12 D1)).set 13 (ia 12 E1)).set 15 (za 12 m1)) := ((jFr.refl.set 12 _ (by decide)).set 13 _ (by decide)).set 15 _ (by decide)
  have gp := g0.pth (h' := ((h.set 12 (ia 12 D1)).set 13 (ia 12 E1)).set 15 (za 12 m1)) (((jFr.refl.set 12 _ (by decide)).set 13 _ (by decide)).set 15 _ (by decide)) (D' := D1) (E' := E1) (L' := L) (m' := m1) (by repeat (first | assumption | exact jget_same2 (by (try simp only [List.length_set]); exact jlt (by assumption)) | refine jget_ne (by first | decide | assumption | omega) ?_)) (by repeat (first | assumption | exact jget_same2 (by (try simp only [List.length_set]); exact jlt (by assumption)) | refine jget_ne (by first | decide | assumption | omega) ?_)) (by repeat (first | assumption | exact jget_same2 (by (try simp only [List.length_set]); exact jlt (by assumption)) | refine jget_ne (by first | decide | assumption | omega) ?_)) (by repeat (first | assumption | exact jget_same2 (by (try simp only [List.length_set]); exact jlt (by assumption)) | refine jget_ne (by first | decide | assumption | omega) ?_))
  have cps := cp.gset hfs (GS.mk gp)
  generalize ((h.set 12 (ia 12 D1)).set 13 (ia 12 E1)).set 15 (za 12 m1) = hs at hfs gp cps ⊢
  have k0 := cps.c0
  have gp0 := gp
  obtain ⟨k1, k2, k3, k4, k5, k6, k7, k8, k9, k10, k11, k12, k13, k14, k15, k16, _, _, _⟩ := gp
  refine J_if_eq_b 97 dX10_isConsistent_22 (by decide) (fun c22 => ?_) (fun c22 => ?_)
  · exact absurd c22 (by decide)
  · refine J_aload_n (by rfl) (by rfl) dX10_isConsistent_25 ?_
    refine J_get dX10_isConsistent_26 f_X10_12 (by repeat (first | assumption | exact jget_same2 (by (try simp only [List.length_set]); exact jlt (by assumption)) | refine jget_ne (by first | decide | assumption | omega) ?_)) (by rfl) ?_
    refine J_get dX10_isConsistent_29 f_X10_106 (by repeat (first | assumption | exact jget_same2 (by (try simp only [List.length_set]); exact jlt (by assumption)) | refine jget_ne (by first | decide | assumption | omega) ?_)) (by rfl) ?_
    refine J_aload_n (by rfl) (by rfl) dX10_isConsistent_32 ?_
    refine J_get dX10_isConsistent_33 f_X10_65 (by repeat (first | assumption | exact jget_same2 (by (try simp only [List.length_set]); exact jlt (by assumption)) | refine jget_ne (by first | decide | assumption | omega) ?_)) (by rfl) ?_
    refine J_V1v (ci := 5) dX10_isConsistent_36 s_X10_128 m_X5_countBySearch rfl (by repeat (first | assumption | exact jget_same2 (by (try simp only [List.length_set]); exact jlt (by assumption)) | refine jget_ne (by first | decide | assumption | omega) ?_)) rfl (c_X5_countBySearch hgr k3 k7 k11 k15 (fun m2 => (jKv_i ?_)))
    refine J_aload_n (by rfl) (by rfl) dX10_isConsistent_39 ?_
    refine J_get dX10_isConsistent_40 f_X10_12 (by repeat (first | assumption | exact jget_same2 (by (try simp only [List.length_set]); exact jlt (by assumption)) | refine jget_ne (by first | decide | assumption | omega) ?_)) (by rfl) ?_
    refine J_get dX10_isConsistent_43 f_X10_106 (by repeat (first | assumption | exact jget_same2 (by (try simp only [List.length_set]); exact jlt (by assumption)) | refine jget_ne (by first | decide | assumption | omega) ?_)) (by rfl) ?_
    refine J_aload_n (by rfl) (by rfl) dX10_isConsistent_46 ?_
    refine J_get dX10_isConsistent_47 f_X10_65 (by repeat (first | assumption | exact jget_same2 (by (try simp only [List.length_set]); exact jlt (by assumption)) | refine jget_ne (by first | decide | assumption | omega) ?_)) (by rfl) ?_
    refine J_V1v (ci := 5) dX10_isConsistent_50 s_X10_132 m_X5_countByMerging rfl (by repeat (first | assumption | exact jget_same2 (by (try simp only [List.length_set]); exact jlt (by assumption)) | refine jget_ne (by first | decide | assumption | omega) ?_)) rfl (c_X5_countByMerging hgr (by repeat (first | assumption | exact jget_same2 (by (try simp only [List.length_set]); exact jlt (by assumption)) | refine jget_ne (by first | decide | assumption | omega) ?_)) (by repeat (first | assumption | exact jget_same2 (by (try simp only [List.length_set]); exact jlt (by assumption)) | refine jget_ne (by first | decide | assumption | omega) ?_)) (by repeat (first | assumption | exact jget_same2 (by (try simp only [List.length_set]); exact jlt (by assumption)) | refine jget_ne (by first | decide | assumption | omega) ?_)) (by repeat (first | assumption | exact jget_same2 (by (try simp only [List.length_set]); exact jlt (by assumption)) | refine jget_ne (by first | decide | assumption | omega) ?_)) (fun L2 => (jKv_i ?_)))
    refine J_icmp_ne 97 dX10_isConsistent_53 (by decide) (fun c53 => ?_) (fun c53 => ?_)
    · exact absurd rfl c53
    · have fin : Q (.inl (some (.int (jb true)))) ((hs.set 15 (za 12 m2)).set 14 (ia 12 L2)) := hQ _ ((hfs.set 15 _ (by decide)).set 14 _ (by decide)) (cps.gset ((jFr.refl.set 15 _ (by decide)).set 14 _ (by decide)) (GS.mk (gp0.pth (h' := (hs.set 15 (za 12 m2)).set 14 (ia 12 L2)) ((jFr.refl.set 15 _ (by decide)).set 14 _ (by decide)) (D' := D1) (E' := E1) (L' := L2) (m' := m2) (by repeat (first | assumption | exact jget_same2 (by (try simp only [List.length_set]); exact jlt (by assumption)) | refine jget_ne (by first | decide | assumption | omega) ?_)) (by repeat (first | assumption | exact jget_same2 (by (try simp only [List.length_set]); exact jlt (by assumption)) | refine jget_ne (by first | decide | assumption | omega) ?_)) (by repeat (first | assumption | exact jget_same2 (by (try simp only [List.length_set]); exact jlt (by assumption)) | refine jget_ne (by first | decide | assumption | omega) ?_)) (by repeat (first | assumption | exact jget_same2 (by (try simp only [List.length_set]); exact jlt (by assumption)) | refine jget_ne (by first | decide | assumption | omega) ?_)))))
      refine J_aload_n (by rfl) (by rfl) dX10_isConsistent_56 ?_
      refine J_get dX10_isConsistent_57 f_X10_202 (by repeat (first | assumption | exact jget_same2 (by (try simp only [List.length_set]); exact jlt (by assumption)) | refine jget_ne (by first | decide | assumption | omega) ?_)) (by rfl) ?_
      refine J_V0v (ci := 4) dX10_isConsistent_60 s_X10_220 m_X4_leftByDivision rfl (by repeat (first | assumption | exact jget_same2 (by (try simp only [List.length_set]); exact jlt (by assumption)) | refine jget_ne (by first | decide | assumption | omega) ?_)) rfl (c_X4_leftByDivision I.mo I.b (by repeat (first | assumption | exact jget_same2 (by (try simp only [List.length_set]); exact jlt (by assumption)) | refine jget_ne (by first | decide | assumption | omega) ?_)) (jKv_i ?_))
      refine J_aload_n (by rfl) (by rfl) dX10_isConsistent_63 ?_
      refine J_get dX10_isConsistent_64 f_X10_202 (by repeat (first | assumption | exact jget_same2 (by (try simp only [List.length_set]); exact jlt (by assumption)) | refine jget_ne (by first | decide | assumption | omega) ?_)) (by rfl) ?_
      refine J_V0v (ci := 4) dX10_isConsistent_67 s_X10_223 m_X4_leftByCounting rfl (by repeat (first | assumption | exact jget_same2 (by (try simp only [List.length_set]); exact jlt (by assumption)) | refine jget_ne (by first | decide | assumption | omega) ?_)) rfl (c_X4_leftByCounting I.mo I.b (by repeat (first | assumption | exact jget_same2 (by (try simp only [List.length_set]); exact jlt (by assumption)) | refine jget_ne (by first | decide | assumption | omega) ?_)) (jKv_i ?_))
      refine J_icmp_ne 97 dX10_isConsistent_70 (by decide) (fun c70 => ?_) (fun c70 => ?_)
      · exact absurd rfl c70
      · refine J_aload_n (by rfl) (by rfl) dX10_isConsistent_73 ?_
        refine J_get dX10_isConsistent_74 f_X10_144 (by repeat (first | assumption | exact jget_same2 (by (try simp only [List.length_set]); exact jlt (by assumption)) | refine jget_ne (by first | decide | assumption | omega) ?_)) (by rfl) ?_
        refine J_V0v (ci := 8) dX10_isConsistent_77 s_X10_148 m_X8_isOn rfl (by repeat (first | assumption | exact jget_same2 (by (try simp only [List.length_set]); exact jlt (by assumption)) | refine jget_ne (by first | decide | assumption | omega) ?_)) rfl (c_X8_isOn (by repeat (first | assumption | exact jget_same2 (by (try simp only [List.length_set]); exact jlt (by assumption)) | refine jget_ne (by first | decide | assumption | omega) ?_)) hs1 (jKv_i ?_))
        refine J_if_ne_b 93 dX10_isConsistent_80 (by decide) (fun c80 => ?_) (fun c80 => ?_)
        · refine J_iconst (nI 1) (by decide) dX10_isConsistent_93 ?_
          refine J_goto 98 dX10_isConsistent_94 (by decide) ?_
          exact J_zreturn dX10_isConsistent_98 rfl (by first | rfl | exact jb_n _) (fin) (by decide) (by decide) (fun _ => rfl)
        · refine J_aload_n (by rfl) (by rfl) dX10_isConsistent_83 ?_
          refine J_get dX10_isConsistent_84 f_X10_144 (by repeat (first | assumption | exact jget_same2 (by (try simp only [List.length_set]); exact jlt (by assumption)) | refine jget_ne (by first | decide | assumption | omega) ?_)) (by rfl) ?_
          refine J_get dX10_isConsistent_87 f_X10_196 (by repeat (first | assumption | exact jget_same2 (by (try simp only [List.length_set]); exact jlt (by assumption)) | refine jget_ne (by first | decide | assumption | omega) ?_)) (by rfl) ?_
          refine J_if_ne_b 97 dX10_isConsistent_90 (by decide) (fun c90 => ?_) (fun c90 => ?_)
          · have := I.a0
            simp only [decide_eq_false_iff_not, decide_eq_true_eq] at c80 c90
            omega
          · refine J_iconst (nI 1) (by decide) dX10_isConsistent_93 ?_
            refine J_goto 98 dX10_isConsistent_94 (by decide) ?_
            exact J_zreturn dX10_isConsistent_98 rfl (by first | rfl | exact jb_n _) (fin) (by decide) (by decide) (fun _ => rfl)
theorem c_X10_undo (I : Inv K s) (cp : CPc h s sS P ch ea fa sv lf ln tx tp)
    (hQ1 : 0 < ch → ∀ h', jFr clC h h' → CPc h' (fun k => P (204 * (ch - 1) + k)) sS P (ch - 1) ea fa sv lf ln tx tp → Q (.inl (some (.int (nI (ch - 1))))) h') (hQ2 : ch = 0 → Q (.inr "java/lang/IllegalStateException") h) : jCT G M_X10_undo 7 1 6 false [.ref 0] h Q := by
  refine jCT_of [some (.ref 0)] 0 rfl (by decide +kernel) rfl rfl ?_
  obtain ⟨c0, gs, hhs, hsa, hbe, hpg, hli⟩ := cp
  have cp : CPc h s sS P ch ea fa sv lf ln tx tp := ⟨c0, gs, hhs, hsa, hbe, hpg, hli⟩
  obtain ⟨fx, fy, fr, w, rt, ti, x9, y9, D, E, L, m, num, den, g⟩ := gs
  have g0 := g
  have hgr := g.gr I
  obtain ⟨g1, g2, g3, g4, g5, g6, g7, g8, g9, g10, g11, g12, g13, g14, g15, g16, e1, e2, e3⟩ := g
  have hn := I.n12
  have hs1 := I.s1
  obtain ⟨nx, f, hq⟩ := hhs
  have k17 := hq.o
  have c8 := hq.c8
  refine J_aload_n (by rfl) (by rfl) dX10_undo_0 ?_
  refine J_get dX10_undo_1 f_X10_19 (by repeat (first | assumption | exact jget_same2 (by (try simp only [List.length_set]); exact jlt (by assumption)) | refine jget_ne (by first | decide | assumption | omega) ?_)) (by rfl) ?_
  refine J_get dX10_undo_4 f_X10_319 (by repeat (first | assumption | exact jget_same2 (by (try simp only [List.length_set]); exact jlt (by assumption)) | refine jget_ne (by first | decide | assumption | omega) ?_)) (by rfl) ?_
  refine J_if_ne_n 21 dX10_undo_7 (by decide) (fun c7 => ?_) (fun c7 => ?_)
  · refine J_aload_n (by rfl) (by rfl) dX10_undo_21 ?_
    refine J_get dX10_undo_22 f_X10_19 (by repeat (first | assumption | exact jget_same2 (by (try simp only [List.length_set]); exact jlt (by assumption)) | refine jget_ne (by first | decide | assumption | omega) ?_)) (by rfl) ?_
    refine J_aload_n (by rfl) (by rfl) dX10_undo_25 ?_
    refine J_get dX10_undo_26 f_X10_12 (by repeat (first | assumption | exact jget_same2 (by (try simp only [List.length_set]); exact jlt (by assumption)) | refine jget_ne (by first | decide | assumption | omega) ?_)) (by rfl) ?_
    refine J_get dX10_undo_29 f_X10_62 (by repeat (first | assumption | exact jget_same2 (by (try simp only [List.length_set]); exact jlt (by assumption)) | refine jget_ne (by first | decide | assumption | omega) ?_)) (by rfl) ?_
    refine J_V10 (ci := 2) dX10_undo_32 s_X10_322 m_X2_takeBack rfl (by repeat (first | assumption | exact jget_same2 (by (try simp only [List.length_set]); exact jlt (by assumption)) | refine jget_ne (by first | decide | assumption | omega) ?_)) rfl (c_X2_takeBack (by omega) hq (GS.ps (GS.mk g0)) (fun h1 hf hH hp => (jK0_i ?_)))
    have cp1 := cp.upd (hf.mono (fun j hj => by rcases hj with hj | hj <;> (try have := hj.1) <;> (try have := hj.2) <;> omega)) ((GS.mk g0).putC hf (fun j hj => by show ¬ ((_ ∧ _) ∨ _); omega) hp) hH
    have k0 := cp1.c0
    obtain ⟨nx1, f1, hq1⟩ := hH
    have k171 := hq1.o
    refine J_aload_n (by rfl) (by rfl) dX10_undo_35 ?_
    refine J_get dX10_undo_36 f_X10_19 (by repeat (first | assumption | exact jget_same2 (by (try simp only [List.length_set]); exact jlt (by assumption)) | refine jget_ne (by first | decide | assumption | omega) ?_)) (by rfl) ?_
    refine J_get dX10_undo_39 f_X10_319 (by repeat (first | assumption | exact jget_same2 (by (try simp only [List.length_set]); exact jlt (by assumption)) | refine jget_ne (by first | decide | assumption | omega) ?_)) (by rfl) ?_
    exact J_ireturn dX10_undo_42 rfl (hQ1 (by omega) h1 (hf.mono (fun j hj => by show j ≤ 115; rcases hj with hj | hj <;> (try have := hj.1) <;> (try have := hj.2) <;> omega)) cp1) (by decide) (by decide) (fun q => by cases q)
  · exact J_throwW (i := 9) t_X10_276_280 dX10_undo_10 dX10_undo_13 dX10_undo_14 dX10_undo_17 dX10_undo_20 rfl rfl rfl rfl (by decide) (by exact Nat.le_of_ble_eq_true rfl) (by decide) (by decide) (by decide) (by decide) (hQ2 (by omega))
theorem c_X10_save (I : Inv K s) (cp : CPc h s sS P ch ea fa sv lf ln tx tp)
    (hQ : ∀ h', jFr clC h h' → CPc h' s s P ch ea fa true lf ln tx tp → Q (.inl (some (.int (nI (s 0))))) h') : jCT G M_X10_save 4 0 0 X [.ref 0] h Q := by
  refine jCT_of [some (.ref 0)] 0 rfl (by decide +kernel) rfl rfl ?_
  obtain ⟨c0, gs, hhs, hsa, hbe, hpg, hli⟩ := cp
  have cp : CPc h s sS P ch ea fa sv lf ln tx tp := ⟨c0, gs, hhs, hsa, hbe, hpg, hli⟩
  obtain ⟨fx, fy, fr, w, rt, ti, x9, y9, D, E, L, m, num, den, g⟩ := gs
  have g0 := g
  have hgr := g.gr I
  obtain ⟨g1, g2, g3, g4, g5, g6, g7, g8, g9, g10, g11, g12, g13, g14, g15, g16, e1, e2, e3⟩ := g
  have hn := I.n12
  have hs1 := I.s1
  have kk91 := hsa.1.at0
  refine J_aload_n (by rfl) (by rfl) dX10_save_0 ?_
  refine J_get dX10_save_1 f_X10_26 (by repeat (first | assumption | exact jget_same2 (by (try simp only [List.length_set]); exact jlt (by assumption)) | refine jget_ne (by first | decide | assumption | omega) ?_)) (by rfl) ?_
  refine J_aload_n (by rfl) (by rfl) dX10_save_4 ?_
  refine J_get dX10_save_5 f_X10_12 (by repeat (first | assumption | exact jget_same2 (by (try simp only [List.length_set]); exact jlt (by assumption)) | refine jget_ne (by first | decide | assumption | omega) ?_)) (by rfl) ?_
  refine J_get dX10_save_8 f_X10_62 (by repeat (first | assumption | exact jget_same2 (by (try simp only [List.length_set]); exact jlt (by assumption)) | refine jget_ne (by first | decide | assumption | omega) ?_)) (by rfl) ?_
  refine J_V10 (ci := 7) dX10_save_11 s_X10_299 m_X7_takeFrom rfl (by repeat (first | assumption | exact jget_same2 (by (try simp only [List.length_set]); exact jlt (by assumption)) | refine jget_ne (by first | decide | assumption | omega) ?_)) rfl (c_X7_takeFrom hs1 (by omega) hsa.1 (GS.ps (GS.mk g0)) (fun h1 hf hp => (jK0_i ?_)))
  have cp1 := (cp.sas hf hp hs1).c0s ea fa true (fun _ => hs1)
  have k0 := hf.at (by show ¬ (_ ∧ _); omega) c0
  have hp0 := hp
  obtain ⟨_, _, _, _, _, _, _, _, p0, p1, _⟩ := hp0
  have p0 : h1[91]? = some (.inr (7, [.ref 92, .ref 97, .ref 99])) := p0
  have p1 : h1[92]? = some (.inr (9, [.ref 93, .ref 94, .ref 95, .ref 96, .int (nI (s 0)), .int (nI (mT (wS s)))])) := p1
  refine J_aload_n (by rfl) (by rfl) dX10_save_14 ?_
  refine J_iconst (nI 1) (by decide) dX10_save_15 ?_
  refine J_put_6 dX10_save_16 p_X10_47 (by repeat (first | assumption | exact jget_same2 (by (try simp only [List.length_set]); exact jlt (by assumption)) | refine jget_ne (by first | decide | assumption | omega) ?_)) ?_
  refine J_aload_n (by rfl) (by rfl) dX10_save_19 ?_
  refine J_get dX10_save_20 f_X10_26 (by repeat (first | assumption | exact jget_same2 (by (try simp only [List.length_set]); exact jlt (by assumption)) | refine jget_ne (by first | decide | assumption | omega) ?_)) (by rfl) ?_
  refine J_get dX10_save_23 f_X10_65 (by repeat (first | assumption | exact jget_same2 (by (try simp only [List.length_set]); exact jlt (by assumption)) | refine jget_ne (by first | decide | assumption | omega) ?_)) (by rfl) ?_
  refine J_get dX10_save_26 f_X10_69 (by repeat (first | assumption | exact jget_same2 (by (try simp only [List.length_set]); exact jlt (by assumption)) | refine jget_ne (by first | decide | assumption | omega) ?_)) (by rfl) ?_
  exact J_ireturn dX10_save_29 rfl (hQ _ ((hf.mono (fun j hj => Nat.le_trans hj.2 (by decide))).set 0 _ (by decide)) cp1) (by decide) (by decide) (fun _ => rfl)
theorem c_X10_restore (I : Inv K s) (cp : CPc h s sS P ch ea fa sv lf ln tx tp)
    (hQ1 : sv = true → ∀ h', jFr clC h h' → CPc h' sS sS P 0 ea fa sv lf ln tx tp → Q (.inl (some (.int (nI (sS 0))))) h') (hQ2 : sv = false → Q (.inr "java/lang/IllegalStateException") h) : jCT G M_X10_restore 7 1 6 false [.ref 0] h Q := by
  refine jCT_of [some (.ref 0)] 0 rfl (by decide +kernel) rfl rfl ?_
  obtain ⟨c0, gs, hhs, hsa, hbe, hpg, hli⟩ := cp
  have cp : CPc h s sS P ch ea fa sv lf ln tx tp := ⟨c0, gs, hhs, hsa, hbe, hpg, hli⟩
  obtain ⟨fx, fy, fr, w, rt, ti, x9, y9, D, E, L, m, num, den, g⟩ := gs
  have g0 := g
  have hgr := g.gr I
  obtain ⟨g1, g2, g3, g4, g5, g6, g7, g8, g9, g10, g11, g12, g13, g14, g15, g16, e1, e2, e3⟩ := g
  have hn := I.n12
  have hs1 := I.s1
  refine J_aload_n (by rfl) (by rfl) dX10_restore_0 ?_
  refine J_get dX10_restore_1 f_X10_47 (by repeat (first | assumption | exact jget_same2 (by (try simp only [List.length_set]); exact jlt (by assumption)) | refine jget_ne (by first | decide | assumption | omega) ?_)) (by rfl) ?_
  refine J_if_ne_b 18 dX10_restore_4 (by decide) (fun c4 => ?_) (fun c4 => ?_)
  · refine J_aload_n (by rfl) (by rfl) dX10_restore_18 ?_
    refine J_get dX10_restore_19 f_X10_12 (by repeat (first | assumption | exact jget_same2 (by (try simp only [List.length_set]); exact jlt (by assumption)) | refine jget_ne (by first | decide | assumption | omega) ?_)) (by rfl) ?_
    refine J_get dX10_restore_22 f_X10_62 (by repeat (first | assumption | exact jget_same2 (by (try simp only [List.length_set]); exact jlt (by assumption)) | refine jget_ne (by first | decide | assumption | omega) ?_)) (by rfl) ?_
    refine J_aload_n (by rfl) (by rfl) dX10_restore_25 ?_
    refine J_get dX10_restore_26 f_X10_26 (by repeat (first | assumption | exact jget_same2 (by (try simp only [List.length_set]); exact jlt (by assumption)) | refine jget_ne (by first | decide | assumption | omega) ?_)) (by rfl) ?_
    refine J_V10 (ci := 7) dX10_restore_29 s_X10_299 m_X7_takeFrom rfl (by repeat (first | assumption | exact jget_same2 (by (try simp only [List.length_set]); exact jlt (by assumption)) | refine jget_ne (by first | decide | assumption | omega) ?_)) rfl (c_X7_takeFrom (hsa.2 c4) (by omega) (GS.ps (GS.mk g0)) hsa.1 (fun h1 hf hp => (jK0_i ?_)))
    have hH1 := hhs.frm hf (fun j a b => by show ¬ (_ ∧ _); omega)
    have gs1 := (GS.mk g0).put hf hp
    have k0 := hf.at (by show ¬ (_ ∧ _); omega) c0
    obtain ⟨nx, f, hq⟩ := hH1
    have k17 := hq.o
    refine J_aload_n (by rfl) (by rfl) dX10_restore_32 ?_
    refine J_get dX10_restore_33 f_X10_19 (by repeat (first | assumption | exact jget_same2 (by (try simp only [List.length_set]); exact jlt (by assumption)) | refine jget_ne (by first | decide | assumption | omega) ?_)) (by rfl) ?_
    refine J_V00 (ci := 2) dX10_restore_36 s_X10_327 m_X2_forget rfl (by repeat (first | assumption | exact jget_same2 (by (try simp only [List.length_set]); exact jlt (by assumption)) | refine jget_ne (by first | decide | assumption | omega) ?_)) rfl (c_X2_forget hq (fun h2 hf2 hH2 => (jK0_i ?_)))
    have gs2 : GS h2 sS := gs1.frm hf2 (fun j a b => by show ¬ (_ ∧ _); omega)
    have cp2 := cp.upd ((hf.mono (fun j hj => by have := hj.1; have := hj.2; omega)).trans (hf2.mono (fun j hj => by have := hj.1; have := hj.2; omega))) gs2 hH2
    have k02 := cp2.c0
    obtain ⟨_, _, _, _, _, _, _, _, _, _, _, _, _, _, gg⟩ := gs2
    have w1 := gg.g1
    have w2 := gg.g2
    have w3 := gg.g3
    refine J_aload_n (by rfl) (by rfl) dX10_restore_39 ?_
    refine J_get dX10_restore_40 f_X10_12 (by repeat (first | assumption | exact jget_same2 (by (try simp only [List.length_set]); exact jlt (by assumption)) | refine jget_ne (by first | decide | assumption | omega) ?_)) (by rfl) ?_
    refine J_get dX10_restore_43 f_X10_62 (by repeat (first | assumption | exact jget_same2 (by (try simp only [List.length_set]); exact jlt (by assumption)) | refine jget_ne (by first | decide | assumption | omega) ?_)) (by rfl) ?_
    refine J_get dX10_restore_46 f_X10_65 (by repeat (first | assumption | exact jget_same2 (by (try simp only [List.length_set]); exact jlt (by assumption)) | refine jget_ne (by first | decide | assumption | omega) ?_)) (by rfl) ?_
    refine J_get dX10_restore_49 f_X10_69 (by repeat (first | assumption | exact jget_same2 (by (try simp only [List.length_set]); exact jlt (by assumption)) | refine jget_ne (by first | decide | assumption | omega) ?_)) (by rfl) ?_
    exact J_ireturn dX10_restore_52 rfl (hQ1 c4 h2 ((hf.mono (fun j hj => Nat.le_trans hj.2 (by decide))).trans (hf2.mono (fun j hj => Nat.le_trans hj.2 (by decide)))) cp2) (by decide) (by decide) (fun q => by cases q)
  · exact J_throwW (i := 10) t_X10_276_280 dX10_restore_7 dX10_restore_10 dX10_restore_11 dX10_restore_14 dX10_restore_17 rfl rfl rfl rfl (by decide) (by exact Nat.le_of_ble_eq_true rfl) (by decide) (by decide) (by decide) (by decide) (hQ2 c4)
theorem c_X10_type {c : Nat} (hc : c < 65536) (ht : tp ≤ 60) (cp : CPc h s sS P ch ea fa sv lf ln tx tp)
    (hQ1 : tp < 60 → ∀ h', jFr clC h h' → CPc h' s sS P ch ea fa sv lf ln (updN tx tp c) (tp + 1) → Q (.inl (some (.int (nI (tp + 1))))) h') (hQ2 : tp = 60 → Q (.inr "java/lang/IllegalStateException") h) : jCT G M_X10_type 7 1 6 false [.ref 0, .int (nI c)] h Q := by
  refine jCT_of [some (.ref 0), some (.int (nI c))] 0 rfl (by decide +kernel) rfl rfl ?_
  have c0 := cp.c0
  obtain ⟨po, ct, vc, ks, as_, vs, p1, p2, p3, p4, p5⟩ := cp.pg
  refine J_aload_n (by rfl) (by rfl) dX10_type_0 ?_
  refine J_get dX10_type_1 f_X10_36 (by repeat (first | assumption | exact jget_same2 (by (try simp only [List.length_set]); exact jlt (by assumption)) | refine jget_ne (by first | decide | assumption | omega) ?_)) (by rfl) ?_
  refine J_V0v (ci := 6) dX10_type_4 s_X10_273 m_X6_isFull rfl (by repeat (first | assumption | exact jget_same2 (by (try simp only [List.length_set]); exact jlt (by assumption)) | refine jget_ne (by first | decide | assumption | omega) ?_)) rfl (c_X6_isFull ht p1 (jKv_i ?_))
  refine J_if_eq_b 21 dX10_type_7 (by decide) (fun c7 => ?_) (fun c7 => ?_)
  · simp only [decide_eq_false_iff_not] at c7
    refine J_aload_n (by rfl) (by rfl) dX10_type_21 ?_
    refine J_get dX10_type_22 f_X10_36 (by repeat (first | assumption | exact jget_same2 (by (try simp only [List.length_set]); exact jlt (by assumption)) | refine jget_ne (by first | decide | assumption | omega) ?_)) (by rfl) ?_
    refine J_iload_n (by rfl) dX10_type_25 ?_
    refine J_V1v (ci := 6) dX10_type_26 s_X10_281 m_X6_append rfl (by repeat (first | assumption | exact jget_same2 (by (try simp only [List.length_set]); exact jlt (by assumption)) | refine jget_ne (by first | decide | assumption | omega) ?_)) rfl (c_X6_append (by omega) hc p1 p2 (jKv_i ?_))
    exact J_ireturn dX10_type_29 rfl (hQ1 (by omega) _ ((jFr.refl.set 110 _ (by decide)).set 109 _ (by decide)) (cp.pgs ((jFr.refl.set 110 _ (by decide)).set 109 _ (by decide)) ⟨po, ct, vc, ks, as_, vs, (by repeat (first | assumption | exact jget_same2 (by (try simp only [List.length_set]); exact jlt (by assumption)) | refine jget_ne (by first | decide | assumption | omega) ?_)), (by repeat (first | assumption | exact jget_same2 (by (try simp only [List.length_set]); exact jlt (by assumption)) | refine jget_ne (by first | decide | assumption | omega) ?_)), (by repeat (first | assumption | exact jget_same2 (by (try simp only [List.length_set]); exact jlt (by assumption)) | refine jget_ne (by first | decide | assumption | omega) ?_)), (by repeat (first | assumption | exact jget_same2 (by (try simp only [List.length_set]); exact jlt (by assumption)) | refine jget_ne (by first | decide | assumption | omega) ?_)), (by repeat (first | assumption | exact jget_same2 (by (try simp only [List.length_set]); exact jlt (by assumption)) | refine jget_ne (by first | decide | assumption | omega) ?_))⟩)) (by decide) (by decide) (fun q => by cases q)
  · simp only [decide_eq_true_eq] at c7
    exact J_throwW (i := 20) t_X10_276_280 dX10_type_10 dX10_type_13 dX10_type_14 dX10_type_17 dX10_type_20 rfl rfl rfl rfl (by decide) (by exact Nat.le_of_ble_eq_true rfl) (by decide) (by decide) (by decide) (by decide) (hQ2 (by omega))
end FACE3
