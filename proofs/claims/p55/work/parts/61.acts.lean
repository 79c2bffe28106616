/-! The law's acts -/
/-- a capacity and a length of a builder -/
abbrev cpt (cap n : Nat) : Prop := (cap = 16 ∧ n ≤ 16) ∨ (cap = 34 ∧ 17 ≤ n ∧ n ≤ 34)
theorem cpt_s {cap n q : Nat} (c : cpt cap n) (h1 : n ≤ q) (h2 : q ≤ 34) : cpt (capN cap q) q := by
  unfold capN
  rcases c with ⟨rfl, h3⟩ | ⟨rfl, h3, h4⟩
  · by_cases h5 : q ≤ 16
    · rw [if_pos h5]; exact .inl ⟨rfl, h5⟩
    · rw [if_neg h5]; exact .inr ⟨by omega, by omega, h2⟩
  · rw [if_pos h2]; exact .inr ⟨rfl, by omega, h2⟩
theorem szN_b (k : Nat) : 1 ≤ szN k ∧ szN k ≤ 2 := by unfold szN; split <;> omega
theorem szN_1 {k : Nat} (h : k < 10) : szN k = 1 := by unfold szN; rw [if_pos h]
/-- a builder that grows; what lies below stays -/
abbrev BS (G0 G : jG) (h0 h : jH) (b v cap n : Nat) : Prop := gEx h0.length G0 G ∧ h0.length ≤ h.length ∧ hOk h ∧ (∀ j, j < h0.length → h[j]? = h0[j]?) ∧ h0.length ≤ b ∧ h0.length ≤ v ∧ SB h b v cap n ∧ cpt cap n
theorem lOk.mono {n k : Nat} (hn : n ≤ k) : ∀ {l : List (Option Value)}, lOk n l → lOk k l
  | [], _ => trivial
  | none :: r, h => lOk.mono (l := r) hn h
  | some v :: r, h => ⟨vOk.mono hn h.1, lOk.mono (l := r) hn h.2⟩
section BSS
variable {G0 G G1 : jG} {h0 h h1 : jH} {b v v1 cap n w : Nat} {x : Value}
theorem BS.ap {q : Nat} (B : BS G0 G h0 h b v cap n) (h1q : n ≤ q) (h2q : q ≤ 34) (e : gEx h.length G G1) (k : kpt h h1 b v) (hv : v1 = v ∨ h.length ≤ v1) (g : SB h1 b v1 (capN cap q) q) : BS G0 G1 h0 h1 b v1 (capN cap q) q := by
  obtain ⟨b1, b2, b3, b4, b5, b6, b7, b8⟩ := B
  have k1 := k.1
  exact ⟨b1.trans e b2, by omega, k.2.1, fun j hj => by rw [k.2.2 j (by omega) (by omega) (by omega)]; exact b4 j hj, b5, by rcases hv with q | q <;> omega, g, cpt_s b8 h1q h2q⟩
theorem BS.up (B : BS G0 G h0 h b v cap n) (e : gEx h.length G G1) (hl : h.length ≤ h1.length) (hh : hOk h1) (hk : ∀ j, j < h.length → h1[j]? = h[j]?) : BS G0 G1 h0 h1 b v cap n := by
  obtain ⟨b1, b2, b3, b4, b5, b6, b7, b8⟩ := B
  obtain ⟨ml, f, hb, hvv, hf, hn, hcap, hne⟩ := b7
  exact ⟨b1.trans e b2, by omega, hh, fun j hj => by rw [hk j (by omega)]; exact b4 j hj, b5, b6, ⟨ml, f, (hk b (jlt hb)).trans hb, (hk v (jlt hvv)).trans hvv, hf, hn, hcap, hne⟩, b8⟩
variable {R : Room} {F : jF} {M : jM} {kc kn pc idx : Nat} {lo : List (Option Value)} {st : List Value}
theorem J_apS (hd : decode (m_c M) pc = .ok (.invokevirtual idx, 3)) (hs : sV (m_y M).cls idx M_J4_append_15ec4) (B : BS G0 G h0 h b v cap n) (hv : StrV h x w) (ha : apt h x b v) (hl : lOk h.length lo) (hk : sOk h.length st)
    (kk : ∀ (G1 : jG) (h1 : jH) (v1 cap1 : Nat), BS G0 G1 h0 h1 b v1 cap1 (n + w) → h.length ≤ h1.length → J G1 R F M false (kc + 1) (kn + 3000) (pc + 3) lo (.ref b :: st) h1) (hq : n + w ≤ 34 := by omega)
    (hf : jfit R (m_n M_J4_append_15ec4) 6 1 3000 kc kn = true := by rfl) (hst : (st.map fun v => v.category).sum ≤ 8 := by exact Nat.le_of_ble_eq_true rfl) : J G R F M false kc kn pc lo (x :: .ref b :: st) h := by
  have B0 := B
  obtain ⟨b1, b2, b3, b4, b5, b6, b7, b8⟩ := B
  have b70 := b7
  obtain ⟨ml, f, hb, _⟩ := b70
  exact J_V1vA (ci := 11) hd hs m_J4_append_15ec4 rfl hb rfl hl hk (c_J4_appendS b3 hv b7 ha (by omega) (by omega) (fun G1 h1 v1 e1 k1 hv1 g1 => jKv_i fun _ => kk G1 h1 v1 _ (B0.ap (by omega) hq e1 k1 hv1 g1) k1.1)) hf hst
theorem J_apI {k : Nat} (hd : decode (m_c M) pc = .ok (.invokevirtual idx, 3)) (hs : sV (m_y M).cls idx M_J4_append_bf812) (B : BS G0 G h0 h b v cap n) (hk1 : k < 100) (hl : lOk h.length lo) (hk : sOk h.length st)
    (kk : ∀ (G1 : jG) (h1 : jH) (v1 cap1 : Nat), BS G0 G1 h0 h1 b v1 cap1 (n + szN k) → h.length ≤ h1.length → J G1 R F M false (kc + 1) (kn + 3000) (pc + 3) lo (.ref b :: st) h1) (hq : n ≤ 32 := by omega)
    (hf : jfit R (m_n M_J4_append_bf812) 6 1 3000 kc kn = true := by rfl) (hst : (st.map fun v => v.category).sum ≤ 8 := by exact Nat.le_of_ble_eq_true rfl) : J G R F M false kc kn pc lo (.int (nI k) :: .ref b :: st) h := by
  have B0 := B
  have hz := szN_b k
  obtain ⟨b1, b2, b3, b4, b5, b6, b7, b8⟩ := B
  have b70 := b7
  obtain ⟨ml, f, hb, _⟩ := b70
  exact J_V1vA (ci := 11) hd hs m_J4_append_bf812 rfl hb rfl hl hk (c_J4_appendI b3 hk1 b7 (by omega) (by omega) (fun G1 h1 v1 e1 k1 hv1 g1 => jKv_i fun _ => kk G1 h1 v1 _ (B0.ap (by omega) (by omega) e1 k1 hv1 g1) k1.1)) hf hst
theorem J_toS (hd : decode (m_c M) pc = .ok (.invokevirtual idx, 3)) (hs : sV (m_y M).cls idx M_J4_toString_0e30d) (B : BS G0 G h0 h b v cap n) (hn : n < cap) (hl : lOk h.length lo) (hk : sOk h.length st)
    (kk : ∀ (G1 : jG) (h1 : jH) (f : Nat → Int32), gEx h.length G G1 → h1.length = h.length + 2 → hOk h1 → (∀ j, j < h.length → h1[j]? = h[j]?) → h1[h.length]? = some (hSt (h.length + 1) 0 0) → h1[h.length + 1]? = some (ba n f) → bFit f → J G1 R F M false (kc + 2) (kn + 3004) (pc + 3) lo (.ref h.length :: st) h1)
    (hf : jfit R (m_n M_J4_toString_0e30d) 6 2 3004 kc kn = true := by rfl) (hst : (st.map fun v => v.category).sum ≤ 8 := by exact Nat.le_of_ble_eq_true rfl) : J G R F M false kc kn pc lo (.ref b :: st) h := by
  obtain ⟨b1, b2, b3, b4, b5, b6, b7, b8⟩ := B
  have b70 := b7
  obtain ⟨ml, f, hb, _⟩ := b70
  exact J_V0vA (ci := 11) hd hs m_J4_toString_0e30d rfl hb rfl hl hk (c_J4_toString b3 b7 hn (fun G1 h1 f e1 a1 a2 a3 a4 a5 a6 => jKv_i fun _ => kk G1 h1 f e1 a1 a2 a3 a4 a5 a6)) hf hst
theorem J_mkB {X : Bool} {idx2 : Nat} (hd : decode (m_c M) pc = .ok (.new idx, 3)) (hn : sN (m_y M).cls idx 11 4 [.null, .int 0, .int 0, .int 0]) (hd2 : decode (m_c M) (pc + 3) = .ok (.dup, 1)) (hd3 : decode (m_c M) (pc + 3 + 1) = .ok (.invokespecial idx2, 3)) (hs : sI (m_y M).cls idx2 M_J4_init_da8c8) (hh : hOk h) (hl : lOk h.length lo) (hk : sOk h.length st)
    (kk : ∀ (G1 : jG) (h1 : jH) (b v : Nat), BS G G1 h h1 b v 16 0 → J G1 R F M false (kc + 1 + 1) (kn + 4 + 3000) (pc + 3 + 1 + 3) lo (.ref b :: st) h1) (hc1 : kc + 1 ≤ R.cells := by decide) (hc2 : kn + 4 ≤ R.slots := by decide)
    (hf : jfit R (m_n M_J4_init_da8c8) 2 1 3000 (kc + 1) (kn + 4) = true := by rfl) (hst : ((Value.ref h.length :: st).map fun v => v.category).sum ≤ 8 := by exact Nat.le_of_ble_eq_true rfl) : J G R F M X kc kn pc lo st h := by
  refine J_newA hd hn hh hl hk hc1 hc2 ⟨trivial, trivial, trivial, trivial, trivial⟩ (fun G1 e1 => ?_)
  refine J_dup (by rfl) hd2 ?_
  refine J_I00A hd3 hs m_J4_init_da8c8 rfl (by rw [push_len]; exact lOk.mono (Nat.le_succ _) hl) (by rw [push_len]; exact ⟨Nat.lt_succ_self _, sOk.mono (Nat.le_succ _) hk⟩) (c_J4_init (hOk.push (c := .inr (11, [.null, .int 0, .int 0, .int 0])) hh ⟨trivial, trivial, trivial, trivial, trivial⟩) push_at (fun G2 h2 e2 a1 a2 a3 a4 => jK0_i fun _ => kk G2 h2 h.length (h.length + 1) ?_)) hf hst
  rw [push_len] at e2 a1 a3 a4
  exact ⟨e1.trans e2 (by omega), by omega, a2, fun j hj => by rw [a3 j (by omega) (by omega), push_lo hj], Nat.le_refl _, by omega, a4, .inl ⟨rfl, by decide⟩⟩
theorem apt_c {i : Nat} : apt h (.retAddr i) b v := fun c u hs hz e => by cases e
theorem sv_11 : StrV h (.retAddr (2 * 11 + 2)) 5 := .inl ⟨11, _, rfl, rfl, rfl, by decide, by decide⟩
theorem sv_12 : StrV h (.retAddr (2 * 12 + 2)) 1 := .inl ⟨12, _, rfl, rfl, rfl, by decide, by decide⟩
theorem sv_13 : StrV h (.retAddr (2 * 13 + 2)) 5 := .inl ⟨13, _, rfl, rfl, rfl, by decide, by decide⟩
theorem sv_14 : StrV h (.retAddr (2 * 14 + 2)) 14 := .inl ⟨14, _, rfl, rfl, rfl, by decide, by decide⟩
theorem sv_16 : StrV h (.retAddr (2 * 16 + 2)) 5 := .inl ⟨16, _, rfl, rfl, rfl, by decide, by decide⟩
theorem sv_17 : StrV h (.retAddr (2 * 17 + 2)) 1 := .inl ⟨17, _, rfl, rfl, rfl, by decide, by decide⟩
theorem sv_18 : StrV h (.retAddr (2 * 18 + 2)) 7 := .inl ⟨18, _, rfl, rfl, rfl, by decide, by decide⟩
theorem sv_19 : StrV h (.retAddr (2 * 19 + 2)) 1 := .inl ⟨19, _, rfl, rfl, rfl, by decide, by decide⟩
end BSS
