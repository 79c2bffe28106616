/-! Making cells where it isn't known how many were made: the place of the new cell is put where it came to lie -/
def gput (G : jG) (P : Nat → Nat) : jG := (G.1, G.2.1, G.2.2.1, G.2.2.2.1, G.2.2.2.2.1, G.2.2.2.2.2.1, G.2.2.2.2.2.2.1, P)
/-- the same, but for the places from n on -/
def gEx (n : Nat) (G G' : jG) : Prop := (∃ P, G' = gput G P) ∧ ∀ i, i < n → g_P G' i = g_P G i
theorem gEx.refl (n : Nat) (G : jG) : gEx n G G := ⟨⟨g_P G, rfl⟩, fun _ _ => rfl⟩
theorem gEx.trans {n k : Nat} {G G' G'' : jG} (h : gEx n G G') (h2 : gEx k G' G'') (hn : n ≤ k) : gEx n G G'' := by
  obtain ⟨⟨P, rfl⟩, h1⟩ := h
  obtain ⟨⟨P', rfl⟩, h3⟩ := h2
  exact ⟨⟨P', rfl⟩, fun i hi => (h3 i (by omega)).trans (h1 i hi)⟩
def vOk (n : Nat) : Value → Prop
  | .ref i => i < n
  | _ => True
def lOk (n : Nat) : List (Option Value) → Prop
  | [] => True
  | none :: r => lOk n r
  | some v :: r => vOk n v ∧ lOk n r
def sOk (n : Nat) : List Value → Prop
  | [] => True
  | v :: r => vOk n v ∧ sOk n r
def cOk (n : Nat) : jC → Prop
  | .inl (_, m, .inr (.inr (.inr (.inr f)))) => ∀ j r, j < m → f j = some r → r < n
  | .inl _ => True
  | .inr (_, fs) => sOk n fs
def hOk (h : jH) : Prop := ∀ (i : Nat) (c : jC), h[i]? = some c → cOk h.length c
theorem vOk.mono {n k : Nat} (hn : n ≤ k) : ∀ {v : Value}, vOk n v → vOk k v
  | .ref i, h => Nat.lt_of_lt_of_le h hn
  | .int _, _ => trivial
  | .long _, _ => trivial
  | .float _, _ => trivial
  | .double _, _ => trivial
  | .null, _ => trivial
  | .retAddr _, _ => trivial
theorem sOk.mono {n k : Nat} (hn : n ≤ k) : ∀ {l : List Value}, sOk n l → sOk k l
  | [], _ => trivial
  | _ :: _, h => ⟨h.1.mono hn, sOk.mono hn h.2⟩
theorem cOk.mono {n k : Nat} (hn : n ≤ k) : ∀ {c : jC}, cOk n c → cOk k c
  | .inl (_, _, .inr (.inr (.inr (.inr _)))), h => fun j r hj e => Nat.lt_of_lt_of_le (h j r hj e) hn
  | .inl (_, _, .inl _), _ => trivial
  | .inl (_, _, .inr (.inl _)), _ => trivial
  | .inl (_, _, .inr (.inr (.inl _))), _ => trivial
  | .inl (_, _, .inr (.inr (.inr (.inl _)))), _ => trivial
  | .inr (_, _), h => sOk.mono hn h
theorem hOk.push {h : jH} {c : jC} (hh : hOk h) (hc : cOk (h.length + 1) c) : hOk (h ++ [c]) := by
  intro i d hi
  rw [List.length_append, List.length_cons, List.length_nil]
  rcases Nat.lt_or_ge i h.length with q | q
  · rw [List.getElem?_append_left q] at hi
    exact (hh i d hi).mono (by omega)
  · rw [List.getElem?_append_right q] at hi
    have := (List.getElem?_eq_some_iff.mp hi).1
    simp only [List.length_cons, List.length_nil] at this
    rw [show i - h.length = 0 by omega] at hi
    cases hi
    exact hc
theorem hOk.set {h : jH} {c : jC} {k : Nat} (hh : hOk h) (hc : cOk h.length c) : hOk (h.set k c) := by
  intro i d hi
  rw [List.length_set]
  by_cases q : k = i
  · subst q
    rw [List.getElem?_set_self (by have := (List.getElem?_eq_some_iff.mp hi).1; rw [List.length_set] at this; exact this)] at hi
    cases hi
    exact hc
  · rw [List.getElem?_set_ne q] at hi
    exact hh i d hi
section EXT
variable {n : Nat} {G G' : jG}
theorem cV_ex (e : gEx n G G') : ∀ {v : Value}, vOk n v → cV G' v = cV G v
  | .ref i, h => by show Value.ref (g_P G' i) = Value.ref (g_P G i); rw [e.2 i h]
  | .int _, _ => rfl
  | .long _, _ => rfl
  | .float _, _ => rfl
  | .double _, _ => rfl
  | .null, _ => rfl
  | .retAddr _, _ => by obtain ⟨⟨P, rfl⟩, _⟩ := e; rfl
theorem sV_ex (e : gEx n G G') : ∀ {l : List Value}, sOk n l → l.map (cV G') = l.map (cV G)
  | [], _ => rfl
  | v :: r, h => by rw [List.map_cons, List.map_cons, cV_ex e h.1, sV_ex e h.2]
theorem lOk_at : ∀ {l : List (Option Value)} {i : Nat} {v : Value}, lOk n l → l[i]? = some (some v) → vOk n v
  | [], i, v, _, h => by simp at h
  | none :: r, 0, v, _, h => by simp at h
  | none :: r, i + 1, v, q, h => lOk_at (l := r) (i := i) q (by simpa using h)
  | some w :: r, 0, v, q, h => by simp at h; subst h; exact q.1
  | some w :: r, i + 1, v, q, h => lOk_at (l := r) (i := i) q.2 (by simpa using h)
theorem arr_congr {cA : ClassId} {N : Nat} {f g : Nat → Value} (h : ∀ j, j < N → f j = g j) : arrV cA N f = arrV cA N g := by
  have : (fun j : Fin N => f j.val) = fun j => g j.val := funext fun j => h j.val j.isLt
  unfold arrV
  rw [this]
theorem at_ex (e : gEx n G G') {D : va_G} {cl : List vw_C} {a : Nat} {H : Heap} : ∀ {c : jC}, cOk n c → va_at D cl (a, cE G c) H → va_at D cl (a, cE G' c) H
  | .inl (k, m, .inr (.inr (.inr (.inr f)))), h, q => by
    have hm : ∀ j, j < m → va_rf ((f j).map (g_P G')) = va_rf ((f j).map (g_P G)) := by
      intro j hj
      cases hf : f j with
      | none => rfl
      | some r => show va_rf (some (g_P G' r)) = va_rf (some (g_P G r)); rw [e.2 r (h j r hj hf)]
    obtain ⟨⟨P, rfl⟩, _⟩ := e
    show H[a]? = some (arrV (g_A G k) m (fun j => va_rf ((f j).map (g_P (gput G P)))))
    rw [arr_congr hm]
    exact q
  | .inl (k, m, .inl _), _, q => by obtain ⟨⟨P, rfl⟩, _⟩ := e; exact q
  | .inl (k, m, .inr (.inl _)), _, q => by obtain ⟨⟨P, rfl⟩, _⟩ := e; exact q
  | .inl (k, m, .inr (.inr (.inl _))), _, q => by obtain ⟨⟨P, rfl⟩, _⟩ := e; exact q
  | .inl (k, m, .inr (.inr (.inr (.inl _)))), _, q => by obtain ⟨⟨P, rfl⟩, _⟩ := e; exact q
  | .inr (ci, fs), h, q => by
    have hz : cE G' (.inr (ci, fs)) = cE G (.inr (ci, fs)) := by show (Sum.inr (ci, fs.map (cV G')) : va_E) = Sum.inr (ci, fs.map (cV G)); rw [sV_ex e h]
    rw [hz]
    exact q
theorem jD_ex (e : gEx n G G') (hD : jD G n) : jD G' n := by
  refine ⟨fun i j hi hj h => hD.1 i j hi hj (by rw [← e.2 i hi, ← e.2 j hj]; exact h), fun i hi => ?_⟩
  rw [e.2 i hi]
  have := hD.2 i hi
  obtain ⟨⟨P, rfl⟩, _⟩ := e
  exact this
theorem cW_some {h : jH} {k : Nat} {q : Nat × va_E} (hk : (cW G h)[k]? = some q) : ∃ c, h[k]? = some c ∧ q = (g_P G k, cE G c) := by
  have h1 := (cW_key hk).1
  have h2 := cW_get (G := G) (List.getElem?_eq_getElem h1)
  rw [h2] at hk
  exact ⟨_, List.getElem?_eq_getElem h1, (Option.some.inj hk).symm⟩
theorem HR_ex {h : jH} {H : Heap} (e : gEx h.length G G') (hh : hOk h) (hH : HR G h H) : HR G' h H := by
  refine ⟨fun k q hk => ?_, jD_ex e hH.2⟩
  obtain ⟨c, hc, rfl⟩ := cW_some hk
  have h1 := at_ex e (hh k c hc) (hH.1 k _ (cW_get hc))
  rw [e.2 k (List.getElem?_eq_some_iff.mp hc).1]
  have hg : g_D G' = g_D G := by obtain ⟨⟨P, rfl⟩, _⟩ := e; rfl
  rw [hg]
  exact h1
theorem jLs_ex {k : Nat} {lo : List (Option Value)} {ls : Array Slot} (e : gEx n G G') (hl : lOk n lo) (hL : jLs G k lo ls) : jLs G' k lo ls :=
  ⟨hL.1, hL.2.1, fun i v hv => by rw [cV_ex e (lOk_at hl hv)]; exact hL.2.2 i v hv⟩
/-- a cell is pushed at q -/
theorem HR_push {h : jH} {H1 : Heap} {c : jC} {q : Nat} (hh : hOk h) (hc : cOk h.length c) (hP1 : va_P (g_D G) jcl (cW G h ++ [(q, cE G c)]) H1) (hD1 : va_D (g_O G) (cW G h ++ [(q, cE G c)])) :
    ∃ G', gEx h.length G G' ∧ g_P G' h.length = q ∧ HR G' (h ++ [c]) H1 := by
  let P : Nat → Nat := fun i => if i = h.length then q else g_P G i
  have hPq : g_P (gput G P) h.length = q := by show (if h.length = h.length then q else _) = q; rw [if_pos rfl]
  have e : gEx h.length G (gput G P) := ⟨⟨P, rfl⟩, fun i hi => by show (if i = h.length then q else g_P G i) = g_P G i; rw [if_neg (by omega)]⟩
  have hcell : ∀ (k : Nat) (x : Nat × va_E), (cW (gput G P) (h ++ [c]))[k]? = some x → x.1 = g_P (gput G P) k ∧ (∃ y, (cW G h ++ [(q, cE G c)])[k]? = some (x.1, y)) ∧ va_at (g_D G) jcl x H1 := by
    intro k x hk
    obtain ⟨d, hd, rfl⟩ := cW_some hk
    have hl := (List.getElem?_eq_some_iff.mp hd).1
    rw [List.length_append, List.length_cons, List.length_nil] at hl
    rcases Nat.lt_or_ge k h.length with h1 | h1
    · rw [List.getElem?_append_left h1] at hd
      have h2 : (cW G h ++ [(q, cE G c)])[k]? = some (g_P (gput G P) k, cE G d) := by
        rw [List.getElem?_append_left (by rw [cW_len]; exact h1), cW_get hd, e.2 k h1]
      exact ⟨rfl, ⟨_, h2⟩, at_ex e (hh k d hd) (hP1 k _ h2)⟩
    · obtain rfl : k = h.length := by omega
      have hdc : d = c := by simpa using hd.symm
      subst hdc
      have h2 : (cW G h ++ [(q, cE G d)])[h.length]? = some (g_P (gput G P) h.length, cE G d) := by
        rw [hPq, List.getElem?_append_right (by rw [cW_len]; exact Nat.le_refl _), cW_len]
        simp
      exact ⟨rfl, ⟨_, h2⟩, at_ex e hc (hP1 _ _ h2)⟩
  refine ⟨gput G P, e, hPq, fun k x hk => (hcell k x hk).2.2, ?_⟩
  · rw [List.length_append, List.length_cons, List.length_nil]
    have key : ∀ i, i < h.length + 1 → ∃ x, (cW G h ++ [(q, cE G c)])[i]? = some (g_P (gput G P) i, x) := by
      intro i hi
      have hl : i < (h ++ [c]).length := by rw [List.length_append, List.length_cons, List.length_nil]; exact hi
      obtain ⟨h1, ⟨y, h2⟩, h3⟩ := hcell i _ (cW_get (List.getElem?_eq_getElem hl))
      exact ⟨y, h2⟩
    refine ⟨fun i j hi hj h9 => ?_, fun i hi => ?_⟩
    · obtain ⟨x, hx⟩ := key i hi
      obtain ⟨y, hy⟩ := key j hj
      exact hD1.1 i j _ _ hx hy h9
    · obtain ⟨x, hx⟩ := key i hi
      exact hD1.2 i _ hx
end EXT
section JALL
variable {G : jG} {R : Room} {F : jF} {M : jM} {X : Bool} {kc kn pc : Nat} {lo : List (Option Value)} {st : List Value} {h : jH}
theorem jCtx_ex {n : Nat} {G' : jG} {p : Program} {s : State} {m : MethodId} {args : Array Value} {meth : Method} {c : Code} (e : gEx n G G') (C : jCtx G M p s m args meth c) : jCtx G' M p s m args meth c := by
  obtain ⟨⟨P, rfl⟩, _⟩ := e
  exact C
/-- a step that makes a cell -/
theorem J_mk {n' n'' : Nat} {st' : List Value} {c9 : jC} {pc' : Nat} (hh : hOk h) (hc : cOk h.length c9) (hl : lOk h.length lo) (hs : sOk h.length st)
    (hrow : ∀ (p : Program) (e : Env) (s : State) (m : MethodId) (args : Array Value) (below : List Frame) (meth : Method) (c : Code) (H : Heap) (locs : List Loc) (ls : Array Slot), jCtx G M p s m args meth c → va_S (g_O G) s.heap H locs → HR G h H → jLs G (m_n M) lo ls →
      (∀ (q : Nat) (H1 : Heap), va_P (g_D G) jcl (cW G h ++ [(q, cE G c9)]) H1 → va_D (g_O G) (cW G h ++ [(q, cE G c9)]) → va_S (g_O G) s.heap H1 locs → W p (g_l G) e R s m args below meth c H1 locs n' n'' (F below args s) (F0 m pc' ls (.ref q :: st.map (cV G)))) →
      W p (g_l G) e R s m args below meth c H locs kc kn (F below args s) (F0 m pc ls (st'.map (cV G))))
    (kk : ∀ G' : jG, gEx h.length G G' → J G' R F M false n' n'' pc' lo (.ref h.length :: st) (h ++ [c9])) : J G R F M X kc kn pc lo st' h := by
  intro p e s m args below meth c H locs ls C hS hH hL hX
  refine hrow p e s m args below meth c H locs ls C hS hH hL (fun q H1 hP1 hD1 hS1 => ?_)
  obtain ⟨G', e1, hq, hH1⟩ := HR_push hh hc hP1 hD1
  have k9 := kk G' e1 p e s m args below meth c H1 locs ls (jCtx_ex e1 C) (by obtain ⟨⟨P, rfl⟩, _⟩ := e1; exact hS1) hH1 (jLs_ex e1 hl hL) (fun q => by cases q)
  rw [List.map_cons, show cV G' (.ref h.length) = .ref q from by show Value.ref (g_P G' h.length) = _; rw [hq], sV_ex e1 hs] at k9
  obtain ⟨⟨P, rfl⟩, _⟩ := e1
  exact k9
theorem J_newA {idx ci n : Nat} {fs : List Value} (hd : decode (m_c M) pc = .ok (.new idx, 3)) (hn : sN (m_y M).cls idx ci n fs) (hh : hOk h) (hl : lOk h.length lo) (hs : sOk h.length st) (hc1 : kc + 1 ≤ R.cells) (hc2 : kn + n ≤ R.slots) (hfs : sOk h.length fs) (kk : ∀ G' : jG, gEx h.length G G' → J G' R F M false (kc + 1) (kn + n) (pc + 3) lo (.ref h.length :: st) (h ++ [.inr (ci, fs)])) : J G R F M X kc kn pc lo st h := by
  refine J_mk (c9 := .inr (ci, fs)) (pc' := pc + 3) hh hfs hl hs ?_ kk
  intro p e s m args below meth c H locs ls C hS hH hL kr
  obtain ⟨C9, T, ty, hc, hin, hty, hl1, hl2, hl3, hfs⟩ := hn
  exact va_new (A := g_O G) C.1 C.2.1 (jC_w C) hin ty hty (jC_o C) (jC_w C _ hl1) (jC_w C _ hl2) (jC_w C _ hl3) (jC_K C) hH.1 (cW_D hH.2) hS (jC_n C) hc (hfs G) hc1 hc2 hd (fun q H1 hP1 hD1 hS1 => kr q H1 hP1 hD1 hS1)
theorem J_newIA {x : Int32} (n : Nat) (hd : decode (m_c M) pc = .ok (.newarray .int, 2)) (hw : Cond.arrayClass .int ∈ lw_all) (hx : x = nI n) (hh : hOk h) (hl : lOk h.length lo) (hs : sOk h.length st) (hn : n < 100000) (hc1 : kc + 1 ≤ R.cells) (hc2 : kn + n ≤ R.slots) (kk : ∀ G' : jG, gEx h.length G G' → J G' R F M false (kc + 1) (kn + n) (pc + 2) lo (.ref h.length :: st) (h ++ [.inl (0, n, .inl (fun _ => 0))])) : J G R F M X kc kn pc lo (.int x :: st) h := by
  refine J_mk (c9 := .inl (0, n, .inl (fun _ => 0))) (pc' := pc + 2) hh trivial hl hs ?_ kk
  intro p e s m args below meth c H locs ls C hS hH hL kr
  subst hx
  refine va_newa (A := g_O G) (atype := .int) (ty := .int) (a0 := (n, .inl (fun _ => 0))) C.1 C.2.1 (jC_w C _ hw) rfl (jC_K C) hH.1 (cW_D hH.2) hS (jC_n C) (fun cA => rfl) (nI_pos (by omega)) (nI_clamp (by omega)) (jbytes (ty := .int) (by decide) hn) hc1 hc2 hd (fun q cA H1 hK1 hP1 hD1 hS1 => ?_)
  have hA : cA = g_A G 0 := by
    have h1 : s.vm.findClass _ = some cA := (hK1.2 6 (cA, .int) rfl).2
    have h2 : s.vm.findClass _ = some (g_A G 0) := ((jC_K C).2 0 (g_A G 0, .int) rfl).2
    exact Option.some.inj (h1.symm.trans h2)
  subst hA
  exact kr q H1 hP1 hD1 hS1
theorem J_newBA {x : Int32} (n : Nat) (hd : decode (m_c M) pc = .ok (.newarray .byte, 2)) (hw : Cond.arrayClass .byte ∈ lw_all) (hx : x = nI n) (hh : hOk h) (hl : lOk h.length lo) (hs : sOk h.length st) (hn : n < 100000) (hc1 : kc + 1 ≤ R.cells) (hc2 : kn + n ≤ R.slots) (kk : ∀ G' : jG, gEx h.length G G' → J G' R F M false (kc + 1) (kn + n) (pc + 2) lo (.ref h.length :: st) (h ++ [.inl (3, n, .inl (fun _ => 0))])) : J G R F M X kc kn pc lo (.int x :: st) h := by
  refine J_mk (c9 := .inl (3, n, .inl (fun _ => 0))) (pc' := pc + 2) hh trivial hl hs ?_ kk
  intro p e s m args below meth c H locs ls C hS hH hL kr
  subst hx
  refine va_newa (A := g_O G) (atype := .byte) (ty := .byte) (a0 := (n, .inl (fun _ => 0))) C.1 C.2.1 (jC_w C _ hw) rfl (jC_K C) hH.1 (cW_D hH.2) hS (jC_n C) (fun cA => rfl) (nI_pos (by omega)) (nI_clamp (by omega)) (jbytes (ty := .byte) (by decide) hn) hc1 hc2 hd (fun q cA H1 hK1 hP1 hD1 hS1 => ?_)
  have hA : cA = g_A G 3 := by
    have h1 : s.vm.findClass _ = some cA := (hK1.2 6 (cA, .byte) rfl).2
    have h2 : s.vm.findClass _ = some (g_A G 3) := ((jC_K C).2 3 (g_A G 3, .byte) rfl).2
    exact Option.some.inj (h1.symm.trans h2)
  subst hA
  exact kr q H1 hP1 hD1 hS1
-- ===== contracts of methods that make cells =====
abbrev jQG : Type := jG → jQ_
def jQA (G : jG) (n : Nat) (Q : jQG) : Array Value → State → Outcome → State → Prop := fun _ st o t => (∃ (G' : jG) (r : Option Value) (h' : jH), gEx n G G' ∧ o = .returned (r.map (cV G')) ∧ Q G' (.inl r) h' ∧ HR G' h' t.heap) ∧ va_F (g_O G) st t
def jXN : String → State → State → Prop := fun _ _ _ => False
def jCTA (G : jG) (M : jM) (d mc ms : Nat) (as : List Value) (h : jH) (Q : jQG) : Prop :=
  vx_Met (g_l G) (m_y M) (jws M) (jR d mc ms) (jPc G false as h) (jQA G h.length Q) jXN mc ms (g_O G)
def jFinA (G : jG) (n : Nat) (Q : jQG) (mc ms : Nat) : jF := fun below args s => vx_MQ below (jQA G n Q) jXN args s mc ms (g_O G)
theorem jCTA_of {d mc ms : Nat} {as : List Value} {Q : jQG} (lo : List (Option Value)) (k : Nat) (hM : m_h M = some []) (hy : plainName (m_y M).cls = true) (hlo : jlo as ++ List.replicate k none = lo) (hlen : Nat.ble (jlo as).length (m_n M) = true)
    (kk : J G (jR d mc ms) (jFinA G h.length Q mc ms) M false 0 0 0 lo [] h) : jCTA G M d mc ms as h Q := by
  refine vx_ofW (cc := m_c M) (maxL := m_n M) (ret := m_r M) (ws' := lw_all) hy (by unfold jws jw; rw [hM]) ?_
  intro p e s m args below meth c s₁ B hml ht hv
  obtain ⟨rfl, hB, hH, hX⟩ := hv
  have hts := atoms_spec (ws := jws M) B.pre
  rw [lg_entry_eq]
  refine kk p e s m _ below meth c s.heap [] _ ⟨B.exec, B.bytes, B.returns, hml, findClass_of_methodNamed B.named, fun w hw => hts w (List.mem_cons_of_mem _ hw), B.notSynchronized, fun q => (name_of_methodNamed B.named B.method).1.trans q, fun hh h9 => ?_, hB⟩ va_S.rf hH (jLs_entry (jB_X hB) hlo hlen) (fun q => by cases q)
  rw [hM] at h9
  cases h9
  exact List.eq_nil_iff_forall_not_mem.mpr ht
/-- entered where all is known, left where it isn't -/
theorem jCT2_of {d mc ms : Nat} {as : List Value} {Q : jQ_} (lo : List (Option Value)) (k : Nat) (hM : m_h M = some []) (hy : plainName (m_y M).cls = true) (hlo : jlo as ++ List.replicate k none = lo) (hlen : Nat.ble (jlo as).length (m_n M) = true)
    (kk : J G (jR d mc ms) (jFin G Q false mc ms) M true 0 0 0 lo [] h) : jCT2 G M d mc ms as h Q := by
  refine vx_ofW (cc := m_c M) (maxL := m_n M) (ret := m_r M) (ws' := lw_all) hy (by unfold jws jw; rw [hM]) ?_
  intro p e s m args below meth c s₁ B hml ht hv
  obtain ⟨rfl, hB, hH, hX⟩ := hv
  have hts := atoms_spec (ws := jws M) B.pre
  rw [lg_entry_eq]
  refine kk p e s m _ below meth c s.heap [] _ ⟨B.exec, B.bytes, B.returns, hml, findClass_of_methodNamed B.named, fun w hw => hts w (List.mem_cons_of_mem _ hw), B.notSynchronized, fun q => (name_of_methodNamed B.named B.method).1.trans q, fun hh h9 => ?_, hB⟩ va_S.rf hH (jLs_entry (jB_X hB) hlo hlen) hX
  rw [hM] at h9
  cases h9
  exact List.eq_nil_iff_forall_not_mem.mpr ht
theorem jCTA_met {d mc ms : Nat} {as : List Value} {Q : jQG} (hc : jCTA G M d mc ms as h Q) : Met (g_l G) (m_y M) (jws M) (jR d mc ms) (jPc G false as h) (jQA G h.length Q) mc ms (g_O G) := by
  intro p e ha hc1 hk s m args below hf h1 hP hT
  obtain ⟨k, o, g1, g2, g3, g4⟩ := hc p e ha hc1 hk s m args below hf h1 hP hT
  refine ⟨k, o, g1, g2, g3, ?_⟩
  rcases g4 with g4 | ⟨q, e1, E, ce, L, e2, e5⟩
  · exact g4
  · exact e2.elim
section RETA
variable {Q : jQG} {mc ms n : Nat} {G0 : jG}
theorem jret_A {args : Array Value} {s : State} {H : Heap} {locs : List Loc} {r : Option Value} (e : gEx n G0 G) (hS : va_S (g_O G) s.heap H locs) (hH : HR G h H) (hq : Q G (.inl r) h) : ∀ t : State, t.heap = H → s.WarmedH t.vm → jQA G0 n Q args s (.returned (r.map (cV G))) t :=
  fun t ht _ => ⟨⟨G, r, h, e, rfl, hq, by rw [ht]; exact hH⟩, by have := hS.F ht; obtain ⟨⟨P, rfl⟩, _⟩ := e; exact this⟩
theorem J_iretA {v : Int32} (e9 : gEx n G0 G) (hd : decode (m_c M) pc = .ok (.ireturn, 1)) (hr : m_r M = some .int) (hq : Q G (.inl (some (.int v))) h) (h1 : kc ≤ mc := by exact Nat.le_of_ble_eq_true rfl) (h2 : kn ≤ ms := by exact Nat.le_of_ble_eq_true rfl) : J G R (jFinA G0 n Q mc ms) M X kc kn pc lo [.int v] h := by
  intro p e s m args below meth c H locs ls C hS hH hL hX
  have h9 := jret_A (r := some (.int v)) (args := args) (s := s) e9 hS hH hq
  obtain ⟨⟨P, rfl⟩, _⟩ := e9
  exact vx_ret (W.widen h1 h2 (W.iret C.1 C.2.1 (C.2.2.1.trans hr) h9 hS.2.2 hd C.2.2.2.2.2.2.1))
theorem J_aretA {v : Value} {ty : FieldType} (e9 : gEx n G0 G) (hd : decode (m_c M) pc = .ok (.areturn, 1)) (hr : m_r M = some ty) (hrt : (∃ n, ty = .object n) ∨ ∃ t, ty = .array t) (hv : jref v = true) (hq : Q G (.inl (some v)) h) (h1 : kc ≤ mc := by exact Nat.le_of_ble_eq_true rfl) (h2 : kn ≤ ms := by exact Nat.le_of_ble_eq_true rfl) : J G R (jFinA G0 n Q mc ms) M X kc kn pc lo [v] h := by
  intro p e s m args below meth c H locs ls C hS hH hL hX
  have h9 := jret_A (r := some v) (args := args) (s := s) e9 hS hH hq
  obtain ⟨⟨P, rfl⟩, _⟩ := e9
  exact vx_ret (W.widen h1 h2 (W.aret C.1 C.2.1 (C.2.2.1.trans hr) hrt (jref_c (s := s) (jC_X C) hv) h9 hS.2.2 hd C.2.2.2.2.2.2.1))
theorem J_retA (e9 : gEx n G0 G) (hd : decode (m_c M) pc = .ok (.return_, 1)) (hr : m_r M = none) (hq : Q G (.inl none) h) (h1 : kc ≤ mc := by exact Nat.le_of_ble_eq_true rfl) (h2 : kn ≤ ms := by exact Nat.le_of_ble_eq_true rfl) : J G R (jFinA G0 n Q mc ms) M X kc kn pc lo [] h := by
  intro p e s m args below meth c H locs ls C hS hH hL hX
  have h9 := jret_A (r := none) (args := args) (s := s) e9 hS hH hq
  obtain ⟨⟨P, rfl⟩, _⟩ := e9
  exact vx_ret (W.widen h1 h2 (W.vret C.1 C.2.1 (C.2.2.1.trans hr) h9 hS.2.2 hd C.2.2.2.2.2.2.1))
end RETA
theorem J_of_runA {M' : jM} {mc ms : Nat} {Q : jQG} {st0 : List Value}
    (hrun : ∀ (p : Program) (e : Env) (s : State) (m : MethodId) (args : Array Value) (below : List Frame) (meth : Method) (c : Code) (H : Heap) (locs : List Loc) (ls : Array Slot), jCtx G M p s m args meth c → va_S (g_O G) s.heap H locs → HR G h H → jLs G (m_n M) lo ls →
      ∃ a9, vx_Run p (g_l G) e R s m args below meth c H locs kc kn mc ms (F0 m pc ls (st0.map (cV G))) (st.map (cV G)) (jQA G h.length Q a9) jXN (g_O G))
    (hl : lOk h.length lo) (hs : sOk h.length st)
    (kr : ∀ (G' : jG) (v : Option Value) (h' : jH), gEx h.length G G' → Q G' (.inl v) h' → J G' R F M false (kc + mc) (kn + ms) (pc + 3) lo (v.toList ++ st) h') : J G R F M X kc kn pc lo st0 h := by
  intro p e s m args below meth c H locs ls C hS hH hL hX
  intro T hT XX
  obtain ⟨a9, hr9⟩ := hrun p e s m args below meth c H locs ls C hS hH hL
  rcases hr9 T hT XX with ⟨v, st₀, t, T', L, h0, X', hL9, e1, e2, ⟨⟨G', r, h', e9, hv, hq, hr'⟩, hF⟩, stp⟩ | ⟨q, st₀, t, T', L, E, ce, h0, X', hL9, e1, e2, h9, hce, hcv, hcl, stp⟩
  · cases hv
    obtain ⟨k1, k2, k3⟩ := vx_keep h0 e1 hS (fun q _ a => a) (fun q a => a) hL9 hF
    have k9 := kr G' r h' e9 hq p e s m args below meth c T'.heap (locs ++ L) ls (jCtx_ex e9 C) (by obtain ⟨⟨P, rfl⟩, _⟩ := e9; exact k3) (by rw [e1]; exact hr') (jLs_ex e9 hl hL) (fun q => by cases q)
    rw [List.map_append, sV_ex e9 hs] at k9
    have hg : g_l G' = g_l G := by obtain ⟨⟨P, rfl⟩, _⟩ := e9; rfl
    rw [hg] at k9
    obtain ⟨t2, a1, b1⟩ := k9 T' rfl X'
    refine ⟨t2, stp t2 ?_, b1⟩
    cases r with
    | none => exact a1
    | some w => exact a1
  · exact h9.elim
theorem jPc_nowA {as : List Value} {s : State} {H : Heap} {locs : List Loc} (hB : jB G s) (hS : va_S (g_O G) s.heap H locs) (hH : HR G h H) : ∀ U : State, U.heap = H → s.WarmedH U.vm → jPc G false as h (as.map (cV G)).toArray U := jPc_now hB hS hH (fun q => by cases q)
theorem J_callSA {M' : jM} {idx d mc ms : Nat} {Q : jQG} {as : List Value} (hd : decode (m_c M) pc = .ok (.invokestatic idx, 3)) (hs : sS (m_y M).cls idx M') (hm : mOK M' as.length) (hh : m_h M' = some []) (hf : jfit R (m_n M') d mc ms kc kn = true) (hst : (st.map fun v => v.category).sum ≤ 8)
    (hl : lOk h.length lo) (hk : sOk h.length st) (hc : jCTA G M' d mc ms as h Q) (kr : ∀ (G' : jG) (v : Option Value) (h' : jH), gEx h.length G G' → Q G' (.inl v) h' → J G' R F M false (kc + mc) (kn + ms) (pc + 3) lo (v.toList ++ st) h') : J G R F M X kc kn pc lo (as.reverse ++ st) h := by
  refine J_of_runA (M' := M') (mc := mc) (ms := ms) (Q := Q) (st := st) ?_ hl hk kr
  intro p e s m args below meth c H locs ls C hS hH hL
  obtain ⟨f1, f2⟩ := jfit_spec hf
  refine ⟨_, vx_runS (As := as.map (cV G)) (rest := st.map (cV G)) (jC_f C) hc
    (va_cwS as.length (jC_w C) (jGood hm.1 (fun w h9 => ?_)) (jws_code hh) rfl rfl ⟨hm.2.2.1.1, hm.2.2.1.2, hm.2.2.2⟩ f1) ⟨jPc_blind, jPc_nowA (jC_B C) hS hH⟩ rfl (by rw [List.length_map]) hL.1 (by rw [jst_rev0]) (jfr (jC_X C) hst) hd f2⟩
  simp only [List.mem_cons, List.not_mem_nil, or_false] at h9
  rcases h9 with rfl | rfl | rfl
  · exact hs.1
  · exact hs.2
  · exact hm.2.1
/-- the call of a method that is entered where all is known -/
theorem J_callS2 {M' : jM} {idx d mc ms : Nat} {Q : jQ_} {as : List Value} (hd : decode (m_c M) pc = .ok (.invokestatic idx, 3)) (hs : sS (m_y M).cls idx M') (hm : mOK M' as.length) (hh : m_h M' = some []) (hf : jfit R (m_n M') d mc ms kc kn = true) (hst : (st.map fun v => v.category).sum ≤ 8)
    (hc : jCT2 G M' d mc ms as h Q) (kr : ∀ r h', Q (.inl r) h' → J G R F M false (kc + mc) (kn + ms) (pc + 3) lo (r.toList ++ st) h') (kx : ∀ E h', Q (.inr E) h' → JX G R F M (kc + mc) (kn + ms) pc lo h' E) : J G R F M true kc kn pc lo (as.reverse ++ st) h := by
  intro p e s m args below meth c H locs ls C hS hH hL hX
  intro T hT XX
  have hsz : true = true → (∀ i, g_P G i = g_n G + i) ∧ H.size = g_n G + h.length := fun hx => by
    have h1 := XX.heapSize
    rw [hT] at h1
    have h2 := hX hx
    have h3 := HR_ge h2.1 hH (Nat.le_trans (jC_B C).1 hS.1)
    exact ⟨h2.1, by have := h2.2; omega⟩
  obtain ⟨f1, f2⟩ := jfit_spec hf
  have hr9 := vx_runS (p := p) (e := e) (below := below) (meth := meth) (locs := locs) (H := H) (g := F0 m pc ls ((as.reverse ++ st).map (cV G))) (As := as.map (cV G)) (rest := st.map (cV G)) (jC_f C) hc
    (va_cwS as.length (jC_w C) (jGood hm.1 (fun w h9 => by
      simp only [List.mem_cons, List.not_mem_nil, or_false] at h9
      rcases h9 with rfl | rfl | rfl
      · exact hs.1
      · exact hs.2
      · exact hm.2.1)) (jws_code hh) rfl rfl ⟨hm.2.2.1.1, hm.2.2.1.2, hm.2.2.2⟩ f1) ⟨jPc_blind, jPc_now (jC_B C) hS hH hsz⟩ rfl (by rw [List.length_map]) hL.1 (by rw [jst_rev0]) (jfr (jC_X C) hst) hd f2
  rcases hr9 T hT XX with ⟨v, st₀, t, T', L, h0, X', hL9, e1, e2, ⟨⟨r, h', hv, hq, hr', hx'⟩, hF⟩, stp⟩ | ⟨q, st₀, t, T', L, E, ce, h0, X', hL9, e1, e2, ⟨⟨h', hq, hr'⟩, hF⟩, hce, hcv, hcl, stp⟩
  · cases hv
    obtain ⟨k1, k2, k3⟩ := vx_keep h0 e1 hS (fun q _ a => a) (fun q a => a) hL9 hF
    obtain ⟨t2, a1, b1⟩ := kr r h' hq p e s m args below meth c T'.heap (locs ++ L) ls C k3 (by rw [e1]; exact hr') hL (fun hx => by cases hx) T' rfl X'
    refine ⟨t2, stp t2 ?_, b1⟩
    cases r with
    | none => exact a1
    | some w => exact a1
  · obtain ⟨k1, k2, k3⟩ := vx_keep h0 e1 hS (fun q _ a => a) (fun q a => a) hL9 hF
    obtain ⟨t2, a1, b1⟩ := kx E h' hq p e s m args below meth c T'.heap (locs ++ L) ls _ q ce C k3 (by rw [e1]; exact hr') hL (by rw [e1]; exact hce) hcv hcl T' rfl X'
    exact ⟨t2, stp.trans a1, b1⟩
theorem J_callV0A {M' : jM} {idx d mc ms : Nat} {Q : jQG} {as : List Value} {v : Value} (hd : decode (m_c M) pc = .ok (.invokevirtual idx, 3)) (hs : sV (m_y M).cls idx M') (hm : mOK M' as.length) (hh : m_h M' = some []) (hf : jfit R (m_n M') d mc ms kc kn = true) (hst : (st.map fun v => v.category).sum ≤ 8)
    (hv : ∀ (s : State) (H : Heap) (locs : List Loc), jB G s → va_S (g_O G) s.heap H locs → HR G h H → ∃ b, cV G v = .ref b ∧ ∃ cellB : Cell, H[b]? = some cellB ∧ cellB.vm.isStatics = false ∧ s.vm.findClass (m_y M').cls = some cellB.cls)
    (hl : lOk h.length lo) (hk : sOk h.length st) (hc : jCTA G M' d mc ms (v :: as) h Q) (kr : ∀ (G' : jG) (v : Option Value) (h' : jH), gEx h.length G G' → Q G' (.inl v) h' → J G' R F M false (kc + mc) (kn + ms) (pc + 3) lo (v.toList ++ st) h') : J G R F M X kc kn pc lo (as.reverse ++ v :: st) h := by
  refine J_of_runA (M' := M') (mc := mc) (ms := ms) (Q := Q) (st := st) ?_ hl hk kr
  intro p e s m args below meth c H locs ls C hS hH hL
  obtain ⟨b, hb, hrec⟩ := hv s H locs (jC_B C) hS hH
  obtain ⟨f1, f2⟩ := jfit_spec hf
  refine ⟨_, vx_runV (C := (m_y M').cls) (As := as.map (cV G)) (rest := st.map (cV G)) (b := b) (jC_f C) hc
    (cwV as.length (jC_w C) (jGood hm.1 (fun w h9 => ?_)) (jws_code hh) rfl rfl ⟨rfl, hm.2.2.1.1, hm.2.2.1.2, hm.2.2.2⟩ f1) ⟨jPc_blind, hrec, fun U hU hW => ?_⟩ rfl (by rw [List.length_map]) hL.1 (by rw [jst_rev, hb]) (jfr (jC_X C) hst) hd f2⟩
  · simp only [List.mem_cons, List.not_mem_nil, or_false] at h9
    rcases h9 with rfl | rfl | rfl | rfl
    · exact hs.1
    · exact hs.2.1
    · exact hs.2.2
    · exact hm.2.1
  · have := jPc_nowA (as := v :: as) (jC_B C) hS hH U hU hW
    rw [List.map_cons, hb] at this
    exact this
theorem J_callIA {M' : jM} {idx d mc ms i : Nat} {Q : jQG} {as : List Value} (hd : decode (m_c M) pc = .ok (.invokespecial idx, 3)) (hs : sI (m_y M).cls idx M') (hm : mOK M' as.length) (hh : m_h M' = some []) (hf : jfit R (m_n M') d mc ms kc kn = true) (hst : (st.map fun v => v.category).sum ≤ 8)
    (hl : lOk h.length lo) (hk : sOk h.length st) (hc : jCTA G M' d mc ms (.ref i :: as) h Q) (kr : ∀ (G' : jG) (v : Option Value) (h' : jH), gEx h.length G G' → Q G' (.inl v) h' → J G' R F M false (kc + mc) (kn + ms) (pc + 3) lo (v.toList ++ st) h') : J G R F M X kc kn pc lo (as.reverse ++ .ref i :: st) h := by
  refine J_of_runA (M' := M') (mc := mc) (ms := ms) (Q := Q) (st := st) ?_ hl hk kr
  intro p e s m args below meth c H locs ls C hS hH hL
  obtain ⟨f1, f2⟩ := jfit_spec hf
  exact ⟨_, vx_of_va (va_runI (As := as.map (cV G)) (rest := st.map (cV G)) (b := g_P G i) (jC_f C) (jCTA_met hc)
    (cwI as.length (jC_w C) (jGood (ws := []) hm.1 (fun w h9 => absurd h9 List.not_mem_nil)) (jws_code0 hh hs.2.2.2) rfl rfl (jC_w C _ hm.2.1) (jC_w C _ hs.1) (jC_w C _ hs.2.1) hs.2.2.1 ⟨hm.2.2.1.1, hm.2.2.1.2, hm.2.2.2⟩ f1) ⟨jPc_blind, jPc_nowA (jC_B C) hS hH⟩ rfl (by rw [List.length_map]) hL.1 (by rw [jst_rev]; rfl) (jfr (jC_X C) hst) hd f2)⟩
theorem J_S0vA {M' : jM} {idx d mc ms : Nat}  (hd : decode (m_c M) pc = .ok (.invokestatic idx, 3)) (hs : sS (m_y M).cls idx M') (hm : mOK M' 0) (hh : m_h M' = some []) (hl : lOk h.length lo) (hk : sOk h.length st) (hc : jCTA G M' d mc ms [] h (fun G' => jKv fun r h' => gEx h.length G G' → J G' R F M false (kc + mc) (kn + ms) (pc + 3) lo (r :: st) h')) (hf : jfit R (m_n M') d mc ms kc kn = true := by rfl) (hst : (st.map fun v => v.category).sum ≤ 8 := by exact Nat.le_of_ble_eq_true rfl) : J G R F M X kc kn pc lo (st) h :=
  J_callSA (as := []) hd hs hm hh hf hst hl hk hc (fun G' r h' e q => by cases r with | none => exact q.elim | some v => exact q e)
theorem J_S00A {M' : jM} {idx d mc ms : Nat}  (hd : decode (m_c M) pc = .ok (.invokestatic idx, 3)) (hs : sS (m_y M).cls idx M') (hm : mOK M' 0) (hh : m_h M' = some []) (hl : lOk h.length lo) (hk : sOk h.length st) (hc : jCTA G M' d mc ms [] h (fun G' => jK0 fun h' => gEx h.length G G' → J G' R F M false (kc + mc) (kn + ms) (pc + 3) lo (st) h')) (hf : jfit R (m_n M') d mc ms kc kn = true := by rfl) (hst : (st.map fun v => v.category).sum ≤ 8 := by exact Nat.le_of_ble_eq_true rfl) : J G R F M X kc kn pc lo (st) h :=
  J_callSA (as := []) hd hs hm hh hf hst hl hk hc (fun G' r h' e q => by cases r with | none => exact q e | some v => exact q.elim)
theorem J_V0vA {M' : jM} {idx d mc ms : Nat} {i ci : Nat} {fs : List Value}  (hd : decode (m_c M) pc = .ok (.invokevirtual idx, 3)) (hs : sV (m_y M).cls idx M') (hm : mOK M' 0) (hh : m_h M' = some []) (he : h[i]? = some (.inr (ci, fs))) (hcl : (jcl[ci]?).map (fun q => q.1) = some (m_y M').cls) (hl : lOk h.length lo) (hk : sOk h.length st) (hc : jCTA G M' d mc ms [.ref i] h (fun G' => jKv fun r h' => gEx h.length G G' → J G' R F M false (kc + mc) (kn + ms) (pc + 3) lo (r :: st) h')) (hf : jfit R (m_n M') d mc ms kc kn = true := by rfl) (hst : (st.map fun v => v.category).sum ≤ 8 := by exact Nat.le_of_ble_eq_true rfl) : J G R F M X kc kn pc lo (.ref i :: st) h :=
  J_callV0A (as := []) hd hs hm hh hf hst (fun s H locs hB hS hH => ⟨_, rfl, by
    cases hj : jcl[ci]? with
    | none => rw [hj] at hcl; cases hcl
    | some q =>
      rw [hj] at hcl
      have h1 : q.1 = (m_y M').cls := Option.some.inj hcl
      rw [← h1]
      exact va_recv hB.2.2.1 hH.1 hj (cW_get he)⟩) hl hk hc (fun G' r h' e q => by cases r with | none => exact q.elim | some v => exact q e)
theorem J_V00A {M' : jM} {idx d mc ms : Nat} {i ci : Nat} {fs : List Value}  (hd : decode (m_c M) pc = .ok (.invokevirtual idx, 3)) (hs : sV (m_y M).cls idx M') (hm : mOK M' 0) (hh : m_h M' = some []) (he : h[i]? = some (.inr (ci, fs))) (hcl : (jcl[ci]?).map (fun q => q.1) = some (m_y M').cls) (hl : lOk h.length lo) (hk : sOk h.length st) (hc : jCTA G M' d mc ms [.ref i] h (fun G' => jK0 fun h' => gEx h.length G G' → J G' R F M false (kc + mc) (kn + ms) (pc + 3) lo (st) h')) (hf : jfit R (m_n M') d mc ms kc kn = true := by rfl) (hst : (st.map fun v => v.category).sum ≤ 8 := by exact Nat.le_of_ble_eq_true rfl) : J G R F M X kc kn pc lo (.ref i :: st) h :=
  J_callV0A (as := []) hd hs hm hh hf hst (fun s H locs hB hS hH => ⟨_, rfl, by
    cases hj : jcl[ci]? with
    | none => rw [hj] at hcl; cases hcl
    | some q =>
      rw [hj] at hcl
      have h1 : q.1 = (m_y M').cls := Option.some.inj hcl
      rw [← h1]
      exact va_recv hB.2.2.1 hH.1 hj (cW_get he)⟩) hl hk hc (fun G' r h' e q => by cases r with | none => exact q e | some v => exact q.elim)
theorem J_I00A {M' : jM} {idx d mc ms : Nat} {i : Nat}  (hd : decode (m_c M) pc = .ok (.invokespecial idx, 3)) (hs : sI (m_y M).cls idx M') (hm : mOK M' 0) (hh : m_h M' = some []) (hl : lOk h.length lo) (hk : sOk h.length st) (hc : jCTA G M' d mc ms [.ref i] h (fun G' => jK0 fun h' => gEx h.length G G' → J G' R F M false (kc + mc) (kn + ms) (pc + 3) lo (st) h')) (hf : jfit R (m_n M') d mc ms kc kn = true := by rfl) (hst : (st.map fun v => v.category).sum ≤ 8 := by exact Nat.le_of_ble_eq_true rfl) : J G R F M X kc kn pc lo (.ref i :: st) h :=
  J_callIA (as := []) hd hs hm hh hf hst hl hk hc (fun G' r h' e q => by cases r with | none => exact q e | some v => exact q.elim)
theorem J_S1vA {M' : jM} {idx d mc ms : Nat} {a1 : Value} (hd : decode (m_c M) pc = .ok (.invokestatic idx, 3)) (hs : sS (m_y M).cls idx M') (hm : mOK M' 1) (hh : m_h M' = some []) (hl : lOk h.length lo) (hk : sOk h.length st) (hc : jCTA G M' d mc ms [a1] h (fun G' => jKv fun r h' => gEx h.length G G' → J G' R F M false (kc + mc) (kn + ms) (pc + 3) lo (r :: st) h')) (hf : jfit R (m_n M') d mc ms kc kn = true := by rfl) (hst : (st.map fun v => v.category).sum ≤ 8 := by exact Nat.le_of_ble_eq_true rfl) : J G R F M X kc kn pc lo (a1 :: st) h :=
  J_callSA (as := [a1]) hd hs hm hh hf hst hl hk hc (fun G' r h' e q => by cases r with | none => exact q.elim | some v => exact q e)
theorem J_S10A {M' : jM} {idx d mc ms : Nat} {a1 : Value} (hd : decode (m_c M) pc = .ok (.invokestatic idx, 3)) (hs : sS (m_y M).cls idx M') (hm : mOK M' 1) (hh : m_h M' = some []) (hl : lOk h.length lo) (hk : sOk h.length st) (hc : jCTA G M' d mc ms [a1] h (fun G' => jK0 fun h' => gEx h.length G G' → J G' R F M false (kc + mc) (kn + ms) (pc + 3) lo (st) h')) (hf : jfit R (m_n M') d mc ms kc kn = true := by rfl) (hst : (st.map fun v => v.category).sum ≤ 8 := by exact Nat.le_of_ble_eq_true rfl) : J G R F M X kc kn pc lo (a1 :: st) h :=
  J_callSA (as := [a1]) hd hs hm hh hf hst hl hk hc (fun G' r h' e q => by cases r with | none => exact q e | some v => exact q.elim)
theorem J_V1vA {M' : jM} {idx d mc ms : Nat} {i ci : Nat} {fs : List Value} {a1 : Value} (hd : decode (m_c M) pc = .ok (.invokevirtual idx, 3)) (hs : sV (m_y M).cls idx M') (hm : mOK M' 1) (hh : m_h M' = some []) (he : h[i]? = some (.inr (ci, fs))) (hcl : (jcl[ci]?).map (fun q => q.1) = some (m_y M').cls) (hl : lOk h.length lo) (hk : sOk h.length st) (hc : jCTA G M' d mc ms [.ref i, a1] h (fun G' => jKv fun r h' => gEx h.length G G' → J G' R F M false (kc + mc) (kn + ms) (pc + 3) lo (r :: st) h')) (hf : jfit R (m_n M') d mc ms kc kn = true := by rfl) (hst : (st.map fun v => v.category).sum ≤ 8 := by exact Nat.le_of_ble_eq_true rfl) : J G R F M X kc kn pc lo (a1 :: .ref i :: st) h :=
  J_callV0A (as := [a1]) hd hs hm hh hf hst (fun s H locs hB hS hH => ⟨_, rfl, by
    cases hj : jcl[ci]? with
    | none => rw [hj] at hcl; cases hcl
    | some q =>
      rw [hj] at hcl
      have h1 : q.1 = (m_y M').cls := Option.some.inj hcl
      rw [← h1]
      exact va_recv hB.2.2.1 hH.1 hj (cW_get he)⟩) hl hk hc (fun G' r h' e q => by cases r with | none => exact q.elim | some v => exact q e)
theorem J_V10A {M' : jM} {idx d mc ms : Nat} {i ci : Nat} {fs : List Value} {a1 : Value} (hd : decode (m_c M) pc = .ok (.invokevirtual idx, 3)) (hs : sV (m_y M).cls idx M') (hm : mOK M' 1) (hh : m_h M' = some []) (he : h[i]? = some (.inr (ci, fs))) (hcl : (jcl[ci]?).map (fun q => q.1) = some (m_y M').cls) (hl : lOk h.length lo) (hk : sOk h.length st) (hc : jCTA G M' d mc ms [.ref i, a1] h (fun G' => jK0 fun h' => gEx h.length G G' → J G' R F M false (kc + mc) (kn + ms) (pc + 3) lo (st) h')) (hf : jfit R (m_n M') d mc ms kc kn = true := by rfl) (hst : (st.map fun v => v.category).sum ≤ 8 := by exact Nat.le_of_ble_eq_true rfl) : J G R F M X kc kn pc lo (a1 :: .ref i :: st) h :=
  J_callV0A (as := [a1]) hd hs hm hh hf hst (fun s H locs hB hS hH => ⟨_, rfl, by
    cases hj : jcl[ci]? with
    | none => rw [hj] at hcl; cases hcl
    | some q =>
      rw [hj] at hcl
      have h1 : q.1 = (m_y M').cls := Option.some.inj hcl
      rw [← h1]
      exact va_recv hB.2.2.1 hH.1 hj (cW_get he)⟩) hl hk hc (fun G' r h' e q => by cases r with | none => exact q e | some v => exact q.elim)
theorem J_I10A {M' : jM} {idx d mc ms : Nat} {i : Nat} {a1 : Value} (hd : decode (m_c M) pc = .ok (.invokespecial idx, 3)) (hs : sI (m_y M).cls idx M') (hm : mOK M' 1) (hh : m_h M' = some []) (hl : lOk h.length lo) (hk : sOk h.length st) (hc : jCTA G M' d mc ms [.ref i, a1] h (fun G' => jK0 fun h' => gEx h.length G G' → J G' R F M false (kc + mc) (kn + ms) (pc + 3) lo (st) h')) (hf : jfit R (m_n M') d mc ms kc kn = true := by rfl) (hst : (st.map fun v => v.category).sum ≤ 8 := by exact Nat.le_of_ble_eq_true rfl) : J G R F M X kc kn pc lo (a1 :: .ref i :: st) h :=
  J_callIA (as := [a1]) hd hs hm hh hf hst hl hk hc (fun G' r h' e q => by cases r with | none => exact q e | some v => exact q.elim)
theorem J_S2vA {M' : jM} {idx d mc ms : Nat} {a1 a2 : Value} (hd : decode (m_c M) pc = .ok (.invokestatic idx, 3)) (hs : sS (m_y M).cls idx M') (hm : mOK M' 2) (hh : m_h M' = some []) (hl : lOk h.length lo) (hk : sOk h.length st) (hc : jCTA G M' d mc ms [a1, a2] h (fun G' => jKv fun r h' => gEx h.length G G' → J G' R F M false (kc + mc) (kn + ms) (pc + 3) lo (r :: st) h')) (hf : jfit R (m_n M') d mc ms kc kn = true := by rfl) (hst : (st.map fun v => v.category).sum ≤ 8 := by exact Nat.le_of_ble_eq_true rfl) : J G R F M X kc kn pc lo (a2 :: a1 :: st) h :=
  J_callSA (as := [a1, a2]) hd hs hm hh hf hst hl hk hc (fun G' r h' e q => by cases r with | none => exact q.elim | some v => exact q e)
theorem J_S20A {M' : jM} {idx d mc ms : Nat} {a1 a2 : Value} (hd : decode (m_c M) pc = .ok (.invokestatic idx, 3)) (hs : sS (m_y M).cls idx M') (hm : mOK M' 2) (hh : m_h M' = some []) (hl : lOk h.length lo) (hk : sOk h.length st) (hc : jCTA G M' d mc ms [a1, a2] h (fun G' => jK0 fun h' => gEx h.length G G' → J G' R F M false (kc + mc) (kn + ms) (pc + 3) lo (st) h')) (hf : jfit R (m_n M') d mc ms kc kn = true := by rfl) (hst : (st.map fun v => v.category).sum ≤ 8 := by exact Nat.le_of_ble_eq_true rfl) : J G R F M X kc kn pc lo (a2 :: a1 :: st) h :=
  J_callSA (as := [a1, a2]) hd hs hm hh hf hst hl hk hc (fun G' r h' e q => by cases r with | none => exact q e | some v => exact q.elim)
theorem J_V2vA {M' : jM} {idx d mc ms : Nat} {i ci : Nat} {fs : List Value} {a1 a2 : Value} (hd : decode (m_c M) pc = .ok (.invokevirtual idx, 3)) (hs : sV (m_y M).cls idx M') (hm : mOK M' 2) (hh : m_h M' = some []) (he : h[i]? = some (.inr (ci, fs))) (hcl : (jcl[ci]?).map (fun q => q.1) = some (m_y M').cls) (hl : lOk h.length lo) (hk : sOk h.length st) (hc : jCTA G M' d mc ms [.ref i, a1, a2] h (fun G' => jKv fun r h' => gEx h.length G G' → J G' R F M false (kc + mc) (kn + ms) (pc + 3) lo (r :: st) h')) (hf : jfit R (m_n M') d mc ms kc kn = true := by rfl) (hst : (st.map fun v => v.category).sum ≤ 8 := by exact Nat.le_of_ble_eq_true rfl) : J G R F M X kc kn pc lo (a2 :: a1 :: .ref i :: st) h :=
  J_callV0A (as := [a1, a2]) hd hs hm hh hf hst (fun s H locs hB hS hH => ⟨_, rfl, by
    cases hj : jcl[ci]? with
    | none => rw [hj] at hcl; cases hcl
    | some q =>
      rw [hj] at hcl
      have h1 : q.1 = (m_y M').cls := Option.some.inj hcl
      rw [← h1]
      exact va_recv hB.2.2.1 hH.1 hj (cW_get he)⟩) hl hk hc (fun G' r h' e q => by cases r with | none => exact q.elim | some v => exact q e)
theorem J_V20A {M' : jM} {idx d mc ms : Nat} {i ci : Nat} {fs : List Value} {a1 a2 : Value} (hd : decode (m_c M) pc = .ok (.invokevirtual idx, 3)) (hs : sV (m_y M).cls idx M') (hm : mOK M' 2) (hh : m_h M' = some []) (he : h[i]? = some (.inr (ci, fs))) (hcl : (jcl[ci]?).map (fun q => q.1) = some (m_y M').cls) (hl : lOk h.length lo) (hk : sOk h.length st) (hc : jCTA G M' d mc ms [.ref i, a1, a2] h (fun G' => jK0 fun h' => gEx h.length G G' → J G' R F M false (kc + mc) (kn + ms) (pc + 3) lo (st) h')) (hf : jfit R (m_n M') d mc ms kc kn = true := by rfl) (hst : (st.map fun v => v.category).sum ≤ 8 := by exact Nat.le_of_ble_eq_true rfl) : J G R F M X kc kn pc lo (a2 :: a1 :: .ref i :: st) h :=
  J_callV0A (as := [a1, a2]) hd hs hm hh hf hst (fun s H locs hB hS hH => ⟨_, rfl, by
    cases hj : jcl[ci]? with
    | none => rw [hj] at hcl; cases hcl
    | some q =>
      rw [hj] at hcl
      have h1 : q.1 = (m_y M').cls := Option.some.inj hcl
      rw [← h1]
      exact va_recv hB.2.2.1 hH.1 hj (cW_get he)⟩) hl hk hc (fun G' r h' e q => by cases r with | none => exact q e | some v => exact q.elim)
theorem J_I20A {M' : jM} {idx d mc ms : Nat} {i : Nat} {a1 a2 : Value} (hd : decode (m_c M) pc = .ok (.invokespecial idx, 3)) (hs : sI (m_y M).cls idx M') (hm : mOK M' 2) (hh : m_h M' = some []) (hl : lOk h.length lo) (hk : sOk h.length st) (hc : jCTA G M' d mc ms [.ref i, a1, a2] h (fun G' => jK0 fun h' => gEx h.length G G' → J G' R F M false (kc + mc) (kn + ms) (pc + 3) lo (st) h')) (hf : jfit R (m_n M') d mc ms kc kn = true := by rfl) (hst : (st.map fun v => v.category).sum ≤ 8 := by exact Nat.le_of_ble_eq_true rfl) : J G R F M X kc kn pc lo (a2 :: a1 :: .ref i :: st) h :=
  J_callIA (as := [a1, a2]) hd hs hm hh hf hst hl hk hc (fun G' r h' e q => by cases r with | none => exact q e | some v => exact q.elim)
theorem J_S3vA {M' : jM} {idx d mc ms : Nat} {a1 a2 a3 : Value} (hd : decode (m_c M) pc = .ok (.invokestatic idx, 3)) (hs : sS (m_y M).cls idx M') (hm : mOK M' 3) (hh : m_h M' = some []) (hl : lOk h.length lo) (hk : sOk h.length st) (hc : jCTA G M' d mc ms [a1, a2, a3] h (fun G' => jKv fun r h' => gEx h.length G G' → J G' R F M false (kc + mc) (kn + ms) (pc + 3) lo (r :: st) h')) (hf : jfit R (m_n M') d mc ms kc kn = true := by rfl) (hst : (st.map fun v => v.category).sum ≤ 8 := by exact Nat.le_of_ble_eq_true rfl) : J G R F M X kc kn pc lo (a3 :: a2 :: a1 :: st) h :=
  J_callSA (as := [a1, a2, a3]) hd hs hm hh hf hst hl hk hc (fun G' r h' e q => by cases r with | none => exact q.elim | some v => exact q e)
theorem J_S30A {M' : jM} {idx d mc ms : Nat} {a1 a2 a3 : Value} (hd : decode (m_c M) pc = .ok (.invokestatic idx, 3)) (hs : sS (m_y M).cls idx M') (hm : mOK M' 3) (hh : m_h M' = some []) (hl : lOk h.length lo) (hk : sOk h.length st) (hc : jCTA G M' d mc ms [a1, a2, a3] h (fun G' => jK0 fun h' => gEx h.length G G' → J G' R F M false (kc + mc) (kn + ms) (pc + 3) lo (st) h')) (hf : jfit R (m_n M') d mc ms kc kn = true := by rfl) (hst : (st.map fun v => v.category).sum ≤ 8 := by exact Nat.le_of_ble_eq_true rfl) : J G R F M X kc kn pc lo (a3 :: a2 :: a1 :: st) h :=
  J_callSA (as := [a1, a2, a3]) hd hs hm hh hf hst hl hk hc (fun G' r h' e q => by cases r with | none => exact q e | some v => exact q.elim)
theorem J_V3vA {M' : jM} {idx d mc ms : Nat} {i ci : Nat} {fs : List Value} {a1 a2 a3 : Value} (hd : decode (m_c M) pc = .ok (.invokevirtual idx, 3)) (hs : sV (m_y M).cls idx M') (hm : mOK M' 3) (hh : m_h M' = some []) (he : h[i]? = some (.inr (ci, fs))) (hcl : (jcl[ci]?).map (fun q => q.1) = some (m_y M').cls) (hl : lOk h.length lo) (hk : sOk h.length st) (hc : jCTA G M' d mc ms [.ref i, a1, a2, a3] h (fun G' => jKv fun r h' => gEx h.length G G' → J G' R F M false (kc + mc) (kn + ms) (pc + 3) lo (r :: st) h')) (hf : jfit R (m_n M') d mc ms kc kn = true := by rfl) (hst : (st.map fun v => v.category).sum ≤ 8 := by exact Nat.le_of_ble_eq_true rfl) : J G R F M X kc kn pc lo (a3 :: a2 :: a1 :: .ref i :: st) h :=
  J_callV0A (as := [a1, a2, a3]) hd hs hm hh hf hst (fun s H locs hB hS hH => ⟨_, rfl, by
    cases hj : jcl[ci]? with
    | none => rw [hj] at hcl; cases hcl
    | some q =>
      rw [hj] at hcl
      have h1 : q.1 = (m_y M').cls := Option.some.inj hcl
      rw [← h1]
      exact va_recv hB.2.2.1 hH.1 hj (cW_get he)⟩) hl hk hc (fun G' r h' e q => by cases r with | none => exact q.elim | some v => exact q e)
theorem J_V30A {M' : jM} {idx d mc ms : Nat} {i ci : Nat} {fs : List Value} {a1 a2 a3 : Value} (hd : decode (m_c M) pc = .ok (.invokevirtual idx, 3)) (hs : sV (m_y M).cls idx M') (hm : mOK M' 3) (hh : m_h M' = some []) (he : h[i]? = some (.inr (ci, fs))) (hcl : (jcl[ci]?).map (fun q => q.1) = some (m_y M').cls) (hl : lOk h.length lo) (hk : sOk h.length st) (hc : jCTA G M' d mc ms [.ref i, a1, a2, a3] h (fun G' => jK0 fun h' => gEx h.length G G' → J G' R F M false (kc + mc) (kn + ms) (pc + 3) lo (st) h')) (hf : jfit R (m_n M') d mc ms kc kn = true := by rfl) (hst : (st.map fun v => v.category).sum ≤ 8 := by exact Nat.le_of_ble_eq_true rfl) : J G R F M X kc kn pc lo (a3 :: a2 :: a1 :: .ref i :: st) h :=
  J_callV0A (as := [a1, a2, a3]) hd hs hm hh hf hst (fun s H locs hB hS hH => ⟨_, rfl, by
    cases hj : jcl[ci]? with
    | none => rw [hj] at hcl; cases hcl
    | some q =>
      rw [hj] at hcl
      have h1 : q.1 = (m_y M').cls := Option.some.inj hcl
      rw [← h1]
      exact va_recv hB.2.2.1 hH.1 hj (cW_get he)⟩) hl hk hc (fun G' r h' e q => by cases r with | none => exact q e | some v => exact q.elim)
theorem J_I30A {M' : jM} {idx d mc ms : Nat} {i : Nat} {a1 a2 a3 : Value} (hd : decode (m_c M) pc = .ok (.invokespecial idx, 3)) (hs : sI (m_y M).cls idx M') (hm : mOK M' 3) (hh : m_h M' = some []) (hl : lOk h.length lo) (hk : sOk h.length st) (hc : jCTA G M' d mc ms [.ref i, a1, a2, a3] h (fun G' => jK0 fun h' => gEx h.length G G' → J G' R F M false (kc + mc) (kn + ms) (pc + 3) lo (st) h')) (hf : jfit R (m_n M') d mc ms kc kn = true := by rfl) (hst : (st.map fun v => v.category).sum ≤ 8 := by exact Nat.le_of_ble_eq_true rfl) : J G R F M X kc kn pc lo (a3 :: a2 :: a1 :: .ref i :: st) h :=
  J_callIA (as := [a1, a2, a3]) hd hs hm hh hf hst hl hk hc (fun G' r h' e q => by cases r with | none => exact q e | some v => exact q.elim)
end JALL
