section JCALL
variable {G : jG} {R : Room} {F : jF} {M : jM} {X : Bool} {kc kn pc : Nat} {lo : List (Option Value)} {st : List Value} {h : jH}
theorem jfr {st : List Value} {pc : Nat} {m : MethodId} {ls : Array Slot} {gs : List Value} (hB : ∀ k, g_X G k = .null ∨ ∃ a, g_X G k = .ref a) (hst : (st.map fun v => v.category).sum ≤ 8) : 2 * (F0 m pc ls gs).monitorRoom + (((st.map (cV G))).map fun v => v.category).sum ≤ 8 := by
  rw [jsum G hB]
  exact lv_room hst
-- ===== ends =====
section RET
variable {Q : jQ_} {mc ms : Nat}
theorem jret_q {args : Array Value} {s : State} {H : Heap} {locs : List Loc} {r : Option Value} (hS : va_S (g_O G) s.heap H locs) (hH : HR G h H) (hX : X = true → (∀ i, g_P G i = g_n G + i) ∧ s.heap.size + kc = g_n G + h.length) (h3 : X = true → kc = mc) (hq : Q (.inl r) h) : ∀ t : State, t.heap = H → s.WarmedH t.vm → jQc G X mc Q args s (.returned (r.map (cV G))) t :=
  fun t ht _ => ⟨⟨r, h, rfl, hq, by rw [ht]; exact hH, fun hx => by rw [← h3 hx]; exact (hX hx).2⟩, hS.F ht⟩
theorem J_ireturn {v : Int32} (hd : decode (m_c M) pc = .ok (.ireturn, 1)) (hr : m_r M = some .int) (hq : Q (.inl (some (.int v))) h) (h1 : kc ≤ mc) (h2 : kn ≤ ms) (h3 : X = true → kc = mc) : J G R (jFin G Q X mc ms) M X kc kn pc lo [.int v] h := by
  intro p e s m args below meth c H locs ls C hS hH hL hX
  exact vx_ret (W.widen h1 h2 (W.iret C.1 C.2.1 (C.2.2.1.trans hr) (jret_q (r := some (.int v)) hS hH hX h3 hq) hS.2.2 hd C.2.2.2.2.2.2.1))
theorem J_zreturn {v : Int32} {ty : FieldType} (hd : decode (m_c M) pc = .ok (.ireturn, 1)) (hr : m_r M = some ty) (hn : narrow ty (.int v) = .int v) (hq : Q (.inl (some (.int v))) h) (h1 : kc ≤ mc) (h2 : kn ≤ ms) (h3 : X = true → kc = mc) : J G R (jFin G Q X mc ms) M X kc kn pc lo [.int v] h := by
  intro p e s m args below meth c H locs ls C hS hH hL hX
  exact vx_ret (W.widen h1 h2 (W.zret C.1 C.2.1 (C.2.2.1.trans hr) hn (jret_q (r := some (.int v)) hS hH hX h3 hq) hS.2.2 hd C.2.2.2.2.2.2.1))
theorem J_freturn {v : UInt32} (hd : decode (m_c M) pc = .ok (.freturn, 1)) (hr : m_r M = some .float) (hq : Q (.inl (some (.float v))) h) (h1 : kc ≤ mc) (h2 : kn ≤ ms) (h3 : X = true → kc = mc) : J G R (jFin G Q X mc ms) M X kc kn pc lo [.float v] h := by
  intro p e s m args below meth c H locs ls C hS hH hL hX
  exact vx_ret (W.widen h1 h2 (W.fret C.1 C.2.1 (C.2.2.1.trans hr) (jret_q (r := some (.float v)) hS hH hX h3 hq) hS.2.2 hd C.2.2.2.2.2.2.1))
theorem J_dreturn {v : UInt64} (hd : decode (m_c M) pc = .ok (.dreturn, 1)) (hr : m_r M = some .double) (hq : Q (.inl (some (.double v))) h) (h1 : kc ≤ mc) (h2 : kn ≤ ms) (h3 : X = true → kc = mc) : J G R (jFin G Q X mc ms) M X kc kn pc lo [.double v] h := by
  intro p e s m args below meth c H locs ls C hS hH hL hX
  exact vx_ret (W.widen h1 h2 (W.dret C.1 C.2.1 (C.2.2.1.trans hr) (jret_q (r := some (.double v)) hS hH hX h3 hq) hS.2.2 hd C.2.2.2.2.2.2.1))
theorem J_areturn {v : Value} {ty : FieldType} (hd : decode (m_c M) pc = .ok (.areturn, 1)) (hr : m_r M = some ty) (hrt : (∃ n, ty = .object n) ∨ ∃ t, ty = .array t) (hv : jref v = true) (hq : Q (.inl (some v)) h) (h1 : kc ≤ mc) (h2 : kn ≤ ms) (h3 : X = true → kc = mc) : J G R (jFin G Q X mc ms) M X kc kn pc lo [v] h := by
  intro p e s m args below meth c H locs ls C hS hH hL hX
  exact vx_ret (W.widen h1 h2 (W.aret C.1 C.2.1 (C.2.2.1.trans hr) hrt (jref_c (s := s) (jC_X C) hv) (jret_q (r := some v) hS hH hX h3 hq) hS.2.2 hd C.2.2.2.2.2.2.1))
theorem J_return (hd : decode (m_c M) pc = .ok (.return_, 1)) (hr : m_r M = none) (hq : Q (.inl none) h) (h1 : kc ≤ mc) (h2 : kn ≤ ms) (h3 : X = true → kc = mc) : J G R (jFin G Q X mc ms) M X kc kn pc lo [] h := by
  intro p e s m args below meth c H locs ls C hS hH hL hX
  exact vx_ret (W.widen h1 h2 (W.vret C.1 C.2.1 (C.2.2.1.trans hr) (jret_q (r := none) hS hH hX h3 hq) hS.2.2 hd C.2.2.2.2.2.2.1))
/-- a place where 'throw new E("..")' stands -/
def sT (own : String) (ik ic : Nat) (cls : String) : Prop := Bundle.fit cls = true ∧ Cond.classLink own ik cls ∈ lw_all ∧ Cond.initialized cls ∈ lw_all ∧
  (∀ w ∈ vx_atS own ic cls ["java/lang/RuntimeException", "java/lang/Exception"], w ∈ lw_all ∨ (∃ q ∈ jCast, w = .castable q.1 q.2) ∨ ∃ y ∈ jDecl, w = .declares y) ∧ (∀ w ∈ Cond.classLink own ik cls :: Cond.initialized cls :: vx_atS own ic cls ["java/lang/RuntimeException", "java/lang/Exception"], vx_ot w = true)
theorem jnames : ∀ n ∈ ["java/lang/RuntimeException", "java/lang/Exception"], Bundle.fit n = true := by decide +kernel
theorem jthrow_at {own cls : String} {ik ic : Nat} {args : Array Value} {s : State} (hs : sT own ik ic cls) (hw : ∀ w ∈ lw_all, w.before args s = true) (hB : jB G s) : ∀ w ∈ vx_atS own ic cls ["java/lang/RuntimeException", "java/lang/Exception"], w.before args s = true := by
  intro w h9
  rcases hs.2.2.2.1 w h9 with h1 | ⟨q, h1, rfl⟩ | ⟨y, h1, rfl⟩
  · exact hw w h1
  · exact (hB.2.2.2.2.2.2.2.1.1 q h1).use rfl
  · exact (hB.2.2.2.2.2.2.2.1.2 y h1).use rfl
theorem J_throw {ik is ic i : Nat} {q : jS_} {cls : String} (hs : sT (m_y M).cls ik ic cls) (d0 : decode (m_c M) pc = .ok (.new ik, 3)) (d3 : decode (m_c M) (pc + 3) = .ok (.dup, 1)) (d4 : decode (m_c M) (pc + 4) = .ok (.ldc is, 2)) (d6 : decode (m_c M) (pc + 6) = .ok (.invokespecial ic, 3)) (d9 : decode (m_c M) (pc + 9) = .ok (.athrow, 1))
    (hi : jStr[i]? = some q) (hi1 : q.1 = (m_y M).cls) (hi2 : q.2.1 = is) (hh : m_h M = some []) (hfr : 5 < R.frames) (hlc : (st.map fun v => v.category).sum + 82 ≤ R.locals) (hc1 : kc + 1 ≤ R.cells) (hc2 : kn + 6 ≤ R.slots) (h1 : kc + 1 ≤ mc) (h2 : kn + 6 ≤ ms)
    (hq : Q (.inr cls) h) : J G R (jFin G Q X mc ms) M X kc kn pc lo st h := by
  intro p e s m args below meth c H locs ls C hS hH hL hX
  obtain ⟨a, v, e1, e2, e3, e4⟩ := jB_S (jC_B C) i q hi
  rw [hi1, hi2] at e3
  exact vx_throwS (names := ["java/lang/RuntimeException", "java/lang/Exception"]) (A := g_O G) C.1 C.2.1 (jC_B C).2.1 (jC_o C) hs.1 jnames (jC_w C _ hs.2.1) (jC_w C _ hs.2.2.1) e3 (jthrow_at hs (jC_w C) (jC_B C)) hs.2.2.2.2 (jC_B C).2.2.2.1 (jC_B C).2.2.2.2.1 hS (hL.1.trans C.2.2.2.1.symm) d0 d3 d4 d6 d9
    (fun x hx => by rw [C.2.2.2.2.2.2.2.2.1 [] hh] at hx; cases hx) (by simpa using hfr) (by rw [jsum G (jC_X C)]; exact hlc) hc1 hc2 C.2.2.2.2.2.2.1
    (fun t _ hz hk => ⟨⟨h, hq, (⟨(show va_P (g_D G) jcl (cW G h) H from hH.1).kept (fun k x hx => hk x.1 ((hH.1 k x hx).lt)), hH.2⟩ : HR G h t.heap)⟩, ⟨Nat.le_trans hS.1 hz, fun x h1 h2 => (hk x (Nat.lt_of_lt_of_le h1 hS.1)).trans (hS.2.1 x h1 h2)⟩⟩) hS.2.2 h1 h2
theorem J_throwW {ik is ic i : Nat} {q : jS_} {cls : String} (hs : sT (m_y M).cls ik ic cls) (d0 : decode (m_c M) pc = .ok (.new ik, 3)) (d3 : decode (m_c M) (pc + 3) = .ok (.dup, 1)) (d4 : decode (m_c M) (pc + 4) = .ok (.ldc_w is, 3)) (d7 : decode (m_c M) (pc + 7) = .ok (.invokespecial ic, 3)) (d10 : decode (m_c M) (pc + 10) = .ok (.athrow, 1))
    (hi : jStr[i]? = some q) (hi1 : q.1 = (m_y M).cls) (hi2 : q.2.1 = is) (hh : m_h M = some []) (hfr : 5 < R.frames) (hlc : (st.map fun v => v.category).sum + 82 ≤ R.locals) (hc1 : kc + 1 ≤ R.cells) (hc2 : kn + 6 ≤ R.slots) (h1 : kc + 1 ≤ mc) (h2 : kn + 6 ≤ ms)
    (hq : Q (.inr cls) h) : J G R (jFin G Q X mc ms) M X kc kn pc lo st h := by
  intro p e s m args below meth c H locs ls C hS hH hL hX
  obtain ⟨a, v, e1, e2, e3, e4⟩ := jB_S (jC_B C) i q hi
  rw [hi1, hi2] at e3
  exact vx_throwSW (names := ["java/lang/RuntimeException", "java/lang/Exception"]) (A := g_O G) C.1 C.2.1 (jC_B C).2.1 (jC_o C) hs.1 jnames (jC_w C _ hs.2.1) (jC_w C _ hs.2.2.1) e3 (jthrow_at hs (jC_w C) (jC_B C)) hs.2.2.2.2 (jC_B C).2.2.2.1 (jC_B C).2.2.2.2.1 hS (hL.1.trans C.2.2.2.1.symm) d0 d3 d4 d7 d10
    (fun x hx => by rw [C.2.2.2.2.2.2.2.2.1 [] hh] at hx; cases hx) (by simpa using hfr) (by rw [jsum G (jC_X C)]; exact hlc) hc1 hc2 C.2.2.2.2.2.2.1
    (fun t _ hz hk => ⟨⟨h, hq, (⟨(show va_P (g_D G) jcl (cW G h) H from hH.1).kept (fun k x hx => hk x.1 ((hH.1 k x hx).lt)), hH.2⟩ : HR G h t.heap)⟩, ⟨Nat.le_trans hS.1 hz, fun x h1 h2 => (hk x (Nat.lt_of_lt_of_le h1 hS.1)).trans (hS.2.1 x h1 h2)⟩⟩) hS.2.2 h1 h2
/-- not caught here -/
theorem JX_out {E : String} (hh : m_h M = some []) (h1 : kc ≤ mc) (h2 : kn ≤ ms) (hq : Q (.inr E) h) : JX G R (jFin G Q X mc ms) M kc kn pc lo h E := by
  intro p e s m args below meth c H locs ls st q ce C hS hH hL hcell hv hcl
  exact vx_out (fun x hx => by rw [C.2.2.2.2.2.2.2.2.1 [] hh] at hx; cases hx) C.2.2.2.2.2.2.1 hcell hv hcl
    (fun t ht _ => ⟨⟨h, hq, by rw [ht]; exact hH⟩, hS.F ht⟩) hS.2.2 h1 h2
end RET
theorem jst0 (hB : ∀ k, g_X G k = .null ∨ ∃ a, g_X G k = .ref a) {n i : Nat} {v : Value} {lo : List (Option Value)} {ls : Array Slot} (h : lv_has ls n ((i, v) :: (jAs G lo).filter (fun q => !(q.1 == i) && !(q.1 + 1 == i && q.2.category == 2)))) : jLs G n ((jset1 lo i .null).set i none) ls := by
  refine ⟨h.1, h.2.1, fun j w hw => ?_⟩
  by_cases h5 : j = i
  · subst h5
    rw [List.getElem?_set] at hw
    simp at hw
  · rw [List.getElem?_set_ne (fun q => h5 q.symm)] at hw
    rcases jset1_spec G hB lo i .null j w hw with ⟨rfl, rfl⟩ | ⟨h1, h2, h3⟩
    · exact absurd rfl h5
    · refine h.2.2 (j, cV G w) (List.mem_cons_of_mem _ (List.mem_filter.mpr ⟨jAs_mem h2, ?_⟩))
      by_cases h4 : j + 1 = i
      · simp [h1, h4, h3 h4]
      · simp [h1, h4]
/-- caught by the row x of the table, and stored away; the rows ahead don't take it -/
theorem JX_catch {E name : String} {hh : List (Nat × Nat × Nat × Nat)} (pre : List ExceptionTableEntry) (x : ExceptionTableEntry) (suf : List ExceptionTableEntry) (i len : Nat) (hM : m_h M = some hh) (hsplit : tableOf hh = pre ++ x :: suf)
    (hpass : ∀ z ∈ pre, covers z pc = false ∨ (z.catchType ≠ 0 ∧ ∃ nm : String, Cond.classLink (m_y M).cls z.catchType nm ∈ lw_all ∧ (E, nm) ∈ jNoCast)) (hx : covers x pc = true) (h0 : x.catchType ≠ 0) (hl : Cond.classLink (m_y M).cls x.catchType name ∈ lw_all) (hc : (E, name) ∈ jCast)
    (hd : (∃ k : Fin 4, (k : Nat) = i ∧ len = 1 ∧ decode (m_c M) x.handlerPc = .ok (.astore_n k, 1)) ∨ (len = 2 ∧ decode (m_c M) x.handlerPc = .ok (.astore i, 2))) (hn : i < m_n M)
    (kk : J G R F M false kc kn (x.handlerPc + len) ((jset1 lo i .null).set i none) [] h) : JX G R F M kc kn pc lo h E := by
  intro p e s m args below meth c H locs ls st q ce C hS hH hL hcell hv hcl
  refine vx_catch (jC_o C) pre x suf (by rw [C.2.2.2.2.2.2.2.2.1 hh hM]; exact hsplit) (fun z hz => ?_) hx h0 (jC_w C _ hl) (((jC_B C).2.2.2.2.2.2.2.1.1 _ hc).use rfl) hcell hv hcl ?_
  · rcases hpass z hz with h1 | ⟨h1, nm, h2, h3⟩
    · exact Or.inl h1
    · exact Or.inr ⟨h1, nm, jC_w C _ h2, (jC_B C).2.2.2.2.2.2.2.2.1 _ h3⟩
  · rcases hd with ⟨k, rfl, rfl, hd⟩ | ⟨rfl, hd⟩
    · exact lv_astore_n C.1 C.2.1 hd rfl (jAs_has hL) hn rfl (fun ls9 h9 => kk p e s m args below meth c H locs ls9 C hS hH (jst0 (jC_X C) h9) (fun q => by cases q))
    · exact lv_astore C.1 C.2.1 hd (jAs_has hL) hn rfl (fun ls9 h9 => kk p e s m args below meth c H locs ls9 C hS hH (jst0 (jC_X C) h9) (fun q => by cases q))
-- ===== entry =====
theorem jlo_map (G : jG) (hB : ∀ k, g_X G k = .null ∨ ∃ a, g_X G k = .ref a) : ∀ as : List Value, (jlo (as.map (cV G))).length = (jlo as).length
  | [] => rfl
  | v :: r => by
    have := jlo_map G hB r
    simp only [List.map_cons, jlo, cV_cat G hB v]
    split <;> simp [this]
theorem jLs_entry {as : List Value} {n k : Nat} {lo : List (Option Value)} (hB : ∀ k, g_X G k = .null ∨ ∃ a, g_X G k = .ref a) (hlo : jlo as ++ List.replicate k none = lo) (hlen : Nat.ble (jlo as).length n = true) :
    jLs G n lo ((lg_sl (as.map (cV G)) ++ List.replicate (n - (lg_sl (as.map (cV G))).length) Slot.unset).toArray) := by
  have hl := lv_entry (as.map (cV G)) (n := n) (by rw [← jlo_len, jlo_map G hB]; exact Nat.le_of_ble_eq_true hlen)
  refine ⟨hl.1, hl.2.1, fun j v hj => ?_⟩
  subst hlo
  by_cases hc : j < (jlo as).length
  · rw [List.getElem?_append_left hc] at hj
    have h1 := jlo_spec as 0 j v hj
    rw [Nat.zero_add] at h1
    refine hl.2.2 (j, cV G v) ?_
    rw [lv_args_map G hB]
    exact List.mem_map.mpr ⟨_, h1, rfl⟩
  · rw [List.getElem?_append_right (by omega)] at hj
    exact (jrep hj).elim
theorem jCT_of {d mc ms : Nat} {as : List Value} {Q : jQ_} (lo : List (Option Value)) (k : Nat) (hM : m_h M = some []) (hy : plainName (m_y M).cls = true) (hlo : jlo as ++ List.replicate k none = lo) (hlen : Nat.ble (jlo as).length (m_n M) = true)
    (kk : J G (jR d mc ms) (jFin G Q X mc ms) M X 0 0 0 lo [] h) : jCT G M d mc ms X as h Q := by
  refine vx_ofW (cc := m_c M) (maxL := m_n M) (ret := m_r M) (ws' := lw_all) hy (by unfold jws jw; rw [hM]) ?_
  intro p e s m args below meth c s₁ B hml ht hv
  obtain ⟨rfl, hB, hH, hX⟩ := hv
  have hts := atoms_spec (ws := jws M) B.pre
  rw [lg_entry_eq]
  refine kk p e s m _ below meth c s.heap [] _ ⟨B.exec, B.bytes, B.returns, hml, findClass_of_methodNamed B.named, fun w hw => hts w (List.mem_cons_of_mem _ hw), B.notSynchronized, fun q => (name_of_methodNamed B.named B.method).1.trans q, fun hh h9 => ?_, hB⟩ va_S.rf hH (jLs_entry (jB_X hB) hlo hlen) hX
  rw [hM] at h9
  cases h9
  exact List.eq_nil_iff_forall_not_mem.mpr ht
theorem jCT_ofH {d mc ms : Nat} {as : List Value} {Q : jQ_} (lo : List (Option Value)) (k : Nat) {x9 : Nat × Nat × Nat × Nat} {xs9 : List (Nat × Nat × Nat × Nat)} (hM : m_h M = some (x9 :: xs9)) (hy : plainName (m_y M).cls = true) (hlo : jlo as ++ List.replicate k none = lo) (hlen : Nat.ble (jlo as).length (m_n M) = true)
    (kk : J G (jR d mc ms) (jFin G Q X mc ms) M X 0 0 0 lo [] h) : jCT G M d mc ms X as h Q := by
  refine vx_ofWH (cc := m_c M) (maxL := m_n M) (ret := m_r M) (hh := x9 :: xs9) (ws' := lw_all) hy (by unfold jws jw; rw [hM]) ?_
  intro p e s m args below meth c s₁ B hml hv
  obtain ⟨rfl, hB, hH, hX⟩ := hv
  have hts := atoms_spec (ws := jws M) B.pre
  rw [lg_entry_eq]
  refine kk p e s m _ below meth c s.heap [] _ ⟨B.exec, B.bytes, B.returns, hml, findClass_of_methodNamed B.named, fun w hw => hts w (List.mem_cons_of_mem _ hw), B.notSynchronized, fun q => (name_of_methodNamed B.named B.method).1.trans q, fun hh h9 => ?_, hB⟩ va_S.rf hH (jLs_entry (jB_X hB) hlo hlen) hX
  rw [hM] at h9
  cases h9
  have h8 := hts (jw M) List.mem_cons_self
  unfold jw at h8
  rw [hM] at h8
  exact vx_table (x := m_y M) B h8
theorem jCT_mono {d mc ms : Nat} {as : List Value} {Q Q' : jQ_} (hQ : ∀ o h', Q o h' → Q' o h') (hc : jCT G M d mc ms X as h Q) : jCT G M d mc ms X as h Q' := by
  intro p e ha hc1 hk s m args below hf h1 hP hT
  obtain ⟨k, o, g1, g2, g3, g4⟩ := hc p e ha hc1 hk s m args below hf h1 hP hT
  refine ⟨k, o, g1, g2, g3, ?_⟩
  rcases g4 with ⟨⟨⟨r, h', e1, e2, e3⟩, e4⟩, e5⟩ | ⟨q, e1, E, ce, L, ⟨⟨h', e2, e3⟩, e4⟩, e5⟩
  · exact Or.inl ⟨⟨⟨r, h', e1, hQ _ _ e2, e3⟩, e4⟩, e5⟩
  · exact Or.inr ⟨q, e1, E, ce, L, ⟨⟨h', hQ _ _ e2, e3⟩, e4⟩, e5⟩
/-- a contract that throws nothing -/
theorem jCT_met {d mc ms : Nat} {as : List Value} {Q : jQ_} (hQ : ∀ E h', ¬ Q (.inr E) h') (hc : jCT G M d mc ms X as h Q) : Met (g_l G) (m_y M) (jws M) (jR d mc ms) (jPc G X as h) (jQc G X mc Q) mc ms (g_O G) := by
  intro p e ha hc1 hk s m args below hf h1 hP hT
  obtain ⟨k, o, g1, g2, g3, g4⟩ := hc p e ha hc1 hk s m args below hf h1 hP hT
  refine ⟨k, o, g1, g2, g3, ?_⟩
  rcases g4 with g4 | ⟨q, e1, E, ce, L, ⟨⟨h', e2, e3⟩, e4⟩, e5⟩
  · exact g4
  · exact absurd e2 (hQ _ _)
-- ===== calls =====
/-- what is known of a method that is called: its code among the words, how many it takes -/
def mOK (M' : jM) (n : Nat) : Prop := jw M' ∈ lw_all ∧ Cond.initialized (m_y M').cls ∈ lw_all ∧ ((m_y M').cls ≠ "java/lang/invoke/MethodHandle" ∧ (m_y M').cls ≠ "java/lang/invoke/VarHandle") ∧ (parseMethodDescriptor (m_y M').desc).map (fun d => d.parameters.length) = some n
def sV (own : String) (idx : Nat) (M' : jM) : Prop := Cond.methodLink own idx (m_y M') ∈ lw_all ∧ Cond.instanceMethod (m_y M') ∈ lw_all ∧ Cond.selects (m_y M').cls (m_y M') (m_y M') ∈ lw_all
def sS (own : String) (idx : Nat) (M' : jM) : Prop := Cond.methodLink own idx (m_y M') ∈ lw_all ∧ Cond.static (m_y M') ∈ lw_all
def sSN (own : String) (idx : Nat) (M' : jM) : Prop := (own, idx, m_y M', "TrailGuide") ∈ jNest ∧ Cond.static (m_y M') ∈ lw_all
def sI (own : String) (idx : Nat) (M' : jM) : Prop := Cond.methodLink own idx (m_y M') ∈ lw_all ∧ Cond.instanceMethod (m_y M') ∈ lw_all ∧ (m_y M').name = "<init>" ∧ m_r M' = none
def sIN (own : String) (idx : Nat) (M' : jM) : Prop := (own, idx, m_y M', "TrailGuide") ∈ jNest ∧ Cond.instanceMethod (m_y M') ∈ lw_all ∧ (m_y M').name = "<init>" ∧ m_r M' = none
/-- the callee fits into the caller's room -/
def jfit (R : Room) (n d mc ms kc kn : Nat) : Bool := Nat.ble (d + 1) R.frames && (Nat.ble (8 + (n + 11) + 46 * d) R.locals && (Nat.ble (kc + mc) R.cells && Nat.ble (kn + ms) R.slots))
theorem jfit_spec {n d mc ms : Nat} (hf : jfit R n d mc ms kc kn = true) : ((jR d mc ms).frames + 1 ≤ R.frames ∧ 8 + (n + 11) + (jR d mc ms).locals ≤ R.locals) ∧ (kc + mc ≤ R.cells ∧ kn + ms ≤ R.slots) := by
  simp only [jfit, Bool.and_eq_true] at hf
  exact ⟨⟨Nat.le_of_ble_eq_true hf.1, Nat.le_of_ble_eq_true hf.2.1⟩, Nat.le_of_ble_eq_true hf.2.2.1, Nat.le_of_ble_eq_true hf.2.2.2⟩
theorem J_of_run {M' : jM} {mc ms : Nat} {Q : jQ_} {st0 : List Value}
    (hrun : ∀ (p : Program) (e : Env) (s : State) (m : MethodId) (args : Array Value) (below : List Frame) (meth : Method) (c : Code) (H : Heap) (locs : List Loc) (ls : Array Slot), jCtx G M p s m args meth c → va_S (g_O G) s.heap H locs → HR G h H → jLs G (m_n M) lo ls → (X = true → (∀ i, g_P G i = g_n G + i) ∧ H.size = g_n G + h.length) →
      ∃ a9, vx_Run p (g_l G) e R s m args below meth c H locs kc kn mc ms (F0 m pc ls (st0.map (cV G))) (st.map (cV G)) (jQc G X mc Q a9) (jXC G Q) (g_O G))
    (kr : ∀ v h', Q (.inl v) h' → J G R F M X (kc + mc) (kn + ms) (pc + 3) lo (v.toList ++ st) h') (kx : ∀ E h', Q (.inr E) h' → JX G R F M (kc + mc) (kn + ms) pc lo h' E) : J G R F M X kc kn pc lo st0 h := by
  intro p e s m args below meth c H locs ls C hS hH hL hX
  intro T hT XX
  have hsz : X = true → (∀ i, g_P G i = g_n G + i) ∧ H.size = g_n G + h.length := fun hx => by
    have h1 := XX.heapSize
    rw [hT] at h1
    have h2 := hX hx
    have h3 := HR_ge h2.1 hH (Nat.le_trans (jC_B C).1 hS.1)
    exact ⟨h2.1, by have := h2.2; omega⟩
  obtain ⟨a9, hr9⟩ := hrun p e s m args below meth c H locs ls C hS hH hL hsz
  rcases hr9 T hT XX with ⟨v, st₀, t, T', L, h0, X', hL9, e1, e2, ⟨⟨r, h', hv, hq, hr', hx'⟩, hF⟩, stp⟩ | ⟨q, st₀, t, T', L, E, ce, h0, X', hL9, e1, e2, ⟨⟨h', hq, hr'⟩, hF⟩, hce, hcv, hcl, stp⟩
  · cases hv
    obtain ⟨k1, k2, k3⟩ := vx_keep h0 e1 hS (fun q _ a => a) (fun q a => a) hL9 hF
    obtain ⟨t2, a1, b1⟩ := kr r h' hq p e s m args below meth c T'.heap (locs ++ L) ls C k3 (by rw [e1]; exact hr') hL (fun hx => ⟨(hX hx).1, by have a := hx' hx; rw [h0, (hsz hx).2] at a; have := (hX hx).2; omega⟩) T' rfl X'
    refine ⟨t2, stp t2 ?_, b1⟩
    cases r with
    | none => exact a1
    | some w => exact a1
  · obtain ⟨k1, k2, k3⟩ := vx_keep h0 e1 hS (fun q _ a => a) (fun q a => a) hL9 hF
    obtain ⟨t2, a1, b1⟩ := kx E h' hq p e s m args below meth c T'.heap (locs ++ L) ls _ q ce C k3 (by rw [e1]; exact hr') hL (by rw [e1]; exact hce) hcv hcl T' rfl X'
    exact ⟨t2, stp.trans a1, b1⟩
theorem vx_of_va {p : Program} {l : Launch} {e : Env} {s : State} {m : MethodId} {args : Array Value} {below : List Frame} {meth : Method} {c : Code} {H : Heap} {locs : List Loc} {mc ms : Nat} {g : JFrame} {rest : List Value} {Qa : State → Outcome → State → Prop} {XC : String → State → State → Prop} {free : Addr → Prop}
    (hr : va_Run p l e R s m args below meth c H locs kc kn mc ms g rest Qa free) : vx_Run p l e R s m args below meth c H locs kc kn mc ms g rest Qa XC free := by
  intro T hT X
  exact Or.inl (hr T hT X)
theorem jPc_blind {as : List Value} : FrameBlind (jPc G X as h) := fun a U g mk q => ⟨q.1, jB_moved (U := U.calling g mk a) q.2.1 (State.WarmedH.refl U) (Nat.le_refl _) (fun _ _ _ => rfl), q.2.2.1, q.2.2.2⟩
theorem jPc_now {as : List Value} {s : State} {H : Heap} {locs : List Loc} (hB : jB G s) (hS : va_S (g_O G) s.heap H locs) (hH : HR G h H) (hsz : X = true → (∀ i, g_P G i = g_n G + i) ∧ H.size = g_n G + h.length) : ∀ U : State, U.heap = H → s.WarmedH U.vm → jPc G X as h (as.map (cV G)).toArray U :=
  fun U hU hW => ⟨rfl, jB_moved hB hW (by rw [hU]; exact hS.1) (fun q h1 h2 => by rw [hU]; exact hS.2.1 q h1 h2), by rw [hU]; exact hH, fun hx => by rw [hU]; exact hsz hx⟩
theorem jst_rev {as : List Value} {v : Value} : (as.reverse ++ v :: st).map (cV G) = (as.map (cV G)).reverse ++ cV G v :: st.map (cV G) := by
  rw [List.map_append, List.map_reverse, List.map_cons]
theorem jst_rev0 {as : List Value} : (as.reverse ++ st).map (cV G) = (as.map (cV G)).reverse ++ st.map (cV G) := by
  rw [List.map_append, List.map_reverse]
theorem jGood {M' : jM} {ws : List Cond} (hm : jw M' ∈ lw_all) (hw : ∀ w ∈ ws, w ∈ lw_all) : GoodIn lw_all (ws ++ jws M') := lw_GoodIn fun w h9 => by
  rcases List.mem_append.mp h9 with h9 | h9
  · exact hw w h9
  · rcases List.mem_cons.mp h9 with rfl | h9
    · exact hm
    · exact h9
theorem jws_code {M' : jM} (hh : m_h M' = some []) : jws M' = Cond.code (m_y M') (m_c M') (m_n M') (m_r M') :: lw_all := by unfold jws jw; rw [hh]
/-- a call by the receiver's class; the receiver is v -/
theorem J_callV0 {M' : jM} {idx d mc ms : Nat} {Q : jQ_} {as : List Value} {v : Value} (hd : decode (m_c M) pc = .ok (.invokevirtual idx, 3)) (hs : sV (m_y M).cls idx M') (hm : mOK M' as.length) (hh : m_h M' = some []) (hf : jfit R (m_n M') d mc ms kc kn = true) (hst : (st.map fun v => v.category).sum ≤ 8)
    (hv : ∀ (s : State) (H : Heap) (locs : List Loc), jB G s → va_S (g_O G) s.heap H locs → HR G h H → ∃ b, cV G v = .ref b ∧ ∃ cellB : Cell, H[b]? = some cellB ∧ cellB.vm.isStatics = false ∧ s.vm.findClass (m_y M').cls = some cellB.cls)
    (hc : jCT G M' d mc ms X (v :: as) h Q) (kr : ∀ r h', Q (.inl r) h' → J G R F M X (kc + mc) (kn + ms) (pc + 3) lo (r.toList ++ st) h') (kx : ∀ E h', Q (.inr E) h' → JX G R F M (kc + mc) (kn + ms) pc lo h' E) : J G R F M X kc kn pc lo (as.reverse ++ v :: st) h := by
  refine J_of_run (M' := M') (mc := mc) (ms := ms) (Q := Q) (st := st) ?_ kr kx
  intro p e s m args below meth c H locs ls C hS hH hL hsz
  obtain ⟨b, hb, hrec⟩ := hv s H locs (jC_B C) hS hH
  obtain ⟨f1, f2⟩ := jfit_spec hf
  refine ⟨_, vx_runV (C := (m_y M').cls) (As := as.map (cV G)) (rest := st.map (cV G)) (b := b) (jC_f C) hc
    (cwV as.length (jC_w C) (jGood hm.1 (fun w h9 => ?_)) (jws_code hh) rfl rfl ⟨rfl, hm.2.2.1.1, hm.2.2.1.2, hm.2.2.2⟩ f1) ⟨jPc_blind, hrec, fun U hU hW => ?_⟩ rfl (by rw [List.length_map]) hL.1 (by rw [jst_rev, hb]) (jfr (jC_X C) hst) hd f2⟩
  · simp only [List.mem_cons, List.not_mem_nil, or_false] at h9
    rcases h9 with rfl | rfl | rfl | rfl
    · exact hs.1
    · exact hs.2.1
    · exact hs.2.2
    · exact hm.2.1
  · have := jPc_now (as := v :: as) (jC_B C) hS hH hsz U hU hW
    rw [List.map_cons, hb] at this
    exact this
theorem J_callV {M' : jM} {idx d mc ms i ci : Nat} {Q : jQ_} {as fs : List Value} (hd : decode (m_c M) pc = .ok (.invokevirtual idx, 3)) (hs : sV (m_y M).cls idx M') (hm : mOK M' as.length) (hh : m_h M' = some []) (hf : jfit R (m_n M') d mc ms kc kn = true) (hst : (st.map fun v => v.category).sum ≤ 8)
    (he : h[i]? = some (.inr (ci, fs))) (hcl : (jcl[ci]?).map (fun q => q.1) = some (m_y M').cls)
    (hc : jCT G M' d mc ms X (.ref i :: as) h Q) (kr : ∀ r h', Q (.inl r) h' → J G R F M X (kc + mc) (kn + ms) (pc + 3) lo (r.toList ++ st) h') (kx : ∀ E h', Q (.inr E) h' → JX G R F M (kc + mc) (kn + ms) pc lo h' E) : J G R F M X kc kn pc lo (as.reverse ++ .ref i :: st) h := by
  refine J_callV0 hd hs hm hh hf hst (fun s H locs hB hS hH => ⟨_, rfl, ?_⟩) hc kr kx
  cases hj : jcl[ci]? with
  | none => rw [hj] at hcl; cases hcl
  | some q =>
    rw [hj] at hcl
    have h1 : q.1 = (m_y M').cls := Option.some.inj hcl
    rw [← h1]
    exact va_recv hB.2.2.1 hH.1 hj (cW_get he)
theorem J_callStr {M' : jM} {idx d mc ms i : Nat} {q : jS_} {Q : jQ_} {as : List Value} (hd : decode (m_c M) pc = .ok (.invokevirtual idx, 3)) (hs : sV (m_y M).cls idx M') (hm : mOK M' as.length) (hh : m_h M' = some []) (hf : jfit R (m_n M') d mc ms kc kn = true) (hst : (st.map fun v => v.category).sum ≤ 8)
    (hq : jStr[i]? = some q) (hcl : (m_y M').cls = "java/lang/String")
    (hc : jCT G M' d mc ms X (.retAddr (2 * i + 2) :: as) h Q) (kr : ∀ r h', Q (.inl r) h' → J G R F M X (kc + mc) (kn + ms) (pc + 3) lo (r.toList ++ st) h') (kx : ∀ E h', Q (.inr E) h' → JX G R F M (kc + mc) (kn + ms) pc lo h' E) : J G R F M X kc kn pc lo (as.reverse ++ .retAddr (2 * i + 2) :: st) h := by
  refine J_callV0 hd hs hm hh hf hst (fun s H locs hB hS hH => ?_) hc kr kx
  obtain ⟨a, v, e1, e2, e3, e4⟩ := jB_S hB i q hq
  refine ⟨a, e1, ?_⟩
  rw [hcl]
  exact vk_recv e4 Nat.zero_lt_one hS
theorem J_callS {M' : jM} {idx d mc ms : Nat} {Q : jQ_} {as : List Value} (hd : decode (m_c M) pc = .ok (.invokestatic idx, 3)) (hs : sS (m_y M).cls idx M') (hm : mOK M' as.length) (hh : m_h M' = some []) (hf : jfit R (m_n M') d mc ms kc kn = true) (hst : (st.map fun v => v.category).sum ≤ 8)
    (hc : jCT G M' d mc ms X as h Q) (kr : ∀ r h', Q (.inl r) h' → J G R F M X (kc + mc) (kn + ms) (pc + 3) lo (r.toList ++ st) h') (kx : ∀ E h', Q (.inr E) h' → JX G R F M (kc + mc) (kn + ms) pc lo h' E) : J G R F M X kc kn pc lo (as.reverse ++ st) h := by
  refine J_of_run (M' := M') (mc := mc) (ms := ms) (Q := Q) (st := st) ?_ kr kx
  intro p e s m args below meth c H locs ls C hS hH hL hsz
  obtain ⟨f1, f2⟩ := jfit_spec hf
  refine ⟨_, vx_runS (As := as.map (cV G)) (rest := st.map (cV G)) (jC_f C) hc
    (va_cwS as.length (jC_w C) (jGood hm.1 (fun w h9 => ?_)) (jws_code hh) rfl rfl ⟨hm.2.2.1.1, hm.2.2.1.2, hm.2.2.2⟩ f1) ⟨jPc_blind, jPc_now (jC_B C) hS hH hsz⟩ rfl (by rw [List.length_map]) hL.1 (by rw [jst_rev0]) (jfr (jC_X C) hst) hd f2⟩
  simp only [List.mem_cons, List.not_mem_nil, or_false] at h9
  rcases h9 with rfl | rfl | rfl
  · exact hs.1
  · exact hs.2
  · exact hm.2.1
theorem J_callSX {M' : jM} {idx d mc ms : Nat} {Q : jQ_} {as : List Value} {x9 : Nat × Nat × Nat × Nat} {xs9 : List (Nat × Nat × Nat × Nat)} (hd : decode (m_c M) pc = .ok (.invokestatic idx, 3)) (hs : sS (m_y M).cls idx M') (hm : mOK M' as.length) (hh : m_h M' = some (x9 :: xs9)) (hf : jfit R (m_n M') d mc ms kc kn = true) (hst : (st.map fun v => v.category).sum ≤ 8)
    (hc : jCT G M' d mc ms X as h Q) (kr : ∀ r h', Q (.inl r) h' → J G R F M X (kc + mc) (kn + ms) (pc + 3) lo (r.toList ++ st) h') (kx : ∀ E h', Q (.inr E) h' → JX G R F M (kc + mc) (kn + ms) pc lo h' E) : J G R F M X kc kn pc lo (as.reverse ++ st) h := by
  refine J_of_run (M' := M') (mc := mc) (ms := ms) (Q := Q) (st := st) ?_ kr kx
  intro p e s m args below meth c H locs ls C hS hH hL hsz
  obtain ⟨f1, f2⟩ := jfit_spec hf
  refine ⟨_, vx_runSX (hh := x9 :: xs9) (As := as.map (cV G)) (rest := st.map (cV G)) (jC_f C) hc
    (vx_cwSW as.length (jC_w C) (jGood hm.1 (fun w h9 => ?_)) (show jws M' = Cond.codeWith (m_y M') (m_c M') (m_n M') (m_r M') (x9 :: xs9) :: lw_all by unfold jws jw; rw [hh]) rfl rfl ⟨hm.2.2.1.1, hm.2.2.1.2, hm.2.2.2⟩ f1) ⟨jPc_blind, jPc_now (jC_B C) hS hH hsz⟩ rfl (by rw [List.length_map]) hL.1 (by rw [jst_rev0]) (jfr (jC_X C) hst) hd f2⟩
  simp only [List.mem_cons, List.not_mem_nil, or_false] at h9
  rcases h9 with rfl | rfl | rfl
  · exact hs.1
  · exact hs.2
  · exact hm.2.1
theorem J_callSN {M' : jM} {idx d mc ms : Nat} {Q : jQ_} {as : List Value} (hd : decode (m_c M) pc = .ok (.invokestatic idx, 3)) (hs : sSN (m_y M).cls idx M') (hm : mOK M' as.length) (hh : m_h M' = some []) (hf : jfit R (m_n M') d mc ms kc kn = true) (hst : (st.map fun v => v.category).sum ≤ 8)
    (hc : jCT G M' d mc ms X as h Q) (hnx : ∀ E h', ¬ Q (.inr E) h') (kr : ∀ r h', Q (.inl r) h' → J G R F M X (kc + mc) (kn + ms) (pc + 3) lo (r.toList ++ st) h') : J G R F M X kc kn pc lo (as.reverse ++ st) h := by
  refine J_of_run (M' := M') (mc := mc) (ms := ms) (Q := Q) (st := st) ?_ kr (fun E h' q => absurd q (hnx E h'))
  intro p e s m args below meth c H locs ls C hS hH hL hsz
  obtain ⟨f1, f2⟩ := jfit_spec hf
  exact ⟨_, vx_of_va (va_runSN (As := as.map (cV G)) (rest := st.map (cV G)) (jC_f C) (jCT_met hnx hc)
    ⟨va_cnB as.length (jC_w C) (jGood (ws := []) hm.1 (fun w h9 => absurd h9 List.not_mem_nil)) (jws_code hh) rfl rfl ((jC_B C).2.2.2.2.2.1 _ hs.1) (jC_w C _ hm.2.1) ⟨hm.2.2.1.1, hm.2.2.1.2, hm.2.2.2⟩ f1, jC_w C _ hs.2, trivial⟩ ⟨jPc_blind, jPc_now (jC_B C) hS hH hsz⟩ rfl (by rw [List.length_map]) hL.1 (by rw [jst_rev0]) (jfr (jC_X C) hst) hd f2)⟩
theorem jws_code0 {M' : jM} (hh : m_h M' = some []) (hr : m_r M' = none) : jws M' = Cond.code (m_y M') (m_c M') (m_n M') none :: lw_all := by rw [jws_code hh, hr]
theorem J_callI {M' : jM} {idx d mc ms i : Nat} {Q : jQ_} {as : List Value} (hd : decode (m_c M) pc = .ok (.invokespecial idx, 3)) (hs : sI (m_y M).cls idx M') (hm : mOK M' as.length) (hh : m_h M' = some []) (hf : jfit R (m_n M') d mc ms kc kn = true) (hst : (st.map fun v => v.category).sum ≤ 8)
    (hc : jCT G M' d mc ms X (.ref i :: as) h Q) (hnx : ∀ E h', ¬ Q (.inr E) h') (kr : ∀ r h', Q (.inl r) h' → J G R F M X (kc + mc) (kn + ms) (pc + 3) lo (r.toList ++ st) h') : J G R F M X kc kn pc lo (as.reverse ++ .ref i :: st) h := by
  refine J_of_run (M' := M') (mc := mc) (ms := ms) (Q := Q) (st := st) ?_ kr (fun E h' q => absurd q (hnx E h'))
  intro p e s m args below meth c H locs ls C hS hH hL hsz
  obtain ⟨f1, f2⟩ := jfit_spec hf
  exact ⟨_, vx_of_va (va_runI (As := as.map (cV G)) (rest := st.map (cV G)) (b := g_P G i) (jC_f C) (jCT_met hnx hc)
    (cwI as.length (jC_w C) (jGood (ws := []) hm.1 (fun w h9 => absurd h9 List.not_mem_nil)) (jws_code0 hh hs.2.2.2) rfl rfl (jC_w C _ hm.2.1) (jC_w C _ hs.1) (jC_w C _ hs.2.1) hs.2.2.1 ⟨hm.2.2.1.1, hm.2.2.1.2, hm.2.2.2⟩ f1) ⟨jPc_blind, jPc_now (jC_B C) hS hH hsz⟩ rfl (by rw [List.length_map]) hL.1 (by rw [jst_rev]; rfl) (jfr (jC_X C) hst) hd f2)⟩
theorem J_callIN {M' : jM} {idx d mc ms i : Nat} {Q : jQ_} {as : List Value} (hd : decode (m_c M) pc = .ok (.invokespecial idx, 3)) (hs : sIN (m_y M).cls idx M') (hm : mOK M' as.length) (hh : m_h M' = some []) (hf : jfit R (m_n M') d mc ms kc kn = true) (hst : (st.map fun v => v.category).sum ≤ 8)
    (hc : jCT G M' d mc ms X (.ref i :: as) h Q) (hnx : ∀ E h', ¬ Q (.inr E) h') (kr : ∀ r h', Q (.inl r) h' → J G R F M X (kc + mc) (kn + ms) (pc + 3) lo (r.toList ++ st) h') : J G R F M X kc kn pc lo (as.reverse ++ .ref i :: st) h := by
  refine J_of_run (M' := M') (mc := mc) (ms := ms) (Q := Q) (st := st) ?_ kr (fun E h' q => absurd q (hnx E h'))
  intro p e s m args below meth c H locs ls C hS hH hL hsz
  obtain ⟨f1, f2⟩ := jfit_spec hf
  exact ⟨_, vx_of_va (va_runIN (As := as.map (cV G)) (rest := st.map (cV G)) (b := g_P G i) (jC_f C) (jCT_met hnx hc)
    ⟨va_cnB as.length (jC_w C) (jGood (ws := []) hm.1 (fun w h9 => absurd h9 List.not_mem_nil)) (jws_code0 hh hs.2.2.2) rfl rfl ((jC_B C).2.2.2.2.2.1 _ hs.1) (jC_w C _ hm.2.1) ⟨hm.2.2.1.1, hm.2.2.1.2, hm.2.2.2⟩ f1, hs.2.2.1, jC_w C _ hs.2.1⟩ ⟨jPc_blind, jPc_now (jC_B C) hS hH hsz⟩ rfl (by rw [List.length_map]) hL.1 (by rw [jst_rev]; rfl) (jfr (jC_X C) hst) hd f2)⟩
-- ===== what a caller goes on with, as the callee's post =====
/-- behind a call that returns a value, and throws nothing -/
def jKv (K : Value → jH → Prop) : jQ_
  | .inl (some v), h => K v h
  | _, _ => False
/-- behind a call that returns nothing -/
def jK0 (K : jH → Prop) : jQ_
  | .inl none, h => K h
  | _, _ => False
/-- behind a call that returns a value or throws -/
def jKx (K : Value → jH → Prop) (KX : String → jH → Prop) : jQ_
  | .inl (some v), h => K v h
  | .inr E, h => KX E h
  | _, _ => False
def jKx0 (K : jH → Prop) (KX : String → jH → Prop) : jQ_
  | .inl none, h => K h
  | .inr E, h => KX E h
  | _, _ => False
theorem jKv_i {K : Value → jH → Prop} {v : Value} {h : jH} (k : K v h) : jKv K (.inl (some v)) h := k
theorem jK0_i {K : jH → Prop} {h : jH} (k : K h) : jK0 K (.inl none) h := k
theorem jKx_i {K : Value → jH → Prop} {KX : String → jH → Prop} {v : Value} {h : jH} (k : K v h) : jKx K KX (.inl (some v)) h := k
theorem jKx_x {K : Value → jH → Prop} {KX : String → jH → Prop} {E : String} {h : jH} (k : KX E h) : jKx K KX (.inr E) h := k
theorem jKx0_i {K : jH → Prop} {KX : String → jH → Prop} {h : jH} (k : K h) : jKx0 K KX (.inl none) h := k
theorem jKx0_x {K : jH → Prop} {KX : String → jH → Prop} {E : String} {h : jH} (k : KX E h) : jKx0 K KX (.inr E) h := k
theorem jget_same {i : Nat} {c c0 : jC} (hc : h[i]? = some c0) : (h.set i c)[i]? = some c := by
  rw [List.getElem?_set_self (List.getElem?_eq_some_iff.mp hc).1]
theorem jget_ne {i j : Nat} {c d : jC} (hne : i ≠ j) (hc : h[j]? = some d) : (h.set i c)[j]? = some d := by
  rw [List.getElem?_set_ne hne]
  exact hc
theorem J_V0v {M' : jM} {idx d mc ms : Nat} {i ci : Nat} {fs : List Value}  (hd : decode (m_c M) pc = .ok (.invokevirtual idx, 3)) (hs : sV (m_y M).cls idx M') (hm : mOK M' 0) (hh : m_h M' = some []) (he : h[i]? = some (.inr (ci, fs))) (hcl : (jcl[ci]?).map (fun q => q.1) = some (m_y M').cls) (hc : jCT G M' d mc ms X [.ref i] h (jKv fun r h' => J G R F M X (kc + mc) (kn + ms) (pc + 3) lo (r :: st) h')) (hf : jfit R (m_n M') d mc ms kc kn = true := by rfl) (hst : (st.map fun v => v.category).sum ≤ 8 := by exact Nat.le_of_ble_eq_true rfl) : J G R F M X kc kn pc lo (.ref i :: st) h :=
  J_callV (as := []) hd hs hm hh hf hst he hcl hc (fun r h' q => by cases r with | none => exact q.elim | some v => exact q) (fun E h' q => q.elim)
theorem J_V0vx {M' : jM} {idx d mc ms : Nat} {i ci : Nat} {fs : List Value}  (hd : decode (m_c M) pc = .ok (.invokevirtual idx, 3)) (hs : sV (m_y M).cls idx M') (hm : mOK M' 0) (hh : m_h M' = some []) (he : h[i]? = some (.inr (ci, fs))) (hcl : (jcl[ci]?).map (fun q => q.1) = some (m_y M').cls) (hc : jCT G M' d mc ms X [.ref i] h (jKx (fun r h' => J G R F M X (kc + mc) (kn + ms) (pc + 3) lo (r :: st) h') (fun E h' => JX G R F M (kc + mc) (kn + ms) pc lo h' E))) (hf : jfit R (m_n M') d mc ms kc kn = true := by rfl) (hst : (st.map fun v => v.category).sum ≤ 8 := by exact Nat.le_of_ble_eq_true rfl) : J G R F M X kc kn pc lo (.ref i :: st) h :=
  J_callV (as := []) hd hs hm hh hf hst he hcl hc (fun r h' q => by cases r with | none => exact q.elim | some v => exact q) (fun E h' q => q)
theorem J_V00 {M' : jM} {idx d mc ms : Nat} {i ci : Nat} {fs : List Value}  (hd : decode (m_c M) pc = .ok (.invokevirtual idx, 3)) (hs : sV (m_y M).cls idx M') (hm : mOK M' 0) (hh : m_h M' = some []) (he : h[i]? = some (.inr (ci, fs))) (hcl : (jcl[ci]?).map (fun q => q.1) = some (m_y M').cls) (hc : jCT G M' d mc ms X [.ref i] h (jK0 fun h' => J G R F M X (kc + mc) (kn + ms) (pc + 3) lo (st) h')) (hf : jfit R (m_n M') d mc ms kc kn = true := by rfl) (hst : (st.map fun v => v.category).sum ≤ 8 := by exact Nat.le_of_ble_eq_true rfl) : J G R F M X kc kn pc lo (.ref i :: st) h :=
  J_callV (as := []) hd hs hm hh hf hst he hcl hc (fun r h' q => by cases r with | none => exact q | some v => exact q.elim) (fun E h' q => q.elim)
theorem J_V00x {M' : jM} {idx d mc ms : Nat} {i ci : Nat} {fs : List Value}  (hd : decode (m_c M) pc = .ok (.invokevirtual idx, 3)) (hs : sV (m_y M).cls idx M') (hm : mOK M' 0) (hh : m_h M' = some []) (he : h[i]? = some (.inr (ci, fs))) (hcl : (jcl[ci]?).map (fun q => q.1) = some (m_y M').cls) (hc : jCT G M' d mc ms X [.ref i] h (jKx0 (fun h' => J G R F M X (kc + mc) (kn + ms) (pc + 3) lo (st) h') (fun E h' => JX G R F M (kc + mc) (kn + ms) pc lo h' E))) (hf : jfit R (m_n M') d mc ms kc kn = true := by rfl) (hst : (st.map fun v => v.category).sum ≤ 8 := by exact Nat.le_of_ble_eq_true rfl) : J G R F M X kc kn pc lo (.ref i :: st) h :=
  J_callV (as := []) hd hs hm hh hf hst he hcl hc (fun r h' q => by cases r with | none => exact q | some v => exact q.elim) (fun E h' q => q)
theorem J_S0v {M' : jM} {idx d mc ms : Nat}  (hd : decode (m_c M) pc = .ok (.invokestatic idx, 3)) (hs : sS (m_y M).cls idx M') (hm : mOK M' 0) (hh : m_h M' = some []) (hc : jCT G M' d mc ms X [] h (jKv fun r h' => J G R F M X (kc + mc) (kn + ms) (pc + 3) lo (r :: st) h')) (hf : jfit R (m_n M') d mc ms kc kn = true := by rfl) (hst : (st.map fun v => v.category).sum ≤ 8 := by exact Nat.le_of_ble_eq_true rfl) : J G R F M X kc kn pc lo (st) h :=
  J_callS (as := []) hd hs hm hh hf hst hc (fun r h' q => by cases r with | none => exact q.elim | some v => exact q) (fun E h' q => q.elim)
theorem J_S0vx {M' : jM} {idx d mc ms : Nat}  (hd : decode (m_c M) pc = .ok (.invokestatic idx, 3)) (hs : sS (m_y M).cls idx M') (hm : mOK M' 0) (hh : m_h M' = some []) (hc : jCT G M' d mc ms X [] h (jKx (fun r h' => J G R F M X (kc + mc) (kn + ms) (pc + 3) lo (r :: st) h') (fun E h' => JX G R F M (kc + mc) (kn + ms) pc lo h' E))) (hf : jfit R (m_n M') d mc ms kc kn = true := by rfl) (hst : (st.map fun v => v.category).sum ≤ 8 := by exact Nat.le_of_ble_eq_true rfl) : J G R F M X kc kn pc lo (st) h :=
  J_callS (as := []) hd hs hm hh hf hst hc (fun r h' q => by cases r with | none => exact q.elim | some v => exact q) (fun E h' q => q)
theorem J_S00 {M' : jM} {idx d mc ms : Nat}  (hd : decode (m_c M) pc = .ok (.invokestatic idx, 3)) (hs : sS (m_y M).cls idx M') (hm : mOK M' 0) (hh : m_h M' = some []) (hc : jCT G M' d mc ms X [] h (jK0 fun h' => J G R F M X (kc + mc) (kn + ms) (pc + 3) lo (st) h')) (hf : jfit R (m_n M') d mc ms kc kn = true := by rfl) (hst : (st.map fun v => v.category).sum ≤ 8 := by exact Nat.le_of_ble_eq_true rfl) : J G R F M X kc kn pc lo (st) h :=
  J_callS (as := []) hd hs hm hh hf hst hc (fun r h' q => by cases r with | none => exact q | some v => exact q.elim) (fun E h' q => q.elim)
theorem J_S00x {M' : jM} {idx d mc ms : Nat}  (hd : decode (m_c M) pc = .ok (.invokestatic idx, 3)) (hs : sS (m_y M).cls idx M') (hm : mOK M' 0) (hh : m_h M' = some []) (hc : jCT G M' d mc ms X [] h (jKx0 (fun h' => J G R F M X (kc + mc) (kn + ms) (pc + 3) lo (st) h') (fun E h' => JX G R F M (kc + mc) (kn + ms) pc lo h' E))) (hf : jfit R (m_n M') d mc ms kc kn = true := by rfl) (hst : (st.map fun v => v.category).sum ≤ 8 := by exact Nat.le_of_ble_eq_true rfl) : J G R F M X kc kn pc lo (st) h :=
  J_callS (as := []) hd hs hm hh hf hst hc (fun r h' q => by cases r with | none => exact q | some v => exact q.elim) (fun E h' q => q)
theorem J_SN0v {M' : jM} {idx d mc ms : Nat}  (hd : decode (m_c M) pc = .ok (.invokestatic idx, 3)) (hs : sSN (m_y M).cls idx M') (hm : mOK M' 0) (hh : m_h M' = some []) (hc : jCT G M' d mc ms X [] h (jKv fun r h' => J G R F M X (kc + mc) (kn + ms) (pc + 3) lo (r :: st) h')) (hf : jfit R (m_n M') d mc ms kc kn = true := by rfl) (hst : (st.map fun v => v.category).sum ≤ 8 := by exact Nat.le_of_ble_eq_true rfl) : J G R F M X kc kn pc lo (st) h :=
  J_callSN (as := []) hd hs hm hh hf hst hc (fun E h' q => q.elim) (fun r h' q => by cases r with | none => exact q.elim | some v => exact q)
theorem J_SN00 {M' : jM} {idx d mc ms : Nat}  (hd : decode (m_c M) pc = .ok (.invokestatic idx, 3)) (hs : sSN (m_y M).cls idx M') (hm : mOK M' 0) (hh : m_h M' = some []) (hc : jCT G M' d mc ms X [] h (jK0 fun h' => J G R F M X (kc + mc) (kn + ms) (pc + 3) lo (st) h')) (hf : jfit R (m_n M') d mc ms kc kn = true := by rfl) (hst : (st.map fun v => v.category).sum ≤ 8 := by exact Nat.le_of_ble_eq_true rfl) : J G R F M X kc kn pc lo (st) h :=
  J_callSN (as := []) hd hs hm hh hf hst hc (fun E h' q => q.elim) (fun r h' q => by cases r with | none => exact q | some v => exact q.elim)
theorem J_I00 {M' : jM} {idx d mc ms : Nat} {i : Nat}  (hd : decode (m_c M) pc = .ok (.invokespecial idx, 3)) (hs : sI (m_y M).cls idx M') (hm : mOK M' 0) (hh : m_h M' = some []) (hc : jCT G M' d mc ms X [.ref i] h (jK0 fun h' => J G R F M X (kc + mc) (kn + ms) (pc + 3) lo (st) h')) (hf : jfit R (m_n M') d mc ms kc kn = true := by rfl) (hst : (st.map fun v => v.category).sum ≤ 8 := by exact Nat.le_of_ble_eq_true rfl) : J G R F M X kc kn pc lo (.ref i :: st) h :=
  J_callI (as := []) hd hs hm hh hf hst hc (fun E h' q => q.elim) (fun r h' q => by cases r with | none => exact q | some v => exact q.elim)
theorem J_IN00 {M' : jM} {idx d mc ms : Nat} {i : Nat}  (hd : decode (m_c M) pc = .ok (.invokespecial idx, 3)) (hs : sIN (m_y M).cls idx M') (hm : mOK M' 0) (hh : m_h M' = some []) (hc : jCT G M' d mc ms X [.ref i] h (jK0 fun h' => J G R F M X (kc + mc) (kn + ms) (pc + 3) lo (st) h')) (hf : jfit R (m_n M') d mc ms kc kn = true := by rfl) (hst : (st.map fun v => v.category).sum ≤ 8 := by exact Nat.le_of_ble_eq_true rfl) : J G R F M X kc kn pc lo (.ref i :: st) h :=
  J_callIN (as := []) hd hs hm hh hf hst hc (fun E h' q => q.elim) (fun r h' q => by cases r with | none => exact q | some v => exact q.elim)
theorem J_Str0v {M' : jM} {idx d mc ms : Nat} {i : Nat} {q : jS_}  (hd : decode (m_c M) pc = .ok (.invokevirtual idx, 3)) (hs : sV (m_y M).cls idx M') (hm : mOK M' 0) (hh : m_h M' = some []) (hq : jStr[i]? = some q) (hcl : (m_y M').cls = "java/lang/String") (hc : jCT G M' d mc ms X [.retAddr (2 * i + 2)] h (jKv fun r h' => J G R F M X (kc + mc) (kn + ms) (pc + 3) lo (r :: st) h')) (hf : jfit R (m_n M') d mc ms kc kn = true := by rfl) (hst : (st.map fun v => v.category).sum ≤ 8 := by exact Nat.le_of_ble_eq_true rfl) : J G R F M X kc kn pc lo (.retAddr (2 * i + 2) :: st) h :=
  J_callStr (as := []) hd hs hm hh hf hst hq hcl hc (fun r h' q => by cases r with | none => exact q.elim | some v => exact q) (fun E h' q => q.elim)
theorem J_V1v {M' : jM} {idx d mc ms : Nat} {i ci : Nat} {fs : List Value} {a1 : Value} (hd : decode (m_c M) pc = .ok (.invokevirtual idx, 3)) (hs : sV (m_y M).cls idx M') (hm : mOK M' 1) (hh : m_h M' = some []) (he : h[i]? = some (.inr (ci, fs))) (hcl : (jcl[ci]?).map (fun q => q.1) = some (m_y M').cls) (hc : jCT G M' d mc ms X [.ref i, a1] h (jKv fun r h' => J G R F M X (kc + mc) (kn + ms) (pc + 3) lo (r :: st) h')) (hf : jfit R (m_n M') d mc ms kc kn = true := by rfl) (hst : (st.map fun v => v.category).sum ≤ 8 := by exact Nat.le_of_ble_eq_true rfl) : J G R F M X kc kn pc lo (a1 :: .ref i :: st) h :=
  J_callV (as := [a1]) hd hs hm hh hf hst he hcl hc (fun r h' q => by cases r with | none => exact q.elim | some v => exact q) (fun E h' q => q.elim)
theorem J_V1vx {M' : jM} {idx d mc ms : Nat} {i ci : Nat} {fs : List Value} {a1 : Value} (hd : decode (m_c M) pc = .ok (.invokevirtual idx, 3)) (hs : sV (m_y M).cls idx M') (hm : mOK M' 1) (hh : m_h M' = some []) (he : h[i]? = some (.inr (ci, fs))) (hcl : (jcl[ci]?).map (fun q => q.1) = some (m_y M').cls) (hc : jCT G M' d mc ms X [.ref i, a1] h (jKx (fun r h' => J G R F M X (kc + mc) (kn + ms) (pc + 3) lo (r :: st) h') (fun E h' => JX G R F M (kc + mc) (kn + ms) pc lo h' E))) (hf : jfit R (m_n M') d mc ms kc kn = true := by rfl) (hst : (st.map fun v => v.category).sum ≤ 8 := by exact Nat.le_of_ble_eq_true rfl) : J G R F M X kc kn pc lo (a1 :: .ref i :: st) h :=
  J_callV (as := [a1]) hd hs hm hh hf hst he hcl hc (fun r h' q => by cases r with | none => exact q.elim | some v => exact q) (fun E h' q => q)
theorem J_V10 {M' : jM} {idx d mc ms : Nat} {i ci : Nat} {fs : List Value} {a1 : Value} (hd : decode (m_c M) pc = .ok (.invokevirtual idx, 3)) (hs : sV (m_y M).cls idx M') (hm : mOK M' 1) (hh : m_h M' = some []) (he : h[i]? = some (.inr (ci, fs))) (hcl : (jcl[ci]?).map (fun q => q.1) = some (m_y M').cls) (hc : jCT G M' d mc ms X [.ref i, a1] h (jK0 fun h' => J G R F M X (kc + mc) (kn + ms) (pc + 3) lo (st) h')) (hf : jfit R (m_n M') d mc ms kc kn = true := by rfl) (hst : (st.map fun v => v.category).sum ≤ 8 := by exact Nat.le_of_ble_eq_true rfl) : J G R F M X kc kn pc lo (a1 :: .ref i :: st) h :=
  J_callV (as := [a1]) hd hs hm hh hf hst he hcl hc (fun r h' q => by cases r with | none => exact q | some v => exact q.elim) (fun E h' q => q.elim)
theorem J_V10x {M' : jM} {idx d mc ms : Nat} {i ci : Nat} {fs : List Value} {a1 : Value} (hd : decode (m_c M) pc = .ok (.invokevirtual idx, 3)) (hs : sV (m_y M).cls idx M') (hm : mOK M' 1) (hh : m_h M' = some []) (he : h[i]? = some (.inr (ci, fs))) (hcl : (jcl[ci]?).map (fun q => q.1) = some (m_y M').cls) (hc : jCT G M' d mc ms X [.ref i, a1] h (jKx0 (fun h' => J G R F M X (kc + mc) (kn + ms) (pc + 3) lo (st) h') (fun E h' => JX G R F M (kc + mc) (kn + ms) pc lo h' E))) (hf : jfit R (m_n M') d mc ms kc kn = true := by rfl) (hst : (st.map fun v => v.category).sum ≤ 8 := by exact Nat.le_of_ble_eq_true rfl) : J G R F M X kc kn pc lo (a1 :: .ref i :: st) h :=
  J_callV (as := [a1]) hd hs hm hh hf hst he hcl hc (fun r h' q => by cases r with | none => exact q | some v => exact q.elim) (fun E h' q => q)
theorem J_S1v {M' : jM} {idx d mc ms : Nat} {a1 : Value} (hd : decode (m_c M) pc = .ok (.invokestatic idx, 3)) (hs : sS (m_y M).cls idx M') (hm : mOK M' 1) (hh : m_h M' = some []) (hc : jCT G M' d mc ms X [a1] h (jKv fun r h' => J G R F M X (kc + mc) (kn + ms) (pc + 3) lo (r :: st) h')) (hf : jfit R (m_n M') d mc ms kc kn = true := by rfl) (hst : (st.map fun v => v.category).sum ≤ 8 := by exact Nat.le_of_ble_eq_true rfl) : J G R F M X kc kn pc lo (a1 :: st) h :=
  J_callS (as := [a1]) hd hs hm hh hf hst hc (fun r h' q => by cases r with | none => exact q.elim | some v => exact q) (fun E h' q => q.elim)
theorem J_S1vx {M' : jM} {idx d mc ms : Nat} {a1 : Value} (hd : decode (m_c M) pc = .ok (.invokestatic idx, 3)) (hs : sS (m_y M).cls idx M') (hm : mOK M' 1) (hh : m_h M' = some []) (hc : jCT G M' d mc ms X [a1] h (jKx (fun r h' => J G R F M X (kc + mc) (kn + ms) (pc + 3) lo (r :: st) h') (fun E h' => JX G R F M (kc + mc) (kn + ms) pc lo h' E))) (hf : jfit R (m_n M') d mc ms kc kn = true := by rfl) (hst : (st.map fun v => v.category).sum ≤ 8 := by exact Nat.le_of_ble_eq_true rfl) : J G R F M X kc kn pc lo (a1 :: st) h :=
  J_callS (as := [a1]) hd hs hm hh hf hst hc (fun r h' q => by cases r with | none => exact q.elim | some v => exact q) (fun E h' q => q)
theorem J_S10 {M' : jM} {idx d mc ms : Nat} {a1 : Value} (hd : decode (m_c M) pc = .ok (.invokestatic idx, 3)) (hs : sS (m_y M).cls idx M') (hm : mOK M' 1) (hh : m_h M' = some []) (hc : jCT G M' d mc ms X [a1] h (jK0 fun h' => J G R F M X (kc + mc) (kn + ms) (pc + 3) lo (st) h')) (hf : jfit R (m_n M') d mc ms kc kn = true := by rfl) (hst : (st.map fun v => v.category).sum ≤ 8 := by exact Nat.le_of_ble_eq_true rfl) : J G R F M X kc kn pc lo (a1 :: st) h :=
  J_callS (as := [a1]) hd hs hm hh hf hst hc (fun r h' q => by cases r with | none => exact q | some v => exact q.elim) (fun E h' q => q.elim)
theorem J_S10x {M' : jM} {idx d mc ms : Nat} {a1 : Value} (hd : decode (m_c M) pc = .ok (.invokestatic idx, 3)) (hs : sS (m_y M).cls idx M') (hm : mOK M' 1) (hh : m_h M' = some []) (hc : jCT G M' d mc ms X [a1] h (jKx0 (fun h' => J G R F M X (kc + mc) (kn + ms) (pc + 3) lo (st) h') (fun E h' => JX G R F M (kc + mc) (kn + ms) pc lo h' E))) (hf : jfit R (m_n M') d mc ms kc kn = true := by rfl) (hst : (st.map fun v => v.category).sum ≤ 8 := by exact Nat.le_of_ble_eq_true rfl) : J G R F M X kc kn pc lo (a1 :: st) h :=
  J_callS (as := [a1]) hd hs hm hh hf hst hc (fun r h' q => by cases r with | none => exact q | some v => exact q.elim) (fun E h' q => q)
theorem J_SX1v {M' : jM} {idx d mc ms : Nat} {x9 : Nat × Nat × Nat × Nat} {xs9 : List (Nat × Nat × Nat × Nat)} {a1 : Value} (hd : decode (m_c M) pc = .ok (.invokestatic idx, 3)) (hs : sS (m_y M).cls idx M') (hm : mOK M' 1) (hh : m_h M' = some (x9 :: xs9)) (hc : jCT G M' d mc ms X [a1] h (jKv fun r h' => J G R F M X (kc + mc) (kn + ms) (pc + 3) lo (r :: st) h')) (hf : jfit R (m_n M') d mc ms kc kn = true := by rfl) (hst : (st.map fun v => v.category).sum ≤ 8 := by exact Nat.le_of_ble_eq_true rfl) : J G R F M X kc kn pc lo (a1 :: st) h :=
  J_callSX (as := [a1]) hd hs hm hh hf hst hc (fun r h' q => by cases r with | none => exact q.elim | some v => exact q) (fun E h' q => q.elim)
theorem J_SX10 {M' : jM} {idx d mc ms : Nat} {x9 : Nat × Nat × Nat × Nat} {xs9 : List (Nat × Nat × Nat × Nat)} {a1 : Value} (hd : decode (m_c M) pc = .ok (.invokestatic idx, 3)) (hs : sS (m_y M).cls idx M') (hm : mOK M' 1) (hh : m_h M' = some (x9 :: xs9)) (hc : jCT G M' d mc ms X [a1] h (jK0 fun h' => J G R F M X (kc + mc) (kn + ms) (pc + 3) lo (st) h')) (hf : jfit R (m_n M') d mc ms kc kn = true := by rfl) (hst : (st.map fun v => v.category).sum ≤ 8 := by exact Nat.le_of_ble_eq_true rfl) : J G R F M X kc kn pc lo (a1 :: st) h :=
  J_callSX (as := [a1]) hd hs hm hh hf hst hc (fun r h' q => by cases r with | none => exact q | some v => exact q.elim) (fun E h' q => q.elim)
theorem J_SN1v {M' : jM} {idx d mc ms : Nat} {a1 : Value} (hd : decode (m_c M) pc = .ok (.invokestatic idx, 3)) (hs : sSN (m_y M).cls idx M') (hm : mOK M' 1) (hh : m_h M' = some []) (hc : jCT G M' d mc ms X [a1] h (jKv fun r h' => J G R F M X (kc + mc) (kn + ms) (pc + 3) lo (r :: st) h')) (hf : jfit R (m_n M') d mc ms kc kn = true := by rfl) (hst : (st.map fun v => v.category).sum ≤ 8 := by exact Nat.le_of_ble_eq_true rfl) : J G R F M X kc kn pc lo (a1 :: st) h :=
  J_callSN (as := [a1]) hd hs hm hh hf hst hc (fun E h' q => q.elim) (fun r h' q => by cases r with | none => exact q.elim | some v => exact q)
theorem J_SN10 {M' : jM} {idx d mc ms : Nat} {a1 : Value} (hd : decode (m_c M) pc = .ok (.invokestatic idx, 3)) (hs : sSN (m_y M).cls idx M') (hm : mOK M' 1) (hh : m_h M' = some []) (hc : jCT G M' d mc ms X [a1] h (jK0 fun h' => J G R F M X (kc + mc) (kn + ms) (pc + 3) lo (st) h')) (hf : jfit R (m_n M') d mc ms kc kn = true := by rfl) (hst : (st.map fun v => v.category).sum ≤ 8 := by exact Nat.le_of_ble_eq_true rfl) : J G R F M X kc kn pc lo (a1 :: st) h :=
  J_callSN (as := [a1]) hd hs hm hh hf hst hc (fun E h' q => q.elim) (fun r h' q => by cases r with | none => exact q | some v => exact q.elim)
theorem J_Str1v {M' : jM} {idx d mc ms : Nat} {i : Nat} {q : jS_} {a1 : Value} (hd : decode (m_c M) pc = .ok (.invokevirtual idx, 3)) (hs : sV (m_y M).cls idx M') (hm : mOK M' 1) (hh : m_h M' = some []) (hq : jStr[i]? = some q) (hcl : (m_y M').cls = "java/lang/String") (hc : jCT G M' d mc ms X [.retAddr (2 * i + 2), a1] h (jKv fun r h' => J G R F M X (kc + mc) (kn + ms) (pc + 3) lo (r :: st) h')) (hf : jfit R (m_n M') d mc ms kc kn = true := by rfl) (hst : (st.map fun v => v.category).sum ≤ 8 := by exact Nat.le_of_ble_eq_true rfl) : J G R F M X kc kn pc lo (a1 :: .retAddr (2 * i + 2) :: st) h :=
  J_callStr (as := [a1]) hd hs hm hh hf hst hq hcl hc (fun r h' q => by cases r with | none => exact q.elim | some v => exact q) (fun E h' q => q.elim)
theorem J_V2v {M' : jM} {idx d mc ms : Nat} {i ci : Nat} {fs : List Value} {a1 a2 : Value} (hd : decode (m_c M) pc = .ok (.invokevirtual idx, 3)) (hs : sV (m_y M).cls idx M') (hm : mOK M' 2) (hh : m_h M' = some []) (he : h[i]? = some (.inr (ci, fs))) (hcl : (jcl[ci]?).map (fun q => q.1) = some (m_y M').cls) (hc : jCT G M' d mc ms X [.ref i, a1, a2] h (jKv fun r h' => J G R F M X (kc + mc) (kn + ms) (pc + 3) lo (r :: st) h')) (hf : jfit R (m_n M') d mc ms kc kn = true := by rfl) (hst : (st.map fun v => v.category).sum ≤ 8 := by exact Nat.le_of_ble_eq_true rfl) : J G R F M X kc kn pc lo (a2 :: a1 :: .ref i :: st) h :=
  J_callV (as := [a1, a2]) hd hs hm hh hf hst he hcl hc (fun r h' q => by cases r with | none => exact q.elim | some v => exact q) (fun E h' q => q.elim)
theorem J_V2vx {M' : jM} {idx d mc ms : Nat} {i ci : Nat} {fs : List Value} {a1 a2 : Value} (hd : decode (m_c M) pc = .ok (.invokevirtual idx, 3)) (hs : sV (m_y M).cls idx M') (hm : mOK M' 2) (hh : m_h M' = some []) (he : h[i]? = some (.inr (ci, fs))) (hcl : (jcl[ci]?).map (fun q => q.1) = some (m_y M').cls) (hc : jCT G M' d mc ms X [.ref i, a1, a2] h (jKx (fun r h' => J G R F M X (kc + mc) (kn + ms) (pc + 3) lo (r :: st) h') (fun E h' => JX G R F M (kc + mc) (kn + ms) pc lo h' E))) (hf : jfit R (m_n M') d mc ms kc kn = true := by rfl) (hst : (st.map fun v => v.category).sum ≤ 8 := by exact Nat.le_of_ble_eq_true rfl) : J G R F M X kc kn pc lo (a2 :: a1 :: .ref i :: st) h :=
  J_callV (as := [a1, a2]) hd hs hm hh hf hst he hcl hc (fun r h' q => by cases r with | none => exact q.elim | some v => exact q) (fun E h' q => q)
theorem J_V20 {M' : jM} {idx d mc ms : Nat} {i ci : Nat} {fs : List Value} {a1 a2 : Value} (hd : decode (m_c M) pc = .ok (.invokevirtual idx, 3)) (hs : sV (m_y M).cls idx M') (hm : mOK M' 2) (hh : m_h M' = some []) (he : h[i]? = some (.inr (ci, fs))) (hcl : (jcl[ci]?).map (fun q => q.1) = some (m_y M').cls) (hc : jCT G M' d mc ms X [.ref i, a1, a2] h (jK0 fun h' => J G R F M X (kc + mc) (kn + ms) (pc + 3) lo (st) h')) (hf : jfit R (m_n M') d mc ms kc kn = true := by rfl) (hst : (st.map fun v => v.category).sum ≤ 8 := by exact Nat.le_of_ble_eq_true rfl) : J G R F M X kc kn pc lo (a2 :: a1 :: .ref i :: st) h :=
  J_callV (as := [a1, a2]) hd hs hm hh hf hst he hcl hc (fun r h' q => by cases r with | none => exact q | some v => exact q.elim) (fun E h' q => q.elim)
theorem J_V20x {M' : jM} {idx d mc ms : Nat} {i ci : Nat} {fs : List Value} {a1 a2 : Value} (hd : decode (m_c M) pc = .ok (.invokevirtual idx, 3)) (hs : sV (m_y M).cls idx M') (hm : mOK M' 2) (hh : m_h M' = some []) (he : h[i]? = some (.inr (ci, fs))) (hcl : (jcl[ci]?).map (fun q => q.1) = some (m_y M').cls) (hc : jCT G M' d mc ms X [.ref i, a1, a2] h (jKx0 (fun h' => J G R F M X (kc + mc) (kn + ms) (pc + 3) lo (st) h') (fun E h' => JX G R F M (kc + mc) (kn + ms) pc lo h' E))) (hf : jfit R (m_n M') d mc ms kc kn = true := by rfl) (hst : (st.map fun v => v.category).sum ≤ 8 := by exact Nat.le_of_ble_eq_true rfl) : J G R F M X kc kn pc lo (a2 :: a1 :: .ref i :: st) h :=
  J_callV (as := [a1, a2]) hd hs hm hh hf hst he hcl hc (fun r h' q => by cases r with | none => exact q | some v => exact q.elim) (fun E h' q => q)
theorem J_S2v {M' : jM} {idx d mc ms : Nat} {a1 a2 : Value} (hd : decode (m_c M) pc = .ok (.invokestatic idx, 3)) (hs : sS (m_y M).cls idx M') (hm : mOK M' 2) (hh : m_h M' = some []) (hc : jCT G M' d mc ms X [a1, a2] h (jKv fun r h' => J G R F M X (kc + mc) (kn + ms) (pc + 3) lo (r :: st) h')) (hf : jfit R (m_n M') d mc ms kc kn = true := by rfl) (hst : (st.map fun v => v.category).sum ≤ 8 := by exact Nat.le_of_ble_eq_true rfl) : J G R F M X kc kn pc lo (a2 :: a1 :: st) h :=
  J_callS (as := [a1, a2]) hd hs hm hh hf hst hc (fun r h' q => by cases r with | none => exact q.elim | some v => exact q) (fun E h' q => q.elim)
theorem J_S2vx {M' : jM} {idx d mc ms : Nat} {a1 a2 : Value} (hd : decode (m_c M) pc = .ok (.invokestatic idx, 3)) (hs : sS (m_y M).cls idx M') (hm : mOK M' 2) (hh : m_h M' = some []) (hc : jCT G M' d mc ms X [a1, a2] h (jKx (fun r h' => J G R F M X (kc + mc) (kn + ms) (pc + 3) lo (r :: st) h') (fun E h' => JX G R F M (kc + mc) (kn + ms) pc lo h' E))) (hf : jfit R (m_n M') d mc ms kc kn = true := by rfl) (hst : (st.map fun v => v.category).sum ≤ 8 := by exact Nat.le_of_ble_eq_true rfl) : J G R F M X kc kn pc lo (a2 :: a1 :: st) h :=
  J_callS (as := [a1, a2]) hd hs hm hh hf hst hc (fun r h' q => by cases r with | none => exact q.elim | some v => exact q) (fun E h' q => q)
theorem J_S20 {M' : jM} {idx d mc ms : Nat} {a1 a2 : Value} (hd : decode (m_c M) pc = .ok (.invokestatic idx, 3)) (hs : sS (m_y M).cls idx M') (hm : mOK M' 2) (hh : m_h M' = some []) (hc : jCT G M' d mc ms X [a1, a2] h (jK0 fun h' => J G R F M X (kc + mc) (kn + ms) (pc + 3) lo (st) h')) (hf : jfit R (m_n M') d mc ms kc kn = true := by rfl) (hst : (st.map fun v => v.category).sum ≤ 8 := by exact Nat.le_of_ble_eq_true rfl) : J G R F M X kc kn pc lo (a2 :: a1 :: st) h :=
  J_callS (as := [a1, a2]) hd hs hm hh hf hst hc (fun r h' q => by cases r with | none => exact q | some v => exact q.elim) (fun E h' q => q.elim)
theorem J_S20x {M' : jM} {idx d mc ms : Nat} {a1 a2 : Value} (hd : decode (m_c M) pc = .ok (.invokestatic idx, 3)) (hs : sS (m_y M).cls idx M') (hm : mOK M' 2) (hh : m_h M' = some []) (hc : jCT G M' d mc ms X [a1, a2] h (jKx0 (fun h' => J G R F M X (kc + mc) (kn + ms) (pc + 3) lo (st) h') (fun E h' => JX G R F M (kc + mc) (kn + ms) pc lo h' E))) (hf : jfit R (m_n M') d mc ms kc kn = true := by rfl) (hst : (st.map fun v => v.category).sum ≤ 8 := by exact Nat.le_of_ble_eq_true rfl) : J G R F M X kc kn pc lo (a2 :: a1 :: st) h :=
  J_callS (as := [a1, a2]) hd hs hm hh hf hst hc (fun r h' q => by cases r with | none => exact q | some v => exact q.elim) (fun E h' q => q)
theorem J_SX2v {M' : jM} {idx d mc ms : Nat} {x9 : Nat × Nat × Nat × Nat} {xs9 : List (Nat × Nat × Nat × Nat)} {a1 a2 : Value} (hd : decode (m_c M) pc = .ok (.invokestatic idx, 3)) (hs : sS (m_y M).cls idx M') (hm : mOK M' 2) (hh : m_h M' = some (x9 :: xs9)) (hc : jCT G M' d mc ms X [a1, a2] h (jKv fun r h' => J G R F M X (kc + mc) (kn + ms) (pc + 3) lo (r :: st) h')) (hf : jfit R (m_n M') d mc ms kc kn = true := by rfl) (hst : (st.map fun v => v.category).sum ≤ 8 := by exact Nat.le_of_ble_eq_true rfl) : J G R F M X kc kn pc lo (a2 :: a1 :: st) h :=
  J_callSX (as := [a1, a2]) hd hs hm hh hf hst hc (fun r h' q => by cases r with | none => exact q.elim | some v => exact q) (fun E h' q => q.elim)
theorem J_SX20 {M' : jM} {idx d mc ms : Nat} {x9 : Nat × Nat × Nat × Nat} {xs9 : List (Nat × Nat × Nat × Nat)} {a1 a2 : Value} (hd : decode (m_c M) pc = .ok (.invokestatic idx, 3)) (hs : sS (m_y M).cls idx M') (hm : mOK M' 2) (hh : m_h M' = some (x9 :: xs9)) (hc : jCT G M' d mc ms X [a1, a2] h (jK0 fun h' => J G R F M X (kc + mc) (kn + ms) (pc + 3) lo (st) h')) (hf : jfit R (m_n M') d mc ms kc kn = true := by rfl) (hst : (st.map fun v => v.category).sum ≤ 8 := by exact Nat.le_of_ble_eq_true rfl) : J G R F M X kc kn pc lo (a2 :: a1 :: st) h :=
  J_callSX (as := [a1, a2]) hd hs hm hh hf hst hc (fun r h' q => by cases r with | none => exact q | some v => exact q.elim) (fun E h' q => q.elim)
theorem J_SN2v {M' : jM} {idx d mc ms : Nat} {a1 a2 : Value} (hd : decode (m_c M) pc = .ok (.invokestatic idx, 3)) (hs : sSN (m_y M).cls idx M') (hm : mOK M' 2) (hh : m_h M' = some []) (hc : jCT G M' d mc ms X [a1, a2] h (jKv fun r h' => J G R F M X (kc + mc) (kn + ms) (pc + 3) lo (r :: st) h')) (hf : jfit R (m_n M') d mc ms kc kn = true := by rfl) (hst : (st.map fun v => v.category).sum ≤ 8 := by exact Nat.le_of_ble_eq_true rfl) : J G R F M X kc kn pc lo (a2 :: a1 :: st) h :=
  J_callSN (as := [a1, a2]) hd hs hm hh hf hst hc (fun E h' q => q.elim) (fun r h' q => by cases r with | none => exact q.elim | some v => exact q)
theorem J_SN20 {M' : jM} {idx d mc ms : Nat} {a1 a2 : Value} (hd : decode (m_c M) pc = .ok (.invokestatic idx, 3)) (hs : sSN (m_y M).cls idx M') (hm : mOK M' 2) (hh : m_h M' = some []) (hc : jCT G M' d mc ms X [a1, a2] h (jK0 fun h' => J G R F M X (kc + mc) (kn + ms) (pc + 3) lo (st) h')) (hf : jfit R (m_n M') d mc ms kc kn = true := by rfl) (hst : (st.map fun v => v.category).sum ≤ 8 := by exact Nat.le_of_ble_eq_true rfl) : J G R F M X kc kn pc lo (a2 :: a1 :: st) h :=
  J_callSN (as := [a1, a2]) hd hs hm hh hf hst hc (fun E h' q => q.elim) (fun r h' q => by cases r with | none => exact q | some v => exact q.elim)
theorem J_V3v {M' : jM} {idx d mc ms : Nat} {i ci : Nat} {fs : List Value} {a1 a2 a3 : Value} (hd : decode (m_c M) pc = .ok (.invokevirtual idx, 3)) (hs : sV (m_y M).cls idx M') (hm : mOK M' 3) (hh : m_h M' = some []) (he : h[i]? = some (.inr (ci, fs))) (hcl : (jcl[ci]?).map (fun q => q.1) = some (m_y M').cls) (hc : jCT G M' d mc ms X [.ref i, a1, a2, a3] h (jKv fun r h' => J G R F M X (kc + mc) (kn + ms) (pc + 3) lo (r :: st) h')) (hf : jfit R (m_n M') d mc ms kc kn = true := by rfl) (hst : (st.map fun v => v.category).sum ≤ 8 := by exact Nat.le_of_ble_eq_true rfl) : J G R F M X kc kn pc lo (a3 :: a2 :: a1 :: .ref i :: st) h :=
  J_callV (as := [a1, a2, a3]) hd hs hm hh hf hst he hcl hc (fun r h' q => by cases r with | none => exact q.elim | some v => exact q) (fun E h' q => q.elim)
theorem J_V3vx {M' : jM} {idx d mc ms : Nat} {i ci : Nat} {fs : List Value} {a1 a2 a3 : Value} (hd : decode (m_c M) pc = .ok (.invokevirtual idx, 3)) (hs : sV (m_y M).cls idx M') (hm : mOK M' 3) (hh : m_h M' = some []) (he : h[i]? = some (.inr (ci, fs))) (hcl : (jcl[ci]?).map (fun q => q.1) = some (m_y M').cls) (hc : jCT G M' d mc ms X [.ref i, a1, a2, a3] h (jKx (fun r h' => J G R F M X (kc + mc) (kn + ms) (pc + 3) lo (r :: st) h') (fun E h' => JX G R F M (kc + mc) (kn + ms) pc lo h' E))) (hf : jfit R (m_n M') d mc ms kc kn = true := by rfl) (hst : (st.map fun v => v.category).sum ≤ 8 := by exact Nat.le_of_ble_eq_true rfl) : J G R F M X kc kn pc lo (a3 :: a2 :: a1 :: .ref i :: st) h :=
  J_callV (as := [a1, a2, a3]) hd hs hm hh hf hst he hcl hc (fun r h' q => by cases r with | none => exact q.elim | some v => exact q) (fun E h' q => q)
theorem J_V30 {M' : jM} {idx d mc ms : Nat} {i ci : Nat} {fs : List Value} {a1 a2 a3 : Value} (hd : decode (m_c M) pc = .ok (.invokevirtual idx, 3)) (hs : sV (m_y M).cls idx M') (hm : mOK M' 3) (hh : m_h M' = some []) (he : h[i]? = some (.inr (ci, fs))) (hcl : (jcl[ci]?).map (fun q => q.1) = some (m_y M').cls) (hc : jCT G M' d mc ms X [.ref i, a1, a2, a3] h (jK0 fun h' => J G R F M X (kc + mc) (kn + ms) (pc + 3) lo (st) h')) (hf : jfit R (m_n M') d mc ms kc kn = true := by rfl) (hst : (st.map fun v => v.category).sum ≤ 8 := by exact Nat.le_of_ble_eq_true rfl) : J G R F M X kc kn pc lo (a3 :: a2 :: a1 :: .ref i :: st) h :=
  J_callV (as := [a1, a2, a3]) hd hs hm hh hf hst he hcl hc (fun r h' q => by cases r with | none => exact q | some v => exact q.elim) (fun E h' q => q.elim)
theorem J_V30x {M' : jM} {idx d mc ms : Nat} {i ci : Nat} {fs : List Value} {a1 a2 a3 : Value} (hd : decode (m_c M) pc = .ok (.invokevirtual idx, 3)) (hs : sV (m_y M).cls idx M') (hm : mOK M' 3) (hh : m_h M' = some []) (he : h[i]? = some (.inr (ci, fs))) (hcl : (jcl[ci]?).map (fun q => q.1) = some (m_y M').cls) (hc : jCT G M' d mc ms X [.ref i, a1, a2, a3] h (jKx0 (fun h' => J G R F M X (kc + mc) (kn + ms) (pc + 3) lo (st) h') (fun E h' => JX G R F M (kc + mc) (kn + ms) pc lo h' E))) (hf : jfit R (m_n M') d mc ms kc kn = true := by rfl) (hst : (st.map fun v => v.category).sum ≤ 8 := by exact Nat.le_of_ble_eq_true rfl) : J G R F M X kc kn pc lo (a3 :: a2 :: a1 :: .ref i :: st) h :=
  J_callV (as := [a1, a2, a3]) hd hs hm hh hf hst he hcl hc (fun r h' q => by cases r with | none => exact q | some v => exact q.elim) (fun E h' q => q)
theorem J_S3v {M' : jM} {idx d mc ms : Nat} {a1 a2 a3 : Value} (hd : decode (m_c M) pc = .ok (.invokestatic idx, 3)) (hs : sS (m_y M).cls idx M') (hm : mOK M' 3) (hh : m_h M' = some []) (hc : jCT G M' d mc ms X [a1, a2, a3] h (jKv fun r h' => J G R F M X (kc + mc) (kn + ms) (pc + 3) lo (r :: st) h')) (hf : jfit R (m_n M') d mc ms kc kn = true := by rfl) (hst : (st.map fun v => v.category).sum ≤ 8 := by exact Nat.le_of_ble_eq_true rfl) : J G R F M X kc kn pc lo (a3 :: a2 :: a1 :: st) h :=
  J_callS (as := [a1, a2, a3]) hd hs hm hh hf hst hc (fun r h' q => by cases r with | none => exact q.elim | some v => exact q) (fun E h' q => q.elim)
theorem J_S3vx {M' : jM} {idx d mc ms : Nat} {a1 a2 a3 : Value} (hd : decode (m_c M) pc = .ok (.invokestatic idx, 3)) (hs : sS (m_y M).cls idx M') (hm : mOK M' 3) (hh : m_h M' = some []) (hc : jCT G M' d mc ms X [a1, a2, a3] h (jKx (fun r h' => J G R F M X (kc + mc) (kn + ms) (pc + 3) lo (r :: st) h') (fun E h' => JX G R F M (kc + mc) (kn + ms) pc lo h' E))) (hf : jfit R (m_n M') d mc ms kc kn = true := by rfl) (hst : (st.map fun v => v.category).sum ≤ 8 := by exact Nat.le_of_ble_eq_true rfl) : J G R F M X kc kn pc lo (a3 :: a2 :: a1 :: st) h :=
  J_callS (as := [a1, a2, a3]) hd hs hm hh hf hst hc (fun r h' q => by cases r with | none => exact q.elim | some v => exact q) (fun E h' q => q)
theorem J_S30 {M' : jM} {idx d mc ms : Nat} {a1 a2 a3 : Value} (hd : decode (m_c M) pc = .ok (.invokestatic idx, 3)) (hs : sS (m_y M).cls idx M') (hm : mOK M' 3) (hh : m_h M' = some []) (hc : jCT G M' d mc ms X [a1, a2, a3] h (jK0 fun h' => J G R F M X (kc + mc) (kn + ms) (pc + 3) lo (st) h')) (hf : jfit R (m_n M') d mc ms kc kn = true := by rfl) (hst : (st.map fun v => v.category).sum ≤ 8 := by exact Nat.le_of_ble_eq_true rfl) : J G R F M X kc kn pc lo (a3 :: a2 :: a1 :: st) h :=
  J_callS (as := [a1, a2, a3]) hd hs hm hh hf hst hc (fun r h' q => by cases r with | none => exact q | some v => exact q.elim) (fun E h' q => q.elim)
theorem J_S30x {M' : jM} {idx d mc ms : Nat} {a1 a2 a3 : Value} (hd : decode (m_c M) pc = .ok (.invokestatic idx, 3)) (hs : sS (m_y M).cls idx M') (hm : mOK M' 3) (hh : m_h M' = some []) (hc : jCT G M' d mc ms X [a1, a2, a3] h (jKx0 (fun h' => J G R F M X (kc + mc) (kn + ms) (pc + 3) lo (st) h') (fun E h' => JX G R F M (kc + mc) (kn + ms) pc lo h' E))) (hf : jfit R (m_n M') d mc ms kc kn = true := by rfl) (hst : (st.map fun v => v.category).sum ≤ 8 := by exact Nat.le_of_ble_eq_true rfl) : J G R F M X kc kn pc lo (a3 :: a2 :: a1 :: st) h :=
  J_callS (as := [a1, a2, a3]) hd hs hm hh hf hst hc (fun r h' q => by cases r with | none => exact q | some v => exact q.elim) (fun E h' q => q)
theorem J_SX3v {M' : jM} {idx d mc ms : Nat} {x9 : Nat × Nat × Nat × Nat} {xs9 : List (Nat × Nat × Nat × Nat)} {a1 a2 a3 : Value} (hd : decode (m_c M) pc = .ok (.invokestatic idx, 3)) (hs : sS (m_y M).cls idx M') (hm : mOK M' 3) (hh : m_h M' = some (x9 :: xs9)) (hc : jCT G M' d mc ms X [a1, a2, a3] h (jKv fun r h' => J G R F M X (kc + mc) (kn + ms) (pc + 3) lo (r :: st) h')) (hf : jfit R (m_n M') d mc ms kc kn = true := by rfl) (hst : (st.map fun v => v.category).sum ≤ 8 := by exact Nat.le_of_ble_eq_true rfl) : J G R F M X kc kn pc lo (a3 :: a2 :: a1 :: st) h :=
  J_callSX (as := [a1, a2, a3]) hd hs hm hh hf hst hc (fun r h' q => by cases r with | none => exact q.elim | some v => exact q) (fun E h' q => q.elim)
theorem J_SX30 {M' : jM} {idx d mc ms : Nat} {x9 : Nat × Nat × Nat × Nat} {xs9 : List (Nat × Nat × Nat × Nat)} {a1 a2 a3 : Value} (hd : decode (m_c M) pc = .ok (.invokestatic idx, 3)) (hs : sS (m_y M).cls idx M') (hm : mOK M' 3) (hh : m_h M' = some (x9 :: xs9)) (hc : jCT G M' d mc ms X [a1, a2, a3] h (jK0 fun h' => J G R F M X (kc + mc) (kn + ms) (pc + 3) lo (st) h')) (hf : jfit R (m_n M') d mc ms kc kn = true := by rfl) (hst : (st.map fun v => v.category).sum ≤ 8 := by exact Nat.le_of_ble_eq_true rfl) : J G R F M X kc kn pc lo (a3 :: a2 :: a1 :: st) h :=
  J_callSX (as := [a1, a2, a3]) hd hs hm hh hf hst hc (fun r h' q => by cases r with | none => exact q | some v => exact q.elim) (fun E h' q => q.elim)
theorem J_SN3v {M' : jM} {idx d mc ms : Nat} {a1 a2 a3 : Value} (hd : decode (m_c M) pc = .ok (.invokestatic idx, 3)) (hs : sSN (m_y M).cls idx M') (hm : mOK M' 3) (hh : m_h M' = some []) (hc : jCT G M' d mc ms X [a1, a2, a3] h (jKv fun r h' => J G R F M X (kc + mc) (kn + ms) (pc + 3) lo (r :: st) h')) (hf : jfit R (m_n M') d mc ms kc kn = true := by rfl) (hst : (st.map fun v => v.category).sum ≤ 8 := by exact Nat.le_of_ble_eq_true rfl) : J G R F M X kc kn pc lo (a3 :: a2 :: a1 :: st) h :=
  J_callSN (as := [a1, a2, a3]) hd hs hm hh hf hst hc (fun E h' q => q.elim) (fun r h' q => by cases r with | none => exact q.elim | some v => exact q)
theorem J_SN30 {M' : jM} {idx d mc ms : Nat} {a1 a2 a3 : Value} (hd : decode (m_c M) pc = .ok (.invokestatic idx, 3)) (hs : sSN (m_y M).cls idx M') (hm : mOK M' 3) (hh : m_h M' = some []) (hc : jCT G M' d mc ms X [a1, a2, a3] h (jK0 fun h' => J G R F M X (kc + mc) (kn + ms) (pc + 3) lo (st) h')) (hf : jfit R (m_n M') d mc ms kc kn = true := by rfl) (hst : (st.map fun v => v.category).sum ≤ 8 := by exact Nat.le_of_ble_eq_true rfl) : J G R F M X kc kn pc lo (a3 :: a2 :: a1 :: st) h :=
  J_callSN (as := [a1, a2, a3]) hd hs hm hh hf hst hc (fun E h' q => q.elim) (fun r h' q => by cases r with | none => exact q | some v => exact q.elim)
theorem J_V4v {M' : jM} {idx d mc ms : Nat} {i ci : Nat} {fs : List Value} {a1 a2 a3 a4 : Value} (hd : decode (m_c M) pc = .ok (.invokevirtual idx, 3)) (hs : sV (m_y M).cls idx M') (hm : mOK M' 4) (hh : m_h M' = some []) (he : h[i]? = some (.inr (ci, fs))) (hcl : (jcl[ci]?).map (fun q => q.1) = some (m_y M').cls) (hc : jCT G M' d mc ms X [.ref i, a1, a2, a3, a4] h (jKv fun r h' => J G R F M X (kc + mc) (kn + ms) (pc + 3) lo (r :: st) h')) (hf : jfit R (m_n M') d mc ms kc kn = true := by rfl) (hst : (st.map fun v => v.category).sum ≤ 8 := by exact Nat.le_of_ble_eq_true rfl) : J G R F M X kc kn pc lo (a4 :: a3 :: a2 :: a1 :: .ref i :: st) h :=
  J_callV (as := [a1, a2, a3, a4]) hd hs hm hh hf hst he hcl hc (fun r h' q => by cases r with | none => exact q.elim | some v => exact q) (fun E h' q => q.elim)
theorem J_V4vx {M' : jM} {idx d mc ms : Nat} {i ci : Nat} {fs : List Value} {a1 a2 a3 a4 : Value} (hd : decode (m_c M) pc = .ok (.invokevirtual idx, 3)) (hs : sV (m_y M).cls idx M') (hm : mOK M' 4) (hh : m_h M' = some []) (he : h[i]? = some (.inr (ci, fs))) (hcl : (jcl[ci]?).map (fun q => q.1) = some (m_y M').cls) (hc : jCT G M' d mc ms X [.ref i, a1, a2, a3, a4] h (jKx (fun r h' => J G R F M X (kc + mc) (kn + ms) (pc + 3) lo (r :: st) h') (fun E h' => JX G R F M (kc + mc) (kn + ms) pc lo h' E))) (hf : jfit R (m_n M') d mc ms kc kn = true := by rfl) (hst : (st.map fun v => v.category).sum ≤ 8 := by exact Nat.le_of_ble_eq_true rfl) : J G R F M X kc kn pc lo (a4 :: a3 :: a2 :: a1 :: .ref i :: st) h :=
  J_callV (as := [a1, a2, a3, a4]) hd hs hm hh hf hst he hcl hc (fun r h' q => by cases r with | none => exact q.elim | some v => exact q) (fun E h' q => q)
theorem J_V40 {M' : jM} {idx d mc ms : Nat} {i ci : Nat} {fs : List Value} {a1 a2 a3 a4 : Value} (hd : decode (m_c M) pc = .ok (.invokevirtual idx, 3)) (hs : sV (m_y M).cls idx M') (hm : mOK M' 4) (hh : m_h M' = some []) (he : h[i]? = some (.inr (ci, fs))) (hcl : (jcl[ci]?).map (fun q => q.1) = some (m_y M').cls) (hc : jCT G M' d mc ms X [.ref i, a1, a2, a3, a4] h (jK0 fun h' => J G R F M X (kc + mc) (kn + ms) (pc + 3) lo (st) h')) (hf : jfit R (m_n M') d mc ms kc kn = true := by rfl) (hst : (st.map fun v => v.category).sum ≤ 8 := by exact Nat.le_of_ble_eq_true rfl) : J G R F M X kc kn pc lo (a4 :: a3 :: a2 :: a1 :: .ref i :: st) h :=
  J_callV (as := [a1, a2, a3, a4]) hd hs hm hh hf hst he hcl hc (fun r h' q => by cases r with | none => exact q | some v => exact q.elim) (fun E h' q => q.elim)
theorem J_V40x {M' : jM} {idx d mc ms : Nat} {i ci : Nat} {fs : List Value} {a1 a2 a3 a4 : Value} (hd : decode (m_c M) pc = .ok (.invokevirtual idx, 3)) (hs : sV (m_y M).cls idx M') (hm : mOK M' 4) (hh : m_h M' = some []) (he : h[i]? = some (.inr (ci, fs))) (hcl : (jcl[ci]?).map (fun q => q.1) = some (m_y M').cls) (hc : jCT G M' d mc ms X [.ref i, a1, a2, a3, a4] h (jKx0 (fun h' => J G R F M X (kc + mc) (kn + ms) (pc + 3) lo (st) h') (fun E h' => JX G R F M (kc + mc) (kn + ms) pc lo h' E))) (hf : jfit R (m_n M') d mc ms kc kn = true := by rfl) (hst : (st.map fun v => v.category).sum ≤ 8 := by exact Nat.le_of_ble_eq_true rfl) : J G R F M X kc kn pc lo (a4 :: a3 :: a2 :: a1 :: .ref i :: st) h :=
  J_callV (as := [a1, a2, a3, a4]) hd hs hm hh hf hst he hcl hc (fun r h' q => by cases r with | none => exact q | some v => exact q.elim) (fun E h' q => q)
theorem J_S4v {M' : jM} {idx d mc ms : Nat} {a1 a2 a3 a4 : Value} (hd : decode (m_c M) pc = .ok (.invokestatic idx, 3)) (hs : sS (m_y M).cls idx M') (hm : mOK M' 4) (hh : m_h M' = some []) (hc : jCT G M' d mc ms X [a1, a2, a3, a4] h (jKv fun r h' => J G R F M X (kc + mc) (kn + ms) (pc + 3) lo (r :: st) h')) (hf : jfit R (m_n M') d mc ms kc kn = true := by rfl) (hst : (st.map fun v => v.category).sum ≤ 8 := by exact Nat.le_of_ble_eq_true rfl) : J G R F M X kc kn pc lo (a4 :: a3 :: a2 :: a1 :: st) h :=
  J_callS (as := [a1, a2, a3, a4]) hd hs hm hh hf hst hc (fun r h' q => by cases r with | none => exact q.elim | some v => exact q) (fun E h' q => q.elim)
theorem J_S4vx {M' : jM} {idx d mc ms : Nat} {a1 a2 a3 a4 : Value} (hd : decode (m_c M) pc = .ok (.invokestatic idx, 3)) (hs : sS (m_y M).cls idx M') (hm : mOK M' 4) (hh : m_h M' = some []) (hc : jCT G M' d mc ms X [a1, a2, a3, a4] h (jKx (fun r h' => J G R F M X (kc + mc) (kn + ms) (pc + 3) lo (r :: st) h') (fun E h' => JX G R F M (kc + mc) (kn + ms) pc lo h' E))) (hf : jfit R (m_n M') d mc ms kc kn = true := by rfl) (hst : (st.map fun v => v.category).sum ≤ 8 := by exact Nat.le_of_ble_eq_true rfl) : J G R F M X kc kn pc lo (a4 :: a3 :: a2 :: a1 :: st) h :=
  J_callS (as := [a1, a2, a3, a4]) hd hs hm hh hf hst hc (fun r h' q => by cases r with | none => exact q.elim | some v => exact q) (fun E h' q => q)
theorem J_S40 {M' : jM} {idx d mc ms : Nat} {a1 a2 a3 a4 : Value} (hd : decode (m_c M) pc = .ok (.invokestatic idx, 3)) (hs : sS (m_y M).cls idx M') (hm : mOK M' 4) (hh : m_h M' = some []) (hc : jCT G M' d mc ms X [a1, a2, a3, a4] h (jK0 fun h' => J G R F M X (kc + mc) (kn + ms) (pc + 3) lo (st) h')) (hf : jfit R (m_n M') d mc ms kc kn = true := by rfl) (hst : (st.map fun v => v.category).sum ≤ 8 := by exact Nat.le_of_ble_eq_true rfl) : J G R F M X kc kn pc lo (a4 :: a3 :: a2 :: a1 :: st) h :=
  J_callS (as := [a1, a2, a3, a4]) hd hs hm hh hf hst hc (fun r h' q => by cases r with | none => exact q | some v => exact q.elim) (fun E h' q => q.elim)
theorem J_S40x {M' : jM} {idx d mc ms : Nat} {a1 a2 a3 a4 : Value} (hd : decode (m_c M) pc = .ok (.invokestatic idx, 3)) (hs : sS (m_y M).cls idx M') (hm : mOK M' 4) (hh : m_h M' = some []) (hc : jCT G M' d mc ms X [a1, a2, a3, a4] h (jKx0 (fun h' => J G R F M X (kc + mc) (kn + ms) (pc + 3) lo (st) h') (fun E h' => JX G R F M (kc + mc) (kn + ms) pc lo h' E))) (hf : jfit R (m_n M') d mc ms kc kn = true := by rfl) (hst : (st.map fun v => v.category).sum ≤ 8 := by exact Nat.le_of_ble_eq_true rfl) : J G R F M X kc kn pc lo (a4 :: a3 :: a2 :: a1 :: st) h :=
  J_callS (as := [a1, a2, a3, a4]) hd hs hm hh hf hst hc (fun r h' q => by cases r with | none => exact q | some v => exact q.elim) (fun E h' q => q)
theorem J_SX4v {M' : jM} {idx d mc ms : Nat} {x9 : Nat × Nat × Nat × Nat} {xs9 : List (Nat × Nat × Nat × Nat)} {a1 a2 a3 a4 : Value} (hd : decode (m_c M) pc = .ok (.invokestatic idx, 3)) (hs : sS (m_y M).cls idx M') (hm : mOK M' 4) (hh : m_h M' = some (x9 :: xs9)) (hc : jCT G M' d mc ms X [a1, a2, a3, a4] h (jKv fun r h' => J G R F M X (kc + mc) (kn + ms) (pc + 3) lo (r :: st) h')) (hf : jfit R (m_n M') d mc ms kc kn = true := by rfl) (hst : (st.map fun v => v.category).sum ≤ 8 := by exact Nat.le_of_ble_eq_true rfl) : J G R F M X kc kn pc lo (a4 :: a3 :: a2 :: a1 :: st) h :=
  J_callSX (as := [a1, a2, a3, a4]) hd hs hm hh hf hst hc (fun r h' q => by cases r with | none => exact q.elim | some v => exact q) (fun E h' q => q.elim)
theorem J_SX40 {M' : jM} {idx d mc ms : Nat} {x9 : Nat × Nat × Nat × Nat} {xs9 : List (Nat × Nat × Nat × Nat)} {a1 a2 a3 a4 : Value} (hd : decode (m_c M) pc = .ok (.invokestatic idx, 3)) (hs : sS (m_y M).cls idx M') (hm : mOK M' 4) (hh : m_h M' = some (x9 :: xs9)) (hc : jCT G M' d mc ms X [a1, a2, a3, a4] h (jK0 fun h' => J G R F M X (kc + mc) (kn + ms) (pc + 3) lo (st) h')) (hf : jfit R (m_n M') d mc ms kc kn = true := by rfl) (hst : (st.map fun v => v.category).sum ≤ 8 := by exact Nat.le_of_ble_eq_true rfl) : J G R F M X kc kn pc lo (a4 :: a3 :: a2 :: a1 :: st) h :=
  J_callSX (as := [a1, a2, a3, a4]) hd hs hm hh hf hst hc (fun r h' q => by cases r with | none => exact q | some v => exact q.elim) (fun E h' q => q.elim)
theorem J_SN4v {M' : jM} {idx d mc ms : Nat} {a1 a2 a3 a4 : Value} (hd : decode (m_c M) pc = .ok (.invokestatic idx, 3)) (hs : sSN (m_y M).cls idx M') (hm : mOK M' 4) (hh : m_h M' = some []) (hc : jCT G M' d mc ms X [a1, a2, a3, a4] h (jKv fun r h' => J G R F M X (kc + mc) (kn + ms) (pc + 3) lo (r :: st) h')) (hf : jfit R (m_n M') d mc ms kc kn = true := by rfl) (hst : (st.map fun v => v.category).sum ≤ 8 := by exact Nat.le_of_ble_eq_true rfl) : J G R F M X kc kn pc lo (a4 :: a3 :: a2 :: a1 :: st) h :=
  J_callSN (as := [a1, a2, a3, a4]) hd hs hm hh hf hst hc (fun E h' q => q.elim) (fun r h' q => by cases r with | none => exact q.elim | some v => exact q)
theorem J_SN40 {M' : jM} {idx d mc ms : Nat} {a1 a2 a3 a4 : Value} (hd : decode (m_c M) pc = .ok (.invokestatic idx, 3)) (hs : sSN (m_y M).cls idx M') (hm : mOK M' 4) (hh : m_h M' = some []) (hc : jCT G M' d mc ms X [a1, a2, a3, a4] h (jK0 fun h' => J G R F M X (kc + mc) (kn + ms) (pc + 3) lo (st) h')) (hf : jfit R (m_n M') d mc ms kc kn = true := by rfl) (hst : (st.map fun v => v.category).sum ≤ 8 := by exact Nat.le_of_ble_eq_true rfl) : J G R F M X kc kn pc lo (a4 :: a3 :: a2 :: a1 :: st) h :=
  J_callSN (as := [a1, a2, a3, a4]) hd hs hm hh hf hst hc (fun E h' q => q.elim) (fun r h' q => by cases r with | none => exact q | some v => exact q.elim)
theorem J_V5v {M' : jM} {idx d mc ms : Nat} {i ci : Nat} {fs : List Value} {a1 a2 a3 a4 a5 : Value} (hd : decode (m_c M) pc = .ok (.invokevirtual idx, 3)) (hs : sV (m_y M).cls idx M') (hm : mOK M' 5) (hh : m_h M' = some []) (he : h[i]? = some (.inr (ci, fs))) (hcl : (jcl[ci]?).map (fun q => q.1) = some (m_y M').cls) (hc : jCT G M' d mc ms X [.ref i, a1, a2, a3, a4, a5] h (jKv fun r h' => J G R F M X (kc + mc) (kn + ms) (pc + 3) lo (r :: st) h')) (hf : jfit R (m_n M') d mc ms kc kn = true := by rfl) (hst : (st.map fun v => v.category).sum ≤ 8 := by exact Nat.le_of_ble_eq_true rfl) : J G R F M X kc kn pc lo (a5 :: a4 :: a3 :: a2 :: a1 :: .ref i :: st) h :=
  J_callV (as := [a1, a2, a3, a4, a5]) hd hs hm hh hf hst he hcl hc (fun r h' q => by cases r with | none => exact q.elim | some v => exact q) (fun E h' q => q.elim)
theorem J_V5vx {M' : jM} {idx d mc ms : Nat} {i ci : Nat} {fs : List Value} {a1 a2 a3 a4 a5 : Value} (hd : decode (m_c M) pc = .ok (.invokevirtual idx, 3)) (hs : sV (m_y M).cls idx M') (hm : mOK M' 5) (hh : m_h M' = some []) (he : h[i]? = some (.inr (ci, fs))) (hcl : (jcl[ci]?).map (fun q => q.1) = some (m_y M').cls) (hc : jCT G M' d mc ms X [.ref i, a1, a2, a3, a4, a5] h (jKx (fun r h' => J G R F M X (kc + mc) (kn + ms) (pc + 3) lo (r :: st) h') (fun E h' => JX G R F M (kc + mc) (kn + ms) pc lo h' E))) (hf : jfit R (m_n M') d mc ms kc kn = true := by rfl) (hst : (st.map fun v => v.category).sum ≤ 8 := by exact Nat.le_of_ble_eq_true rfl) : J G R F M X kc kn pc lo (a5 :: a4 :: a3 :: a2 :: a1 :: .ref i :: st) h :=
  J_callV (as := [a1, a2, a3, a4, a5]) hd hs hm hh hf hst he hcl hc (fun r h' q => by cases r with | none => exact q.elim | some v => exact q) (fun E h' q => q)
theorem J_V50 {M' : jM} {idx d mc ms : Nat} {i ci : Nat} {fs : List Value} {a1 a2 a3 a4 a5 : Value} (hd : decode (m_c M) pc = .ok (.invokevirtual idx, 3)) (hs : sV (m_y M).cls idx M') (hm : mOK M' 5) (hh : m_h M' = some []) (he : h[i]? = some (.inr (ci, fs))) (hcl : (jcl[ci]?).map (fun q => q.1) = some (m_y M').cls) (hc : jCT G M' d mc ms X [.ref i, a1, a2, a3, a4, a5] h (jK0 fun h' => J G R F M X (kc + mc) (kn + ms) (pc + 3) lo (st) h')) (hf : jfit R (m_n M') d mc ms kc kn = true := by rfl) (hst : (st.map fun v => v.category).sum ≤ 8 := by exact Nat.le_of_ble_eq_true rfl) : J G R F M X kc kn pc lo (a5 :: a4 :: a3 :: a2 :: a1 :: .ref i :: st) h :=
  J_callV (as := [a1, a2, a3, a4, a5]) hd hs hm hh hf hst he hcl hc (fun r h' q => by cases r with | none => exact q | some v => exact q.elim) (fun E h' q => q.elim)
theorem J_V50x {M' : jM} {idx d mc ms : Nat} {i ci : Nat} {fs : List Value} {a1 a2 a3 a4 a5 : Value} (hd : decode (m_c M) pc = .ok (.invokevirtual idx, 3)) (hs : sV (m_y M).cls idx M') (hm : mOK M' 5) (hh : m_h M' = some []) (he : h[i]? = some (.inr (ci, fs))) (hcl : (jcl[ci]?).map (fun q => q.1) = some (m_y M').cls) (hc : jCT G M' d mc ms X [.ref i, a1, a2, a3, a4, a5] h (jKx0 (fun h' => J G R F M X (kc + mc) (kn + ms) (pc + 3) lo (st) h') (fun E h' => JX G R F M (kc + mc) (kn + ms) pc lo h' E))) (hf : jfit R (m_n M') d mc ms kc kn = true := by rfl) (hst : (st.map fun v => v.category).sum ≤ 8 := by exact Nat.le_of_ble_eq_true rfl) : J G R F M X kc kn pc lo (a5 :: a4 :: a3 :: a2 :: a1 :: .ref i :: st) h :=
  J_callV (as := [a1, a2, a3, a4, a5]) hd hs hm hh hf hst he hcl hc (fun r h' q => by cases r with | none => exact q | some v => exact q.elim) (fun E h' q => q)
theorem J_S5v {M' : jM} {idx d mc ms : Nat} {a1 a2 a3 a4 a5 : Value} (hd : decode (m_c M) pc = .ok (.invokestatic idx, 3)) (hs : sS (m_y M).cls idx M') (hm : mOK M' 5) (hh : m_h M' = some []) (hc : jCT G M' d mc ms X [a1, a2, a3, a4, a5] h (jKv fun r h' => J G R F M X (kc + mc) (kn + ms) (pc + 3) lo (r :: st) h')) (hf : jfit R (m_n M') d mc ms kc kn = true := by rfl) (hst : (st.map fun v => v.category).sum ≤ 8 := by exact Nat.le_of_ble_eq_true rfl) : J G R F M X kc kn pc lo (a5 :: a4 :: a3 :: a2 :: a1 :: st) h :=
  J_callS (as := [a1, a2, a3, a4, a5]) hd hs hm hh hf hst hc (fun r h' q => by cases r with | none => exact q.elim | some v => exact q) (fun E h' q => q.elim)
theorem J_S5vx {M' : jM} {idx d mc ms : Nat} {a1 a2 a3 a4 a5 : Value} (hd : decode (m_c M) pc = .ok (.invokestatic idx, 3)) (hs : sS (m_y M).cls idx M') (hm : mOK M' 5) (hh : m_h M' = some []) (hc : jCT G M' d mc ms X [a1, a2, a3, a4, a5] h (jKx (fun r h' => J G R F M X (kc + mc) (kn + ms) (pc + 3) lo (r :: st) h') (fun E h' => JX G R F M (kc + mc) (kn + ms) pc lo h' E))) (hf : jfit R (m_n M') d mc ms kc kn = true := by rfl) (hst : (st.map fun v => v.category).sum ≤ 8 := by exact Nat.le_of_ble_eq_true rfl) : J G R F M X kc kn pc lo (a5 :: a4 :: a3 :: a2 :: a1 :: st) h :=
  J_callS (as := [a1, a2, a3, a4, a5]) hd hs hm hh hf hst hc (fun r h' q => by cases r with | none => exact q.elim | some v => exact q) (fun E h' q => q)
theorem J_S50 {M' : jM} {idx d mc ms : Nat} {a1 a2 a3 a4 a5 : Value} (hd : decode (m_c M) pc = .ok (.invokestatic idx, 3)) (hs : sS (m_y M).cls idx M') (hm : mOK M' 5) (hh : m_h M' = some []) (hc : jCT G M' d mc ms X [a1, a2, a3, a4, a5] h (jK0 fun h' => J G R F M X (kc + mc) (kn + ms) (pc + 3) lo (st) h')) (hf : jfit R (m_n M') d mc ms kc kn = true := by rfl) (hst : (st.map fun v => v.category).sum ≤ 8 := by exact Nat.le_of_ble_eq_true rfl) : J G R F M X kc kn pc lo (a5 :: a4 :: a3 :: a2 :: a1 :: st) h :=
  J_callS (as := [a1, a2, a3, a4, a5]) hd hs hm hh hf hst hc (fun r h' q => by cases r with | none => exact q | some v => exact q.elim) (fun E h' q => q.elim)
theorem J_S50x {M' : jM} {idx d mc ms : Nat} {a1 a2 a3 a4 a5 : Value} (hd : decode (m_c M) pc = .ok (.invokestatic idx, 3)) (hs : sS (m_y M).cls idx M') (hm : mOK M' 5) (hh : m_h M' = some []) (hc : jCT G M' d mc ms X [a1, a2, a3, a4, a5] h (jKx0 (fun h' => J G R F M X (kc + mc) (kn + ms) (pc + 3) lo (st) h') (fun E h' => JX G R F M (kc + mc) (kn + ms) pc lo h' E))) (hf : jfit R (m_n M') d mc ms kc kn = true := by rfl) (hst : (st.map fun v => v.category).sum ≤ 8 := by exact Nat.le_of_ble_eq_true rfl) : J G R F M X kc kn pc lo (a5 :: a4 :: a3 :: a2 :: a1 :: st) h :=
  J_callS (as := [a1, a2, a3, a4, a5]) hd hs hm hh hf hst hc (fun r h' q => by cases r with | none => exact q | some v => exact q.elim) (fun E h' q => q)
theorem J_SX5v {M' : jM} {idx d mc ms : Nat} {x9 : Nat × Nat × Nat × Nat} {xs9 : List (Nat × Nat × Nat × Nat)} {a1 a2 a3 a4 a5 : Value} (hd : decode (m_c M) pc = .ok (.invokestatic idx, 3)) (hs : sS (m_y M).cls idx M') (hm : mOK M' 5) (hh : m_h M' = some (x9 :: xs9)) (hc : jCT G M' d mc ms X [a1, a2, a3, a4, a5] h (jKv fun r h' => J G R F M X (kc + mc) (kn + ms) (pc + 3) lo (r :: st) h')) (hf : jfit R (m_n M') d mc ms kc kn = true := by rfl) (hst : (st.map fun v => v.category).sum ≤ 8 := by exact Nat.le_of_ble_eq_true rfl) : J G R F M X kc kn pc lo (a5 :: a4 :: a3 :: a2 :: a1 :: st) h :=
  J_callSX (as := [a1, a2, a3, a4, a5]) hd hs hm hh hf hst hc (fun r h' q => by cases r with | none => exact q.elim | some v => exact q) (fun E h' q => q.elim)
theorem J_SX50 {M' : jM} {idx d mc ms : Nat} {x9 : Nat × Nat × Nat × Nat} {xs9 : List (Nat × Nat × Nat × Nat)} {a1 a2 a3 a4 a5 : Value} (hd : decode (m_c M) pc = .ok (.invokestatic idx, 3)) (hs : sS (m_y M).cls idx M') (hm : mOK M' 5) (hh : m_h M' = some (x9 :: xs9)) (hc : jCT G M' d mc ms X [a1, a2, a3, a4, a5] h (jK0 fun h' => J G R F M X (kc + mc) (kn + ms) (pc + 3) lo (st) h')) (hf : jfit R (m_n M') d mc ms kc kn = true := by rfl) (hst : (st.map fun v => v.category).sum ≤ 8 := by exact Nat.le_of_ble_eq_true rfl) : J G R F M X kc kn pc lo (a5 :: a4 :: a3 :: a2 :: a1 :: st) h :=
  J_callSX (as := [a1, a2, a3, a4, a5]) hd hs hm hh hf hst hc (fun r h' q => by cases r with | none => exact q | some v => exact q.elim) (fun E h' q => q.elim)
theorem J_SN5v {M' : jM} {idx d mc ms : Nat} {a1 a2 a3 a4 a5 : Value} (hd : decode (m_c M) pc = .ok (.invokestatic idx, 3)) (hs : sSN (m_y M).cls idx M') (hm : mOK M' 5) (hh : m_h M' = some []) (hc : jCT G M' d mc ms X [a1, a2, a3, a4, a5] h (jKv fun r h' => J G R F M X (kc + mc) (kn + ms) (pc + 3) lo (r :: st) h')) (hf : jfit R (m_n M') d mc ms kc kn = true := by rfl) (hst : (st.map fun v => v.category).sum ≤ 8 := by exact Nat.le_of_ble_eq_true rfl) : J G R F M X kc kn pc lo (a5 :: a4 :: a3 :: a2 :: a1 :: st) h :=
  J_callSN (as := [a1, a2, a3, a4, a5]) hd hs hm hh hf hst hc (fun E h' q => q.elim) (fun r h' q => by cases r with | none => exact q.elim | some v => exact q)
theorem J_SN50 {M' : jM} {idx d mc ms : Nat} {a1 a2 a3 a4 a5 : Value} (hd : decode (m_c M) pc = .ok (.invokestatic idx, 3)) (hs : sSN (m_y M).cls idx M') (hm : mOK M' 5) (hh : m_h M' = some []) (hc : jCT G M' d mc ms X [a1, a2, a3, a4, a5] h (jK0 fun h' => J G R F M X (kc + mc) (kn + ms) (pc + 3) lo (st) h')) (hf : jfit R (m_n M') d mc ms kc kn = true := by rfl) (hst : (st.map fun v => v.category).sum ≤ 8 := by exact Nat.le_of_ble_eq_true rfl) : J G R F M X kc kn pc lo (a5 :: a4 :: a3 :: a2 :: a1 :: st) h :=
  J_callSN (as := [a1, a2, a3, a4, a5]) hd hs hm hh hf hst hc (fun E h' q => q.elim) (fun r h' q => by cases r with | none => exact q | some v => exact q.elim)
end JCALL
