section JOBJ
variable {G : jG} {R : Room} {F : jF} {M : jM} {X : Bool} {kc kn pc : Nat} {lo : List (Option Value)} {st : List Value} {h : jH}
theorem jC_w {p : Program} {s : State} {m : MethodId} {args : Array Value} {meth : Method} {c : Code} (C : jCtx G M p s m args meth c) : ∀ w ∈ lw_all, w.before args s = true := C.2.2.2.2.2.1
theorem jC_o {p : Program} {s : State} {m : MethodId} {args : Array Value} {meth : Method} {c : Code} (C : jCtx G M p s m args meth c) : s.vm.findClass (m_y M).cls = some m.cls := C.2.2.2.2.1
theorem jC_K {p : Program} {s : State} {m : MethodId} {args : Array Value} {meth : Method} {c : Code} (C : jCtx G M p s m args meth c) : va_K (g_D G) jcl (jT G) s := (jC_B C).2.2.1
theorem jC_n {p : Program} {s : State} {m : MethodId} {args : Array Value} {meth : Method} {c : Code} (C : jCtx G M p s m args meth c) : ∀ q : Nat, s.heap.size ≤ q → g_O G q := fun q hq => Nat.le_trans (jC_B C).1 hq
theorem jC_f {p : Program} {s : State} {m : MethodId} {args : Array Value} {meth : Method} {c : Code} (C : jCtx G M p s m args meth c) : CallFix p m c (m_c M) (m_n M) s args lw_all (m_y M).cls := ⟨C.1, C.2.1, C.2.2.2.1, jC_o C, jC_w C⟩
theorem HR_lt {H : Heap} (hH : HR G h H) {i : Nat} (hi : i < h.length) : g_P G i < H.size := by
  have := (hH.1 i _ (cW_get (G := G) (List.getElem?_eq_getElem hi))).lt
  exact this
theorem HR_ge {H : Heap} (hP : ∀ i, g_P G i = g_n G + i) (hH : HR G h H) (hn : g_n G ≤ H.size) : g_n G + h.length ≤ H.size := by
  cases hl : h.length with
  | zero => omega
  | succ n =>
    have := HR_lt hH (i := n) (by omega)
    have := hP n
    omega
/-- a place where a field is named -/
def sF (own : String) (idx ci k : Nat) : Prop := ∃ (C : String) (T : u_T) (N : Nat), jcl[ci]? = some (C, T, N) ∧ k < N ∧ (∀ w ∈ u_ws C T N, w ∈ lw_all) ∧ Cond.fieldLink own idx (T k).1 (T k).2.1 (T k).2.2.1 ∈ lw_all
theorem J_get {idx k i ci : Nat} {fs : List Value} {v : Value} (hd : decode (m_c M) pc = .ok (.getfield idx, 3)) (hs : sF (m_y M).cls idx ci k) (he : h[i]? = some (.inr (ci, fs))) (hv : fs[k]? = some v) (kk : J G R F M X kc kn (pc + 3) lo (v :: st) h) : J G R F M X kc kn pc lo (.ref i :: st) h := by
  intro p e s m args below meth c H locs ls C hS hH hL hX
  obtain ⟨C9, T, N, hc, hk, hin, hl⟩ := hs
  exact va_get C.1 C.2.1 (jC_w C) hin (jC_o C) (jC_K C) hH.1 i (cW_get he) hc k hk (jC_w C _ hl) (fun _ q => q) (v := cV G v) (by rw [List.getElem?_map, hv]; rfl) hd (kk p e s m args below meth c H locs ls C hS hH hL hX)
/-- a place where a field is written -/
def sP (own : String) (idx ci k : Nat) (ty : FieldType) (fin : Bool) : Prop := ∃ (C : String) (T : u_T) (N : Nat) (ty0 : Nat → FieldType), jcl[ci]? = some (C, T, N) ∧ k < N ∧ (∀ w ∈ u_ws C T N, w ∈ lw_all) ∧ Cond.fieldLink own idx (T k).1 (T k).2.1 (T k).2.2.1 ∈ lw_all ∧
  (∀ k, k < N → parseFieldDescriptor (T k).2.2.1 = some (ty0 k)) ∧ (∀ a, a < N → ∀ b, b < N → a ≠ b → (T a).2.1 ≠ (T b).2.1) ∧ (T k).2.2.2 = fin ∧ (fin = true → (T k).1 = own) ∧ parseFieldDescriptor (T k).2.2.1 = some ty
theorem jset_e (G : jG) (i ci k : Nat) (fs : List Value) (v : Value) : (g_P G i, (Sum.inr (ci, (fs.map (cV G)).set k (cV G v)) : va_E)) = (g_P G i, cE G (.inr (ci, fs.set k v))) := by
  show _ = (g_P G i, (Sum.inr (ci, (fs.set k v).map (cV G)) : va_E))
  rw [List.map_set]
theorem J_put {idx k i ci : Nat} {fs : List Value} {v : Value} {ty : FieldType} (hd : decode (m_c M) pc = .ok (.putfield idx, 3)) (hs : sP (m_y M).cls idx ci k ty false) (he : h[i]? = some (.inr (ci, fs))) (hl : k < fs.length) (hn : narrow ty (cV G v) = cV G v) (hf : fits ty (cV G v) = true) (kk : J G R F M X kc kn (pc + 3) lo st (h.set i (.inr (ci, fs.set k v)))) : J G R F M X kc kn pc lo (v :: .ref i :: st) h := by
  intro p e s m args below meth c H locs ls C hS hH hL hX
  obtain ⟨C9, T, N, ty0, hc, hk, hin, hl9, hty, hnm, hfin, ho9, hd9⟩ := hs
  refine va_put (A := g_O G) C.1 C.2.1 (jC_w C) hin ty0 hty hnm (jC_o C) (jC_K C) hH.1 (cW_D hH.2) hS i (cW_get he) hc k hk (jC_w C _ hl9) (fun _ q => q) hfin hd9 hn hf (by rw [List.length_map]; exact hl) hd (fun H1 locs1 hP1 hD1 hS1 => ?_)
  rw [jset_e, cW_set] at hP1
  exact kk p e s m args below meth c H1 locs1 ls C hS1 ⟨hP1, by rw [List.length_set]; exact hH.2⟩ hL (fun q => ⟨(hX q).1, by rw [(hX q).2, List.length_set]⟩)
theorem J_putF {idx k i ci : Nat} {fs : List Value} {v : Value} {ty : FieldType} (hd : decode (m_c M) pc = .ok (.putfield idx, 3)) (hs : sP (m_y M).cls idx ci k ty true) (hi9 : (m_y M).name = "<init>") (he : h[i]? = some (.inr (ci, fs))) (hl : k < fs.length) (hn : narrow ty (cV G v) = cV G v) (hf : fits ty (cV G v) = true) (kk : J G R F M X kc kn (pc + 3) lo st (h.set i (.inr (ci, fs.set k v)))) : J G R F M X kc kn pc lo (v :: .ref i :: st) h := by
  intro p e s m args below meth c H locs ls C hS hH hL hX
  obtain ⟨C9, T, N, ty0, hc, hk, hin, hl9, hty, hnm, hfin, ho9, hd9⟩ := hs
  refine va_putF (A := g_O G) C.1 C.2.1 (jC_w C) hin ty0 hty hnm (jC_o C) (jC_K C) hH.1 (cW_D hH.2) hS i (cW_get he) hc k hk (jC_w C _ hl9) (fun _ q => q) hfin (C.2.2.2.2.2.2.2.1 hi9) (ho9 rfl) hd9 hn hf (by rw [List.length_map]; exact hl) hd (fun H1 locs1 hP1 hD1 hS1 => ?_)
  rw [jset_e, cW_set] at hP1
  exact kk p e s m args below meth c H1 locs1 ls C hS1 ⟨hP1, by rw [List.length_set]; exact hH.2⟩ hL (fun q => ⟨(hX q).1, by rw [(hX q).2, List.length_set]⟩)
theorem J_put_0 {idx i ci : Nat} { b : Value} {r : List Value} {v : Value} {ty : FieldType} (hd : decode (m_c M) pc = .ok (.putfield idx, 3)) (hs : sP (m_y M).cls idx ci 0 ty false) (he : h[i]? = some (.inr (ci, b :: r))) (kk : J G R F M X kc kn (pc + 3) lo st (h.set i (.inr (ci, v :: r)))) (hn : narrow ty (cV G v) = cV G v := by rfl) (hf : fits ty (cV G v) = true := by rfl) : J G R F M X kc kn pc lo (v :: .ref i :: st) h :=
  J_put hd hs he (by simp) hn hf kk
theorem J_putF_0 {idx i ci : Nat} { b : Value} {r : List Value} {v : Value} {ty : FieldType} (hd : decode (m_c M) pc = .ok (.putfield idx, 3)) (hs : sP (m_y M).cls idx ci 0 ty true) (hi9 : (m_y M).name = "<init>") (he : h[i]? = some (.inr (ci, b :: r))) (kk : J G R F M X kc kn (pc + 3) lo st (h.set i (.inr (ci, v :: r)))) (hn : narrow ty (cV G v) = cV G v := by rfl) (hf : fits ty (cV G v) = true := by rfl) : J G R F M X kc kn pc lo (v :: .ref i :: st) h :=
  J_putF hd hs hi9 he (by simp) hn hf kk
theorem J_put_1 {idx i ci : Nat} {a0 b : Value} {r : List Value} {v : Value} {ty : FieldType} (hd : decode (m_c M) pc = .ok (.putfield idx, 3)) (hs : sP (m_y M).cls idx ci 1 ty false) (he : h[i]? = some (.inr (ci, a0 :: b :: r))) (kk : J G R F M X kc kn (pc + 3) lo st (h.set i (.inr (ci, a0 :: v :: r)))) (hn : narrow ty (cV G v) = cV G v := by rfl) (hf : fits ty (cV G v) = true := by rfl) : J G R F M X kc kn pc lo (v :: .ref i :: st) h :=
  J_put hd hs he (by simp) hn hf kk
theorem J_putF_1 {idx i ci : Nat} {a0 b : Value} {r : List Value} {v : Value} {ty : FieldType} (hd : decode (m_c M) pc = .ok (.putfield idx, 3)) (hs : sP (m_y M).cls idx ci 1 ty true) (hi9 : (m_y M).name = "<init>") (he : h[i]? = some (.inr (ci, a0 :: b :: r))) (kk : J G R F M X kc kn (pc + 3) lo st (h.set i (.inr (ci, a0 :: v :: r)))) (hn : narrow ty (cV G v) = cV G v := by rfl) (hf : fits ty (cV G v) = true := by rfl) : J G R F M X kc kn pc lo (v :: .ref i :: st) h :=
  J_putF hd hs hi9 he (by simp) hn hf kk
theorem J_put_2 {idx i ci : Nat} {a0 a1 b : Value} {r : List Value} {v : Value} {ty : FieldType} (hd : decode (m_c M) pc = .ok (.putfield idx, 3)) (hs : sP (m_y M).cls idx ci 2 ty false) (he : h[i]? = some (.inr (ci, a0 :: a1 :: b :: r))) (kk : J G R F M X kc kn (pc + 3) lo st (h.set i (.inr (ci, a0 :: a1 :: v :: r)))) (hn : narrow ty (cV G v) = cV G v := by rfl) (hf : fits ty (cV G v) = true := by rfl) : J G R F M X kc kn pc lo (v :: .ref i :: st) h :=
  J_put hd hs he (by simp) hn hf kk
theorem J_putF_2 {idx i ci : Nat} {a0 a1 b : Value} {r : List Value} {v : Value} {ty : FieldType} (hd : decode (m_c M) pc = .ok (.putfield idx, 3)) (hs : sP (m_y M).cls idx ci 2 ty true) (hi9 : (m_y M).name = "<init>") (he : h[i]? = some (.inr (ci, a0 :: a1 :: b :: r))) (kk : J G R F M X kc kn (pc + 3) lo st (h.set i (.inr (ci, a0 :: a1 :: v :: r)))) (hn : narrow ty (cV G v) = cV G v := by rfl) (hf : fits ty (cV G v) = true := by rfl) : J G R F M X kc kn pc lo (v :: .ref i :: st) h :=
  J_putF hd hs hi9 he (by simp) hn hf kk
theorem J_put_3 {idx i ci : Nat} {a0 a1 a2 b : Value} {r : List Value} {v : Value} {ty : FieldType} (hd : decode (m_c M) pc = .ok (.putfield idx, 3)) (hs : sP (m_y M).cls idx ci 3 ty false) (he : h[i]? = some (.inr (ci, a0 :: a1 :: a2 :: b :: r))) (kk : J G R F M X kc kn (pc + 3) lo st (h.set i (.inr (ci, a0 :: a1 :: a2 :: v :: r)))) (hn : narrow ty (cV G v) = cV G v := by rfl) (hf : fits ty (cV G v) = true := by rfl) : J G R F M X kc kn pc lo (v :: .ref i :: st) h :=
  J_put hd hs he (by simp) hn hf kk
theorem J_putF_3 {idx i ci : Nat} {a0 a1 a2 b : Value} {r : List Value} {v : Value} {ty : FieldType} (hd : decode (m_c M) pc = .ok (.putfield idx, 3)) (hs : sP (m_y M).cls idx ci 3 ty true) (hi9 : (m_y M).name = "<init>") (he : h[i]? = some (.inr (ci, a0 :: a1 :: a2 :: b :: r))) (kk : J G R F M X kc kn (pc + 3) lo st (h.set i (.inr (ci, a0 :: a1 :: a2 :: v :: r)))) (hn : narrow ty (cV G v) = cV G v := by rfl) (hf : fits ty (cV G v) = true := by rfl) : J G R F M X kc kn pc lo (v :: .ref i :: st) h :=
  J_putF hd hs hi9 he (by simp) hn hf kk
theorem J_put_4 {idx i ci : Nat} {a0 a1 a2 a3 b : Value} {r : List Value} {v : Value} {ty : FieldType} (hd : decode (m_c M) pc = .ok (.putfield idx, 3)) (hs : sP (m_y M).cls idx ci 4 ty false) (he : h[i]? = some (.inr (ci, a0 :: a1 :: a2 :: a3 :: b :: r))) (kk : J G R F M X kc kn (pc + 3) lo st (h.set i (.inr (ci, a0 :: a1 :: a2 :: a3 :: v :: r)))) (hn : narrow ty (cV G v) = cV G v := by rfl) (hf : fits ty (cV G v) = true := by rfl) : J G R F M X kc kn pc lo (v :: .ref i :: st) h :=
  J_put hd hs he (by simp) hn hf kk
theorem J_putF_4 {idx i ci : Nat} {a0 a1 a2 a3 b : Value} {r : List Value} {v : Value} {ty : FieldType} (hd : decode (m_c M) pc = .ok (.putfield idx, 3)) (hs : sP (m_y M).cls idx ci 4 ty true) (hi9 : (m_y M).name = "<init>") (he : h[i]? = some (.inr (ci, a0 :: a1 :: a2 :: a3 :: b :: r))) (kk : J G R F M X kc kn (pc + 3) lo st (h.set i (.inr (ci, a0 :: a1 :: a2 :: a3 :: v :: r)))) (hn : narrow ty (cV G v) = cV G v := by rfl) (hf : fits ty (cV G v) = true := by rfl) : J G R F M X kc kn pc lo (v :: .ref i :: st) h :=
  J_putF hd hs hi9 he (by simp) hn hf kk
theorem J_put_5 {idx i ci : Nat} {a0 a1 a2 a3 a4 b : Value} {r : List Value} {v : Value} {ty : FieldType} (hd : decode (m_c M) pc = .ok (.putfield idx, 3)) (hs : sP (m_y M).cls idx ci 5 ty false) (he : h[i]? = some (.inr (ci, a0 :: a1 :: a2 :: a3 :: a4 :: b :: r))) (kk : J G R F M X kc kn (pc + 3) lo st (h.set i (.inr (ci, a0 :: a1 :: a2 :: a3 :: a4 :: v :: r)))) (hn : narrow ty (cV G v) = cV G v := by rfl) (hf : fits ty (cV G v) = true := by rfl) : J G R F M X kc kn pc lo (v :: .ref i :: st) h :=
  J_put hd hs he (by simp) hn hf kk
theorem J_putF_5 {idx i ci : Nat} {a0 a1 a2 a3 a4 b : Value} {r : List Value} {v : Value} {ty : FieldType} (hd : decode (m_c M) pc = .ok (.putfield idx, 3)) (hs : sP (m_y M).cls idx ci 5 ty true) (hi9 : (m_y M).name = "<init>") (he : h[i]? = some (.inr (ci, a0 :: a1 :: a2 :: a3 :: a4 :: b :: r))) (kk : J G R F M X kc kn (pc + 3) lo st (h.set i (.inr (ci, a0 :: a1 :: a2 :: a3 :: a4 :: v :: r)))) (hn : narrow ty (cV G v) = cV G v := by rfl) (hf : fits ty (cV G v) = true := by rfl) : J G R F M X kc kn pc lo (v :: .ref i :: st) h :=
  J_putF hd hs hi9 he (by simp) hn hf kk
theorem J_put_6 {idx i ci : Nat} {a0 a1 a2 a3 a4 a5 b : Value} {r : List Value} {v : Value} {ty : FieldType} (hd : decode (m_c M) pc = .ok (.putfield idx, 3)) (hs : sP (m_y M).cls idx ci 6 ty false) (he : h[i]? = some (.inr (ci, a0 :: a1 :: a2 :: a3 :: a4 :: a5 :: b :: r))) (kk : J G R F M X kc kn (pc + 3) lo st (h.set i (.inr (ci, a0 :: a1 :: a2 :: a3 :: a4 :: a5 :: v :: r)))) (hn : narrow ty (cV G v) = cV G v := by rfl) (hf : fits ty (cV G v) = true := by rfl) : J G R F M X kc kn pc lo (v :: .ref i :: st) h :=
  J_put hd hs he (by simp) hn hf kk
theorem J_putF_6 {idx i ci : Nat} {a0 a1 a2 a3 a4 a5 b : Value} {r : List Value} {v : Value} {ty : FieldType} (hd : decode (m_c M) pc = .ok (.putfield idx, 3)) (hs : sP (m_y M).cls idx ci 6 ty true) (hi9 : (m_y M).name = "<init>") (he : h[i]? = some (.inr (ci, a0 :: a1 :: a2 :: a3 :: a4 :: a5 :: b :: r))) (kk : J G R F M X kc kn (pc + 3) lo st (h.set i (.inr (ci, a0 :: a1 :: a2 :: a3 :: a4 :: a5 :: v :: r)))) (hn : narrow ty (cV G v) = cV G v := by rfl) (hf : fits ty (cV G v) = true := by rfl) : J G R F M X kc kn pc lo (v :: .ref i :: st) h :=
  J_putF hd hs hi9 he (by simp) hn hf kk
theorem J_put_7 {idx i ci : Nat} {a0 a1 a2 a3 a4 a5 a6 b : Value} {r : List Value} {v : Value} {ty : FieldType} (hd : decode (m_c M) pc = .ok (.putfield idx, 3)) (hs : sP (m_y M).cls idx ci 7 ty false) (he : h[i]? = some (.inr (ci, a0 :: a1 :: a2 :: a3 :: a4 :: a5 :: a6 :: b :: r))) (kk : J G R F M X kc kn (pc + 3) lo st (h.set i (.inr (ci, a0 :: a1 :: a2 :: a3 :: a4 :: a5 :: a6 :: v :: r)))) (hn : narrow ty (cV G v) = cV G v := by rfl) (hf : fits ty (cV G v) = true := by rfl) : J G R F M X kc kn pc lo (v :: .ref i :: st) h :=
  J_put hd hs he (by simp) hn hf kk
theorem J_putF_7 {idx i ci : Nat} {a0 a1 a2 a3 a4 a5 a6 b : Value} {r : List Value} {v : Value} {ty : FieldType} (hd : decode (m_c M) pc = .ok (.putfield idx, 3)) (hs : sP (m_y M).cls idx ci 7 ty true) (hi9 : (m_y M).name = "<init>") (he : h[i]? = some (.inr (ci, a0 :: a1 :: a2 :: a3 :: a4 :: a5 :: a6 :: b :: r))) (kk : J G R F M X kc kn (pc + 3) lo st (h.set i (.inr (ci, a0 :: a1 :: a2 :: a3 :: a4 :: a5 :: a6 :: v :: r)))) (hn : narrow ty (cV G v) = cV G v := by rfl) (hf : fits ty (cV G v) = true := by rfl) : J G R F M X kc kn pc lo (v :: .ref i :: st) h :=
  J_putF hd hs hi9 he (by simp) hn hf kk
theorem J_put_8 {idx i ci : Nat} {a0 a1 a2 a3 a4 a5 a6 a7 b : Value} {r : List Value} {v : Value} {ty : FieldType} (hd : decode (m_c M) pc = .ok (.putfield idx, 3)) (hs : sP (m_y M).cls idx ci 8 ty false) (he : h[i]? = some (.inr (ci, a0 :: a1 :: a2 :: a3 :: a4 :: a5 :: a6 :: a7 :: b :: r))) (kk : J G R F M X kc kn (pc + 3) lo st (h.set i (.inr (ci, a0 :: a1 :: a2 :: a3 :: a4 :: a5 :: a6 :: a7 :: v :: r)))) (hn : narrow ty (cV G v) = cV G v := by rfl) (hf : fits ty (cV G v) = true := by rfl) : J G R F M X kc kn pc lo (v :: .ref i :: st) h :=
  J_put hd hs he (by simp) hn hf kk
theorem J_putF_8 {idx i ci : Nat} {a0 a1 a2 a3 a4 a5 a6 a7 b : Value} {r : List Value} {v : Value} {ty : FieldType} (hd : decode (m_c M) pc = .ok (.putfield idx, 3)) (hs : sP (m_y M).cls idx ci 8 ty true) (hi9 : (m_y M).name = "<init>") (he : h[i]? = some (.inr (ci, a0 :: a1 :: a2 :: a3 :: a4 :: a5 :: a6 :: a7 :: b :: r))) (kk : J G R F M X kc kn (pc + 3) lo st (h.set i (.inr (ci, a0 :: a1 :: a2 :: a3 :: a4 :: a5 :: a6 :: a7 :: v :: r)))) (hn : narrow ty (cV G v) = cV G v := by rfl) (hf : fits ty (cV G v) = true := by rfl) : J G R F M X kc kn pc lo (v :: .ref i :: st) h :=
  J_putF hd hs hi9 he (by simp) hn hf kk
theorem J_put_9 {idx i ci : Nat} {a0 a1 a2 a3 a4 a5 a6 a7 a8 b : Value} {r : List Value} {v : Value} {ty : FieldType} (hd : decode (m_c M) pc = .ok (.putfield idx, 3)) (hs : sP (m_y M).cls idx ci 9 ty false) (he : h[i]? = some (.inr (ci, a0 :: a1 :: a2 :: a3 :: a4 :: a5 :: a6 :: a7 :: a8 :: b :: r))) (kk : J G R F M X kc kn (pc + 3) lo st (h.set i (.inr (ci, a0 :: a1 :: a2 :: a3 :: a4 :: a5 :: a6 :: a7 :: a8 :: v :: r)))) (hn : narrow ty (cV G v) = cV G v := by rfl) (hf : fits ty (cV G v) = true := by rfl) : J G R F M X kc kn pc lo (v :: .ref i :: st) h :=
  J_put hd hs he (by simp) hn hf kk
theorem J_putF_9 {idx i ci : Nat} {a0 a1 a2 a3 a4 a5 a6 a7 a8 b : Value} {r : List Value} {v : Value} {ty : FieldType} (hd : decode (m_c M) pc = .ok (.putfield idx, 3)) (hs : sP (m_y M).cls idx ci 9 ty true) (hi9 : (m_y M).name = "<init>") (he : h[i]? = some (.inr (ci, a0 :: a1 :: a2 :: a3 :: a4 :: a5 :: a6 :: a7 :: a8 :: b :: r))) (kk : J G R F M X kc kn (pc + 3) lo st (h.set i (.inr (ci, a0 :: a1 :: a2 :: a3 :: a4 :: a5 :: a6 :: a7 :: a8 :: v :: r)))) (hn : narrow ty (cV G v) = cV G v := by rfl) (hf : fits ty (cV G v) = true := by rfl) : J G R F M X kc kn pc lo (v :: .ref i :: st) h :=
  J_putF hd hs hi9 he (by simp) hn hf kk
theorem J_put_10 {idx i ci : Nat} {a0 a1 a2 a3 a4 a5 a6 a7 a8 a9 b : Value} {r : List Value} {v : Value} {ty : FieldType} (hd : decode (m_c M) pc = .ok (.putfield idx, 3)) (hs : sP (m_y M).cls idx ci 10 ty false) (he : h[i]? = some (.inr (ci, a0 :: a1 :: a2 :: a3 :: a4 :: a5 :: a6 :: a7 :: a8 :: a9 :: b :: r))) (kk : J G R F M X kc kn (pc + 3) lo st (h.set i (.inr (ci, a0 :: a1 :: a2 :: a3 :: a4 :: a5 :: a6 :: a7 :: a8 :: a9 :: v :: r)))) (hn : narrow ty (cV G v) = cV G v := by rfl) (hf : fits ty (cV G v) = true := by rfl) : J G R F M X kc kn pc lo (v :: .ref i :: st) h :=
  J_put hd hs he (by simp) hn hf kk
theorem J_putF_10 {idx i ci : Nat} {a0 a1 a2 a3 a4 a5 a6 a7 a8 a9 b : Value} {r : List Value} {v : Value} {ty : FieldType} (hd : decode (m_c M) pc = .ok (.putfield idx, 3)) (hs : sP (m_y M).cls idx ci 10 ty true) (hi9 : (m_y M).name = "<init>") (he : h[i]? = some (.inr (ci, a0 :: a1 :: a2 :: a3 :: a4 :: a5 :: a6 :: a7 :: a8 :: a9 :: b :: r))) (kk : J G R F M X kc kn (pc + 3) lo st (h.set i (.inr (ci, a0 :: a1 :: a2 :: a3 :: a4 :: a5 :: a6 :: a7 :: a8 :: a9 :: v :: r)))) (hn : narrow ty (cV G v) = cV G v := by rfl) (hf : fits ty (cV G v) = true := by rfl) : J G R F M X kc kn pc lo (v :: .ref i :: st) h :=
  J_putF hd hs hi9 he (by simp) hn hf kk
theorem J_put_11 {idx i ci : Nat} {a0 a1 a2 a3 a4 a5 a6 a7 a8 a9 a10 b : Value} {r : List Value} {v : Value} {ty : FieldType} (hd : decode (m_c M) pc = .ok (.putfield idx, 3)) (hs : sP (m_y M).cls idx ci 11 ty false) (he : h[i]? = some (.inr (ci, a0 :: a1 :: a2 :: a3 :: a4 :: a5 :: a6 :: a7 :: a8 :: a9 :: a10 :: b :: r))) (kk : J G R F M X kc kn (pc + 3) lo st (h.set i (.inr (ci, a0 :: a1 :: a2 :: a3 :: a4 :: a5 :: a6 :: a7 :: a8 :: a9 :: a10 :: v :: r)))) (hn : narrow ty (cV G v) = cV G v := by rfl) (hf : fits ty (cV G v) = true := by rfl) : J G R F M X kc kn pc lo (v :: .ref i :: st) h :=
  J_put hd hs he (by simp) hn hf kk
theorem J_putF_11 {idx i ci : Nat} {a0 a1 a2 a3 a4 a5 a6 a7 a8 a9 a10 b : Value} {r : List Value} {v : Value} {ty : FieldType} (hd : decode (m_c M) pc = .ok (.putfield idx, 3)) (hs : sP (m_y M).cls idx ci 11 ty true) (hi9 : (m_y M).name = "<init>") (he : h[i]? = some (.inr (ci, a0 :: a1 :: a2 :: a3 :: a4 :: a5 :: a6 :: a7 :: a8 :: a9 :: a10 :: b :: r))) (kk : J G R F M X kc kn (pc + 3) lo st (h.set i (.inr (ci, a0 :: a1 :: a2 :: a3 :: a4 :: a5 :: a6 :: a7 :: a8 :: a9 :: a10 :: v :: r)))) (hn : narrow ty (cV G v) = cV G v := by rfl) (hf : fits ty (cV G v) = true := by rfl) : J G R F M X kc kn pc lo (v :: .ref i :: st) h :=
  J_putF hd hs hi9 he (by simp) hn hf kk
theorem J_put_12 {idx i ci : Nat} {a0 a1 a2 a3 a4 a5 a6 a7 a8 a9 a10 a11 b : Value} {r : List Value} {v : Value} {ty : FieldType} (hd : decode (m_c M) pc = .ok (.putfield idx, 3)) (hs : sP (m_y M).cls idx ci 12 ty false) (he : h[i]? = some (.inr (ci, a0 :: a1 :: a2 :: a3 :: a4 :: a5 :: a6 :: a7 :: a8 :: a9 :: a10 :: a11 :: b :: r))) (kk : J G R F M X kc kn (pc + 3) lo st (h.set i (.inr (ci, a0 :: a1 :: a2 :: a3 :: a4 :: a5 :: a6 :: a7 :: a8 :: a9 :: a10 :: a11 :: v :: r)))) (hn : narrow ty (cV G v) = cV G v := by rfl) (hf : fits ty (cV G v) = true := by rfl) : J G R F M X kc kn pc lo (v :: .ref i :: st) h :=
  J_put hd hs he (by simp) hn hf kk
theorem J_putF_12 {idx i ci : Nat} {a0 a1 a2 a3 a4 a5 a6 a7 a8 a9 a10 a11 b : Value} {r : List Value} {v : Value} {ty : FieldType} (hd : decode (m_c M) pc = .ok (.putfield idx, 3)) (hs : sP (m_y M).cls idx ci 12 ty true) (hi9 : (m_y M).name = "<init>") (he : h[i]? = some (.inr (ci, a0 :: a1 :: a2 :: a3 :: a4 :: a5 :: a6 :: a7 :: a8 :: a9 :: a10 :: a11 :: b :: r))) (kk : J G R F M X kc kn (pc + 3) lo st (h.set i (.inr (ci, a0 :: a1 :: a2 :: a3 :: a4 :: a5 :: a6 :: a7 :: a8 :: a9 :: a10 :: a11 :: v :: r)))) (hn : narrow ty (cV G v) = cV G v := by rfl) (hf : fits ty (cV G v) = true := by rfl) : J G R F M X kc kn pc lo (v :: .ref i :: st) h :=
  J_putF hd hs hi9 he (by simp) hn hf kk
theorem J_put_13 {idx i ci : Nat} {a0 a1 a2 a3 a4 a5 a6 a7 a8 a9 a10 a11 a12 b : Value} {r : List Value} {v : Value} {ty : FieldType} (hd : decode (m_c M) pc = .ok (.putfield idx, 3)) (hs : sP (m_y M).cls idx ci 13 ty false) (he : h[i]? = some (.inr (ci, a0 :: a1 :: a2 :: a3 :: a4 :: a5 :: a6 :: a7 :: a8 :: a9 :: a10 :: a11 :: a12 :: b :: r))) (kk : J G R F M X kc kn (pc + 3) lo st (h.set i (.inr (ci, a0 :: a1 :: a2 :: a3 :: a4 :: a5 :: a6 :: a7 :: a8 :: a9 :: a10 :: a11 :: a12 :: v :: r)))) (hn : narrow ty (cV G v) = cV G v := by rfl) (hf : fits ty (cV G v) = true := by rfl) : J G R F M X kc kn pc lo (v :: .ref i :: st) h :=
  J_put hd hs he (by simp) hn hf kk
theorem J_putF_13 {idx i ci : Nat} {a0 a1 a2 a3 a4 a5 a6 a7 a8 a9 a10 a11 a12 b : Value} {r : List Value} {v : Value} {ty : FieldType} (hd : decode (m_c M) pc = .ok (.putfield idx, 3)) (hs : sP (m_y M).cls idx ci 13 ty true) (hi9 : (m_y M).name = "<init>") (he : h[i]? = some (.inr (ci, a0 :: a1 :: a2 :: a3 :: a4 :: a5 :: a6 :: a7 :: a8 :: a9 :: a10 :: a11 :: a12 :: b :: r))) (kk : J G R F M X kc kn (pc + 3) lo st (h.set i (.inr (ci, a0 :: a1 :: a2 :: a3 :: a4 :: a5 :: a6 :: a7 :: a8 :: a9 :: a10 :: a11 :: a12 :: v :: r)))) (hn : narrow ty (cV G v) = cV G v := by rfl) (hf : fits ty (cV G v) = true := by rfl) : J G R F M X kc kn pc lo (v :: .ref i :: st) h :=
  J_putF hd hs hi9 he (by simp) hn hf kk
theorem J_put_14 {idx i ci : Nat} {a0 a1 a2 a3 a4 a5 a6 a7 a8 a9 a10 a11 a12 a13 b : Value} {r : List Value} {v : Value} {ty : FieldType} (hd : decode (m_c M) pc = .ok (.putfield idx, 3)) (hs : sP (m_y M).cls idx ci 14 ty false) (he : h[i]? = some (.inr (ci, a0 :: a1 :: a2 :: a3 :: a4 :: a5 :: a6 :: a7 :: a8 :: a9 :: a10 :: a11 :: a12 :: a13 :: b :: r))) (kk : J G R F M X kc kn (pc + 3) lo st (h.set i (.inr (ci, a0 :: a1 :: a2 :: a3 :: a4 :: a5 :: a6 :: a7 :: a8 :: a9 :: a10 :: a11 :: a12 :: a13 :: v :: r)))) (hn : narrow ty (cV G v) = cV G v := by rfl) (hf : fits ty (cV G v) = true := by rfl) : J G R F M X kc kn pc lo (v :: .ref i :: st) h :=
  J_put hd hs he (by simp) hn hf kk
theorem J_putF_14 {idx i ci : Nat} {a0 a1 a2 a3 a4 a5 a6 a7 a8 a9 a10 a11 a12 a13 b : Value} {r : List Value} {v : Value} {ty : FieldType} (hd : decode (m_c M) pc = .ok (.putfield idx, 3)) (hs : sP (m_y M).cls idx ci 14 ty true) (hi9 : (m_y M).name = "<init>") (he : h[i]? = some (.inr (ci, a0 :: a1 :: a2 :: a3 :: a4 :: a5 :: a6 :: a7 :: a8 :: a9 :: a10 :: a11 :: a12 :: a13 :: b :: r))) (kk : J G R F M X kc kn (pc + 3) lo st (h.set i (.inr (ci, a0 :: a1 :: a2 :: a3 :: a4 :: a5 :: a6 :: a7 :: a8 :: a9 :: a10 :: a11 :: a12 :: a13 :: v :: r)))) (hn : narrow ty (cV G v) = cV G v := by rfl) (hf : fits ty (cV G v) = true := by rfl) : J G R F M X kc kn pc lo (v :: .ref i :: st) h :=
  J_putF hd hs hi9 he (by simp) hn hf kk
theorem J_put_15 {idx i ci : Nat} {a0 a1 a2 a3 a4 a5 a6 a7 a8 a9 a10 a11 a12 a13 a14 b : Value} {r : List Value} {v : Value} {ty : FieldType} (hd : decode (m_c M) pc = .ok (.putfield idx, 3)) (hs : sP (m_y M).cls idx ci 15 ty false) (he : h[i]? = some (.inr (ci, a0 :: a1 :: a2 :: a3 :: a4 :: a5 :: a6 :: a7 :: a8 :: a9 :: a10 :: a11 :: a12 :: a13 :: a14 :: b :: r))) (kk : J G R F M X kc kn (pc + 3) lo st (h.set i (.inr (ci, a0 :: a1 :: a2 :: a3 :: a4 :: a5 :: a6 :: a7 :: a8 :: a9 :: a10 :: a11 :: a12 :: a13 :: a14 :: v :: r)))) (hn : narrow ty (cV G v) = cV G v := by rfl) (hf : fits ty (cV G v) = true := by rfl) : J G R F M X kc kn pc lo (v :: .ref i :: st) h :=
  J_put hd hs he (by simp) hn hf kk
theorem J_putF_15 {idx i ci : Nat} {a0 a1 a2 a3 a4 a5 a6 a7 a8 a9 a10 a11 a12 a13 a14 b : Value} {r : List Value} {v : Value} {ty : FieldType} (hd : decode (m_c M) pc = .ok (.putfield idx, 3)) (hs : sP (m_y M).cls idx ci 15 ty true) (hi9 : (m_y M).name = "<init>") (he : h[i]? = some (.inr (ci, a0 :: a1 :: a2 :: a3 :: a4 :: a5 :: a6 :: a7 :: a8 :: a9 :: a10 :: a11 :: a12 :: a13 :: a14 :: b :: r))) (kk : J G R F M X kc kn (pc + 3) lo st (h.set i (.inr (ci, a0 :: a1 :: a2 :: a3 :: a4 :: a5 :: a6 :: a7 :: a8 :: a9 :: a10 :: a11 :: a12 :: a13 :: a14 :: v :: r)))) (hn : narrow ty (cV G v) = cV G v := by rfl) (hf : fits ty (cV G v) = true := by rfl) : J G R F M X kc kn pc lo (v :: .ref i :: st) h :=
  J_putF hd hs hi9 he (by simp) hn hf kk
theorem J_put_16 {idx i ci : Nat} {a0 a1 a2 a3 a4 a5 a6 a7 a8 a9 a10 a11 a12 a13 a14 a15 b : Value} {r : List Value} {v : Value} {ty : FieldType} (hd : decode (m_c M) pc = .ok (.putfield idx, 3)) (hs : sP (m_y M).cls idx ci 16 ty false) (he : h[i]? = some (.inr (ci, a0 :: a1 :: a2 :: a3 :: a4 :: a5 :: a6 :: a7 :: a8 :: a9 :: a10 :: a11 :: a12 :: a13 :: a14 :: a15 :: b :: r))) (kk : J G R F M X kc kn (pc + 3) lo st (h.set i (.inr (ci, a0 :: a1 :: a2 :: a3 :: a4 :: a5 :: a6 :: a7 :: a8 :: a9 :: a10 :: a11 :: a12 :: a13 :: a14 :: a15 :: v :: r)))) (hn : narrow ty (cV G v) = cV G v := by rfl) (hf : fits ty (cV G v) = true := by rfl) : J G R F M X kc kn pc lo (v :: .ref i :: st) h :=
  J_put hd hs he (by simp) hn hf kk
theorem J_putF_16 {idx i ci : Nat} {a0 a1 a2 a3 a4 a5 a6 a7 a8 a9 a10 a11 a12 a13 a14 a15 b : Value} {r : List Value} {v : Value} {ty : FieldType} (hd : decode (m_c M) pc = .ok (.putfield idx, 3)) (hs : sP (m_y M).cls idx ci 16 ty true) (hi9 : (m_y M).name = "<init>") (he : h[i]? = some (.inr (ci, a0 :: a1 :: a2 :: a3 :: a4 :: a5 :: a6 :: a7 :: a8 :: a9 :: a10 :: a11 :: a12 :: a13 :: a14 :: a15 :: b :: r))) (kk : J G R F M X kc kn (pc + 3) lo st (h.set i (.inr (ci, a0 :: a1 :: a2 :: a3 :: a4 :: a5 :: a6 :: a7 :: a8 :: a9 :: a10 :: a11 :: a12 :: a13 :: a14 :: a15 :: v :: r)))) (hn : narrow ty (cV G v) = cV G v := by rfl) (hf : fits ty (cV G v) = true := by rfl) : J G R F M X kc kn pc lo (v :: .ref i :: st) h :=
  J_putF hd hs hi9 he (by simp) hn hf kk
theorem J_put_17 {idx i ci : Nat} {a0 a1 a2 a3 a4 a5 a6 a7 a8 a9 a10 a11 a12 a13 a14 a15 a16 b : Value} {r : List Value} {v : Value} {ty : FieldType} (hd : decode (m_c M) pc = .ok (.putfield idx, 3)) (hs : sP (m_y M).cls idx ci 17 ty false) (he : h[i]? = some (.inr (ci, a0 :: a1 :: a2 :: a3 :: a4 :: a5 :: a6 :: a7 :: a8 :: a9 :: a10 :: a11 :: a12 :: a13 :: a14 :: a15 :: a16 :: b :: r))) (kk : J G R F M X kc kn (pc + 3) lo st (h.set i (.inr (ci, a0 :: a1 :: a2 :: a3 :: a4 :: a5 :: a6 :: a7 :: a8 :: a9 :: a10 :: a11 :: a12 :: a13 :: a14 :: a15 :: a16 :: v :: r)))) (hn : narrow ty (cV G v) = cV G v := by rfl) (hf : fits ty (cV G v) = true := by rfl) : J G R F M X kc kn pc lo (v :: .ref i :: st) h :=
  J_put hd hs he (by simp) hn hf kk
theorem J_putF_17 {idx i ci : Nat} {a0 a1 a2 a3 a4 a5 a6 a7 a8 a9 a10 a11 a12 a13 a14 a15 a16 b : Value} {r : List Value} {v : Value} {ty : FieldType} (hd : decode (m_c M) pc = .ok (.putfield idx, 3)) (hs : sP (m_y M).cls idx ci 17 ty true) (hi9 : (m_y M).name = "<init>") (he : h[i]? = some (.inr (ci, a0 :: a1 :: a2 :: a3 :: a4 :: a5 :: a6 :: a7 :: a8 :: a9 :: a10 :: a11 :: a12 :: a13 :: a14 :: a15 :: a16 :: b :: r))) (kk : J G R F M X kc kn (pc + 3) lo st (h.set i (.inr (ci, a0 :: a1 :: a2 :: a3 :: a4 :: a5 :: a6 :: a7 :: a8 :: a9 :: a10 :: a11 :: a12 :: a13 :: a14 :: a15 :: a16 :: v :: r)))) (hn : narrow ty (cV G v) = cV G v := by rfl) (hf : fits ty (cV G v) = true := by rfl) : J G R F M X kc kn pc lo (v :: .ref i :: st) h :=
  J_putF hd hs hi9 he (by simp) hn hf kk
theorem J_iald {a n : Nat} {f : Nat → Int32} {x : Int32} (j : Nat) (hd : decode (m_c M) pc = .ok (.iaload, 1)) (he : h[a]? = some (.inl (0, n, .inl f))) (hx : x = nI j) (hj : j < n) (kk : J G R F M X kc kn (pc + 1) lo (.int (f j) :: st) h) (hn : n < 2 ^ 31 := by decide) : J G R F M X kc kn pc lo (.int x :: .ref a :: st) h := by
  intro p e s m args below meth c H locs ls C hS hH hL hX
  subst hx
  have kk := kk p e s m args below meth c H locs ls C hS hH hL hX
  refine va_iald C.1 C.2.1 (jC_K C) hH.1 a 0 (cW_get he) rfl (vp_in_nI hj hn) hd ?_
  rw [nI_clamp (by omega)]
  exact kk
theorem J_zald {a n : Nat} {f : Nat → Int32} {x : Int32} (j : Nat) (hd : decode (m_c M) pc = .ok (.baload, 1)) (he : h[a]? = some (.inl (1, n, .inl f))) (hx : x = nI j) (hj : j < n) (kk : J G R F M X kc kn (pc + 1) lo (.int (f j) :: st) h) (hn : n < 2 ^ 31 := by decide) : J G R F M X kc kn pc lo (.int x :: .ref a :: st) h := by
  intro p e s m args below meth c H locs ls C hS hH hL hX
  subst hx
  have kk := kk p e s m args below meth c H locs ls C hS hH hL hX
  refine va_zald C.1 C.2.1 (jC_K C) hH.1 a 1 (cW_get he) rfl (vp_in_nI hj hn) hd ?_
  rw [nI_clamp (by omega)]
  exact kk
theorem J_cald {a n : Nat} {f : Nat → Int32} {x : Int32} (j : Nat) (hd : decode (m_c M) pc = .ok (.caload, 1)) (he : h[a]? = some (.inl (2, n, .inl f))) (hx : x = nI j) (hj : j < n) (kk : J G R F M X kc kn (pc + 1) lo (.int (f j) :: st) h) (hn : n < 2 ^ 31 := by decide) : J G R F M X kc kn pc lo (.int x :: .ref a :: st) h := by
  intro p e s m args below meth c H locs ls C hS hH hL hX
  subst hx
  have kk := kk p e s m args below meth c H locs ls C hS hH hL hX
  refine va_cald C.1 C.2.1 (jC_K C) hH.1 a 2 (cW_get he) rfl (vp_in_nI hj hn) hd ?_
  rw [nI_clamp (by omega)]
  exact kk
theorem J_bald {a n : Nat} {f : Nat → Int32} {x : Int32} (j : Nat) (hd : decode (m_c M) pc = .ok (.baload, 1)) (he : h[a]? = some (.inl (3, n, .inl f))) (hx : x = nI j) (hj : j < n) (kk : J G R F M X kc kn (pc + 1) lo (.int (f j) :: st) h) (hn : n < 2 ^ 31 := by decide) : J G R F M X kc kn pc lo (.int x :: .ref a :: st) h := by
  intro p e s m args below meth c H locs ls C hS hH hL hX
  subst hx
  have kk := kk p e s m args below meth c H locs ls C hS hH hL hX
  refine va_bald C.1 C.2.1 (jC_K C) hH.1 a 3 (cW_get he) rfl (vp_in_nI hj hn) hd ?_
  rw [nI_clamp (by omega)]
  exact kk
theorem J_iast {a n : Nat} {f : Nat → Int32} {x : Int32} {y : Int32} (j : Nat) (hd : decode (m_c M) pc = .ok (.iastore, 1)) (he : h[a]? = some (.inl (0, n, .inl f))) (hx : x = nI j) (hj : j < n) (kk : J G R F M X kc kn (pc + 1) lo st (h.set a (.inl (0, n, .inl (upd f j y))))) (hn : n < 2 ^ 31 := by decide) : J G R F M X kc kn pc lo (.int y :: .int x :: .ref a :: st) h := by
  intro p e s m args below meth c H locs ls C hS hH hL hX
  subst hx
  refine va_iast (A := g_O G) C.1 C.2.1 (jC_K C) hH.1 (cW_D hH.2) hS a 0 (cW_get he) rfl (vp_in_nI hj hn) hd (fun H1 locs1 hP1 hD1 hS1 => ?_)
  rw [nI_clamp (by omega)] at hP1
  rw [show (g_P G a, (Sum.inl (g_A G 0, n, .inl (upd f j y)) : va_E)) = (g_P G a, cE G (.inl (0, n, .inl (upd f j y)))) from rfl, cW_set] at hP1
  exact kk p e s m args below meth c H1 locs1 ls C hS1 ⟨hP1, by rw [List.length_set]; exact hH.2⟩ hL (fun q => ⟨(hX q).1, by rw [(hX q).2, List.length_set]⟩)
theorem J_zast {a n : Nat} {f : Nat → Int32} {x : Int32} {y : Int32} (j : Nat) (hd : decode (m_c M) pc = .ok (.bastore, 1)) (he : h[a]? = some (.inl (1, n, .inl f))) (hx : x = nI j) (hj : j < n) (hy : vp_nar .boolean y = y) (kk : J G R F M X kc kn (pc + 1) lo st (h.set a (.inl (1, n, .inl (upd f j y))))) (hn : n < 2 ^ 31 := by decide) : J G R F M X kc kn pc lo (.int y :: .int x :: .ref a :: st) h := by
  intro p e s m args below meth c H locs ls C hS hH hL hX
  subst hx
  refine va_zast (A := g_O G) C.1 C.2.1 (jC_K C) hH.1 (cW_D hH.2) hS a 1 (cW_get he) rfl (vp_in_nI hj hn) hd (fun H1 locs1 hP1 hD1 hS1 => ?_)
  rw [nI_clamp (by omega), hy] at hP1
  rw [show (g_P G a, (Sum.inl (g_A G 1, n, .inl (upd f j y)) : va_E)) = (g_P G a, cE G (.inl (1, n, .inl (upd f j y)))) from rfl, cW_set] at hP1
  exact kk p e s m args below meth c H1 locs1 ls C hS1 ⟨hP1, by rw [List.length_set]; exact hH.2⟩ hL (fun q => ⟨(hX q).1, by rw [(hX q).2, List.length_set]⟩)
theorem J_cast {a n : Nat} {f : Nat → Int32} {x : Int32} {y : Int32} (j : Nat) (hd : decode (m_c M) pc = .ok (.castore, 1)) (he : h[a]? = some (.inl (2, n, .inl f))) (hx : x = nI j) (hj : j < n) (hy : vp_nar .char y = y) (kk : J G R F M X kc kn (pc + 1) lo st (h.set a (.inl (2, n, .inl (upd f j y))))) (hn : n < 2 ^ 31 := by decide) : J G R F M X kc kn pc lo (.int y :: .int x :: .ref a :: st) h := by
  intro p e s m args below meth c H locs ls C hS hH hL hX
  subst hx
  refine va_cast (A := g_O G) C.1 C.2.1 (jC_K C) hH.1 (cW_D hH.2) hS a 2 (cW_get he) rfl (vp_in_nI hj hn) hd (fun H1 locs1 hP1 hD1 hS1 => ?_)
  rw [nI_clamp (by omega), hy] at hP1
  rw [show (g_P G a, (Sum.inl (g_A G 2, n, .inl (upd f j y)) : va_E)) = (g_P G a, cE G (.inl (2, n, .inl (upd f j y)))) from rfl, cW_set] at hP1
  exact kk p e s m args below meth c H1 locs1 ls C hS1 ⟨hP1, by rw [List.length_set]; exact hH.2⟩ hL (fun q => ⟨(hX q).1, by rw [(hX q).2, List.length_set]⟩)
theorem J_bast {a n : Nat} {f : Nat → Int32} {x : Int32} {y : Int32} (j : Nat) (hd : decode (m_c M) pc = .ok (.bastore, 1)) (he : h[a]? = some (.inl (3, n, .inl f))) (hx : x = nI j) (hj : j < n) (hy : vp_nar .byte y = y) (kk : J G R F M X kc kn (pc + 1) lo st (h.set a (.inl (3, n, .inl (upd f j y))))) (hn : n < 2 ^ 31 := by decide) : J G R F M X kc kn pc lo (.int y :: .int x :: .ref a :: st) h := by
  intro p e s m args below meth c H locs ls C hS hH hL hX
  subst hx
  refine va_bast (A := g_O G) C.1 C.2.1 (jC_K C) hH.1 (cW_D hH.2) hS a 3 (cW_get he) rfl (vp_in_nI hj hn) hd (fun H1 locs1 hP1 hD1 hS1 => ?_)
  rw [nI_clamp (by omega), hy] at hP1
  rw [show (g_P G a, (Sum.inl (g_A G 3, n, .inl (upd f j y)) : va_E)) = (g_P G a, cE G (.inl (3, n, .inl (upd f j y)))) from rfl, cW_set] at hP1
  exact kk p e s m args below meth c H1 locs1 ls C hS1 ⟨hP1, by rw [List.length_set]; exact hH.2⟩ hL (fun q => ⟨(hX q).1, by rw [(hX q).2, List.length_set]⟩)
theorem J_alen {a k n : Nat} {x : Nat} {d : (Nat → Int32) ⊕ (Nat → Int64) ⊕ (Nat → UInt32) ⊕ (Nat → UInt64) ⊕ (Nat → Option Nat)} (hd : decode (m_c M) pc = .ok (.arraylength, 1)) (he : h[a]? = some (.inl (k, n, d))) (hk : k < 6) (kk : J G R F M X kc kn (pc + 1) lo (.int (nI n) :: st) h) : J G R F M X kc kn pc lo (.ref a :: st) h := by
  intro p e s m args below meth c H locs ls C hS hH hL hX
  obtain ⟨ty, hty⟩ : ∃ ty, (jT G)[k]? = some (g_A G k, ty) := by
    match k, hk with
    | 0, _ => exact ⟨_, rfl⟩
    | 1, _ => exact ⟨_, rfl⟩
    | 2, _ => exact ⟨_, rfl⟩
    | 3, _ => exact ⟨_, rfl⟩
    | 4, _ => exact ⟨_, rfl⟩
    | 5, _ => exact ⟨_, rfl⟩
  exact va_alen C.1 C.2.1 (jC_K C) hH.1 a k (cW_get he) hty rfl hd (kk p e s m args below meth c H locs ls C hS hH hL hX)
theorem J_aald {a n r : Nat} {f : Nat → Option Nat} {x : Int32} (j : Nat) (hd : decode (m_c M) pc = .ok (.aaload, 1)) (he : h[a]? = some (.inl (5, n, .inr (.inr (.inr (.inr f)))))) (hx : x = nI j) (hj : j < n) (hf : f j = some r) (kk : J G R F M X kc kn (pc + 1) lo (.ref r :: st) h) (hn : n < 2 ^ 31 := by decide) : J G R F M X kc kn pc lo (.int x :: .ref a :: st) h := by
  intro p e s m args below meth c H locs ls C hS hH hL hX
  subst hx
  have kk := kk p e s m args below meth c H locs ls C hS hH hL hX
  refine va_aldq C.1 C.2.1 (jC_K C) hH.1 a 5 (cW_get he) rfl (vp_in_nI hj hn) hd ?_
  rw [nI_clamp (by omega), hf]
  exact kk
theorem J_aast {a n v : Nat} {f : Nat → Option Nat} {x : Int32} {vs : List Value} (j : Nat) (hd : decode (m_c M) pc = .ok (.aastore, 1)) (he : h[a]? = some (.inl (5, n, .inr (.inr (.inr (.inr f)))))) (hv : h[v]? = some (.inr (7, vs))) (hx : x = nI j) (hj : j < n) (kk : J G R F M X kc kn (pc + 1) lo st (h.set a (.inl (5, n, .inr (.inr (.inr (.inr (va_up f j (some v))))))))) (hn : n < 2 ^ 31 := by decide) : J G R F M X kc kn pc lo (.ref v :: .int x :: .ref a :: st) h := by
  intro p e s m args below meth c H locs ls C hS hH hL hX
  subst hx
  refine va_astq (A := g_O G) C.1 C.2.1 (jC_K C) hH.1 (cW_D hH.2) hS a 5 v 7 (r := (RX7, TX7, 3)) (cW_get he) rfl (cW_get hv) rfl (vp_in_nI hj hn) hd (fun H1 locs1 hP1 hD1 hS1 => ?_)
  rw [nI_clamp (by omega)] at hP1
  have e9 : (va_up (fun j => (f j).map (g_P G)) j (some (g_P G v))) = fun k => ((va_up f j (some v)) k).map (g_P G) := by
    funext k
    by_cases hk : k = j <;> simp [va_up, hk]
  rw [e9, show (g_P G a, (Sum.inl (g_A G 5, n, .inr (.inr (.inr (.inr (fun k => ((va_up f j (some v)) k).map (g_P G)))))) : va_E)) = (g_P G a, cE G (.inl (5, n, .inr (.inr (.inr (.inr (va_up f j (some v)))))))) from rfl, cW_set] at hP1
  exact kk p e s m args below meth c H1 locs1 ls C hS1 ⟨hP1, by rw [List.length_set]; exact hH.2⟩ hL (fun q => ⟨(hX q).1, by rw [(hX q).2, List.length_set]⟩)
/-- a class that is made here -/
def sN (own : String) (idx ci : Nat) (n : Nat) (fs : List Value) : Prop := ∃ (C : String) (T : u_T) (ty : Nat → FieldType), jcl[ci]? = some (C, T, n) ∧ (∀ w ∈ u_ws C T n, w ∈ lw_all) ∧ (∀ k, k < n → parseFieldDescriptor (T k).2.2.1 = some (ty k)) ∧
  Cond.classLink own idx C ∈ lw_all ∧ Cond.instantiable C n ∈ lw_all ∧ Cond.initialized C ∈ lw_all ∧ (∀ G : jG, ∀ j, j < n → defaultValue (ty j) = vp_V (fs.map (cV G)) j)
theorem jnew_q {p : Program} {l : Launch} {e : Env} {s : State} {m : MethodId} {args : Array Value} {below : List Frame} {meth : Method} {c : Code} {T1 : State} {locs : List Loc} {cE9 : va_E} {H1 : Heap} {q : Nat}
    (hX : (∀ i, g_P G i = g_n G + i) ∧ s.heap.size + kc = g_n G + h.length) (X1 : Stand p l e R s m args below meth c T1 locs (kc + 1) kn) (hT1 : T1.heap = H1) (hP1 : va_P (g_D G) jcl (cW G h ++ [(q, cE9)]) H1) (hD1 : va_D (g_O G) (cW G h ++ [(q, cE9)])) : q = g_P G h.length := by
  have hlen := cW_len G h
  have hq : (cW G h ++ [(q, cE9)])[h.length]? = some (q, cE9) := by rw [← hlen]; simp
  have h1 : g_n G ≤ q := hD1.2 _ _ hq
  have h2 : q < H1.size := (hP1 _ _ hq).lt
  have h3 := X1.heapSize
  rw [hT1] at h3
  rw [hX.1]
  have hX2 := hX.2
  rcases Nat.lt_or_ge q (g_n G + h.length) with h4 | h4
  · exfalso
    have hi : q - g_n G < h.length := by omega
    have h5 : (cW G h ++ [(q, cE9)])[q - g_n G]? = some (g_P G (q - g_n G), cE G (h[q - g_n G])) := by
      rw [List.getElem?_append_left (by rw [hlen]; exact hi)]
      exact cW_get (List.getElem?_eq_getElem hi)
    have h6 := hD1.1 _ _ _ _ h5 hq (show g_P G (q - g_n G) = q by rw [hX.1]; omega)
    omega
  · omega
theorem J_new {idx ci n : Nat} {fs : List Value} (hd : decode (m_c M) pc = .ok (.new idx, 3)) (hs : sN (m_y M).cls idx ci n fs) (hc1 : kc + 1 ≤ R.cells) (hc2 : kn + n ≤ R.slots) (kk : J G R F M true (kc + 1) (kn + n) (pc + 3) lo (.ref h.length :: st) (h ++ [.inr (ci, fs)])) : J G R F M true kc kn pc lo st h := by
  intro p e s m args below meth c H locs ls C hS hH hL hX
  obtain ⟨C9, T, ty, hc, hin, hty, hl1, hl2, hl3, hfs⟩ := hs
  refine va_new (A := g_O G) C.1 C.2.1 (jC_w C) hin ty hty (jC_o C) (jC_w C _ hl1) (jC_w C _ hl2) (jC_w C _ hl3) (jC_K C) hH.1 (cW_D hH.2) hS (jC_n C) hc (hfs G) hc1 hc2 hd (fun q H1 hP1 hD1 hS1 => ?_)
  intro T1 hT1 X1
  have hq := jnew_q (hX rfl) X1 hT1 hP1 hD1
  subst hq
  rw [show (g_P G h.length, (Sum.inr (ci, fs.map (cV G)) : va_E)) = (g_P G h.length, cE G (.inr (ci, fs))) from rfl, ← cW_push] at hP1
  exact kk p e s m args below meth c H1 locs ls C hS1 ⟨hP1, jD_id (hX rfl).1 _⟩ hL (fun _ => ⟨(hX rfl).1, by rw [List.length_append]; have := (hX rfl).2; simp only [List.length_cons, List.length_nil]; omega⟩) T1 hT1 X1
theorem jbytes {n : Nat} {ty : FieldType} (h8 : componentBytes ty ≤ 8) (hn : n < 100000) : n * componentBytes ty ≤ 536870912 := by
  have := Nat.mul_le_mul_left n h8
  omega
theorem J_newI {x : Int32} (n : Nat) (hd : decode (m_c M) pc = .ok (.newarray .int, 2)) (hw : Cond.arrayClass .int ∈ lw_all) (hx : x = nI n) (hn : n < 100000) (hc1 : kc + 1 ≤ R.cells) (hc2 : kn + n ≤ R.slots) (kk : J G R F M true (kc + 1) (kn + n) (pc + 2) lo (.ref h.length :: st) (h ++ [.inl (0, n, .inl (fun _ => 0))])) : J G R F M true kc kn pc lo (.int x :: st) h := by
  intro p e s m args below meth c H locs ls C hS hH hL hX
  subst hx
  refine va_newa (A := g_O G) (atype := .int) (ty := .int) (a0 := (n, .inl (fun _ => 0))) C.1 C.2.1 (jC_w C _ hw) rfl (jC_K C) hH.1 (cW_D hH.2) hS (jC_n C) (fun cA => rfl) (nI_pos (by omega)) (nI_clamp (by omega)) (jbytes (ty := .int) (by decide) hn) hc1 hc2 hd (fun q cA H1 hK1 hP1 hD1 hS1 => ?_)
  intro T1 hT1 X1
  have hq := jnew_q (hX rfl) X1 hT1 hP1 hD1
  subst hq
  have hA : cA = g_A G 0 := by
    have h1 : s.vm.findClass _ = some cA := (hK1.2 6 (cA, .int) rfl).2
    have h2 : s.vm.findClass _ = some (g_A G 0) := ((jC_K C).2 0 (g_A G 0, .int) rfl).2
    exact Option.some.inj (h1.symm.trans h2)
  subst hA
  rw [show (g_P G h.length, (Sum.inl (g_A G 0, n, .inl (fun _ => 0)) : va_E)) = (g_P G h.length, cE G (.inl (0, n, .inl (fun _ => 0)))) from rfl, ← cW_push] at hP1
  exact kk p e s m args below meth c H1 locs ls C hS1 ⟨hP1, jD_id (hX rfl).1 _⟩ hL (fun _ => ⟨(hX rfl).1, by rw [List.length_append]; have := (hX rfl).2; simp only [List.length_cons, List.length_nil]; omega⟩) T1 hT1 X1
theorem J_newZ {x : Int32} (n : Nat) (hd : decode (m_c M) pc = .ok (.newarray .boolean, 2)) (hw : Cond.arrayClass .boolean ∈ lw_all) (hx : x = nI n) (hn : n < 100000) (hc1 : kc + 1 ≤ R.cells) (hc2 : kn + n ≤ R.slots) (kk : J G R F M true (kc + 1) (kn + n) (pc + 2) lo (.ref h.length :: st) (h ++ [.inl (1, n, .inl (fun _ => 0))])) : J G R F M true kc kn pc lo (.int x :: st) h := by
  intro p e s m args below meth c H locs ls C hS hH hL hX
  subst hx
  refine va_newa (A := g_O G) (atype := .boolean) (ty := .boolean) (a0 := (n, .inl (fun _ => 0))) C.1 C.2.1 (jC_w C _ hw) rfl (jC_K C) hH.1 (cW_D hH.2) hS (jC_n C) (fun cA => rfl) (nI_pos (by omega)) (nI_clamp (by omega)) (jbytes (ty := .boolean) (by decide) hn) hc1 hc2 hd (fun q cA H1 hK1 hP1 hD1 hS1 => ?_)
  intro T1 hT1 X1
  have hq := jnew_q (hX rfl) X1 hT1 hP1 hD1
  subst hq
  have hA : cA = g_A G 1 := by
    have h1 : s.vm.findClass _ = some cA := (hK1.2 6 (cA, .boolean) rfl).2
    have h2 : s.vm.findClass _ = some (g_A G 1) := ((jC_K C).2 1 (g_A G 1, .boolean) rfl).2
    exact Option.some.inj (h1.symm.trans h2)
  subst hA
  rw [show (g_P G h.length, (Sum.inl (g_A G 1, n, .inl (fun _ => 0)) : va_E)) = (g_P G h.length, cE G (.inl (1, n, .inl (fun _ => 0)))) from rfl, ← cW_push] at hP1
  exact kk p e s m args below meth c H1 locs ls C hS1 ⟨hP1, jD_id (hX rfl).1 _⟩ hL (fun _ => ⟨(hX rfl).1, by rw [List.length_append]; have := (hX rfl).2; simp only [List.length_cons, List.length_nil]; omega⟩) T1 hT1 X1
theorem J_newC {x : Int32} (n : Nat) (hd : decode (m_c M) pc = .ok (.newarray .char, 2)) (hw : Cond.arrayClass .char ∈ lw_all) (hx : x = nI n) (hn : n < 100000) (hc1 : kc + 1 ≤ R.cells) (hc2 : kn + n ≤ R.slots) (kk : J G R F M true (kc + 1) (kn + n) (pc + 2) lo (.ref h.length :: st) (h ++ [.inl (2, n, .inl (fun _ => 0))])) : J G R F M true kc kn pc lo (.int x :: st) h := by
  intro p e s m args below meth c H locs ls C hS hH hL hX
  subst hx
  refine va_newa (A := g_O G) (atype := .char) (ty := .char) (a0 := (n, .inl (fun _ => 0))) C.1 C.2.1 (jC_w C _ hw) rfl (jC_K C) hH.1 (cW_D hH.2) hS (jC_n C) (fun cA => rfl) (nI_pos (by omega)) (nI_clamp (by omega)) (jbytes (ty := .char) (by decide) hn) hc1 hc2 hd (fun q cA H1 hK1 hP1 hD1 hS1 => ?_)
  intro T1 hT1 X1
  have hq := jnew_q (hX rfl) X1 hT1 hP1 hD1
  subst hq
  have hA : cA = g_A G 2 := by
    have h1 : s.vm.findClass _ = some cA := (hK1.2 6 (cA, .char) rfl).2
    have h2 : s.vm.findClass _ = some (g_A G 2) := ((jC_K C).2 2 (g_A G 2, .char) rfl).2
    exact Option.some.inj (h1.symm.trans h2)
  subst hA
  rw [show (g_P G h.length, (Sum.inl (g_A G 2, n, .inl (fun _ => 0)) : va_E)) = (g_P G h.length, cE G (.inl (2, n, .inl (fun _ => 0)))) from rfl, ← cW_push] at hP1
  exact kk p e s m args below meth c H1 locs ls C hS1 ⟨hP1, jD_id (hX rfl).1 _⟩ hL (fun _ => ⟨(hX rfl).1, by rw [List.length_append]; have := (hX rfl).2; simp only [List.length_cons, List.length_nil]; omega⟩) T1 hT1 X1
theorem J_newB {x : Int32} (n : Nat) (hd : decode (m_c M) pc = .ok (.newarray .byte, 2)) (hw : Cond.arrayClass .byte ∈ lw_all) (hx : x = nI n) (hn : n < 100000) (hc1 : kc + 1 ≤ R.cells) (hc2 : kn + n ≤ R.slots) (kk : J G R F M true (kc + 1) (kn + n) (pc + 2) lo (.ref h.length :: st) (h ++ [.inl (3, n, .inl (fun _ => 0))])) : J G R F M true kc kn pc lo (.int x :: st) h := by
  intro p e s m args below meth c H locs ls C hS hH hL hX
  subst hx
  refine va_newa (A := g_O G) (atype := .byte) (ty := .byte) (a0 := (n, .inl (fun _ => 0))) C.1 C.2.1 (jC_w C _ hw) rfl (jC_K C) hH.1 (cW_D hH.2) hS (jC_n C) (fun cA => rfl) (nI_pos (by omega)) (nI_clamp (by omega)) (jbytes (ty := .byte) (by decide) hn) hc1 hc2 hd (fun q cA H1 hK1 hP1 hD1 hS1 => ?_)
  intro T1 hT1 X1
  have hq := jnew_q (hX rfl) X1 hT1 hP1 hD1
  subst hq
  have hA : cA = g_A G 3 := by
    have h1 : s.vm.findClass _ = some cA := (hK1.2 6 (cA, .byte) rfl).2
    have h2 : s.vm.findClass _ = some (g_A G 3) := ((jC_K C).2 3 (g_A G 3, .byte) rfl).2
    exact Option.some.inj (h1.symm.trans h2)
  subst hA
  rw [show (g_P G h.length, (Sum.inl (g_A G 3, n, .inl (fun _ => 0)) : va_E)) = (g_P G h.length, cE G (.inl (3, n, .inl (fun _ => 0)))) from rfl, ← cW_push] at hP1
  exact kk p e s m args below meth c H1 locs ls C hS1 ⟨hP1, jD_id (hX rfl).1 _⟩ hL (fun _ => ⟨(hX rfl).1, by rw [List.length_append]; have := (hX rfl).2; simp only [List.length_cons, List.length_nil]; omega⟩) T1 hT1 X1
theorem J_newQ {x : Int32} {idx : Nat} (n : Nat) (hd : decode (m_c M) pc = .ok (.anewarray idx, 3)) (hw : Cond.classLink (m_y M).cls idx RX7 ∈ lw_all) (hx : x = nI n) (hn : n < 100000) (hc1 : kc + 1 ≤ R.cells) (hc2 : kn + n ≤ R.slots) (kk : J G R F M true (kc + 1) (kn + n) (pc + 3) lo (.ref h.length :: st) (h ++ [.inl (5, n, .inr (.inr (.inr (.inr (fun _ => none)))))])) : J G R F M true kc kn pc lo (.int x :: st) h := by
  intro p e s m args below meth c H locs ls C hS hH hL hX
  subst hx
  refine va_newq (A := g_O G) C.1 C.2.1 (jC_o C) (jC_w C _ hw) (jC_B C).2.2.2.2.2.2.1 (jC_K C) hH.1 (cW_D hH.2) hS (jC_n C) (nI_pos (by omega)) (nI_clamp (by omega)) (by omega) hc1 hc2 hd (fun q cA H1 hK1 hP1 hD1 hS1 => ?_)
  intro T1 hT1 X1
  have hq := jnew_q (hX rfl) X1 hT1 hP1 hD1
  subst hq
  have hA : cA = g_A G 5 := by
    obtain ⟨k1, c1, -, -, -, h1⟩ := (hK1.2 6 (cA, .object RX7) rfl).2
    obtain ⟨k2, c2, -, -, -, h2⟩ := ((jC_K C).2 5 (g_A G 5, .object RX7) rfl).2
    exact Option.some.inj (h1.symm.trans h2)
  subst hA
  rw [show (g_P G h.length, (Sum.inl (g_A G 5, n, .inr (.inr (.inr (.inr (fun _ => none))))) : va_E)) = (g_P G h.length, cE G (.inl (5, n, .inr (.inr (.inr (.inr (fun _ => none))))))) from rfl, ← cW_push] at hP1
  exact kk p e s m args below meth c H1 locs ls C hS1 ⟨hP1, jD_id (hX rfl).1 _⟩ hL (fun _ => ⟨(hX rfl).1, by rw [List.length_append]; have := (hX rfl).2; simp only [List.length_cons, List.length_nil]; omega⟩) T1 hT1 X1
theorem J_copy {idx a0 a1 n0 n1 : Nat} {f g : Nat → Int32} {x y z : Int32} (sp dp n : Nat) (hd : decode (m_c M) pc = .ok (.invokestatic idx, 3)) (hl : Cond.methodLink (m_y M).cls idx arraycopyName ∈ lw_all) (hw1 : Cond.native arraycopyName ∈ lw_all) (hw2 : Cond.static arraycopyName ∈ lw_all) (hw3 : Cond.initialized "java/lang/System" ∈ lw_all)
    (he0 : h[a0]? = some (.inl (0, n0, .inl f))) (he1 : h[a1]? = some (.inl (0, n1, .inl g))) (hx : x = nI sp) (hy : y = nI dp) (hz : z = nI n) (h4 : sp + n ≤ n0) (h5 : dp + n ≤ n1) (hn0 : n0 < 2 ^ 31 := by decide) (hn1 : n1 < 2 ^ 31 := by decide) (hfr : 1 ≤ R.frames) (hlc : (st.map fun v => v.category).sum + 18 ≤ R.locals)
    (kk : J G R F M X kc kn (pc + 3) lo st (h.set a1 (.inl (0, n1, .inl (va_cpy f g sp dp n))))) : J G R F M X kc kn pc lo (.int z :: .int y :: .ref a1 :: .int x :: .ref a0 :: st) h := by
  intro p e s m args below meth c H locs ls C hS hH hL hX
  subst hx; subst hy; subst hz
  refine va_copyi (A := g_O G) C.1 C.2.1 (by rw [C.2.2.2.1]; exact hL.1.symm) (jC_o C) (jC_w C _ hl) (jC_w C _ hw1) (jC_w C _ hw2) (jC_w C _ hw3) (jC_K C) hH.1 (cW_D hH.2) hS a0 a1 0 0 (cW_get he0) (cW_get he1) rfl rfl rfl (nI_pos (by omega)) (nI_pos (by omega)) (nI_pos (by omega)) (by rw [nI_clamp (by omega), nI_clamp (by omega)]; exact h4) (by rw [nI_clamp (by omega), nI_clamp (by omega)]; exact h5) (fun _ _ => rfl) hfr (by rw [jsum G (jC_X C)]; exact hlc) hd (fun H1 locs1 hP1 hD1 hS1 => ?_)
  rw [nI_clamp (by omega), nI_clamp (by omega), nI_clamp (by omega)] at hP1
  rw [show (g_P G a1, (Sum.inl (g_A G 0, n1, .inl (va_cpy f g sp dp n)) : va_E)) = (g_P G a1, cE G (.inl (0, n1, .inl (va_cpy f g sp dp n)))) from rfl, cW_set] at hP1
  exact kk p e s m args below meth c H1 locs1 ls C hS1 ⟨hP1, by rw [List.length_set]; exact hH.2⟩ hL (fun q => ⟨(hX q).1, by rw [(hX q).2, List.length_set]⟩)
theorem J_ldcI {idx : Nat} {v : Int32} (hd : decode (m_c M) pc = .ok (.ldc idx, 2)) (hw : Cond.constant (m_y M).cls idx v ∈ lw_all) (kk : J G R F M X kc kn (pc + 2) lo (.int v :: st) h) : J G R F M X kc kn pc lo st h := by
  intro p e s m args below meth c H locs ls C hS hH hL hX
  exact lv_ldc C.1 C.2.1 (jC_o C) (jC_w C _ hw) hd (kk p e s m args below meth c H locs ls C hS hH hL hX)
theorem J_ldcwI {idx : Nat} {v : Int32} (hd : decode (m_c M) pc = .ok (.ldc_w idx, 3)) (hw : Cond.constant (m_y M).cls idx v ∈ lw_all) (kk : J G R F M X kc kn (pc + 3) lo (.int v :: st) h) : J G R F M X kc kn pc lo st h := by
  intro p e s m args below meth c H locs ls C hS hH hL hX
  exact lv_ldcw C.1 C.2.1 (jC_o C) (jC_w C _ hw) hd (kk p e s m args below meth c H locs ls C hS hH hL hX)
theorem jB_S {s : State} (hB : jB G s) : ∀ (i : Nat) (q : jS_), jStr[i]? = some q → ∃ a v : Nat, g_X G (2 * i + 2) = .ref a ∧ g_X G (2 * i + 3) = .ref v ∧ vk_R q.1 q.2.1 q.2.2.1 a s ∧ vk_S 1 [q.2.2.2.1] [q.2.2.2.2] (fun _ => a) (fun _ => v) (g_O G) s s.heap := hB.2.2.2.2.2.2.2.2.2.1
theorem J_ldcS {idx i : Nat} {q : jS_} (hd : decode (m_c M) pc = .ok (.ldc idx, 2)) (hq : jStr[i]? = some q) (h1 : q.1 = (m_y M).cls) (h2 : q.2.1 = idx) (kk : J G R F M X kc kn (pc + 2) lo (.retAddr (2 * i + 2) :: st) h) : J G R F M X kc kn pc lo st h := by
  intro p e s m args below meth c H locs ls C hS hH hL hX
  obtain ⟨a, v, e1, e2, e3, e4⟩ := jB_S (jC_B C) i q hq
  have kk := kk p e s m args below meth c H locs ls C hS hH hL hX
  rw [h1, h2] at e3
  refine va_ldcS C.1 C.2.1 (jC_o C) e3 hd ?_
  rw [← e1]
  exact kk
theorem J_copyB {idx a0 a1 n0 n1 : Nat} {f g : Nat → Int32} {x y z : Int32} (sp dp n : Nat) (hd : decode (m_c M) pc = .ok (.invokestatic idx, 3)) (hl : Cond.methodLink (m_y M).cls idx arraycopyName ∈ lw_all) (hw1 : Cond.native arraycopyName ∈ lw_all) (hw2 : Cond.static arraycopyName ∈ lw_all) (hw3 : Cond.initialized "java/lang/System" ∈ lw_all)
    (he0 : h[a0]? = some (.inl (3, n0, .inl f))) (he1 : h[a1]? = some (.inl (3, n1, .inl g))) (hx : x = nI sp) (hy : y = nI dp) (hz : z = nI n) (hfit : ∀ i, fits .byte (.int (f i)) = true) (h4 : sp + n ≤ n0) (h5 : dp + n ≤ n1) (hn0 : n0 < 2 ^ 31 := by decide) (hn1 : n1 < 2 ^ 31 := by decide) (hfr : 1 ≤ R.frames) (hlc : (st.map fun v => v.category).sum + 18 ≤ R.locals)
    (kk : J G R F M X kc kn (pc + 3) lo st (h.set a1 (.inl (3, n1, .inl (va_cpy f g sp dp n))))) : J G R F M X kc kn pc lo (.int z :: .int y :: .ref a1 :: .int x :: .ref a0 :: st) h := by
  intro p e s m args below meth c H locs ls C hS hH hL hX
  subst hx; subst hy; subst hz
  refine va_copyi (A := g_O G) C.1 C.2.1 (by rw [C.2.2.2.1]; exact hL.1.symm) (jC_o C) (jC_w C _ hl) (jC_w C _ hw1) (jC_w C _ hw2) (jC_w C _ hw3) (jC_K C) hH.1 (cW_D hH.2) hS a0 a1 3 3 (cW_get he0) (cW_get he1) rfl rfl rfl (nI_pos (by omega)) (nI_pos (by omega)) (nI_pos (by omega)) (by rw [nI_clamp (by omega), nI_clamp (by omega)]; exact h4) (by rw [nI_clamp (by omega), nI_clamp (by omega)]; exact h5) (fun i _ => hfit _) hfr (by rw [jsum G (jC_X C)]; exact hlc) hd (fun H1 locs1 hP1 hD1 hS1 => ?_)
  rw [nI_clamp (by omega), nI_clamp (by omega), nI_clamp (by omega)] at hP1
  rw [show (g_P G a1, (Sum.inl (g_A G 3, n1, .inl (va_cpy f g sp dp n)) : va_E)) = (g_P G a1, cE G (.inl (3, n1, .inl (va_cpy f g sp dp n)))) from rfl, cW_set] at hP1
  exact kk p e s m args below meth c H1 locs1 ls C hS1 ⟨hP1, by rw [List.length_set]; exact hH.2⟩ hL (fun q => ⟨(hX q).1, by rw [(hX q).2, List.length_set]⟩)
theorem J_copyT {idx i a1 n1 : Nat} {q : jS_} {g : Nat → Int32} {x y z : Int32} (sp dp n : Nat) (hd : decode (m_c M) pc = .ok (.invokestatic idx, 3)) (hl : Cond.methodLink (m_y M).cls idx arraycopyName ∈ lw_all) (hw1 : Cond.native arraycopyName ∈ lw_all) (hw2 : Cond.static arraycopyName ∈ lw_all) (hw3 : Cond.initialized "java/lang/System" ∈ lw_all)
    (hq : jStr[i]? = some q) (he1 : h[a1]? = some (.inl (3, n1, .inl g))) (hx : x = nI sp) (hy : y = nI dp) (hz : z = nI n) (h4 : sp + n ≤ q.2.2.2.1) (h5 : dp + n ≤ n1) (hn0 : q.2.2.2.1 < 1000) (hn1 : n1 < 2 ^ 31) (hfit : ∀ b ∈ q.2.2.2.2, fits .byte (.int b) = true) (hfr : 1 ≤ R.frames) (hlc : (st.map fun v => v.category).sum + 18 ≤ R.locals)
    (kk : J G R F M X kc kn (pc + 3) lo st (h.set a1 (.inl (3, n1, .inl (va_cpy (fun j => q.2.2.2.2.getD j 0) g sp dp n))))) : J G R F M X kc kn pc lo (.int z :: .int y :: .ref a1 :: .int x :: .retAddr (2 * i + 3) :: st) h := by
  intro p e s m args below meth c H locs ls C hS hH hL hX
  subst hx; subst hy; subst hz
  obtain ⟨a, v, e1, e2, e3, e4⟩ := jB_S (jC_B C) i q hq
  have hX9 := (e4.1 0 Nat.zero_lt_one).2.2.2
  show W p (g_l G) e R s m args below meth c H locs kc kn (F below args s) (F0 m pc ls (.int (nI n) :: .int (nI dp) :: .ref (g_P G a1) :: .int (nI sp) :: g_X G (2 * i + 3) :: st.map (cV G)))
  rw [e2]
  refine vk_copyt (A := g_O G) (f := fun j => q.2.2.2.2.getD j 0) C.1 C.2.1 (by rw [C.2.2.2.1]; exact hL.1.symm) (jC_o C) (jC_w C _ hl) (jC_w C _ hw1) (jC_w C _ hw2) (jC_w C _ hw3) (jC_K C) hH.1 (cW_D hH.2) hS hX9 a1 3 (cW_get he1) rfl (nI_pos (by omega)) (nI_pos (by omega)) (nI_pos (by omega)) (by rw [nI_clamp (by omega), nI_clamp (by omega)]; exact h4) (by rw [nI_clamp (by omega), nI_clamp (by omega)]; exact h5) (fun j _ => ?_) hfr (by rw [jsum G (jC_X C)]; exact hlc) hd (fun H1 locs1 hP1 hD1 hS1 => ?_)
  · by_cases hj : (nI sp).toNatClampNeg + j < q.2.2.2.2.length
    · show fits .byte (.int (q.2.2.2.2.getD ((nI sp).toNatClampNeg + j) 0)) = true
      rw [List.getD_eq_getElem?_getD, List.getElem?_eq_getElem hj]
      exact hfit _ (List.getElem_mem hj)
    · show fits .byte (.int (q.2.2.2.2.getD ((nI sp).toNatClampNeg + j) 0)) = true
      rw [List.getD_eq_getElem?_getD, List.getElem?_eq_none (by omega)]
      rfl
  rw [nI_clamp (by omega), nI_clamp (by omega), nI_clamp (by omega)] at hP1
  rw [show (g_P G a1, (Sum.inl (g_A G 3, n1, .inl (va_cpy (fun j => q.2.2.2.2.getD j 0) g sp dp n)) : va_E)) = (g_P G a1, cE G (.inl (3, n1, .inl (va_cpy (fun j => q.2.2.2.2.getD j 0) g sp dp n)))) from rfl, cW_set] at hP1
  exact kk p e s m args below meth c H1 locs1 ls C hS1 ⟨hP1, by rw [List.length_set]; exact hH.2⟩ hL (fun q => ⟨(hX q).1, by rw [(hX q).2, List.length_set]⟩)
theorem J_dones {idx : Nat} (hd : decode (m_c M) pc = .ok (.getstatic idx, 3)) (hw : Cond.fieldLink (m_y M).cls idx "java/lang/Integer" "DigitOnes" "[B" ∈ lw_all) (kk : J G R F M X kc kn (pc + 3) lo (.retAddr 1000 :: st) h) : J G R F M X kc kn pc lo st h := by
  intro p e s m args below meth c H locs ls C hS hH hL hX
  obtain ⟨t, e0, e1, e2⟩ := (jC_B C).2.2.2.2.2.2.2.2.2.2.2.2.2.2.1
  have kk : W p (g_l G) e R s m args below meth c H locs kc kn (F below args s) (F0 m (pc + 3) ls (g_X G 1000 :: st.map (cV G))) := (kk p e s m args below meth c H locs ls C hS hH hL hX)
  rw [e0] at kk
  exact va_gets C.1 C.2.1 e1 hS (jC_o C) (jC_w C _ hw) (fun _ q => q) hd kk
theorem J_donesb {x : Int32} (j : Nat) (hd : decode (m_c M) pc = .ok (.baload, 1)) (hx : x = nI j) (hj : j < 100) (kk : J G R F M X kc kn (pc + 1) lo (.int (jDO j) :: st) h) : J G R F M X kc kn pc lo (.int x :: .retAddr 1000 :: st) h := by
  intro p e s m args below meth c H locs ls C hS hH hL hX
  subst hx
  obtain ⟨t, e0, e1, e2⟩ := (jC_B C).2.2.2.2.2.2.2.2.2.2.2.2.2.2.1
  show W p (g_l G) e R s m args below meth c H locs kc kn (F below args s) (F0 m pc ls (.int (nI j) :: g_X G 1000 :: st.map (cV G)))
  rw [e0]
  exact va_tb (v := .int (jDO j)) C.1 C.2.1 e2 hS (vp_in_nI hj (by decide)) (by rw [nI_clamp (by omega)]) hd (kk p e s m args below meth c H locs ls C hS hH hL hX)
theorem J_dtens {idx : Nat} (hd : decode (m_c M) pc = .ok (.getstatic idx, 3)) (hw : Cond.fieldLink (m_y M).cls idx "java/lang/Integer" "DigitTens" "[B" ∈ lw_all) (kk : J G R F M X kc kn (pc + 3) lo (.retAddr 1001 :: st) h) : J G R F M X kc kn pc lo st h := by
  intro p e s m args below meth c H locs ls C hS hH hL hX
  obtain ⟨t, e0, e1, e2⟩ := (jC_B C).2.2.2.2.2.2.2.2.2.2.2.2.2.2.2.1
  have kk : W p (g_l G) e R s m args below meth c H locs kc kn (F below args s) (F0 m (pc + 3) ls (g_X G 1001 :: st.map (cV G))) := (kk p e s m args below meth c H locs ls C hS hH hL hX)
  rw [e0] at kk
  exact va_gets C.1 C.2.1 e1 hS (jC_o C) (jC_w C _ hw) (fun _ q => q) hd kk
theorem J_dtensb {x : Int32} (j : Nat) (hd : decode (m_c M) pc = .ok (.baload, 1)) (hx : x = nI j) (hj : j < 100) (kk : J G R F M X kc kn (pc + 1) lo (.int (jDT j) :: st) h) : J G R F M X kc kn pc lo (.int x :: .retAddr 1001 :: st) h := by
  intro p e s m args below meth c H locs ls C hS hH hL hX
  subst hx
  obtain ⟨t, e0, e1, e2⟩ := (jC_B C).2.2.2.2.2.2.2.2.2.2.2.2.2.2.2.1
  show W p (g_l G) e R s m args below meth c H locs kc kn (F below args s) (F0 m pc ls (.int (nI j) :: g_X G 1001 :: st.map (cV G)))
  rw [e0]
  exact va_tb (v := .int (jDT j)) C.1 C.2.1 e2 hS (vp_in_nI hj (by decide)) (by rw [nI_clamp (by omega)]) hd (kk p e s m args below meth c H locs ls C hS hH hL hX)
theorem J_sval {idx i : Nat} {q : jS_} (hd : decode (m_c M) pc = .ok (.getfield idx, 3)) (hq : jStr[i]? = some q) (hw : Cond.fieldLink (m_y M).cls idx "java/lang/String" "value" "[B" ∈ lw_all) (kk : J G R F M X kc kn (pc + 3) lo (.retAddr (2 * i + 3) :: st) h) : J G R F M X kc kn pc lo (.retAddr (2 * i + 2) :: st) h := by
  intro p e s m args below meth c H locs ls C hS hH hL hX
  obtain ⟨a, v, e1, e2, e3, e4⟩ := jB_S (jC_B C) i q hq
  have kk : W p (g_l G) e R s m args below meth c H locs kc kn (F below args s) (F0 m (pc + 3) ls (g_X G (2 * i + 3) :: st.map (cV G))) := kk p e s m args below meth c H locs ls C hS hH hL hX
  show W p (g_l G) e R s m args below meth c H locs kc kn (F below args s) (F0 m pc ls (g_X G (2 * i + 2) :: st.map (cV G)))
  rw [e1]
  rw [e2] at kk
  exact vk_getf C.1 C.2.1 (e4.1 0 Nat.zero_lt_one).2.2.1 hS (jC_o C) (jC_w C _ hw) (fun _ q => q) hd kk
theorem J_scod {idx i : Nat} {q : jS_} (hd : decode (m_c M) pc = .ok (.getfield idx, 3)) (hq : jStr[i]? = some q) (hw : Cond.fieldLink (m_y M).cls idx "java/lang/String" "coder" "B" ∈ lw_all) (kk : J G R F M X kc kn (pc + 3) lo (.int 0 :: st) h) : J G R F M X kc kn pc lo (.retAddr (2 * i + 2) :: st) h := by
  intro p e s m args below meth c H locs ls C hS hH hL hX
  obtain ⟨a, v, e1, e2, e3, e4⟩ := jB_S (jC_B C) i q hq
  show W p (g_l G) e R s m args below meth c H locs kc kn (F below args s) (F0 m pc ls (g_X G (2 * i + 2) :: st.map (cV G)))
  rw [e1]
  exact vk_getf C.1 C.2.1 (e4.1 0 Nat.zero_lt_one).2.1 hS (jC_o C) (jC_w C _ hw) (fun _ q => q) hd (kk p e s m args below meth c H locs ls C hS hH hL hX)
theorem J_slen {i : Nat} {q : jS_} (hd : decode (m_c M) pc = .ok (.arraylength, 1)) (hq : jStr[i]? = some q) (kk : J G R F M X kc kn (pc + 1) lo (.int (Int32.ofNat q.2.2.2.1) :: st) h) : J G R F M X kc kn pc lo (.retAddr (2 * i + 3) :: st) h := by
  intro p e s m args below meth c H locs ls C hS hH hL hX
  obtain ⟨a, v, e1, e2, e3, e4⟩ := jB_S (jC_B C) i q hq
  obtain ⟨cell, g1, g2, g3, g4, g5, g6, g7⟩ := (e4.1 0 Nat.zero_lt_one).2.2.2.kept hS.2.1
  show W p (g_l G) e R s m args below meth c H locs kc kn (F below args s) (F0 m pc ls (g_X G (2 * i + 3) :: st.map (cV G)))
  rw [e2]
  exact W.alen C.1 C.2.1 g1 g2 g5 rfl rfl hd (kk p e s m args below meth c H locs ls C hS hH hL hX)
theorem J_sbald {i : Nat} {q : jS_} {x : Int32} (j : Nat) (hd : decode (m_c M) pc = .ok (.baload, 1)) (hq : jStr[i]? = some q) (hx : x = nI j) (hj : j < q.2.2.2.1) (hj2 : q.2.2.2.1 < 1000) (kk : J G R F M X kc kn (pc + 1) lo (.int (q.2.2.2.2.getD j 0) :: st) h) : J G R F M X kc kn pc lo (.int x :: .retAddr (2 * i + 3) :: st) h := by
  intro p e s m args below meth c H locs ls C hS hH hL hX
  subst hx
  obtain ⟨a, v, e1, e2, e3, e4⟩ := jB_S (jC_B C) i q hq
  obtain ⟨cell, g1, g2, g3, g4, g5, g6, g7⟩ := (e4.1 0 Nat.zero_lt_one).2.2.2.kept hS.2.1
  show W p (g_l G) e R s m args below meth c H locs kc kn (F below args s) (F0 m pc ls (.int (nI j) :: g_X G (2 * i + 3) :: st.map (cV G)))
  rw [e2]
  have g6 := g6 j hj
  refine W.bald C.1 C.2.1 g1 g2 g3 (fun z => ?_) (v := .int (q.2.2.2.2.getD j 0)) (by rw [nI_clamp (by omega)]; exact g6) rfl rfl hd (kk p e s m args below meth c H locs ls C hS hH hL hX)
  rcases z with z | z
  · exact nI_pos (by omega) z
  · rw [nI_clamp (by omega)] at z
    have g4 : q.2.2.2.1 ≤ cell.slots.size := g4
    omega
theorem J_compact {idx : Nat} (hd : decode (m_c M) pc = .ok (.getstatic idx, 3)) (hw : Cond.fieldLink (m_y M).cls idx "java/lang/String" "COMPACT_STRINGS" "Z" ∈ lw_all) (kk : J G R F M X kc kn (pc + 3) lo (.int 1 :: st) h) : J G R F M X kc kn pc lo st h := by
  intro p e s m args below meth c H locs ls C hS hH hL hX
  exact va_gets C.1 C.2.1 (jC_B C).2.2.2.2.2.2.2.2.2.2.1 hS (jC_o C) (jC_w C _ hw) (fun _ q => q) hd (kk p e s m args below meth c H locs ls C hS hH hL hX)
theorem J_sioobe {idx : Nat} (hd : decode (m_c M) pc = .ok (.getstatic idx, 3)) (hw : Cond.fieldLink (m_y M).cls idx "jdk/internal/util/Preconditions" "SIOOBE_FORMATTER" "Ljava/util/function/BiFunction;" ∈ lw_all) (kk : J G R F M X kc kn (pc + 3) lo (.retAddr 1 :: st) h) : J G R F M X kc kn pc lo st h := by
  intro p e s m args below meth c H locs ls C hS hH hL hX
  exact va_gets C.1 C.2.1 (jC_B C).2.2.2.2.2.2.2.2.2.2.2.1 hS (jC_o C) (jC_w C _ hw) (fun _ q => q) hd (kk p e s m args below meth c H locs ls C hS hH hL hX)
theorem jB_b {s : State} (hB : jB G s) : ∃ b, g_X G 0 = .ref b ∧ b < g_n G ∧ va_X b (g_L G) (g_S G) s s.heap := hB.2.2.2.2.2.2.2.2.2.2.2.2.2.1
theorem J_xlen (hd : decode (m_c M) pc = .ok (.arraylength, 1)) (kk : J G R F M X kc kn (pc + 1) lo (.int (nI (g_L G)) :: st) h) : J G R F M X kc kn pc lo (.retAddr 0 :: st) h := by
  intro p e s m args below meth c H locs ls C hS hH hL hX
  obtain ⟨b, e1, e2, e3⟩ := jB_b (jC_B C)
  show W p (g_l G) e R s m args below meth c H locs kc kn (F below args s) (F0 m pc ls (g_X G 0 :: st.map (cV G)))
  rw [e1]
  exact va_slen C.1 C.2.1 e3 (Nat.lt_of_lt_of_le e2 (jC_B C).1) (Nat.not_le.mpr e2) hS hd (kk p e s m args below meth c H locs ls C hS hH hL hX)
theorem J_xald {x : Int32} (j : Nat) (hd : decode (m_c M) pc = .ok (.iaload, 1)) (hx : x = nI j) (hj : j < g_L G) (hj2 : g_L G < 2 ^ 31) (kk : J G R F M X kc kn (pc + 1) lo (.int (g_S G j) :: st) h) : J G R F M X kc kn pc lo (.int x :: .retAddr 0 :: st) h := by
  intro p e s m args below meth c H locs ls C hS hH hL hX
  subst hx
  obtain ⟨b, e1, e2, e3⟩ := jB_b (jC_B C)
  have kk := kk p e s m args below meth c H locs ls C hS hH hL hX
  show W p (g_l G) e R s m args below meth c H locs kc kn (F below args s) (F0 m pc ls (.int (nI j) :: g_X G 0 :: st.map (cV G)))
  rw [e1]
  refine va_sld C.1 C.2.1 e3 (Nat.lt_of_lt_of_le e2 (jC_B C).1) (Nat.not_le.mpr e2) hS (vp_in_nI hj hj2) hd ?_
  rw [nI_clamp (by omega)]
  exact kk
theorem J_objInit {idx i : Nat} (hd : decode (m_c M) pc = .ok (.invokespecial idx, 3)) (hw1 : Cond.methodLink (m_y M).cls idx objectInit ∈ lw_all) (hw2 : Cond.instanceMethod objectInit ∈ lw_all) (hw3 : Cond.code objectInit ⟨#[0xb1]⟩ 1 none ∈ lw_all) (hfr : 1 ≤ R.frames) (hlc : (st.map fun v => v.category).sum + 12 ≤ R.locals) (kk : J G R F M X kc kn (pc + 3) lo st h) : J G R F M X kc kn pc lo (.ref i :: st) h := by
  intro p e s m args below meth c H locs ls C hS hH hL hX
  refine W.objInit (g := F0 m pc ls (.ref (g_P G i) :: st.map (cV G))) C.1 C.2.1 (jC_o C) (jC_w C _ hw1) (jC_w C _ hw2) (jC_w C _ hw3) rfl (by rw [C.2.2.2.1]; exact hL.1) rfl hd hfr (by rw [jsum G (jC_X C)]; exact Nat.le_trans (Nat.le_of_eq (by simp [JFrame.monitorRoom])) hlc) ?_
  exact kk p e s m args below meth c H locs ls C hS hH hL hX
end JOBJ
