/-! ===== the abstract machine: a heap as a list of cells (a reference is a place in it), one judgement J over every concrete state that it pictures ===== -/
/-- a cell: an array (its kind, its contents) or an object (its class, its fields) -/
abbrev jC : Type := (Nat × vp_A) ⊕ (Nat × List Value)
abbrev jH : Type := List jC
/-- launch, the first own address, the classes' numbers and slots, the array classes, what lies outside, the script, where the places lie -/
abbrev jG : Type := Launch × Nat × va_G × (Nat → ClassId) × (Nat → Value) × Nat × (Nat → Int32) × (Nat → Nat)
abbrev g_l (G : jG) : Launch := G.1
abbrev g_n (G : jG) : Nat := G.2.1
abbrev g_D (G : jG) : va_G := G.2.2.1
abbrev g_A (G : jG) : Nat → ClassId := G.2.2.2.1
abbrev g_X (G : jG) : Nat → Value := G.2.2.2.2.1
abbrev g_L (G : jG) : Nat := G.2.2.2.2.2.1
abbrev g_S (G : jG) : Nat → Int32 := G.2.2.2.2.2.2.1
abbrev g_P (G : jG) : Nat → Nat := G.2.2.2.2.2.2.2
abbrev g_O (G : jG) : Nat → Prop := fun q => g_n G ≤ q
def cV (G : jG) : Value → Value
  | .int x => .int x
  | .long x => .long x
  | .float x => .float x
  | .double x => .double x
  | .null => .null
  | .ref i => .ref (g_P G i)
  | .retAddr k => g_X G k
def cA (G : jG) (a : vp_A) : vp_A := (a.1, match a.2 with
  | .inl f => .inl f
  | .inr (.inl f) => .inr (.inl f)
  | .inr (.inr (.inl f)) => .inr (.inr (.inl f))
  | .inr (.inr (.inr (.inl f))) => .inr (.inr (.inr (.inl f)))
  | .inr (.inr (.inr (.inr f))) => .inr (.inr (.inr (.inr (fun j => (f j).map (g_P G))))))
def cE (G : jG) : jC → va_E
  | .inl (k, a) => .inl (g_A G k, cA G a)
  | .inr (ci, fs) => .inr (ci, fs.map (cV G))
def cWf (G : jG) : Nat → jH → va_W
  | _, [] => []
  | k, c :: r => (g_P G k, cE G c) :: cWf G (k + 1) r
def cW (G : jG) (h : jH) : va_W := cWf G 0 h
theorem cWf_get (G : jG) : ∀ (h : jH) (k i : Nat), (cWf G k h)[i]? = (h[i]?).map (fun c => (g_P G (k + i), cE G c))
  | [], k, i => by simp [cWf]
  | c :: r, k, 0 => by simp [cWf]
  | c :: r, k, i + 1 => by
    have := cWf_get G r (k + 1) i
    simp only [cWf, List.getElem?_cons_succ, this]
    rw [show k + 1 + i = k + (i + 1) by omega]
theorem cW_get {G : jG} {h : jH} {i : Nat} {c : jC} (hc : h[i]? = some c) : (cW G h)[i]? = some (g_P G i, cE G c) := by
  unfold cW
  rw [cWf_get, hc]
  simp
theorem cWf_set (G : jG) : ∀ (h : jH) (k i : Nat) (c : jC), (cWf G k h).set i (g_P G (k + i), cE G c) = cWf G k (h.set i c)
  | [], k, i, c => by simp [cWf]
  | d :: r, k, 0, c => by simp [cWf]
  | d :: r, k, i + 1, c => by
    have := cWf_set G r (k + 1) i c
    simp only [cWf, List.set_cons_succ]
    rw [← this, show k + 1 + i = k + (i + 1) by omega]
theorem cW_set (G : jG) (h : jH) (i : Nat) (c : jC) : (cW G h).set i (g_P G i, cE G c) = cW G (h.set i c) := by
  have := cWf_set G h 0 i c
  rw [Nat.zero_add] at this
  exact this
theorem cWf_push (G : jG) : ∀ (h : jH) (k : Nat) (c : jC), cWf G k (h ++ [c]) = cWf G k h ++ [(g_P G (k + h.length), cE G c)]
  | [], k, c => by simp [cWf]
  | d :: r, k, c => by
    have := cWf_push G r (k + 1) c
    simp only [cWf, List.cons_append, this, List.length_cons]
    rw [show k + 1 + r.length = k + (r.length + 1) by omega]
theorem cW_push (G : jG) (h : jH) (c : jC) : cW G (h ++ [c]) = cW G h ++ [(g_P G h.length, cE G c)] := by
  have := cWf_push G h 0 c
  rw [Nat.zero_add] at this
  exact this
/-- the first n places lie apart, in the own area -/
def jD (G : jG) (n : Nat) : Prop := (∀ i j, i < n → j < n → g_P G i = g_P G j → i = j) ∧ ∀ i, i < n → g_n G ≤ g_P G i
theorem cW_len (G : jG) (h : jH) : (cW G h).length = h.length := by
  have key : ∀ (k : Nat) (h : jH), (cWf G k h).length = h.length := by
    intro k h
    induction h generalizing k with
    | nil => rfl
    | cons c r ih => simp [cWf, ih]
  exact key 0 h
theorem cW_key {G : jG} {h : jH} {i : Nat} {p : Nat × va_E} (hp : (cW G h)[i]? = some p) : i < h.length ∧ p.1 = g_P G i := by
  have h1 := (List.getElem?_eq_some_iff.mp hp).1
  rw [cW_len] at h1
  refine ⟨h1, ?_⟩
  unfold cW at hp
  rw [cWf_get, Nat.zero_add] at hp
  cases hc : h[i]? with
  | none => rw [hc] at hp; cases hp
  | some c => rw [hc] at hp; cases hp; rfl
theorem cW_D {G : jG} {h : jH} (hD : jD G h.length) : va_D (g_O G) (cW G h) := by
  refine ⟨fun i j p q hi hj e => ?_, fun i p hi => ?_⟩
  · have h1 := cW_key hi
    have h2 := cW_key hj
    exact hD.1 i j h1.1 h2.1 (by rw [← h1.2, ← h2.2]; exact e)
  · have h1 := cW_key hi
    show g_n G ≤ p.1
    rw [h1.2]
    exact hD.2 i h1.1
theorem jD_id {G : jG} (hP : ∀ i, g_P G i = g_n G + i) (n : Nat) : jD G n := ⟨fun i j _ _ e => by rw [hP, hP] at e; omega, fun i _ => by rw [hP]; omega⟩
/-- the classes of the worlds, by their numbers -/
abbrev jcl : List vw_C := [(RX0, TX0, 2), (RX1, TX1, 3), (RX2, TX2, 3), (RX3, TX3, 2), (RX4, TX4, 6), (RX5, TX5, 4), (RX6, TX6, 8), (RX7, TX7, 3), (RX8, TX8, 6), (RX9, TX9, 6), (RX10, TX10, 9), (RJ4, TJ4, 4), (RJ0, TJ0, 4)]
/-- the kinds of arrays: int, boolean, char, byte, int again, State -/
abbrev jT (G : jG) : List (ClassId × FieldType) := [(g_A G 0, .int), (g_A G 1, .boolean), (g_A G 2, .char), (g_A G 3, .byte), (g_A G 4, .int), (g_A G 5, .object RX7)]
/-- the words that a method gets on -/
def lw_all : List Cond := lw_tbl.filter goodWord
theorem lw_all_tbl {w : Cond} (h : w ∈ lw_all) : w ∈ lw_tbl := (List.mem_filter.mp h).1
theorem lw_all_good {w : Cond} (h : w ∈ lw_all) : goodWord w = true := (List.mem_filter.mp h).2
theorem lw_in {w : Cond} (i : Nat) (h : lw_tbl[i]? = some w) (hg : goodWord w = true) : w ∈ lw_all := List.mem_filter.mpr ⟨List.mem_of_getElem? h, hg⟩
theorem lw_GoodIn {ws : List Cond} (h : ∀ w ∈ ws, w ∈ lw_all) : GoodIn lw_all ws := fun w hw => ⟨h w hw, good_of_word (lw_all_good (h w hw))⟩
/-- a method: name, code, locals, what it returns, its handlers (none: nothing is known of them) -/
abbrev jM : Type := MethodName × ByteArray × Nat × Option FieldType × Option (List (Nat × Nat × Nat × Nat))
abbrev m_y (M : jM) : MethodName := M.1
abbrev m_c (M : jM) : ByteArray := M.2.1
abbrev m_n (M : jM) : Nat := M.2.2.1
abbrev m_r (M : jM) : Option FieldType := M.2.2.2.1
abbrev m_h (M : jM) : Option (List (Nat × Nat × Nat × Nat)) := M.2.2.2.2
def jw (M : jM) : Cond := match m_h M with
  | some (x :: xs) => .codeWith (m_y M) (m_c M) (m_n M) (m_r M) (x :: xs)
  | _ => .code (m_y M) (m_c M) (m_n M) (m_r M)
def jws (M : jM) : List Cond := jw M :: lw_all
/-- the String constants: owner, place in its pool, text, length, bytes -/
abbrev jS_ : Type := String × Nat × String × Nat × List Int32
/-- a table of the digits: where the static points, what stands there -/
def jDO : Nat → Int32 := fun j => nI (48 + j % 10)
def jDT : Nat → Int32 := fun j => nI (48 + j / 10)
def jDg (G : jG) (k : Nat) (nm : String) (f : Nat → Int32) (s : State) : Prop := ∃ t : Nat, g_X G k = .ref t ∧ va_Z "java/lang/Integer" nm "[B" (.ref t) (g_O G) s s.heap ∧ va_T .byte t 100 (fun j => .int (f j)) (g_O G) s s.heap
theorem jDg_moved {G : jG} {k : Nat} {nm : String} {f : Nat → Int32} {s U : State} (h : jDg G k nm f s) (hW : s.WarmedH U.vm) (hk : ∀ q : Nat, q < s.heap.size → ¬ g_O G q → U.heap[q]? = s.heap[q]?) : jDg G k nm f U := by
  obtain ⟨t, h0, h1, h2⟩ := h
  exact ⟨t, h0, va_Z.moved hW.alike (h1.kept hk), va_T.moved hW.alike (h2.kept hk)⟩
/-- private methods that are called on a StringBuilder by AbstractStringBuilder's name -/
def jPriv : List MethodName := [⟨"java/lang/AbstractStringBuilder", "ensureCapacityInternal", "(I)V"⟩, ⟨"java/lang/AbstractStringBuilder", "newCapacity", "(I)I"⟩, ⟨"java/lang/AbstractStringBuilder", "putStringAt", "(ILjava/lang/String;)V"⟩, ⟨"java/lang/AbstractStringBuilder", "inflateIfNeededFor", "(Ljava/lang/String;)V"⟩]
/-- links of private members of nest mates -/
def jNest : List (String × Nat × MethodName × String) := [("TrailGuide$Guide", 63, ⟨"TrailGuide", "areCoordinates", "(II)Z"⟩, "TrailGuide"), ("TrailGuide$Guide", 46, ⟨"TrailGuide", "isWithin", "(III)Z"⟩, "TrailGuide"), ("TrailGuide$Paths", 25, ⟨"TrailGuide", "isWithin", "(III)Z"⟩, "TrailGuide"), ("TrailGuide$History", 18, ⟨"TrailGuide", "isWithin", "(III)Z"⟩, "TrailGuide"), ("TrailGuide", 11, ⟨"TrailGuide$Guide", "<init>", "()V"⟩, "TrailGuide"), ("TrailGuide$Guide", 11, ⟨"TrailGuide$State", "<init>", "()V"⟩, "TrailGuide"), ("TrailGuide$State", 9, ⟨"TrailGuide$TrailMap", "<init>", "()V"⟩, "TrailGuide"), ("TrailGuide$State", 18, ⟨"TrailGuide$Tour", "<init>", "()V"⟩, "TrailGuide"), ("TrailGuide$State", 25, ⟨"TrailGuide$Meter", "<init>", "()V"⟩, "TrailGuide"), ("TrailGuide$Guide", 20, ⟨"TrailGuide$Paths", "<init>", "()V"⟩, "TrailGuide"), ("TrailGuide$Guide", 27, ⟨"TrailGuide$Drift", "<init>", "()V"⟩, "TrailGuide"), ("TrailGuide$History", 17, ⟨"TrailGuide$State", "<init>", "()V"⟩, "TrailGuide"), ("TrailGuide", 25, ⟨"TrailGuide$State", "<init>", "()V"⟩, "TrailGuide"), ("TrailGuide", 35, ⟨"TrailGuide$Program", "<init>", "()V"⟩, "TrailGuide"), ("TrailGuide", 42, ⟨"TrailGuide$Line", "<init>", "()V"⟩, "TrailGuide"), ("TrailGuide$Program", 29, ⟨"TrailGuide", "isWithin", "(III)Z"⟩, "TrailGuide")]
def jCast : List (String × String) := [("java/lang/IndexOutOfBoundsException", "java/lang/IndexOutOfBoundsException"), ("java/lang/IllegalArgumentException", "java/lang/IllegalArgumentException"), ("java/lang/IllegalStateException", "java/lang/IllegalStateException"), ("java/util/NoSuchElementException", "java/util/NoSuchElementException"), ("java/lang/UnsupportedOperationException", "java/lang/UnsupportedOperationException")]
def jDecl : List MethodName := [⟨"java/lang/RuntimeException", "<init>", "()V"⟩, ⟨"java/lang/RuntimeException", "<init>", "(Ljava/lang/String;)V"⟩, ⟨"java/lang/Exception", "<init>", "()V"⟩, ⟨"java/lang/Exception", "<init>", "(Ljava/lang/String;)V"⟩, ⟨"java/lang/Throwable", "<init>", "()V"⟩, ⟨"java/lang/Throwable", "<init>", "(Ljava/lang/String;)V"⟩]
def jNoCast : List (String × String) := [("java/lang/IllegalArgumentException", "java/lang/IndexOutOfBoundsException"), ("java/lang/IllegalStateException", "java/lang/IndexOutOfBoundsException"), ("java/util/NoSuchElementException", "java/lang/IndexOutOfBoundsException"), ("java/lang/UnsupportedOperationException", "java/lang/IndexOutOfBoundsException"), ("java/lang/IndexOutOfBoundsException", "java/lang/IllegalArgumentException"), ("java/lang/IllegalStateException", "java/lang/IllegalArgumentException"), ("java/util/NoSuchElementException", "java/lang/IllegalArgumentException"), ("java/lang/UnsupportedOperationException", "java/lang/IllegalArgumentException"), ("java/lang/IndexOutOfBoundsException", "java/lang/IllegalStateException"), ("java/lang/IllegalArgumentException", "java/lang/IllegalStateException"), ("java/util/NoSuchElementException", "java/lang/IllegalStateException"), ("java/lang/UnsupportedOperationException", "java/lang/IllegalStateException"), ("java/lang/IndexOutOfBoundsException", "java/util/NoSuchElementException"), ("java/lang/IllegalArgumentException", "java/util/NoSuchElementException"), ("java/lang/IllegalStateException", "java/util/NoSuchElementException"), ("java/lang/UnsupportedOperationException", "java/util/NoSuchElementException"), ("java/lang/IndexOutOfBoundsException", "java/lang/UnsupportedOperationException"), ("java/lang/IllegalArgumentException", "java/lang/UnsupportedOperationException"), ("java/lang/IllegalStateException", "java/lang/UnsupportedOperationException"), ("java/util/NoSuchElementException", "java/lang/UnsupportedOperationException")]
def jStr : List (String × Nat × String × Nat × List Int32) := [("TrailGuide", 345, "no such waypoint", 16, [110, 111, 32, 115, 117, 99, 104, 32, 119, 97, 121, 112, 111, 105, 110, 116]),
  ("TrailGuide", 347, "an argument is out of range", 27, [97, 110, 32, 97, 114, 103, 117, 109, 101, 110, 116, 32, 105, 115, 32, 111, 117, 116, 32, 111, 102, 32, 114, 97, 110, 103, 101]),
  ("TrailGuide", 349, "not possible in this state", 26, [110, 111, 116, 32, 112, 111, 115, 115, 105, 98, 108, 101, 32, 105, 110, 32, 116, 104, 105, 115, 32, 115, 116, 97, 116, 101]),
  ("TrailGuide", 351, "no such trail or path", 21, [110, 111, 32, 115, 117, 99, 104, 32, 116, 114, 97, 105, 108, 32, 111, 114, 32, 112, 97, 116, 104]),
  ("TrailGuide", 353, "the battery is empty", 20, [116, 104, 101, 32, 98, 97, 116, 116, 101, 114, 121, 32, 105, 115, 32, 101, 109, 112, 116, 121]),
  ("TrailGuide", 359, "no path between the waypoints", 29, [110, 111, 32, 112, 97, 116, 104, 32, 98, 101, 116, 119, 101, 101, 110, 32, 116, 104, 101, 32, 119, 97, 121, 112, 111, 105, 110, 116, 115]),
  ("TrailGuide", 364, "a coordinate is out of range", 28, [97, 32, 99, 111, 111, 114, 100, 105, 110, 97, 116, 101, 32, 105, 115, 32, 111, 117, 116, 32, 111, 102, 32, 114, 97, 110, 103, 101]),
  ("TrailGuide", 142, "no waypoints", 12, [110, 111, 32, 119, 97, 121, 112, 111, 105, 110, 116, 115]),
  ("TrailGuide", 366, "no tour", 7, [110, 111, 32, 116, 111, 117, 114]),
  ("TrailGuide", 320, "no change can be undone", 23, [110, 111, 32, 99, 104, 97, 110, 103, 101, 32, 99, 97, 110, 32, 98, 101, 32, 117, 110, 100, 111, 110, 101]),
  ("TrailGuide", 325, "no state was saved", 18, [110, 111, 32, 115, 116, 97, 116, 101, 32, 119, 97, 115, 32, 115, 97, 118, 101, 100]),
  ("TrailGuideLaw", 153, "move ", 5, [109, 111, 118, 101, 32]),
  ("TrailGuideLaw", 162, ",", 1, [44]),
  ("TrailGuideLaw", 164, ";stop", 5, [59, 115, 116, 111, 112]),
  ("TrailGuideLaw", 166, ";mode f;limit ", 14, [59, 109, 111, 100, 101, 32, 102, 59, 108, 105, 109, 105, 116, 32]),
  ("java/util/Arrays", 337, " > ", 3, [32, 62, 32]),
  ("TrailGuideLaw", 172, ";cut ", 5, [59, 99, 117, 116, 32]),
  ("TrailGuideLaw", 174, "-", 1, [45]),
  ("TrailGuideLaw", 176, ";trail ", 7, [59, 116, 114, 97, 105, 108, 32]),
  ("TrailGuideLaw", 178, "=", 1, [61]),
  ("TrailGuide", 278, "the program buffer is full", 26, [116, 104, 101, 32, 112, 114, 111, 103, 114, 97, 109, 32, 98, 117, 102, 102, 101, 114, 32, 105, 115, 32, 102, 117, 108, 108]),
  ("TrailGuide$Program", 33, "point N,N,D", 11, [112, 111, 105, 110, 116, 32, 78, 44, 78, 44, 68]),
  ("TrailGuide$Program", 35, "trail N-N=N", 11, [116, 114, 97, 105, 108, 32, 78, 45, 78, 61, 78]),
  ("TrailGuide$Program", 37, "cut N-N", 7, [99, 117, 116, 32, 78, 45, 78]),
  ("TrailGuide$Program", 39, "tour N>N", 8, [116, 111, 117, 114, 32, 78, 62, 78]),
  ("TrailGuide$Program", 41, "mode M", 6, [109, 111, 100, 101, 32, 77]),
  ("TrailGuide$Program", 43, "limit N", 7, [108, 105, 109, 105, 116, 32, 78]),
  ("TrailGuide$Program", 45, "charge N", 8, [99, 104, 97, 114, 103, 101, 32, 78]),
  ("TrailGuide$Program", 47, "move N,N", 8, [109, 111, 118, 101, 32, 78, 44, 78]),
  ("TrailGuide$Program", 49, "stop", 4, [115, 116, 111, 112]),
  ("TrailGuide", 296, "not a program", 13, [110, 111, 116, 32, 97, 32, 112, 114, 111, 103, 114, 97, 109]),
  ("TrailGuide", 308, "a command failed", 16, [97, 32, 99, 111, 109, 109, 97, 110, 100, 32, 102, 97, 105, 108, 101, 100]),
  ("TrailGuide", 371, "no such index in the route", 26, [110, 111, 32, 115, 117, 99, 104, 32, 105, 110, 100, 101, 120, 32, 105, 110, 32, 116, 104, 101, 32, 114, 111, 117, 116, 101]),
  ("TrailGuide", 97, "no trail between the waypoints", 30, [110, 111, 32, 116, 114, 97, 105, 108, 32, 98, 101, 116, 119, 101, 101, 110, 32, 116, 104, 101, 32, 119, 97, 121, 112, 111, 105, 110, 116, 115])]
/-- what holds of every start: the tables beyond the good words, the statics, the String constants, the script -/
def jB (G : jG) (s : State) : Prop :=
  g_n G ≤ s.heap.size ∧ (g_l G).stackTraces = false ∧ va_K (g_D G) jcl (jT G) s ∧
  vx_Zq Bundle.tN "UNASSIGNED_STACK" Bundle.steD (g_O G) s s.heap ∧ vx_Zq Bundle.tN "SUPPRESSED_SENTINEL" Bundle.listD (g_O G) s s.heap ∧
  (∀ q ∈ jNest, va_Nw (.methodLinkNest q.1 q.2.1 q.2.2.1 q.2.2.2) s) ∧ va_AO RX7 s ∧ ((∀ q ∈ jCast, va_Nw (.castable q.1 q.2) s) ∧ ∀ y ∈ jDecl, va_Nw (.declares y) s) ∧ (∀ q ∈ jNoCast, va_Nc q.1 q.2 s) ∧
  (∀ (i : Nat) (q : jS_), jStr[i]? = some q → ∃ a v : Nat, g_X G (2 * i + 2) = .ref a ∧ g_X G (2 * i + 3) = .ref v ∧ vk_R q.1 q.2.1 q.2.2.1 a s ∧ vk_S 1 [q.2.2.2.1] [q.2.2.2.2] (fun _ => a) (fun _ => v) (g_O G) s s.heap) ∧
  va_Z "java/lang/String" "COMPACT_STRINGS" "Z" (.int 1) (g_O G) s s.heap ∧ va_Z "jdk/internal/util/Preconditions" "SIOOBE_FORMATTER" "Ljava/util/function/BiFunction;" (g_X G 1) (g_O G) s s.heap ∧
  (∀ k, g_X G k = .null ∨ ∃ a, g_X G k = .ref a) ∧ (∃ b, g_X G 0 = .ref b ∧ b < g_n G ∧ va_X b (g_L G) (g_S G) s s.heap) ∧ jDg G 1000 "DigitOnes" jDO s ∧ jDg G 1001 "DigitTens" jDT s ∧ (∀ y ∈ jPriv, va_Nw (.selects RJ4 y y) s)
theorem jB_moved {G : jG} {s U : State} (h : jB G s) (hW : s.WarmedH U.vm) (hz : s.heap.size ≤ U.heap.size) (hk : ∀ q : Nat, q < s.heap.size → ¬ g_O G q → U.heap[q]? = s.heap[q]?) : jB G U := by
  obtain ⟨h1, h2, h3, h4, h5, h6, h7, h8, h9, h10, h11, h12, h13, ⟨b, h14, h15, h16⟩, h17, h18, h19⟩ := h
  refine ⟨Nat.le_trans h1 hz, h2, h3.moved hW.alike, vx_Zq.moved hW.alike (h4.kept hk), vx_Zq.moved hW.alike (h5.kept hk), fun q hq => (h6 q hq).warmM hW, h7.moved hW.alike, ⟨fun q hq => (h8.1 q hq).warmC hW, fun y hy => (h8.2 y hy).warmD hW⟩, fun q hq => (h9 q hq).moved hW.alike, fun i q hq => ?_, va_Z.moved hW.alike (h11.kept hk), va_Z.moved hW.alike (h12.kept hk), h13, ⟨b, h14, h15, ?_⟩, jDg_moved h17 hW hk, jDg_moved h18 hW hk, fun y hy => word_at hW (Or.inl (by first | rfl | simp [Cond.onTables, Cond.keeps, Cond.steady])) (h19 y hy)⟩
  · obtain ⟨a, v, e1, e2, e3, e4⟩ := h10 i q hq
    exact ⟨a, v, e1, e2, e3.warm hW, vk_S.moved hW.alike (e4.kept hk)⟩
  · exact va_X.moved hW.alike (h16.kept (hk b (Nat.lt_of_lt_of_le h15 h1) (Nat.not_le.mpr h15)))
/-- the concrete heap holds the abstract one -/
def HR (G : jG) (h : jH) (H : Heap) : Prop := va_P (g_D G) jcl (cW G h) H ∧ jD G h.length
/-- the locals: by their places; none: nothing is known -/
def jLs (G : jG) (n : Nat) (lo : List (Option Value)) (ls : Array Slot) : Prop := ls.size = n ∧ lv_wf ls ∧ ∀ (i : Nat) (v : Value), lo[i]? = some (some v) → ls[i]? = some (.val (cV G v))
def jCtx (G : jG) (M : jM) (p : Program) (s : State) (m : MethodId) (args : Array Value) (meth : Method) (c : Code) : Prop :=
  p.tables.exec = Jvm.exec ∧ c.code = m_c M ∧ meth.sig.returnType = m_r M ∧ c.maxLocals = m_n M ∧ s.vm.findClass (m_y M).cls = some m.cls ∧ (∀ w ∈ lw_all, w.before args s = true) ∧ meth.locks = false ∧
  ((m_y M).name = "<init>" → meth.name = "<init>") ∧ (∀ hh, m_h M = some hh → c.exceptionTable.toList = tableOf hh) ∧ jB G s
abbrev jF : Type := List Frame → Array Value → State → State → Prop
/-- from pc on, with these locals, this stack, this heap, the machine comes to an end of the kind F -/
def J (G : jG) (R : Room) (F : jF) (M : jM) (X : Bool) (kc kn : Nat) (pc : Nat) (lo : List (Option Value)) (st : List Value) (h : jH) : Prop :=
  ∀ (p : Program) (e : Env) (s : State) (m : MethodId) (args : Array Value) (below : List Frame) (meth : Method) (c : Code) (H : Heap) (locs : List Loc) (ls : Array Slot),
    jCtx G M p s m args meth c → va_S (g_O G) s.heap H locs → HR G h H → jLs G (m_n M) lo ls → (X = true → (∀ i, g_P G i = g_n G + i) ∧ s.heap.size + kc = g_n G + h.length) →
    W p (g_l G) e R s m args below meth c H locs kc kn (F below args s) (F0 m pc ls (st.map (cV G)))
/-- the same with an exception of class E thrown at pc -/
def JX (G : jG) (R : Room) (F : jF) (M : jM) (kc kn : Nat) (pc : Nat) (lo : List (Option Value)) (h : jH) (E : String) : Prop :=
  ∀ (p : Program) (e : Env) (s : State) (m : MethodId) (args : Array Value) (below : List Frame) (meth : Method) (c : Code) (H : Heap) (locs : List Loc) (ls : Array Slot) (st : List Value) (q : Addr) (ce : Cell),
    jCtx G M p s m args meth c → va_S (g_O G) s.heap H locs → HR G h H → jLs G (m_n M) lo ls → H[q]? = some ce → ce.vm = .none → s.vm.findClass E = some ce.cls →
    vx_W p (g_l G) e R s m args below meth c H locs kc kn (F below args s) (F0 m pc ls st) q
abbrev jQ_ : Type := Option Value ⊕ String → jH → Prop
def jPc (G : jG) (X : Bool) (as : List Value) (h : jH) : Array Value → State → Prop := fun v U => v = (as.map (cV G)).toArray ∧ jB G U ∧ HR G h U.heap ∧ (X = true → (∀ i, g_P G i = g_n G + i) ∧ U.heap.size = g_n G + h.length)
def jQc (G : jG) (X : Bool) (mc : Nat) (Q : jQ_) : Array Value → State → Outcome → State → Prop := fun _ st o t => (∃ (r : Option Value) (h' : jH), o = .returned (r.map (cV G)) ∧ Q (.inl r) h' ∧ HR G h' t.heap ∧ (X = true → st.heap.size + mc = g_n G + h'.length)) ∧ va_F (g_O G) st t
def jXC (G : jG) (Q : jQ_) : String → State → State → Prop := fun E st t => (∃ h' : jH, Q (.inr E) h' ∧ HR G h' t.heap) ∧ va_F (g_O G) st t
abbrev jR (d mc ms : Nat) : Room := { frames := d, cells := mc, slots := ms, locals := 46 * d }
/-- a contract of a method that need not know how many cells it made -/
def jCT2 (G : jG) (M : jM) (d mc ms : Nat) (as : List Value) (h : jH) (Q : jQ_) : Prop :=
  vx_Met (g_l G) (m_y M) (jws M) { frames := d, cells := mc, slots := ms, locals := 46 * d } (jPc G true as h) (jQc G false mc Q) (jXC G Q) mc ms (g_O G)
/-- a method's contract: d frames, mc cells of ms slots -/
def jCT (G : jG) (M : jM) (d mc ms : Nat) (X : Bool) (as : List Value) (h : jH) (Q : jQ_) : Prop :=
  vx_Met (g_l G) (m_y M) (jws M) (jR d mc ms) (jPc G X as h) (jQc G X mc Q) (jXC G Q) mc ms (g_O G)
/-- the end of a method with such a contract -/
def jFin (G : jG) (Q : jQ_) (X : Bool) (mc ms : Nat) : jF := fun below args s => vx_MQ below (jQc G X mc Q) (jXC G Q) args s mc ms (g_O G)
theorem cV_cat (G : jG) (hB : ∀ k, g_X G k = .null ∨ ∃ a, g_X G k = .ref a) (v : Value) : (cV G v).category = v.category := by
  cases v with
  | retAddr k => rcases hB k with h | ⟨a, h⟩ <;> simp [cV, h, Value.category]
  | _ => rfl
theorem jsum (G : jG) (hB : ∀ k, g_X G k = .null ∨ ∃ a, g_X G k = .ref a) (st : List Value) : ((st.map (cV G)).map fun v => v.category) = st.map fun v => v.category := by
  rw [List.map_map]
  exact List.map_congr_left fun v _ => cV_cat G hB v
theorem lv_args_map (G : jG) (hB : ∀ k, g_X G k = .null ∨ ∃ a, g_X G k = .ref a) : ∀ (as : List Value) (i : Nat), lv_args i (as.map (cV G)) = (lv_args i as).map (fun q => (q.1, cV G q.2))
  | [], i => rfl
  | v :: r, i => by
    simp only [List.map_cons, lv_args, cV_cat G hB v, lv_args_map G hB r]
/-- the locals at a method's entry -/
def jlo : List Value → List (Option Value)
  | [] => []
  | v :: r => if v.category = 2 then some v :: none :: jlo r else some v :: jlo r
theorem jlo_spec : ∀ (as : List Value) (i j : Nat) (v : Value), (jlo as)[j]? = some (some v) → (i + j, v) ∈ lv_args i as
  | [], i, j, v, h => by simp [jlo] at h
  | w :: r, i, j, v, h => by
    unfold jlo at h
    unfold lv_args
    by_cases hc : w.category = 2
    · rw [if_pos hc] at h ⊢
      match j, h with
      | 0, h => simp at h; subst h; exact List.mem_cons_self
      | 1, h => simp at h
      | j + 2, h =>
        have := jlo_spec r (i + 2) j v (by simpa using h)
        rw [show i + 2 + j = i + (j + 2) by omega] at this
        exact List.mem_cons_of_mem _ this
    · rw [if_neg hc] at h ⊢
      match j, h with
      | 0, h => simp at h; subst h; exact List.mem_cons_self
      | j + 1, h =>
        have := jlo_spec r (i + 1) j v (by simpa using h)
        rw [show i + 1 + j = i + (j + 1) by omega] at this
        exact List.mem_cons_of_mem _ this
theorem jlo_len : ∀ (as : List Value), (jlo as).length = (lg_sl as).length
  | [] => rfl
  | w :: r => by
    have := jlo_len r
    unfold jlo
    by_cases hc : w.category = 2
    · rw [if_pos hc]; simp [lg_sl, hc, this]
    · rw [if_neg hc]; simp [lg_sl, hc, this]
theorem jrep {n j : Nat} {v : Value} (h : (List.replicate n (none : Option Value))[j]? = some (some v)) : False := by
  have := List.mem_of_getElem? h
  have := (List.mem_replicate.mp this).2
  cases this
section JROWS
variable {G : jG} {R : Room} {F : jF} {M : jM} {X : Bool} {kc kn pc : Nat} {lo : List (Option Value)} {st : List Value} {h : jH}

theorem J_iconst {n : Int} (v : Int32) (hv : Int32.ofInt n = v) (hd : decode (m_c M) pc = .ok (.iconst n, 1)) (k : J G R F M X kc kn (pc + 1) lo (.int v :: st) h) : J G R F M X kc kn pc lo st h := by
  intro p e s m args below meth c H locs ls C hS hH hL hX
  exact lv_iconst C.1 C.2.1 hd hv (k p e s m args below meth c H locs ls C hS hH hL hX)

theorem J_bipush {n : Int} (v : Int32) (hv : (Int8.ofInt n).toInt32 = v) (hd : decode (m_c M) pc = .ok (.bipush n, 2)) (k : J G R F M X kc kn (pc + 2) lo (.int v :: st) h) : J G R F M X kc kn pc lo st h := by
  intro p e s m args below meth c H locs ls C hS hH hL hX
  exact lv_bipush C.1 C.2.1 hd hv (k p e s m args below meth c H locs ls C hS hH hL hX)

theorem J_sipush {n : Int} (v : Int32) (hv : (Int16.ofInt n).toInt32 = v) (hd : decode (m_c M) pc = .ok (.sipush n, 3)) (k : J G R F M X kc kn (pc + 3) lo (.int v :: st) h) : J G R F M X kc kn pc lo st h := by
  intro p e s m args below meth c H locs ls C hS hH hL hX
  exact lv_sipush C.1 C.2.1 hd hv (k p e s m args below meth c H locs ls C hS hH hL hX)

theorem J_lconst {n : Fin 2} (v : Int64) (hv : Int64.ofNat (n : Nat) = v) (hd : decode (m_c M) pc = .ok (.lconst n, 1)) (k : J G R F M X kc kn (pc + 1) lo (.long v :: st) h) : J G R F M X kc kn pc lo st h := by
  intro p e s m args below meth c H locs ls C hS hH hL hX
  exact lv_lconst C.1 C.2.1 hd hv (k p e s m args below meth c H locs ls C hS hH hL hX)

theorem J_fconst0  (hd : decode (m_c M) pc = .ok (.fconst 0, 1)) (k : J G R F M X kc kn (pc + 1) lo (.float 0 :: st) h) : J G R F M X kc kn pc lo st h := by
  intro p e s m args below meth c H locs ls C hS hH hL hX
  exact lv_fconst0 C.1 C.2.1 hd (k p e s m args below meth c H locs ls C hS hH hL hX)

theorem J_dconst0  (hd : decode (m_c M) pc = .ok (.dconst 0, 1)) (k : J G R F M X kc kn (pc + 1) lo (.double 0 :: st) h) : J G R F M X kc kn pc lo st h := by
  intro p e s m args below meth c H locs ls C hS hH hL hX
  exact lv_dconst0 C.1 C.2.1 hd (k p e s m args below meth c H locs ls C hS hH hL hX)

theorem J_null  (hd : decode (m_c M) pc = .ok (.aconst_null, 1)) (k : J G R F M X kc kn (pc + 1) lo (.null :: st) h) : J G R F M X kc kn pc lo st h := by
  intro p e s m args below meth c H locs ls C hS hH hL hX
  exact lv_null C.1 C.2.1 hd (k p e s m args below meth c H locs ls C hS hH hL hX)

theorem J_iload_n {i : Fin 4} {x : Int32} (hl : lo[(i : Nat)]? = some (some (.int x))) (hd : decode (m_c M) pc = .ok (.iload_n i, 1)) (k : J G R F M X kc kn (pc + 1) lo (.int x :: st) h) : J G R F M X kc kn pc lo st h := by
  intro p e s m args below meth c H locs ls C hS hH hL hX
  exact lv_iload_n C.1 C.2.1 hd rfl (hL.2.2 _ _ hl) (k p e s m args below meth c H locs ls C hS hH hL hX)

theorem J_iload {i : Nat} {x : Int32} (hl : lo[i]? = some (some (.int x))) (hd : decode (m_c M) pc = .ok (.iload i, 2)) (k : J G R F M X kc kn (pc + 2) lo (.int x :: st) h) : J G R F M X kc kn pc lo st h := by
  intro p e s m args below meth c H locs ls C hS hH hL hX
  exact lv_iload C.1 C.2.1 hd (hL.2.2 _ _ hl) (k p e s m args below meth c H locs ls C hS hH hL hX)

theorem J_lload_n {i : Fin 4} {x : Int64} (hl : lo[(i : Nat)]? = some (some (.long x))) (hd : decode (m_c M) pc = .ok (.lload_n i, 1)) (k : J G R F M X kc kn (pc + 1) lo (.long x :: st) h) : J G R F M X kc kn pc lo st h := by
  intro p e s m args below meth c H locs ls C hS hH hL hX
  exact lv_lload_n C.1 C.2.1 hd rfl (hL.2.2 _ _ hl) (k p e s m args below meth c H locs ls C hS hH hL hX)

theorem J_lload {i : Nat} {x : Int64} (hl : lo[i]? = some (some (.long x))) (hd : decode (m_c M) pc = .ok (.lload i, 2)) (k : J G R F M X kc kn (pc + 2) lo (.long x :: st) h) : J G R F M X kc kn pc lo st h := by
  intro p e s m args below meth c H locs ls C hS hH hL hX
  exact lv_lload C.1 C.2.1 hd (hL.2.2 _ _ hl) (k p e s m args below meth c H locs ls C hS hH hL hX)

theorem J_fload_n {i : Fin 4} {x : UInt32} (hl : lo[(i : Nat)]? = some (some (.float x))) (hd : decode (m_c M) pc = .ok (.fload_n i, 1)) (k : J G R F M X kc kn (pc + 1) lo (.float x :: st) h) : J G R F M X kc kn pc lo st h := by
  intro p e s m args below meth c H locs ls C hS hH hL hX
  exact lv_fload_n C.1 C.2.1 hd rfl (hL.2.2 _ _ hl) (k p e s m args below meth c H locs ls C hS hH hL hX)

theorem J_fload {i : Nat} {x : UInt32} (hl : lo[i]? = some (some (.float x))) (hd : decode (m_c M) pc = .ok (.fload i, 2)) (k : J G R F M X kc kn (pc + 2) lo (.float x :: st) h) : J G R F M X kc kn pc lo st h := by
  intro p e s m args below meth c H locs ls C hS hH hL hX
  exact lv_fload C.1 C.2.1 hd (hL.2.2 _ _ hl) (k p e s m args below meth c H locs ls C hS hH hL hX)

theorem J_dload_n {i : Fin 4} {x : UInt64} (hl : lo[(i : Nat)]? = some (some (.double x))) (hd : decode (m_c M) pc = .ok (.dload_n i, 1)) (k : J G R F M X kc kn (pc + 1) lo (.double x :: st) h) : J G R F M X kc kn pc lo st h := by
  intro p e s m args below meth c H locs ls C hS hH hL hX
  exact lv_dload_n C.1 C.2.1 hd rfl (hL.2.2 _ _ hl) (k p e s m args below meth c H locs ls C hS hH hL hX)

theorem J_dload {i : Nat} {x : UInt64} (hl : lo[i]? = some (some (.double x))) (hd : decode (m_c M) pc = .ok (.dload i, 2)) (k : J G R F M X kc kn (pc + 2) lo (.double x :: st) h) : J G R F M X kc kn pc lo st h := by
  intro p e s m args below meth c H locs ls C hS hH hL hX
  exact lv_dload C.1 C.2.1 hd (hL.2.2 _ _ hl) (k p e s m args below meth c H locs ls C hS hH hL hX)

def jref : Value → Bool
  | .null | .ref _ | .retAddr _ => true
  | _ => false
theorem jref_c {s : State} (hB : ∀ k, g_X G k = .null ∨ ∃ a, g_X G k = .ref a) {v : Value} (h : jref v = true) : cV G v = .null ∨ ∃ a, cV G v = .ref a := by
  cases v with
  | null => exact Or.inl rfl
  | ref i => exact Or.inr ⟨_, rfl⟩
  | retAddr k => exact hB k
  | _ => cases h
theorem jB_X {s : State} (h : jB G s) : ∀ k, g_X G k = .null ∨ ∃ a, g_X G k = .ref a := h.2.2.2.2.2.2.2.2.2.2.2.2.1
theorem jC_B {p : Program} {s : State} {m : MethodId} {args : Array Value} {meth : Method} {c : Code} (C : jCtx G M p s m args meth c) : jB G s := C.2.2.2.2.2.2.2.2.2
theorem jC_X {p : Program} {s : State} {m : MethodId} {args : Array Value} {meth : Method} {c : Code} (C : jCtx G M p s m args meth c) : ∀ k, g_X G k = .null ∨ ∃ a, g_X G k = .ref a := jB_X (jC_B C)

theorem J_aload_n {i : Fin 4} {v : Value} (hl : lo[(i : Nat)]? = some (some v)) (hr : jref v = true := by rfl) (hd : decode (m_c M) pc = .ok (.aload_n i, 1)) (k : J G R F M X kc kn (pc + 1) lo (v :: st) h) : J G R F M X kc kn pc lo st h := by
  intro p e s m args below meth c H locs ls C hS hH hL hX
  have hk := (k p e s m args below meth c H locs ls C hS hH hL hX)
  have hg := hL.2.2 _ _ hl
  have hk : W p (g_l G) e R s m args below meth c H locs kc kn (F below args s) (F0 m (pc + 1) ls (cV G v :: st.map (cV G))) := hk
  rcases jref_c (s := s) (jC_X C) hr with hc | ⟨a, hc⟩
  · rw [hc] at hg hk
    exact lv_aload_nN C.1 C.2.1 hd rfl hg hk
  · rw [hc] at hg hk
    exact lv_aload_n C.1 C.2.1 hd rfl hg hk

theorem J_aload {i : Nat} {v : Value} (hl : lo[i]? = some (some v)) (hr : jref v = true := by rfl) (hd : decode (m_c M) pc = .ok (.aload i, 2)) (k : J G R F M X kc kn (pc + 2) lo (v :: st) h) : J G R F M X kc kn pc lo st h := by
  intro p e s m args below meth c H locs ls C hS hH hL hX
  have hk := (k p e s m args below meth c H locs ls C hS hH hL hX)
  have hg := hL.2.2 _ _ hl
  have hk : W p (g_l G) e R s m args below meth c H locs kc kn (F below args s) (F0 m (pc + 2) ls (cV G v :: st.map (cV G))) := hk
  rcases jref_c (s := s) (jC_X C) hr with hc | ⟨a, hc⟩
  · rw [hc] at hg hk
    exact lv_aloadN C.1 C.2.1 hd hg hk
  · rw [hc] at hg hk
    exact lv_aload C.1 C.2.1 hd hg hk

/-- may stand ahead of a place that is written -/
def jn2 : Option Value → Bool
  | some (.long _) | some (.double _) => false
  | _ => true
/-- the locals behind a store of a word at i -/
def jset1 : List (Option Value) → Nat → Value → List (Option Value)
  | [], _, _ => []
  | _ :: r, 0, v => some v :: r
  | [_], 1, _ => [none]
  | a :: b :: r, 1, v => (if jn2 a then a else none) :: some v :: r
  | a :: r, i + 1, v => a :: jset1 r i v
theorem jset1_spec (G : jG) (hB : ∀ k, g_X G k = .null ∨ ∃ a, g_X G k = .ref a) : ∀ (lo : List (Option Value)) (i : Nat) (v : Value) (j : Nat) (w : Value), (jset1 lo i v)[j]? = some (some w) → (j = i ∧ w = v) ∨ (j ≠ i ∧ lo[j]? = some (some w) ∧ (j + 1 = i → ¬ (cV G w).category = 2))
  | [], i, v, j, w, h => by simp [jset1] at h
  | a :: r, 0, v, j, w, h => by
    simp only [jset1] at h
    cases j with
    | zero => simp at h; exact Or.inl ⟨rfl, h.symm⟩
    | succ j => exact Or.inr ⟨by omega, by simpa using h, by omega⟩
  | [a], 1, v, j, w, h => by
    simp only [jset1] at h
    cases j with
    | zero => simp at h
    | succ j => simp at h
  | a :: b :: r, 1, v, j, w, h => by
    simp only [jset1] at h
    match j, h with
    | 0, h =>
      by_cases hn : jn2 a = true
      · rw [if_pos hn] at h
        simp at h
        refine Or.inr ⟨by omega, by simpa using h, fun _ => ?_⟩
        rw [cV_cat G hB]
        rw [h] at hn
        cases w <;> simp_all [jn2, Value.category]
      · rw [if_neg hn] at h
        simp at h
    | 1, h => simp at h; exact Or.inl ⟨rfl, h.symm⟩
    | j + 2, h => exact Or.inr ⟨by omega, by simpa using h, by omega⟩
  | a :: r, i + 2, v, j, w, h => by
    simp only [jset1] at h
    cases j with
    | zero => simp at h; exact Or.inr ⟨by omega, by simpa using h, by omega⟩
    | succ j =>
      rcases jset1_spec G hB r (i + 1) v j w (by simpa using h) with ⟨h1, h2⟩ | ⟨h1, h2, h3⟩
      · exact Or.inl ⟨by omega, h2⟩
      · exact Or.inr ⟨by omega, by simpa using h2, fun q => h3 (by omega)⟩
def jAs (G : jG) (lo : List (Option Value)) : List (Nat × Value) := (List.range lo.length).filterMap fun j => match lo[j]? with
  | some (some w) => some (j, cV G w)
  | _ => none
theorem jAs_mem {lo : List (Option Value)} {j : Nat} {w : Value} (h : lo[j]? = some (some w)) : (j, cV G w) ∈ jAs G lo :=
  List.mem_filterMap.mpr ⟨j, List.mem_range.mpr (List.getElem?_eq_some_iff.mp h).1, by rw [h]⟩
theorem jAs_has {n : Nat} {lo : List (Option Value)} {ls : Array Slot} (hL : jLs G n lo ls) : lv_has ls n (jAs G lo) := by
  refine ⟨hL.1, hL.2.1, fun q hq => ?_⟩
  obtain ⟨j, -, hj⟩ := List.mem_filterMap.mp hq
  split at hj
  · rename_i w hw
    cases hj
    exact hL.2.2 _ _ hw
  · cases hj
theorem jst1 (hB : ∀ k, g_X G k = .null ∨ ∃ a, g_X G k = .ref a) {n i : Nat} {v : Value} {lo : List (Option Value)} {ls : Array Slot} (h : lv_has ls n ((i, cV G v) :: (jAs G lo).filter (fun q => !(q.1 == i) && !(q.1 + 1 == i && q.2.category == 2)))) : jLs G n (jset1 lo i v) ls := by
  refine ⟨h.1, h.2.1, fun j w hw => ?_⟩
  rcases jset1_spec G hB lo i v j w hw with ⟨rfl, rfl⟩ | ⟨h1, h2, h3⟩
  · exact h.2.2 _ List.mem_cons_self
  · refine h.2.2 (j, cV G w) (List.mem_cons_of_mem _ (List.mem_filter.mpr ⟨jAs_mem h2, ?_⟩))
    by_cases h4 : j + 1 = i
    · simp [h1, h4, h3 h4]
    · simp [h1, h4]
/-- behind a store of a double word -/
theorem jst2 (hB : ∀ k, g_X G k = .null ∨ ∃ a, g_X G k = .ref a) {n i : Nat} {v : Value} {lo : List (Option Value)} {ls : Array Slot} (h : lv_has ls n ((i, cV G v) :: (jAs G lo).filter (fun q => !(q.1 == i) && (!(q.1 == i + 1) && !(q.1 + 1 == i && q.2.category == 2))))) : jLs G n ((jset1 lo i v).set (i + 1) none) ls := by
  refine ⟨h.1, h.2.1, fun j w hw => ?_⟩
  by_cases h5 : j = i + 1
  · subst h5
    rw [List.getElem?_set] at hw
    simp at hw
  · rw [List.getElem?_set_ne (fun q => h5 q.symm)] at hw
    rcases jset1_spec G hB lo i v j w hw with ⟨rfl, rfl⟩ | ⟨h1, h2, h3⟩
    · exact h.2.2 _ List.mem_cons_self
    · refine h.2.2 (j, cV G w) (List.mem_cons_of_mem _ (List.mem_filter.mpr ⟨jAs_mem h2, ?_⟩))
      by_cases h4 : j + 1 = i
      · simp [h1, h4, h3 h4]
        omega
      · simp [h1, h4, h5]

theorem J_istore_n {i : Fin 4} {x : Int32} (hd : decode (m_c M) pc = .ok (.istore_n i, 1)) (hn : i < m_n M) (k : J G R F M X kc kn (pc + 1) (jset1 lo i (.int x)) st h) : J G R F M X kc kn pc lo (.int x :: st) h := by
  intro p e s m args below meth c H locs ls C hS hH hL hX
  exact lv_istore_n C.1 C.2.1 hd rfl (jAs_has hL) hn rfl (fun ls9 h9 => (k p e s m args below meth c H locs ls9 C hS hH (jst1 (jC_X C) h9) hX))
theorem J_istore {i : Nat} {x : Int32} (hd : decode (m_c M) pc = .ok (.istore i, 2)) (hn : i < m_n M) (k : J G R F M X kc kn (pc + 2) (jset1 lo i (.int x)) st h) : J G R F M X kc kn pc lo (.int x :: st) h := by
  intro p e s m args below meth c H locs ls C hS hH hL hX
  exact lv_istore C.1 C.2.1 hd (jAs_has hL) hn rfl (fun ls9 h9 => (k p e s m args below meth c H locs ls9 C hS hH (jst1 (jC_X C) h9) hX))

theorem J_lstore_n {i : Fin 4} {x : Int64} (hd : decode (m_c M) pc = .ok (.lstore_n i, 1)) (hn : i + 1 < m_n M) (k : J G R F M X kc kn (pc + 1) ((jset1 lo i (.long x)).set (i + 1) none) st h) : J G R F M X kc kn pc lo (.long x :: st) h := by
  intro p e s m args below meth c H locs ls C hS hH hL hX
  exact lv_lstore_n C.1 C.2.1 hd rfl (jAs_has hL) hn rfl (fun ls9 h9 => (k p e s m args below meth c H locs ls9 C hS hH (jst2 (jC_X C) h9) hX))
theorem J_lstore {i : Nat} {x : Int64} (hd : decode (m_c M) pc = .ok (.lstore i, 2)) (hn : i + 1 < m_n M) (k : J G R F M X kc kn (pc + 2) ((jset1 lo i (.long x)).set (i + 1) none) st h) : J G R F M X kc kn pc lo (.long x :: st) h := by
  intro p e s m args below meth c H locs ls C hS hH hL hX
  exact lv_lstore C.1 C.2.1 hd (jAs_has hL) hn rfl (fun ls9 h9 => (k p e s m args below meth c H locs ls9 C hS hH (jst2 (jC_X C) h9) hX))

theorem J_fstore_n {i : Fin 4} {x : UInt32} (hd : decode (m_c M) pc = .ok (.fstore_n i, 1)) (hn : i < m_n M) (k : J G R F M X kc kn (pc + 1) (jset1 lo i (.float x)) st h) : J G R F M X kc kn pc lo (.float x :: st) h := by
  intro p e s m args below meth c H locs ls C hS hH hL hX
  exact lv_fstore_n C.1 C.2.1 hd rfl (jAs_has hL) hn rfl (fun ls9 h9 => (k p e s m args below meth c H locs ls9 C hS hH (jst1 (jC_X C) h9) hX))
theorem J_fstore {i : Nat} {x : UInt32} (hd : decode (m_c M) pc = .ok (.fstore i, 2)) (hn : i < m_n M) (k : J G R F M X kc kn (pc + 2) (jset1 lo i (.float x)) st h) : J G R F M X kc kn pc lo (.float x :: st) h := by
  intro p e s m args below meth c H locs ls C hS hH hL hX
  exact lv_fstore C.1 C.2.1 hd (jAs_has hL) hn rfl (fun ls9 h9 => (k p e s m args below meth c H locs ls9 C hS hH (jst1 (jC_X C) h9) hX))

theorem J_dstore_n {i : Fin 4} {x : UInt64} (hd : decode (m_c M) pc = .ok (.dstore_n i, 1)) (hn : i + 1 < m_n M) (k : J G R F M X kc kn (pc + 1) ((jset1 lo i (.double x)).set (i + 1) none) st h) : J G R F M X kc kn pc lo (.double x :: st) h := by
  intro p e s m args below meth c H locs ls C hS hH hL hX
  exact lv_dstore_n C.1 C.2.1 hd rfl (jAs_has hL) hn rfl (fun ls9 h9 => (k p e s m args below meth c H locs ls9 C hS hH (jst2 (jC_X C) h9) hX))
theorem J_dstore {i : Nat} {x : UInt64} (hd : decode (m_c M) pc = .ok (.dstore i, 2)) (hn : i + 1 < m_n M) (k : J G R F M X kc kn (pc + 2) ((jset1 lo i (.double x)).set (i + 1) none) st h) : J G R F M X kc kn pc lo (.double x :: st) h := by
  intro p e s m args below meth c H locs ls C hS hH hL hX
  exact lv_dstore C.1 C.2.1 hd (jAs_has hL) hn rfl (fun ls9 h9 => (k p e s m args below meth c H locs ls9 C hS hH (jst2 (jC_X C) h9) hX))

theorem J_astore_n {i : Fin 4} {v : Value} (hd : decode (m_c M) pc = .ok (.astore_n i, 1)) (hn : i < m_n M) (k : J G R F M X kc kn (pc + 1) (jset1 lo i v) st h) (hr : jref v = true := by rfl) : J G R F M X kc kn pc lo (v :: st) h := by
  intro p e s m args below meth c H locs ls C hS hH hL hX
  show W p (g_l G) e R s m args below meth c H locs kc kn (F below args s) (F0 m pc ls (cV G v :: st.map (cV G)))
  have hk : ∀ ls9 : Array Slot, lv_has ls9 (m_n M) ((i, cV G v) :: (jAs G lo).filter (fun q => !(q.1 == i) && !(q.1 + 1 == i && q.2.category == 2))) → W p (g_l G) e R s m args below meth c H locs kc kn (F below args s) (F0 m (pc + 1) ls9 (st.map (cV G))) := fun ls9 h9 => k p e s m args below meth c H locs ls9 C hS hH (jst1 (jC_X C) h9) hX
  rcases jref_c (s := s) (jC_X C) hr with hc | ⟨a, hc⟩
  · rw [hc] at hk ⊢
    exact lv_astore_nN C.1 C.2.1 hd rfl (jAs_has hL) hn rfl hk
  · rw [hc] at hk ⊢
    exact lv_astore_n C.1 C.2.1 hd rfl (jAs_has hL) hn rfl hk

theorem J_astore {i : Nat} {v : Value} (hd : decode (m_c M) pc = .ok (.astore i, 2)) (hn : i < m_n M) (k : J G R F M X kc kn (pc + 2) (jset1 lo i v) st h) (hr : jref v = true := by rfl) : J G R F M X kc kn pc lo (v :: st) h := by
  intro p e s m args below meth c H locs ls C hS hH hL hX
  show W p (g_l G) e R s m args below meth c H locs kc kn (F below args s) (F0 m pc ls (cV G v :: st.map (cV G)))
  have hk : ∀ ls9 : Array Slot, lv_has ls9 (m_n M) ((i, cV G v) :: (jAs G lo).filter (fun q => !(q.1 == i) && !(q.1 + 1 == i && q.2.category == 2))) → W p (g_l G) e R s m args below meth c H locs kc kn (F below args s) (F0 m (pc + 2) ls9 (st.map (cV G))) := fun ls9 h9 => k p e s m args below meth c H locs ls9 C hS hH (jst1 (jC_X C) h9) hX
  rcases jref_c (s := s) (jC_X C) hr with hc | ⟨a, hc⟩
  · rw [hc] at hk ⊢
    exact lv_astoreN C.1 C.2.1 hd (jAs_has hL) hn rfl hk
  · rw [hc] at hk ⊢
    exact lv_astore C.1 C.2.1 hd (jAs_has hL) hn rfl hk

theorem J_iinc {i : Nat} {n : Int} {x : Int32} (d : Int32) (hd : decode (m_c M) pc = .ok (.iinc i n, 3)) (hl : lo[i]? = some (some (.int x))) (hv : Int32.ofInt n = d) (hn : i < m_n M) (k : J G R F M X kc kn (pc + 3) (jset1 lo i (.int (x + d))) st h) : J G R F M X kc kn pc lo st h := by
  intro p e s m args below meth c H locs ls C hS hH hL hX
  obtain ⟨k9, hk9⟩ := List.getElem?_of_mem (jAs_mem (G := G) hl)
  exact lv_iinc (v := x + d) (k := k9) C.1 C.2.1 hd (jAs_has hL) hk9 (by rw [hv]) hn rfl (fun ls9 h9 => (k p e s m args below meth c H locs ls9 C hS hH (jst1 (jC_X C) h9) hX))

theorem J_istore_0 { b : Option Value} {r : List (Option Value)} {x : Int32} (hd : decode (m_c M) pc = .ok (.istore_n 0, 1)) (k : J G R F M X kc kn (pc + 1) (some (.int x) :: r) st h) (hn : 0 < m_n M := by decide)  : J G R F M X kc kn pc (b :: r) (.int x :: st) h := J_istore_n (i := 0) hd hn (by show J G R F M X kc kn _ (jset1 (b :: r) 0 (.int x)) st h; rw [show jset1 (b :: r) 0 (.int x) = (some (.int x) :: r) from rfl]; exact k)
theorem J_astore_0 { b : Option Value} {r : List (Option Value)} {v : Value} (hd : decode (m_c M) pc = .ok (.astore_n 0, 1)) (k : J G R F M X kc kn (pc + 1) (some v :: r) st h) (hr : jref v = true := by rfl) (hn : 0 < m_n M := by decide)  : J G R F M X kc kn pc (b :: r) (v :: st) h := J_astore_n (i := 0) hd hn (by show J G R F M X kc kn _ (jset1 (b :: r) 0 v) st h; rw [show jset1 (b :: r) 0 v = (some v :: r) from rfl]; exact k) hr
theorem J_iinc_0 {r : List (Option Value)} {n : Int} {x : Int32} (d : Int32) (hd : decode (m_c M) pc = .ok (.iinc 0 n, 3)) (hv : Int32.ofInt n = d) (k : J G R F M X kc kn (pc + 3) (some (.int (x + d)) :: r) st h) (hn : 0 < m_n M := by decide)  : J G R F M X kc kn pc (some (.int x) :: r) st h := J_iinc d hd rfl hv hn (by rw [show jset1 (some (.int x) :: r) 0 (.int (x + d)) = (some (.int (x + d)) :: r) from rfl]; exact k)
theorem J_istore_1 {a0 b : Option Value} {r : List (Option Value)} {x : Int32} (hd : decode (m_c M) pc = .ok (.istore_n 1, 1)) (k : J G R F M X kc kn (pc + 1) (a0 :: some (.int x) :: r) st h) (hn : 1 < m_n M := by decide) (hk : jn2 a0 = true := by rfl) : J G R F M X kc kn pc (a0 :: b :: r) (.int x :: st) h := J_istore_n (i := 1) hd hn (by show J G R F M X kc kn _ (jset1 (a0 :: b :: r) 1 (.int x)) st h; rw [show jset1 (a0 :: b :: r) 1 (.int x) = (a0 :: some (.int x) :: r) from by simp [jset1, hk]]; exact k)
theorem J_astore_1 {a0 b : Option Value} {r : List (Option Value)} {v : Value} (hd : decode (m_c M) pc = .ok (.astore_n 1, 1)) (k : J G R F M X kc kn (pc + 1) (a0 :: some v :: r) st h) (hr : jref v = true := by rfl) (hn : 1 < m_n M := by decide) (hk : jn2 a0 = true := by rfl) : J G R F M X kc kn pc (a0 :: b :: r) (v :: st) h := J_astore_n (i := 1) hd hn (by show J G R F M X kc kn _ (jset1 (a0 :: b :: r) 1 v) st h; rw [show jset1 (a0 :: b :: r) 1 v = (a0 :: some v :: r) from by simp [jset1, hk]]; exact k) hr
theorem J_iinc_1 {a0 : Option Value} {r : List (Option Value)} {n : Int} {x : Int32} (d : Int32) (hd : decode (m_c M) pc = .ok (.iinc 1 n, 3)) (hv : Int32.ofInt n = d) (k : J G R F M X kc kn (pc + 3) (a0 :: some (.int (x + d)) :: r) st h) (hn : 1 < m_n M := by decide) (hk : jn2 a0 = true := by rfl) : J G R F M X kc kn pc (a0 :: some (.int x) :: r) st h := J_iinc d hd rfl hv hn (by rw [show jset1 (a0 :: some (.int x) :: r) 1 (.int (x + d)) = (a0 :: some (.int (x + d)) :: r) from by simp [jset1, hk]]; exact k)
theorem J_istore_2 {a0 a1 b : Option Value} {r : List (Option Value)} {x : Int32} (hd : decode (m_c M) pc = .ok (.istore_n 2, 1)) (k : J G R F M X kc kn (pc + 1) (a0 :: a1 :: some (.int x) :: r) st h) (hn : 2 < m_n M := by decide) (hk : jn2 a1 = true := by rfl) : J G R F M X kc kn pc (a0 :: a1 :: b :: r) (.int x :: st) h := J_istore_n (i := 2) hd hn (by show J G R F M X kc kn _ (jset1 (a0 :: a1 :: b :: r) 2 (.int x)) st h; rw [show jset1 (a0 :: a1 :: b :: r) 2 (.int x) = (a0 :: a1 :: some (.int x) :: r) from by simp [jset1, hk]]; exact k)
theorem J_astore_2 {a0 a1 b : Option Value} {r : List (Option Value)} {v : Value} (hd : decode (m_c M) pc = .ok (.astore_n 2, 1)) (k : J G R F M X kc kn (pc + 1) (a0 :: a1 :: some v :: r) st h) (hr : jref v = true := by rfl) (hn : 2 < m_n M := by decide) (hk : jn2 a1 = true := by rfl) : J G R F M X kc kn pc (a0 :: a1 :: b :: r) (v :: st) h := J_astore_n (i := 2) hd hn (by show J G R F M X kc kn _ (jset1 (a0 :: a1 :: b :: r) 2 v) st h; rw [show jset1 (a0 :: a1 :: b :: r) 2 v = (a0 :: a1 :: some v :: r) from by simp [jset1, hk]]; exact k) hr
theorem J_iinc_2 {a0 a1 : Option Value} {r : List (Option Value)} {n : Int} {x : Int32} (d : Int32) (hd : decode (m_c M) pc = .ok (.iinc 2 n, 3)) (hv : Int32.ofInt n = d) (k : J G R F M X kc kn (pc + 3) (a0 :: a1 :: some (.int (x + d)) :: r) st h) (hn : 2 < m_n M := by decide) (hk : jn2 a1 = true := by rfl) : J G R F M X kc kn pc (a0 :: a1 :: some (.int x) :: r) st h := J_iinc d hd rfl hv hn (by rw [show jset1 (a0 :: a1 :: some (.int x) :: r) 2 (.int (x + d)) = (a0 :: a1 :: some (.int (x + d)) :: r) from by simp [jset1, hk]]; exact k)
theorem J_istore_3 {a0 a1 a2 b : Option Value} {r : List (Option Value)} {x : Int32} (hd : decode (m_c M) pc = .ok (.istore_n 3, 1)) (k : J G R F M X kc kn (pc + 1) (a0 :: a1 :: a2 :: some (.int x) :: r) st h) (hn : 3 < m_n M := by decide) (hk : jn2 a2 = true := by rfl) : J G R F M X kc kn pc (a0 :: a1 :: a2 :: b :: r) (.int x :: st) h := J_istore_n (i := 3) hd hn (by show J G R F M X kc kn _ (jset1 (a0 :: a1 :: a2 :: b :: r) 3 (.int x)) st h; rw [show jset1 (a0 :: a1 :: a2 :: b :: r) 3 (.int x) = (a0 :: a1 :: a2 :: some (.int x) :: r) from by simp [jset1, hk]]; exact k)
theorem J_astore_3 {a0 a1 a2 b : Option Value} {r : List (Option Value)} {v : Value} (hd : decode (m_c M) pc = .ok (.astore_n 3, 1)) (k : J G R F M X kc kn (pc + 1) (a0 :: a1 :: a2 :: some v :: r) st h) (hr : jref v = true := by rfl) (hn : 3 < m_n M := by decide) (hk : jn2 a2 = true := by rfl) : J G R F M X kc kn pc (a0 :: a1 :: a2 :: b :: r) (v :: st) h := J_astore_n (i := 3) hd hn (by show J G R F M X kc kn _ (jset1 (a0 :: a1 :: a2 :: b :: r) 3 v) st h; rw [show jset1 (a0 :: a1 :: a2 :: b :: r) 3 v = (a0 :: a1 :: a2 :: some v :: r) from by simp [jset1, hk]]; exact k) hr
theorem J_iinc_3 {a0 a1 a2 : Option Value} {r : List (Option Value)} {n : Int} {x : Int32} (d : Int32) (hd : decode (m_c M) pc = .ok (.iinc 3 n, 3)) (hv : Int32.ofInt n = d) (k : J G R F M X kc kn (pc + 3) (a0 :: a1 :: a2 :: some (.int (x + d)) :: r) st h) (hn : 3 < m_n M := by decide) (hk : jn2 a2 = true := by rfl) : J G R F M X kc kn pc (a0 :: a1 :: a2 :: some (.int x) :: r) st h := J_iinc d hd rfl hv hn (by rw [show jset1 (a0 :: a1 :: a2 :: some (.int x) :: r) 3 (.int (x + d)) = (a0 :: a1 :: a2 :: some (.int (x + d)) :: r) from by simp [jset1, hk]]; exact k)
theorem J_istore_4 {a0 a1 a2 a3 b : Option Value} {r : List (Option Value)} {x : Int32} (hd : decode (m_c M) pc = .ok (.istore 4, 2)) (k : J G R F M X kc kn (pc + 2) (a0 :: a1 :: a2 :: a3 :: some (.int x) :: r) st h) (hn : 4 < m_n M := by decide) (hk : jn2 a3 = true := by rfl) : J G R F M X kc kn pc (a0 :: a1 :: a2 :: a3 :: b :: r) (.int x :: st) h := J_istore (i := 4) hd hn (by show J G R F M X kc kn _ (jset1 (a0 :: a1 :: a2 :: a3 :: b :: r) 4 (.int x)) st h; rw [show jset1 (a0 :: a1 :: a2 :: a3 :: b :: r) 4 (.int x) = (a0 :: a1 :: a2 :: a3 :: some (.int x) :: r) from by simp [jset1, hk]]; exact k)
theorem J_astore_4 {a0 a1 a2 a3 b : Option Value} {r : List (Option Value)} {v : Value} (hd : decode (m_c M) pc = .ok (.astore 4, 2)) (k : J G R F M X kc kn (pc + 2) (a0 :: a1 :: a2 :: a3 :: some v :: r) st h) (hr : jref v = true := by rfl) (hn : 4 < m_n M := by decide) (hk : jn2 a3 = true := by rfl) : J G R F M X kc kn pc (a0 :: a1 :: a2 :: a3 :: b :: r) (v :: st) h := J_astore (i := 4) hd hn (by show J G R F M X kc kn _ (jset1 (a0 :: a1 :: a2 :: a3 :: b :: r) 4 v) st h; rw [show jset1 (a0 :: a1 :: a2 :: a3 :: b :: r) 4 v = (a0 :: a1 :: a2 :: a3 :: some v :: r) from by simp [jset1, hk]]; exact k) hr
theorem J_iinc_4 {a0 a1 a2 a3 : Option Value} {r : List (Option Value)} {n : Int} {x : Int32} (d : Int32) (hd : decode (m_c M) pc = .ok (.iinc 4 n, 3)) (hv : Int32.ofInt n = d) (k : J G R F M X kc kn (pc + 3) (a0 :: a1 :: a2 :: a3 :: some (.int (x + d)) :: r) st h) (hn : 4 < m_n M := by decide) (hk : jn2 a3 = true := by rfl) : J G R F M X kc kn pc (a0 :: a1 :: a2 :: a3 :: some (.int x) :: r) st h := J_iinc d hd rfl hv hn (by rw [show jset1 (a0 :: a1 :: a2 :: a3 :: some (.int x) :: r) 4 (.int (x + d)) = (a0 :: a1 :: a2 :: a3 :: some (.int (x + d)) :: r) from by simp [jset1, hk]]; exact k)
theorem J_istore_5 {a0 a1 a2 a3 a4 b : Option Value} {r : List (Option Value)} {x : Int32} (hd : decode (m_c M) pc = .ok (.istore 5, 2)) (k : J G R F M X kc kn (pc + 2) (a0 :: a1 :: a2 :: a3 :: a4 :: some (.int x) :: r) st h) (hn : 5 < m_n M := by decide) (hk : jn2 a4 = true := by rfl) : J G R F M X kc kn pc (a0 :: a1 :: a2 :: a3 :: a4 :: b :: r) (.int x :: st) h := J_istore (i := 5) hd hn (by show J G R F M X kc kn _ (jset1 (a0 :: a1 :: a2 :: a3 :: a4 :: b :: r) 5 (.int x)) st h; rw [show jset1 (a0 :: a1 :: a2 :: a3 :: a4 :: b :: r) 5 (.int x) = (a0 :: a1 :: a2 :: a3 :: a4 :: some (.int x) :: r) from by simp [jset1, hk]]; exact k)
theorem J_astore_5 {a0 a1 a2 a3 a4 b : Option Value} {r : List (Option Value)} {v : Value} (hd : decode (m_c M) pc = .ok (.astore 5, 2)) (k : J G R F M X kc kn (pc + 2) (a0 :: a1 :: a2 :: a3 :: a4 :: some v :: r) st h) (hr : jref v = true := by rfl) (hn : 5 < m_n M := by decide) (hk : jn2 a4 = true := by rfl) : J G R F M X kc kn pc (a0 :: a1 :: a2 :: a3 :: a4 :: b :: r) (v :: st) h := J_astore (i := 5) hd hn (by show J G R F M X kc kn _ (jset1 (a0 :: a1 :: a2 :: a3 :: a4 :: b :: r) 5 v) st h; rw [show jset1 (a0 :: a1 :: a2 :: a3 :: a4 :: b :: r) 5 v = (a0 :: a1 :: a2 :: a3 :: a4 :: some v :: r) from by simp [jset1, hk]]; exact k) hr
theorem J_iinc_5 {a0 a1 a2 a3 a4 : Option Value} {r : List (Option Value)} {n : Int} {x : Int32} (d : Int32) (hd : decode (m_c M) pc = .ok (.iinc 5 n, 3)) (hv : Int32.ofInt n = d) (k : J G R F M X kc kn (pc + 3) (a0 :: a1 :: a2 :: a3 :: a4 :: some (.int (x + d)) :: r) st h) (hn : 5 < m_n M := by decide) (hk : jn2 a4 = true := by rfl) : J G R F M X kc kn pc (a0 :: a1 :: a2 :: a3 :: a4 :: some (.int x) :: r) st h := J_iinc d hd rfl hv hn (by rw [show jset1 (a0 :: a1 :: a2 :: a3 :: a4 :: some (.int x) :: r) 5 (.int (x + d)) = (a0 :: a1 :: a2 :: a3 :: a4 :: some (.int (x + d)) :: r) from by simp [jset1, hk]]; exact k)
theorem J_istore_6 {a0 a1 a2 a3 a4 a5 b : Option Value} {r : List (Option Value)} {x : Int32} (hd : decode (m_c M) pc = .ok (.istore 6, 2)) (k : J G R F M X kc kn (pc + 2) (a0 :: a1 :: a2 :: a3 :: a4 :: a5 :: some (.int x) :: r) st h) (hn : 6 < m_n M := by decide) (hk : jn2 a5 = true := by rfl) : J G R F M X kc kn pc (a0 :: a1 :: a2 :: a3 :: a4 :: a5 :: b :: r) (.int x :: st) h := J_istore (i := 6) hd hn (by show J G R F M X kc kn _ (jset1 (a0 :: a1 :: a2 :: a3 :: a4 :: a5 :: b :: r) 6 (.int x)) st h; rw [show jset1 (a0 :: a1 :: a2 :: a3 :: a4 :: a5 :: b :: r) 6 (.int x) = (a0 :: a1 :: a2 :: a3 :: a4 :: a5 :: some (.int x) :: r) from by simp [jset1, hk]]; exact k)
theorem J_astore_6 {a0 a1 a2 a3 a4 a5 b : Option Value} {r : List (Option Value)} {v : Value} (hd : decode (m_c M) pc = .ok (.astore 6, 2)) (k : J G R F M X kc kn (pc + 2) (a0 :: a1 :: a2 :: a3 :: a4 :: a5 :: some v :: r) st h) (hr : jref v = true := by rfl) (hn : 6 < m_n M := by decide) (hk : jn2 a5 = true := by rfl) : J G R F M X kc kn pc (a0 :: a1 :: a2 :: a3 :: a4 :: a5 :: b :: r) (v :: st) h := J_astore (i := 6) hd hn (by show J G R F M X kc kn _ (jset1 (a0 :: a1 :: a2 :: a3 :: a4 :: a5 :: b :: r) 6 v) st h; rw [show jset1 (a0 :: a1 :: a2 :: a3 :: a4 :: a5 :: b :: r) 6 v = (a0 :: a1 :: a2 :: a3 :: a4 :: a5 :: some v :: r) from by simp [jset1, hk]]; exact k) hr
theorem J_iinc_6 {a0 a1 a2 a3 a4 a5 : Option Value} {r : List (Option Value)} {n : Int} {x : Int32} (d : Int32) (hd : decode (m_c M) pc = .ok (.iinc 6 n, 3)) (hv : Int32.ofInt n = d) (k : J G R F M X kc kn (pc + 3) (a0 :: a1 :: a2 :: a3 :: a4 :: a5 :: some (.int (x + d)) :: r) st h) (hn : 6 < m_n M := by decide) (hk : jn2 a5 = true := by rfl) : J G R F M X kc kn pc (a0 :: a1 :: a2 :: a3 :: a4 :: a5 :: some (.int x) :: r) st h := J_iinc d hd rfl hv hn (by rw [show jset1 (a0 :: a1 :: a2 :: a3 :: a4 :: a5 :: some (.int x) :: r) 6 (.int (x + d)) = (a0 :: a1 :: a2 :: a3 :: a4 :: a5 :: some (.int (x + d)) :: r) from by simp [jset1, hk]]; exact k)
theorem J_istore_7 {a0 a1 a2 a3 a4 a5 a6 b : Option Value} {r : List (Option Value)} {x : Int32} (hd : decode (m_c M) pc = .ok (.istore 7, 2)) (k : J G R F M X kc kn (pc + 2) (a0 :: a1 :: a2 :: a3 :: a4 :: a5 :: a6 :: some (.int x) :: r) st h) (hn : 7 < m_n M := by decide) (hk : jn2 a6 = true := by rfl) : J G R F M X kc kn pc (a0 :: a1 :: a2 :: a3 :: a4 :: a5 :: a6 :: b :: r) (.int x :: st) h := J_istore (i := 7) hd hn (by show J G R F M X kc kn _ (jset1 (a0 :: a1 :: a2 :: a3 :: a4 :: a5 :: a6 :: b :: r) 7 (.int x)) st h; rw [show jset1 (a0 :: a1 :: a2 :: a3 :: a4 :: a5 :: a6 :: b :: r) 7 (.int x) = (a0 :: a1 :: a2 :: a3 :: a4 :: a5 :: a6 :: some (.int x) :: r) from by simp [jset1, hk]]; exact k)
theorem J_astore_7 {a0 a1 a2 a3 a4 a5 a6 b : Option Value} {r : List (Option Value)} {v : Value} (hd : decode (m_c M) pc = .ok (.astore 7, 2)) (k : J G R F M X kc kn (pc + 2) (a0 :: a1 :: a2 :: a3 :: a4 :: a5 :: a6 :: some v :: r) st h) (hr : jref v = true := by rfl) (hn : 7 < m_n M := by decide) (hk : jn2 a6 = true := by rfl) : J G R F M X kc kn pc (a0 :: a1 :: a2 :: a3 :: a4 :: a5 :: a6 :: b :: r) (v :: st) h := J_astore (i := 7) hd hn (by show J G R F M X kc kn _ (jset1 (a0 :: a1 :: a2 :: a3 :: a4 :: a5 :: a6 :: b :: r) 7 v) st h; rw [show jset1 (a0 :: a1 :: a2 :: a3 :: a4 :: a5 :: a6 :: b :: r) 7 v = (a0 :: a1 :: a2 :: a3 :: a4 :: a5 :: a6 :: some v :: r) from by simp [jset1, hk]]; exact k) hr
theorem J_iinc_7 {a0 a1 a2 a3 a4 a5 a6 : Option Value} {r : List (Option Value)} {n : Int} {x : Int32} (d : Int32) (hd : decode (m_c M) pc = .ok (.iinc 7 n, 3)) (hv : Int32.ofInt n = d) (k : J G R F M X kc kn (pc + 3) (a0 :: a1 :: a2 :: a3 :: a4 :: a5 :: a6 :: some (.int (x + d)) :: r) st h) (hn : 7 < m_n M := by decide) (hk : jn2 a6 = true := by rfl) : J G R F M X kc kn pc (a0 :: a1 :: a2 :: a3 :: a4 :: a5 :: a6 :: some (.int x) :: r) st h := J_iinc d hd rfl hv hn (by rw [show jset1 (a0 :: a1 :: a2 :: a3 :: a4 :: a5 :: a6 :: some (.int x) :: r) 7 (.int (x + d)) = (a0 :: a1 :: a2 :: a3 :: a4 :: a5 :: a6 :: some (.int (x + d)) :: r) from by simp [jset1, hk]]; exact k)
theorem J_istore_8 {a0 a1 a2 a3 a4 a5 a6 a7 b : Option Value} {r : List (Option Value)} {x : Int32} (hd : decode (m_c M) pc = .ok (.istore 8, 2)) (k : J G R F M X kc kn (pc + 2) (a0 :: a1 :: a2 :: a3 :: a4 :: a5 :: a6 :: a7 :: some (.int x) :: r) st h) (hn : 8 < m_n M := by decide) (hk : jn2 a7 = true := by rfl) : J G R F M X kc kn pc (a0 :: a1 :: a2 :: a3 :: a4 :: a5 :: a6 :: a7 :: b :: r) (.int x :: st) h := J_istore (i := 8) hd hn (by show J G R F M X kc kn _ (jset1 (a0 :: a1 :: a2 :: a3 :: a4 :: a5 :: a6 :: a7 :: b :: r) 8 (.int x)) st h; rw [show jset1 (a0 :: a1 :: a2 :: a3 :: a4 :: a5 :: a6 :: a7 :: b :: r) 8 (.int x) = (a0 :: a1 :: a2 :: a3 :: a4 :: a5 :: a6 :: a7 :: some (.int x) :: r) from by simp [jset1, hk]]; exact k)
theorem J_astore_8 {a0 a1 a2 a3 a4 a5 a6 a7 b : Option Value} {r : List (Option Value)} {v : Value} (hd : decode (m_c M) pc = .ok (.astore 8, 2)) (k : J G R F M X kc kn (pc + 2) (a0 :: a1 :: a2 :: a3 :: a4 :: a5 :: a6 :: a7 :: some v :: r) st h) (hr : jref v = true := by rfl) (hn : 8 < m_n M := by decide) (hk : jn2 a7 = true := by rfl) : J G R F M X kc kn pc (a0 :: a1 :: a2 :: a3 :: a4 :: a5 :: a6 :: a7 :: b :: r) (v :: st) h := J_astore (i := 8) hd hn (by show J G R F M X kc kn _ (jset1 (a0 :: a1 :: a2 :: a3 :: a4 :: a5 :: a6 :: a7 :: b :: r) 8 v) st h; rw [show jset1 (a0 :: a1 :: a2 :: a3 :: a4 :: a5 :: a6 :: a7 :: b :: r) 8 v = (a0 :: a1 :: a2 :: a3 :: a4 :: a5 :: a6 :: a7 :: some v :: r) from by simp [jset1, hk]]; exact k) hr
theorem J_iinc_8 {a0 a1 a2 a3 a4 a5 a6 a7 : Option Value} {r : List (Option Value)} {n : Int} {x : Int32} (d : Int32) (hd : decode (m_c M) pc = .ok (.iinc 8 n, 3)) (hv : Int32.ofInt n = d) (k : J G R F M X kc kn (pc + 3) (a0 :: a1 :: a2 :: a3 :: a4 :: a5 :: a6 :: a7 :: some (.int (x + d)) :: r) st h) (hn : 8 < m_n M := by decide) (hk : jn2 a7 = true := by rfl) : J G R F M X kc kn pc (a0 :: a1 :: a2 :: a3 :: a4 :: a5 :: a6 :: a7 :: some (.int x) :: r) st h := J_iinc d hd rfl hv hn (by rw [show jset1 (a0 :: a1 :: a2 :: a3 :: a4 :: a5 :: a6 :: a7 :: some (.int x) :: r) 8 (.int (x + d)) = (a0 :: a1 :: a2 :: a3 :: a4 :: a5 :: a6 :: a7 :: some (.int (x + d)) :: r) from by simp [jset1, hk]]; exact k)
theorem J_istore_9 {a0 a1 a2 a3 a4 a5 a6 a7 a8 b : Option Value} {r : List (Option Value)} {x : Int32} (hd : decode (m_c M) pc = .ok (.istore 9, 2)) (k : J G R F M X kc kn (pc + 2) (a0 :: a1 :: a2 :: a3 :: a4 :: a5 :: a6 :: a7 :: a8 :: some (.int x) :: r) st h) (hn : 9 < m_n M := by decide) (hk : jn2 a8 = true := by rfl) : J G R F M X kc kn pc (a0 :: a1 :: a2 :: a3 :: a4 :: a5 :: a6 :: a7 :: a8 :: b :: r) (.int x :: st) h := J_istore (i := 9) hd hn (by show J G R F M X kc kn _ (jset1 (a0 :: a1 :: a2 :: a3 :: a4 :: a5 :: a6 :: a7 :: a8 :: b :: r) 9 (.int x)) st h; rw [show jset1 (a0 :: a1 :: a2 :: a3 :: a4 :: a5 :: a6 :: a7 :: a8 :: b :: r) 9 (.int x) = (a0 :: a1 :: a2 :: a3 :: a4 :: a5 :: a6 :: a7 :: a8 :: some (.int x) :: r) from by simp [jset1, hk]]; exact k)
theorem J_astore_9 {a0 a1 a2 a3 a4 a5 a6 a7 a8 b : Option Value} {r : List (Option Value)} {v : Value} (hd : decode (m_c M) pc = .ok (.astore 9, 2)) (k : J G R F M X kc kn (pc + 2) (a0 :: a1 :: a2 :: a3 :: a4 :: a5 :: a6 :: a7 :: a8 :: some v :: r) st h) (hr : jref v = true := by rfl) (hn : 9 < m_n M := by decide) (hk : jn2 a8 = true := by rfl) : J G R F M X kc kn pc (a0 :: a1 :: a2 :: a3 :: a4 :: a5 :: a6 :: a7 :: a8 :: b :: r) (v :: st) h := J_astore (i := 9) hd hn (by show J G R F M X kc kn _ (jset1 (a0 :: a1 :: a2 :: a3 :: a4 :: a5 :: a6 :: a7 :: a8 :: b :: r) 9 v) st h; rw [show jset1 (a0 :: a1 :: a2 :: a3 :: a4 :: a5 :: a6 :: a7 :: a8 :: b :: r) 9 v = (a0 :: a1 :: a2 :: a3 :: a4 :: a5 :: a6 :: a7 :: a8 :: some v :: r) from by simp [jset1, hk]]; exact k) hr
theorem J_iinc_9 {a0 a1 a2 a3 a4 a5 a6 a7 a8 : Option Value} {r : List (Option Value)} {n : Int} {x : Int32} (d : Int32) (hd : decode (m_c M) pc = .ok (.iinc 9 n, 3)) (hv : Int32.ofInt n = d) (k : J G R F M X kc kn (pc + 3) (a0 :: a1 :: a2 :: a3 :: a4 :: a5 :: a6 :: a7 :: a8 :: some (.int (x + d)) :: r) st h) (hn : 9 < m_n M := by decide) (hk : jn2 a8 = true := by rfl) : J G R F M X kc kn pc (a0 :: a1 :: a2 :: a3 :: a4 :: a5 :: a6 :: a7 :: a8 :: some (.int x) :: r) st h := J_iinc d hd rfl hv hn (by rw [show jset1 (a0 :: a1 :: a2 :: a3 :: a4 :: a5 :: a6 :: a7 :: a8 :: some (.int x) :: r) 9 (.int (x + d)) = (a0 :: a1 :: a2 :: a3 :: a4 :: a5 :: a6 :: a7 :: a8 :: some (.int (x + d)) :: r) from by simp [jset1, hk]]; exact k)
theorem J_istore_10 {a0 a1 a2 a3 a4 a5 a6 a7 a8 a9 b : Option Value} {r : List (Option Value)} {x : Int32} (hd : decode (m_c M) pc = .ok (.istore 10, 2)) (k : J G R F M X kc kn (pc + 2) (a0 :: a1 :: a2 :: a3 :: a4 :: a5 :: a6 :: a7 :: a8 :: a9 :: some (.int x) :: r) st h) (hn : 10 < m_n M := by decide) (hk : jn2 a9 = true := by rfl) : J G R F M X kc kn pc (a0 :: a1 :: a2 :: a3 :: a4 :: a5 :: a6 :: a7 :: a8 :: a9 :: b :: r) (.int x :: st) h := J_istore (i := 10) hd hn (by show J G R F M X kc kn _ (jset1 (a0 :: a1 :: a2 :: a3 :: a4 :: a5 :: a6 :: a7 :: a8 :: a9 :: b :: r) 10 (.int x)) st h; rw [show jset1 (a0 :: a1 :: a2 :: a3 :: a4 :: a5 :: a6 :: a7 :: a8 :: a9 :: b :: r) 10 (.int x) = (a0 :: a1 :: a2 :: a3 :: a4 :: a5 :: a6 :: a7 :: a8 :: a9 :: some (.int x) :: r) from by simp [jset1, hk]]; exact k)
theorem J_astore_10 {a0 a1 a2 a3 a4 a5 a6 a7 a8 a9 b : Option Value} {r : List (Option Value)} {v : Value} (hd : decode (m_c M) pc = .ok (.astore 10, 2)) (k : J G R F M X kc kn (pc + 2) (a0 :: a1 :: a2 :: a3 :: a4 :: a5 :: a6 :: a7 :: a8 :: a9 :: some v :: r) st h) (hr : jref v = true := by rfl) (hn : 10 < m_n M := by decide) (hk : jn2 a9 = true := by rfl) : J G R F M X kc kn pc (a0 :: a1 :: a2 :: a3 :: a4 :: a5 :: a6 :: a7 :: a8 :: a9 :: b :: r) (v :: st) h := J_astore (i := 10) hd hn (by show J G R F M X kc kn _ (jset1 (a0 :: a1 :: a2 :: a3 :: a4 :: a5 :: a6 :: a7 :: a8 :: a9 :: b :: r) 10 v) st h; rw [show jset1 (a0 :: a1 :: a2 :: a3 :: a4 :: a5 :: a6 :: a7 :: a8 :: a9 :: b :: r) 10 v = (a0 :: a1 :: a2 :: a3 :: a4 :: a5 :: a6 :: a7 :: a8 :: a9 :: some v :: r) from by simp [jset1, hk]]; exact k) hr
theorem J_iinc_10 {a0 a1 a2 a3 a4 a5 a6 a7 a8 a9 : Option Value} {r : List (Option Value)} {n : Int} {x : Int32} (d : Int32) (hd : decode (m_c M) pc = .ok (.iinc 10 n, 3)) (hv : Int32.ofInt n = d) (k : J G R F M X kc kn (pc + 3) (a0 :: a1 :: a2 :: a3 :: a4 :: a5 :: a6 :: a7 :: a8 :: a9 :: some (.int (x + d)) :: r) st h) (hn : 10 < m_n M := by decide) (hk : jn2 a9 = true := by rfl) : J G R F M X kc kn pc (a0 :: a1 :: a2 :: a3 :: a4 :: a5 :: a6 :: a7 :: a8 :: a9 :: some (.int x) :: r) st h := J_iinc d hd rfl hv hn (by rw [show jset1 (a0 :: a1 :: a2 :: a3 :: a4 :: a5 :: a6 :: a7 :: a8 :: a9 :: some (.int x) :: r) 10 (.int (x + d)) = (a0 :: a1 :: a2 :: a3 :: a4 :: a5 :: a6 :: a7 :: a8 :: a9 :: some (.int (x + d)) :: r) from by simp [jset1, hk]]; exact k)
theorem J_istore_11 {a0 a1 a2 a3 a4 a5 a6 a7 a8 a9 a10 b : Option Value} {r : List (Option Value)} {x : Int32} (hd : decode (m_c M) pc = .ok (.istore 11, 2)) (k : J G R F M X kc kn (pc + 2) (a0 :: a1 :: a2 :: a3 :: a4 :: a5 :: a6 :: a7 :: a8 :: a9 :: a10 :: some (.int x) :: r) st h) (hn : 11 < m_n M := by decide) (hk : jn2 a10 = true := by rfl) : J G R F M X kc kn pc (a0 :: a1 :: a2 :: a3 :: a4 :: a5 :: a6 :: a7 :: a8 :: a9 :: a10 :: b :: r) (.int x :: st) h := J_istore (i := 11) hd hn (by show J G R F M X kc kn _ (jset1 (a0 :: a1 :: a2 :: a3 :: a4 :: a5 :: a6 :: a7 :: a8 :: a9 :: a10 :: b :: r) 11 (.int x)) st h; rw [show jset1 (a0 :: a1 :: a2 :: a3 :: a4 :: a5 :: a6 :: a7 :: a8 :: a9 :: a10 :: b :: r) 11 (.int x) = (a0 :: a1 :: a2 :: a3 :: a4 :: a5 :: a6 :: a7 :: a8 :: a9 :: a10 :: some (.int x) :: r) from by simp [jset1, hk]]; exact k)
theorem J_astore_11 {a0 a1 a2 a3 a4 a5 a6 a7 a8 a9 a10 b : Option Value} {r : List (Option Value)} {v : Value} (hd : decode (m_c M) pc = .ok (.astore 11, 2)) (k : J G R F M X kc kn (pc + 2) (a0 :: a1 :: a2 :: a3 :: a4 :: a5 :: a6 :: a7 :: a8 :: a9 :: a10 :: some v :: r) st h) (hr : jref v = true := by rfl) (hn : 11 < m_n M := by decide) (hk : jn2 a10 = true := by rfl) : J G R F M X kc kn pc (a0 :: a1 :: a2 :: a3 :: a4 :: a5 :: a6 :: a7 :: a8 :: a9 :: a10 :: b :: r) (v :: st) h := J_astore (i := 11) hd hn (by show J G R F M X kc kn _ (jset1 (a0 :: a1 :: a2 :: a3 :: a4 :: a5 :: a6 :: a7 :: a8 :: a9 :: a10 :: b :: r) 11 v) st h; rw [show jset1 (a0 :: a1 :: a2 :: a3 :: a4 :: a5 :: a6 :: a7 :: a8 :: a9 :: a10 :: b :: r) 11 v = (a0 :: a1 :: a2 :: a3 :: a4 :: a5 :: a6 :: a7 :: a8 :: a9 :: a10 :: some v :: r) from by simp [jset1, hk]]; exact k) hr
theorem J_iinc_11 {a0 a1 a2 a3 a4 a5 a6 a7 a8 a9 a10 : Option Value} {r : List (Option Value)} {n : Int} {x : Int32} (d : Int32) (hd : decode (m_c M) pc = .ok (.iinc 11 n, 3)) (hv : Int32.ofInt n = d) (k : J G R F M X kc kn (pc + 3) (a0 :: a1 :: a2 :: a3 :: a4 :: a5 :: a6 :: a7 :: a8 :: a9 :: a10 :: some (.int (x + d)) :: r) st h) (hn : 11 < m_n M := by decide) (hk : jn2 a10 = true := by rfl) : J G R F M X kc kn pc (a0 :: a1 :: a2 :: a3 :: a4 :: a5 :: a6 :: a7 :: a8 :: a9 :: a10 :: some (.int x) :: r) st h := J_iinc d hd rfl hv hn (by rw [show jset1 (a0 :: a1 :: a2 :: a3 :: a4 :: a5 :: a6 :: a7 :: a8 :: a9 :: a10 :: some (.int x) :: r) 11 (.int (x + d)) = (a0 :: a1 :: a2 :: a3 :: a4 :: a5 :: a6 :: a7 :: a8 :: a9 :: a10 :: some (.int (x + d)) :: r) from by simp [jset1, hk]]; exact k)
theorem J_istore_12 {a0 a1 a2 a3 a4 a5 a6 a7 a8 a9 a10 a11 b : Option Value} {r : List (Option Value)} {x : Int32} (hd : decode (m_c M) pc = .ok (.istore 12, 2)) (k : J G R F M X kc kn (pc + 2) (a0 :: a1 :: a2 :: a3 :: a4 :: a5 :: a6 :: a7 :: a8 :: a9 :: a10 :: a11 :: some (.int x) :: r) st h) (hn : 12 < m_n M := by decide) (hk : jn2 a11 = true := by rfl) : J G R F M X kc kn pc (a0 :: a1 :: a2 :: a3 :: a4 :: a5 :: a6 :: a7 :: a8 :: a9 :: a10 :: a11 :: b :: r) (.int x :: st) h := J_istore (i := 12) hd hn (by show J G R F M X kc kn _ (jset1 (a0 :: a1 :: a2 :: a3 :: a4 :: a5 :: a6 :: a7 :: a8 :: a9 :: a10 :: a11 :: b :: r) 12 (.int x)) st h; rw [show jset1 (a0 :: a1 :: a2 :: a3 :: a4 :: a5 :: a6 :: a7 :: a8 :: a9 :: a10 :: a11 :: b :: r) 12 (.int x) = (a0 :: a1 :: a2 :: a3 :: a4 :: a5 :: a6 :: a7 :: a8 :: a9 :: a10 :: a11 :: some (.int x) :: r) from by simp [jset1, hk]]; exact k)
theorem J_astore_12 {a0 a1 a2 a3 a4 a5 a6 a7 a8 a9 a10 a11 b : Option Value} {r : List (Option Value)} {v : Value} (hd : decode (m_c M) pc = .ok (.astore 12, 2)) (k : J G R F M X kc kn (pc + 2) (a0 :: a1 :: a2 :: a3 :: a4 :: a5 :: a6 :: a7 :: a8 :: a9 :: a10 :: a11 :: some v :: r) st h) (hr : jref v = true := by rfl) (hn : 12 < m_n M := by decide) (hk : jn2 a11 = true := by rfl) : J G R F M X kc kn pc (a0 :: a1 :: a2 :: a3 :: a4 :: a5 :: a6 :: a7 :: a8 :: a9 :: a10 :: a11 :: b :: r) (v :: st) h := J_astore (i := 12) hd hn (by show J G R F M X kc kn _ (jset1 (a0 :: a1 :: a2 :: a3 :: a4 :: a5 :: a6 :: a7 :: a8 :: a9 :: a10 :: a11 :: b :: r) 12 v) st h; rw [show jset1 (a0 :: a1 :: a2 :: a3 :: a4 :: a5 :: a6 :: a7 :: a8 :: a9 :: a10 :: a11 :: b :: r) 12 v = (a0 :: a1 :: a2 :: a3 :: a4 :: a5 :: a6 :: a7 :: a8 :: a9 :: a10 :: a11 :: some v :: r) from by simp [jset1, hk]]; exact k) hr
theorem J_iinc_12 {a0 a1 a2 a3 a4 a5 a6 a7 a8 a9 a10 a11 : Option Value} {r : List (Option Value)} {n : Int} {x : Int32} (d : Int32) (hd : decode (m_c M) pc = .ok (.iinc 12 n, 3)) (hv : Int32.ofInt n = d) (k : J G R F M X kc kn (pc + 3) (a0 :: a1 :: a2 :: a3 :: a4 :: a5 :: a6 :: a7 :: a8 :: a9 :: a10 :: a11 :: some (.int (x + d)) :: r) st h) (hn : 12 < m_n M := by decide) (hk : jn2 a11 = true := by rfl) : J G R F M X kc kn pc (a0 :: a1 :: a2 :: a3 :: a4 :: a5 :: a6 :: a7 :: a8 :: a9 :: a10 :: a11 :: some (.int x) :: r) st h := J_iinc d hd rfl hv hn (by rw [show jset1 (a0 :: a1 :: a2 :: a3 :: a4 :: a5 :: a6 :: a7 :: a8 :: a9 :: a10 :: a11 :: some (.int x) :: r) 12 (.int (x + d)) = (a0 :: a1 :: a2 :: a3 :: a4 :: a5 :: a6 :: a7 :: a8 :: a9 :: a10 :: a11 :: some (.int (x + d)) :: r) from by simp [jset1, hk]]; exact k)
theorem J_istore_13 {a0 a1 a2 a3 a4 a5 a6 a7 a8 a9 a10 a11 a12 b : Option Value} {r : List (Option Value)} {x : Int32} (hd : decode (m_c M) pc = .ok (.istore 13, 2)) (k : J G R F M X kc kn (pc + 2) (a0 :: a1 :: a2 :: a3 :: a4 :: a5 :: a6 :: a7 :: a8 :: a9 :: a10 :: a11 :: a12 :: some (.int x) :: r) st h) (hn : 13 < m_n M := by decide) (hk : jn2 a12 = true := by rfl) : J G R F M X kc kn pc (a0 :: a1 :: a2 :: a3 :: a4 :: a5 :: a6 :: a7 :: a8 :: a9 :: a10 :: a11 :: a12 :: b :: r) (.int x :: st) h := J_istore (i := 13) hd hn (by show J G R F M X kc kn _ (jset1 (a0 :: a1 :: a2 :: a3 :: a4 :: a5 :: a6 :: a7 :: a8 :: a9 :: a10 :: a11 :: a12 :: b :: r) 13 (.int x)) st h; rw [show jset1 (a0 :: a1 :: a2 :: a3 :: a4 :: a5 :: a6 :: a7 :: a8 :: a9 :: a10 :: a11 :: a12 :: b :: r) 13 (.int x) = (a0 :: a1 :: a2 :: a3 :: a4 :: a5 :: a6 :: a7 :: a8 :: a9 :: a10 :: a11 :: a12 :: some (.int x) :: r) from by simp [jset1, hk]]; exact k)
theorem J_astore_13 {a0 a1 a2 a3 a4 a5 a6 a7 a8 a9 a10 a11 a12 b : Option Value} {r : List (Option Value)} {v : Value} (hd : decode (m_c M) pc = .ok (.astore 13, 2)) (k : J G R F M X kc kn (pc + 2) (a0 :: a1 :: a2 :: a3 :: a4 :: a5 :: a6 :: a7 :: a8 :: a9 :: a10 :: a11 :: a12 :: some v :: r) st h) (hr : jref v = true := by rfl) (hn : 13 < m_n M := by decide) (hk : jn2 a12 = true := by rfl) : J G R F M X kc kn pc (a0 :: a1 :: a2 :: a3 :: a4 :: a5 :: a6 :: a7 :: a8 :: a9 :: a10 :: a11 :: a12 :: b :: r) (v :: st) h := J_astore (i := 13) hd hn (by show J G R F M X kc kn _ (jset1 (a0 :: a1 :: a2 :: a3 :: a4 :: a5 :: a6 :: a7 :: a8 :: a9 :: a10 :: a11 :: a12 :: b :: r) 13 v) st h; rw [show jset1 (a0 :: a1 :: a2 :: a3 :: a4 :: a5 :: a6 :: a7 :: a8 :: a9 :: a10 :: a11 :: a12 :: b :: r) 13 v = (a0 :: a1 :: a2 :: a3 :: a4 :: a5 :: a6 :: a7 :: a8 :: a9 :: a10 :: a11 :: a12 :: some v :: r) from by simp [jset1, hk]]; exact k) hr
theorem J_iinc_13 {a0 a1 a2 a3 a4 a5 a6 a7 a8 a9 a10 a11 a12 : Option Value} {r : List (Option Value)} {n : Int} {x : Int32} (d : Int32) (hd : decode (m_c M) pc = .ok (.iinc 13 n, 3)) (hv : Int32.ofInt n = d) (k : J G R F M X kc kn (pc + 3) (a0 :: a1 :: a2 :: a3 :: a4 :: a5 :: a6 :: a7 :: a8 :: a9 :: a10 :: a11 :: a12 :: some (.int (x + d)) :: r) st h) (hn : 13 < m_n M := by decide) (hk : jn2 a12 = true := by rfl) : J G R F M X kc kn pc (a0 :: a1 :: a2 :: a3 :: a4 :: a5 :: a6 :: a7 :: a8 :: a9 :: a10 :: a11 :: a12 :: some (.int x) :: r) st h := J_iinc d hd rfl hv hn (by rw [show jset1 (a0 :: a1 :: a2 :: a3 :: a4 :: a5 :: a6 :: a7 :: a8 :: a9 :: a10 :: a11 :: a12 :: some (.int x) :: r) 13 (.int (x + d)) = (a0 :: a1 :: a2 :: a3 :: a4 :: a5 :: a6 :: a7 :: a8 :: a9 :: a10 :: a11 :: a12 :: some (.int (x + d)) :: r) from by simp [jset1, hk]]; exact k)
theorem J_istore_14 {a0 a1 a2 a3 a4 a5 a6 a7 a8 a9 a10 a11 a12 a13 b : Option Value} {r : List (Option Value)} {x : Int32} (hd : decode (m_c M) pc = .ok (.istore 14, 2)) (k : J G R F M X kc kn (pc + 2) (a0 :: a1 :: a2 :: a3 :: a4 :: a5 :: a6 :: a7 :: a8 :: a9 :: a10 :: a11 :: a12 :: a13 :: some (.int x) :: r) st h) (hn : 14 < m_n M := by decide) (hk : jn2 a13 = true := by rfl) : J G R F M X kc kn pc (a0 :: a1 :: a2 :: a3 :: a4 :: a5 :: a6 :: a7 :: a8 :: a9 :: a10 :: a11 :: a12 :: a13 :: b :: r) (.int x :: st) h := J_istore (i := 14) hd hn (by show J G R F M X kc kn _ (jset1 (a0 :: a1 :: a2 :: a3 :: a4 :: a5 :: a6 :: a7 :: a8 :: a9 :: a10 :: a11 :: a12 :: a13 :: b :: r) 14 (.int x)) st h; rw [show jset1 (a0 :: a1 :: a2 :: a3 :: a4 :: a5 :: a6 :: a7 :: a8 :: a9 :: a10 :: a11 :: a12 :: a13 :: b :: r) 14 (.int x) = (a0 :: a1 :: a2 :: a3 :: a4 :: a5 :: a6 :: a7 :: a8 :: a9 :: a10 :: a11 :: a12 :: a13 :: some (.int x) :: r) from by simp [jset1, hk]]; exact k)
theorem J_astore_14 {a0 a1 a2 a3 a4 a5 a6 a7 a8 a9 a10 a11 a12 a13 b : Option Value} {r : List (Option Value)} {v : Value} (hd : decode (m_c M) pc = .ok (.astore 14, 2)) (k : J G R F M X kc kn (pc + 2) (a0 :: a1 :: a2 :: a3 :: a4 :: a5 :: a6 :: a7 :: a8 :: a9 :: a10 :: a11 :: a12 :: a13 :: some v :: r) st h) (hr : jref v = true := by rfl) (hn : 14 < m_n M := by decide) (hk : jn2 a13 = true := by rfl) : J G R F M X kc kn pc (a0 :: a1 :: a2 :: a3 :: a4 :: a5 :: a6 :: a7 :: a8 :: a9 :: a10 :: a11 :: a12 :: a13 :: b :: r) (v :: st) h := J_astore (i := 14) hd hn (by show J G R F M X kc kn _ (jset1 (a0 :: a1 :: a2 :: a3 :: a4 :: a5 :: a6 :: a7 :: a8 :: a9 :: a10 :: a11 :: a12 :: a13 :: b :: r) 14 v) st h; rw [show jset1 (a0 :: a1 :: a2 :: a3 :: a4 :: a5 :: a6 :: a7 :: a8 :: a9 :: a10 :: a11 :: a12 :: a13 :: b :: r) 14 v = (a0 :: a1 :: a2 :: a3 :: a4 :: a5 :: a6 :: a7 :: a8 :: a9 :: a10 :: a11 :: a12 :: a13 :: some v :: r) from by simp [jset1, hk]]; exact k) hr
theorem J_iinc_14 {a0 a1 a2 a3 a4 a5 a6 a7 a8 a9 a10 a11 a12 a13 : Option Value} {r : List (Option Value)} {n : Int} {x : Int32} (d : Int32) (hd : decode (m_c M) pc = .ok (.iinc 14 n, 3)) (hv : Int32.ofInt n = d) (k : J G R F M X kc kn (pc + 3) (a0 :: a1 :: a2 :: a3 :: a4 :: a5 :: a6 :: a7 :: a8 :: a9 :: a10 :: a11 :: a12 :: a13 :: some (.int (x + d)) :: r) st h) (hn : 14 < m_n M := by decide) (hk : jn2 a13 = true := by rfl) : J G R F M X kc kn pc (a0 :: a1 :: a2 :: a3 :: a4 :: a5 :: a6 :: a7 :: a8 :: a9 :: a10 :: a11 :: a12 :: a13 :: some (.int x) :: r) st h := J_iinc d hd rfl hv hn (by rw [show jset1 (a0 :: a1 :: a2 :: a3 :: a4 :: a5 :: a6 :: a7 :: a8 :: a9 :: a10 :: a11 :: a12 :: a13 :: some (.int x) :: r) 14 (.int (x + d)) = (a0 :: a1 :: a2 :: a3 :: a4 :: a5 :: a6 :: a7 :: a8 :: a9 :: a10 :: a11 :: a12 :: a13 :: some (.int (x + d)) :: r) from by simp [jset1, hk]]; exact k)
theorem J_iadd {x y : Int32} (hd : decode (m_c M) pc = .ok (.iadd, 1)) (k : J G R F M X kc kn (pc + 1) lo (.int (x + y) :: st) h) : J G R F M X kc kn pc lo (.int y :: .int x :: st) h := by
  intro p e s m args below meth c H locs ls C hS hH hL hX
  exact lv_iadd C.1 C.2.1 hd (k p e s m args below meth c H locs ls C hS hH hL hX)

theorem J_isub {x y : Int32} (hd : decode (m_c M) pc = .ok (.isub, 1)) (k : J G R F M X kc kn (pc + 1) lo (.int (x - y) :: st) h) : J G R F M X kc kn pc lo (.int y :: .int x :: st) h := by
  intro p e s m args below meth c H locs ls C hS hH hL hX
  exact lv_isub C.1 C.2.1 hd (k p e s m args below meth c H locs ls C hS hH hL hX)

theorem J_imul {x y : Int32} (hd : decode (m_c M) pc = .ok (.imul, 1)) (k : J G R F M X kc kn (pc + 1) lo (.int (x * y) :: st) h) : J G R F M X kc kn pc lo (.int y :: .int x :: st) h := by
  intro p e s m args below meth c H locs ls C hS hH hL hX
  exact lv_imul C.1 C.2.1 hd (k p e s m args below meth c H locs ls C hS hH hL hX)

theorem J_iand {x y : Int32} (hd : decode (m_c M) pc = .ok (.iand, 1)) (k : J G R F M X kc kn (pc + 1) lo (.int (x &&& y) :: st) h) : J G R F M X kc kn pc lo (.int y :: .int x :: st) h := by
  intro p e s m args below meth c H locs ls C hS hH hL hX
  exact lv_iand C.1 C.2.1 hd (k p e s m args below meth c H locs ls C hS hH hL hX)

theorem J_ladd {x y : Int64} (hd : decode (m_c M) pc = .ok (.ladd, 1)) (k : J G R F M X kc kn (pc + 1) lo (.long (x + y) :: st) h) : J G R F M X kc kn pc lo (.long y :: .long x :: st) h := by
  intro p e s m args below meth c H locs ls C hS hH hL hX
  exact lv_ladd C.1 C.2.1 hd (k p e s m args below meth c H locs ls C hS hH hL hX)

theorem J_lsub {x y : Int64} (hd : decode (m_c M) pc = .ok (.lsub, 1)) (k : J G R F M X kc kn (pc + 1) lo (.long (x - y) :: st) h) : J G R F M X kc kn pc lo (.long y :: .long x :: st) h := by
  intro p e s m args below meth c H locs ls C hS hH hL hX
  exact lv_lsub C.1 C.2.1 hd (k p e s m args below meth c H locs ls C hS hH hL hX)

theorem J_lmul {x y : Int64} (hd : decode (m_c M) pc = .ok (.lmul, 1)) (k : J G R F M X kc kn (pc + 1) lo (.long (x * y) :: st) h) : J G R F M X kc kn pc lo (.long y :: .long x :: st) h := by
  intro p e s m args below meth c H locs ls C hS hH hL hX
  exact lv_lmul C.1 C.2.1 hd (k p e s m args below meth c H locs ls C hS hH hL hX)

theorem J_idiv {x y : Int32} (hne : ¬ y = 0) (hd : decode (m_c M) pc = .ok (.idiv, 1)) (k : J G R F M X kc kn (pc + 1) lo (.int (x / y) :: st) h) : J G R F M X kc kn pc lo (.int y :: .int x :: st) h := by
  intro p e s m args below meth c H locs ls C hS hH hL hX
  exact lv_idiv C.1 C.2.1 hd hne (k p e s m args below meth c H locs ls C hS hH hL hX)

theorem J_irem {x y : Int32} (hne : ¬ y = 0) (hd : decode (m_c M) pc = .ok (.irem, 1)) (k : J G R F M X kc kn (pc + 1) lo (.int (x - x / y * y) :: st) h) : J G R F M X kc kn pc lo (.int y :: .int x :: st) h := by
  intro p e s m args below meth c H locs ls C hS hH hL hX
  exact lv_irem C.1 C.2.1 hd hne (k p e s m args below meth c H locs ls C hS hH hL hX)

theorem J_ishr {x y : Int32} (hd : decode (m_c M) pc = .ok (.ishr, 1)) (k : J G R F M X kc kn (pc + 1) lo (.int (x >>> (y &&& 31)) :: st) h) : J G R F M X kc kn pc lo (.int y :: .int x :: st) h := by
  intro p e s m args below meth c H locs ls C hS hH hL hX
  exact lv_ishr C.1 C.2.1 hd (k p e s m args below meth c H locs ls C hS hH hL hX)

theorem J_ineg {x : Int32} (hd : decode (m_c M) pc = .ok (.ineg, 1)) (k : J G R F M X kc kn (pc + 1) lo (.int (-x) :: st) h) : J G R F M X kc kn pc lo (.int x :: st) h := by
  intro p e s m args below meth c H locs ls C hS hH hL hX
  exact lv_ineg C.1 C.2.1 hd (k p e s m args below meth c H locs ls C hS hH hL hX)

theorem J_ishl {x y : Int32} (hd : decode (m_c M) pc = .ok (.ishl, 1)) (k : J G R F M X kc kn (pc + 1) lo (.int (x <<< (y &&& 31)) :: st) h) : J G R F M X kc kn pc lo (.int y :: .int x :: st) h := by
  intro p e s m args below meth c H locs ls C hS hH hL hX
  exact lv_ishl C.1 C.2.1 hd (k p e s m args below meth c H locs ls C hS hH hL hX)

theorem J_ixor {x y : Int32} (hd : decode (m_c M) pc = .ok (.ixor, 1)) (k : J G R F M X kc kn (pc + 1) lo (.int (x ^^^ y) :: st) h) : J G R F M X kc kn pc lo (.int y :: .int x :: st) h := by
  intro p e s m args below meth c H locs ls C hS hH hL hX
  exact lv_ixor C.1 C.2.1 hd (k p e s m args below meth c H locs ls C hS hH hL hX)

theorem J_iushr {x y : Int32} (hd : decode (m_c M) pc = .ok (.iushr, 1)) (k : J G R F M X kc kn (pc + 1) lo (.int (x.toUInt32 >>> (y.toUInt32 &&& Int32.toUInt32 31)).toInt32 :: st) h) : J G R F M X kc kn pc lo (.int y :: .int x :: st) h := by
  intro p e s m args below meth c H locs ls C hS hH hL hX
  exact lv_iushr C.1 C.2.1 hd rfl (k p e s m args below meth c H locs ls C hS hH hL hX)

theorem J_lcmp {x y : Int64} (hd : decode (m_c M) pc = .ok (.lcmp, 1)) (k : J G R F M X kc kn (pc + 1) lo (.int (lg_cmp x y) :: st) h) : J G R F M X kc kn pc lo (.long y :: .long x :: st) h := by
  intro p e s m args below meth c H locs ls C hS hH hL hX
  exact W.lcmp C.1 C.2.1 hd (k p e s m args below meth c H locs ls C hS hH hL hX)

theorem J_fcmp {x y : UInt32} {op : CmpOp} (hd : decode (m_c M) pc = .ok (.fcmp op, 1)) (k : J G R F M X kc kn (pc + 1) lo (.int (Op.cmpValue (FP.fcmp x y) op) :: st) h) : J G R F M X kc kn pc lo (.float y :: .float x :: st) h := by
  intro p e s m args below meth c H locs ls C hS hH hL hX
  exact lv_fcmp C.1 C.2.1 hd (k p e s m args below meth c H locs ls C hS hH hL hX)

theorem J_dcmp {x y : UInt64} {op : CmpOp} (hd : decode (m_c M) pc = .ok (.dcmp op, 1)) (k : J G R F M X kc kn (pc + 1) lo (.int (Op.cmpValue (FP.dcmp x y) op) :: st) h) : J G R F M X kc kn pc lo (.double y :: .double x :: st) h := by
  intro p e s m args below meth c H locs ls C hS hH hL hX
  exact lv_dcmp C.1 C.2.1 hd (k p e s m args below meth c H locs ls C hS hH hL hX)

theorem J_i2l {x : Int32} (hd : decode (m_c M) pc = .ok (.i2l, 1)) (k : J G R F M X kc kn (pc + 1) lo (.long x.toInt64 :: st) h) : J G R F M X kc kn pc lo (.int x :: st) h := by
  intro p e s m args below meth c H locs ls C hS hH hL hX
  exact lv_i2l C.1 C.2.1 hd rfl (k p e s m args below meth c H locs ls C hS hH hL hX)

theorem J_i2c {x : Int32} (hd : decode (m_c M) pc = .ok (.i2c, 1)) (k : J G R F M X kc kn (pc + 1) lo (.int (x.toUInt32 % 65536).toInt32 :: st) h) : J G R F M X kc kn pc lo (.int x :: st) h := by
  intro p e s m args below meth c H locs ls C hS hH hL hX
  exact lv_i2c C.1 C.2.1 hd rfl (k p e s m args below meth c H locs ls C hS hH hL hX)

theorem J_i2f {x : Int32} (hd : decode (m_c M) pc = .ok (.i2f, 1)) (k : J G R F M X kc kn (pc + 1) lo (.float (FP.i2f x) :: st) h) : J G R F M X kc kn pc lo (.int x :: st) h := by
  intro p e s m args below meth c H locs ls C hS hH hL hX
  exact lv_i2f C.1 C.2.1 hd (k p e s m args below meth c H locs ls C hS hH hL hX)

theorem J_i2d {x : Int32} (hd : decode (m_c M) pc = .ok (.i2d, 1)) (k : J G R F M X kc kn (pc + 1) lo (.double (FP.i2d x) :: st) h) : J G R F M X kc kn pc lo (.int x :: st) h := by
  intro p e s m args below meth c H locs ls C hS hH hL hX
  exact lv_i2d C.1 C.2.1 hd (k p e s m args below meth c H locs ls C hS hH hL hX)

theorem J_f2d {x : UInt32} (hne : vf_n64 (FP.f2d x)) (hd : decode (m_c M) pc = .ok (.f2d, 1)) (k : J G R F M X kc kn (pc + 1) lo (.double (FP.f2d x) :: st) h) : J G R F M X kc kn pc lo (.float x :: st) h := by
  intro p e s m args below meth c H locs ls C hS hH hL hX
  exact lv_f2d C.1 C.2.1 hd hne (k p e s m args below meth c H locs ls C hS hH hL hX)

theorem J_fdiv {x y : UInt32} (hne : vf_n32 (FP.fdiv x y)) (hd : decode (m_c M) pc = .ok (.fdiv, 1)) (k : J G R F M X kc kn (pc + 1) lo (.float (FP.fdiv x y) :: st) h) : J G R F M X kc kn pc lo (.float y :: .float x :: st) h := by
  intro p e s m args below meth c H locs ls C hS hH hL hX
  exact lv_fdiv C.1 C.2.1 hd hne (k p e s m args below meth c H locs ls C hS hH hL hX)

theorem J_ddiv {x y : UInt64} (hne : vf_n64 (FP.ddiv x y)) (hd : decode (m_c M) pc = .ok (.ddiv, 1)) (k : J G R F M X kc kn (pc + 1) lo (.double (FP.ddiv x y) :: st) h) : J G R F M X kc kn pc lo (.double y :: .double x :: st) h := by
  intro p e s m args below meth c H locs ls C hS hH hL hX
  exact lv_ddiv C.1 C.2.1 hd hne (k p e s m args below meth c H locs ls C hS hH hL hX)

theorem J_dup {v : Value} (h1 : v.category = 1 := by rfl) (hd : decode (m_c M) pc = .ok (.dup, 1)) (k : J G R F M X kc kn (pc + 1) lo (v :: v :: st) h) : J G R F M X kc kn pc lo (v :: st) h := by
  intro p e s m args below meth c H locs ls C hS hH hL hX
  exact lv_dup C.1 C.2.1 hd (by rw [cV_cat G (jC_X C)]; exact h1) (k p e s m args below meth c H locs ls C hS hH hL hX)

theorem J_pop {v : Value} (h1 : v.category = 1 := by rfl) (hd : decode (m_c M) pc = .ok (.pop, 1)) (k : J G R F M X kc kn (pc + 1) lo st h) : J G R F M X kc kn pc lo (v :: st) h := by
  intro p e s m args below meth c H locs ls C hS hH hL hX
  exact lv_pop C.1 C.2.1 hd (by rw [cV_cat G (jC_X C)]; exact h1) (k p e s m args below meth c H locs ls C hS hH hL hX)

theorem J_dup2 {v w : Value} (h1 : v.category = 1 := by rfl) (h2 : w.category = 1 := by rfl) (hd : decode (m_c M) pc = .ok (.dup2, 1)) (k : J G R F M X kc kn (pc + 1) lo (v :: w :: v :: w :: st) h) : J G R F M X kc kn pc lo (v :: w :: st) h := by
  intro p e s m args below meth c H locs ls C hS hH hL hX
  exact lv_dup2_11 C.1 C.2.1 hd (by rw [cV_cat G (jC_X C)]; exact h1) (by rw [cV_cat G (jC_X C)]; exact h2) (k p e s m args below meth c H locs ls C hS hH hL hX)

theorem J_if_eq {x : Int32} {off : Int} (tgt : Nat) (hd : decode (m_c M) pc = .ok (.ifCond .eq off, 3)) (ht : (pc : Int) + off = (tgt : Int)) (kt : x = 0 → J G R F M X kc kn tgt lo st h) (kf : ¬ x = 0 → J G R F M X kc kn (pc + 3) lo st h) : J G R F M X kc kn pc lo (.int x :: st) h := by
  intro p e s m args below meth c H locs ls C hS hH hL hX
  exact lv_if_eq C.1 C.2.1 hd ht (fun q => kt q p e s m args below meth c H locs ls C hS hH hL hX) (fun q => kf q p e s m args below meth c H locs ls C hS hH hL hX)

theorem J_icmp_eq {x y : Int32} {off : Int} (tgt : Nat) (hd : decode (m_c M) pc = .ok (.if_icmp .eq off, 3)) (ht : (pc : Int) + off = (tgt : Int)) (kt : x = y → J G R F M X kc kn tgt lo st h) (kf : ¬ x = y → J G R F M X kc kn (pc + 3) lo st h) : J G R F M X kc kn pc lo (.int y :: .int x :: st) h := by
  intro p e s m args below meth c H locs ls C hS hH hL hX
  exact lv_icmp_eq C.1 C.2.1 hd ht (fun q => kt q p e s m args below meth c H locs ls C hS hH hL hX) (fun q => kf q p e s m args below meth c H locs ls C hS hH hL hX)

theorem J_if_ne {x : Int32} {off : Int} (tgt : Nat) (hd : decode (m_c M) pc = .ok (.ifCond .ne off, 3)) (ht : (pc : Int) + off = (tgt : Int)) (kt : ¬ x = 0 → J G R F M X kc kn tgt lo st h) (kf : x = 0 → J G R F M X kc kn (pc + 3) lo st h) : J G R F M X kc kn pc lo (.int x :: st) h := by
  intro p e s m args below meth c H locs ls C hS hH hL hX
  exact lv_if_ne C.1 C.2.1 hd ht (fun q => kt q p e s m args below meth c H locs ls C hS hH hL hX) (fun q => kf q p e s m args below meth c H locs ls C hS hH hL hX)

theorem J_icmp_ne {x y : Int32} {off : Int} (tgt : Nat) (hd : decode (m_c M) pc = .ok (.if_icmp .ne off, 3)) (ht : (pc : Int) + off = (tgt : Int)) (kt : ¬ x = y → J G R F M X kc kn tgt lo st h) (kf : x = y → J G R F M X kc kn (pc + 3) lo st h) : J G R F M X kc kn pc lo (.int y :: .int x :: st) h := by
  intro p e s m args below meth c H locs ls C hS hH hL hX
  exact lv_icmp_ne C.1 C.2.1 hd ht (fun q => kt q p e s m args below meth c H locs ls C hS hH hL hX) (fun q => kf q p e s m args below meth c H locs ls C hS hH hL hX)

theorem J_if_lt {x : Int32} {off : Int} (tgt : Nat) (hd : decode (m_c M) pc = .ok (.ifCond .lt off, 3)) (ht : (pc : Int) + off = (tgt : Int)) (kt : x < 0 → J G R F M X kc kn tgt lo st h) (kf : ¬ x < 0 → J G R F M X kc kn (pc + 3) lo st h) : J G R F M X kc kn pc lo (.int x :: st) h := by
  intro p e s m args below meth c H locs ls C hS hH hL hX
  exact lv_if_lt C.1 C.2.1 hd ht (fun q => kt q p e s m args below meth c H locs ls C hS hH hL hX) (fun q => kf q p e s m args below meth c H locs ls C hS hH hL hX)

theorem J_icmp_lt {x y : Int32} {off : Int} (tgt : Nat) (hd : decode (m_c M) pc = .ok (.if_icmp .lt off, 3)) (ht : (pc : Int) + off = (tgt : Int)) (kt : x < y → J G R F M X kc kn tgt lo st h) (kf : ¬ x < y → J G R F M X kc kn (pc + 3) lo st h) : J G R F M X kc kn pc lo (.int y :: .int x :: st) h := by
  intro p e s m args below meth c H locs ls C hS hH hL hX
  exact lv_icmp_lt C.1 C.2.1 hd ht (fun q => kt q p e s m args below meth c H locs ls C hS hH hL hX) (fun q => kf q p e s m args below meth c H locs ls C hS hH hL hX)

theorem J_if_ge {x : Int32} {off : Int} (tgt : Nat) (hd : decode (m_c M) pc = .ok (.ifCond .ge off, 3)) (ht : (pc : Int) + off = (tgt : Int)) (kt : 0 ≤ x → J G R F M X kc kn tgt lo st h) (kf : ¬ 0 ≤ x → J G R F M X kc kn (pc + 3) lo st h) : J G R F M X kc kn pc lo (.int x :: st) h := by
  intro p e s m args below meth c H locs ls C hS hH hL hX
  exact lv_if_ge C.1 C.2.1 hd ht (fun q => kt q p e s m args below meth c H locs ls C hS hH hL hX) (fun q => kf q p e s m args below meth c H locs ls C hS hH hL hX)

theorem J_icmp_ge {x y : Int32} {off : Int} (tgt : Nat) (hd : decode (m_c M) pc = .ok (.if_icmp .ge off, 3)) (ht : (pc : Int) + off = (tgt : Int)) (kt : y ≤ x → J G R F M X kc kn tgt lo st h) (kf : ¬ y ≤ x → J G R F M X kc kn (pc + 3) lo st h) : J G R F M X kc kn pc lo (.int y :: .int x :: st) h := by
  intro p e s m args below meth c H locs ls C hS hH hL hX
  exact lv_icmp_ge C.1 C.2.1 hd ht (fun q => kt q p e s m args below meth c H locs ls C hS hH hL hX) (fun q => kf q p e s m args below meth c H locs ls C hS hH hL hX)

theorem J_if_gt {x : Int32} {off : Int} (tgt : Nat) (hd : decode (m_c M) pc = .ok (.ifCond .gt off, 3)) (ht : (pc : Int) + off = (tgt : Int)) (kt : 0 < x → J G R F M X kc kn tgt lo st h) (kf : ¬ 0 < x → J G R F M X kc kn (pc + 3) lo st h) : J G R F M X kc kn pc lo (.int x :: st) h := by
  intro p e s m args below meth c H locs ls C hS hH hL hX
  exact lv_if_gt C.1 C.2.1 hd ht (fun q => kt q p e s m args below meth c H locs ls C hS hH hL hX) (fun q => kf q p e s m args below meth c H locs ls C hS hH hL hX)

theorem J_icmp_gt {x y : Int32} {off : Int} (tgt : Nat) (hd : decode (m_c M) pc = .ok (.if_icmp .gt off, 3)) (ht : (pc : Int) + off = (tgt : Int)) (kt : y < x → J G R F M X kc kn tgt lo st h) (kf : ¬ y < x → J G R F M X kc kn (pc + 3) lo st h) : J G R F M X kc kn pc lo (.int y :: .int x :: st) h := by
  intro p e s m args below meth c H locs ls C hS hH hL hX
  exact lv_icmp_gt C.1 C.2.1 hd ht (fun q => kt q p e s m args below meth c H locs ls C hS hH hL hX) (fun q => kf q p e s m args below meth c H locs ls C hS hH hL hX)

theorem J_if_le {x : Int32} {off : Int} (tgt : Nat) (hd : decode (m_c M) pc = .ok (.ifCond .le off, 3)) (ht : (pc : Int) + off = (tgt : Int)) (kt : x ≤ 0 → J G R F M X kc kn tgt lo st h) (kf : ¬ x ≤ 0 → J G R F M X kc kn (pc + 3) lo st h) : J G R F M X kc kn pc lo (.int x :: st) h := by
  intro p e s m args below meth c H locs ls C hS hH hL hX
  exact lv_if_le C.1 C.2.1 hd ht (fun q => kt q p e s m args below meth c H locs ls C hS hH hL hX) (fun q => kf q p e s m args below meth c H locs ls C hS hH hL hX)

theorem J_icmp_le {x y : Int32} {off : Int} (tgt : Nat) (hd : decode (m_c M) pc = .ok (.if_icmp .le off, 3)) (ht : (pc : Int) + off = (tgt : Int)) (kt : x ≤ y → J G R F M X kc kn tgt lo st h) (kf : ¬ x ≤ y → J G R F M X kc kn (pc + 3) lo st h) : J G R F M X kc kn pc lo (.int y :: .int x :: st) h := by
  intro p e s m args below meth c H locs ls C hS hH hL hX
  exact lv_icmp_le C.1 C.2.1 hd ht (fun q => kt q p e s m args below meth c H locs ls C hS hH hL hX) (fun q => kf q p e s m args below meth c H locs ls C hS hH hL hX)

theorem J_goto {off : Int} (tgt : Nat) (hd : decode (m_c M) pc = .ok (.goto off, 3)) (ht : (pc : Int) + off = (tgt : Int)) (k : J G R F M X kc kn tgt lo st h) : J G R F M X kc kn pc lo st h := by
  intro p e s m args below meth c H locs ls C hS hH hL hX
  exact lv_goto C.1 C.2.1 hd ht (k p e s m args below meth c H locs ls C hS hH hL hX)

theorem J_ifnull {i : Nat} {off : Int} (hd : decode (m_c M) pc = .ok (.ifnull off, 3)) (k : J G R F M X kc kn (pc + 3) lo st h) : J G R F M X kc kn pc lo (.ref i :: st) h := by
  intro p e s m args below meth c H locs ls C hS hH hL hX
  exact lv_ifnull C.1 C.2.1 hd (k p e s m args below meth c H locs ls C hS hH hL hX)

theorem J_ifnullN {off : Int} (tgt : Nat) (hd : decode (m_c M) pc = .ok (.ifnull off, 3)) (ht : (pc : Int) + off = (tgt : Int)) (k : J G R F M X kc kn tgt lo st h) : J G R F M X kc kn pc lo (.null :: st) h := by
  intro p e s m args below meth c H locs ls C hS hH hL hX
  exact lv_ifnullN C.1 C.2.1 hd ht (k p e s m args below meth c H locs ls C hS hH hL hX)

theorem J_ifnonnull {i : Nat} {off : Int} (tgt : Nat) (hd : decode (m_c M) pc = .ok (.ifnonnull off, 3)) (ht : (pc : Int) + off = (tgt : Int)) (k : J G R F M X kc kn tgt lo st h) : J G R F M X kc kn pc lo (.ref i :: st) h := by
  intro p e s m args below meth c H locs ls C hS hH hL hX
  exact lv_ifnonnull C.1 C.2.1 hd ht (k p e s m args below meth c H locs ls C hS hH hL hX)

theorem J_lookup {dflt : Int} {ps : Array (Int × Int)} {len : Nat} {x : Int32} {off : Int} (tgt : Nat) (hd : decode (m_c M) pc = .ok (.lookupswitch dflt ps, len)) (hp : (ps.toList.zip (ps.toList.drop 1)).all (fun (a, next) => a.1 < next.1) = true) (ho : Op.lookupswitch.offset ps.toList dflt x.toInt = off) (ht : (pc : Int) + off = (tgt : Int)) (k : J G R F M X kc kn tgt lo st h) : J G R F M X kc kn pc lo (.int x :: st) h := by
  intro p e s m args below meth c H locs ls C hS hH hL hX
  exact lv_lookup C.1 C.2.1 hd hp ho ht (k p e s m args below meth c H locs ls C hS hH hL hX)

theorem J_tableOut {dflt lo9 hi : Int} {offs : Array Int} {len : Nat} {x : Int32} (tgt : Nat) (hd : decode (m_c M) pc = .ok (.tableswitch dflt lo9 hi offs, len)) (hx : x.toInt < lo9 ∨ hi < x.toInt) (ht : (pc : Int) + dflt = (tgt : Int)) (k : J G R F M X kc kn tgt lo st h) : J G R F M X kc kn pc lo (.int x :: st) h := by
  intro p e s m args below meth c H locs ls C hS hH hL hX
  exact lv_tableOut C.1 C.2.1 hd hx ht (k p e s m args below meth c H locs ls C hS hH hL hX)

theorem J_tableIn {dflt lo9 hi : Int} {offs : Array Int} {len : Nat} {x : Int32} {off : Int} (tgt : Nat) (hd : decode (m_c M) pc = .ok (.tableswitch dflt lo9 hi offs, len)) (h1 : ¬ x.toInt < lo9) (h2 : ¬ hi < x.toInt) (ho : offs[(x.toInt - lo9).toNat]? = some off) (ht : (pc : Int) + off = (tgt : Int)) (k : J G R F M X kc kn tgt lo st h) : J G R F M X kc kn pc lo (.int x :: st) h := by
  intro p e s m args below meth c H locs ls C hS hH hL hX
  exact lv_tableIn C.1 C.2.1 hd h1 h2 ho ht (k p e s m args below meth c H locs ls C hS hH hL hX)

def jsub : List (Option Value) → List (Option Value) → Prop
  | [], _ => True
  | none :: a, _ :: b => jsub a b
  | some x :: a, some y :: b => x = y ∧ jsub a b
  | _, _ => False
theorem jsub_spec : ∀ {a b : List (Option Value)}, jsub a b → ∀ (i : Nat) (v : Value), a[i]? = some (some v) → b[i]? = some (some v)
  | [], b, _, i, v, h => by simp at h
  | none :: a, _ :: b, hs, i, v, h => by
    cases i with
    | zero => simp at h
    | succ i => simpa using jsub_spec (a := a) (b := b) hs i v (by simpa using h)
  | some x :: a, some y :: b, hs, i, v, h => by
    obtain ⟨rfl, hs⟩ := hs
    cases i with
    | zero => simpa using h
    | succ i => simpa using jsub_spec (a := a) (b := b) hs i v (by simpa using h)
theorem J_sub {lo' : List (Option Value)} (hs : jsub lo' lo) (k : J G R F M X kc kn pc lo' st h) : J G R F M X kc kn pc lo st h := by
  intro p e s m args below meth c H locs ls C hS hH hL hX
  exact k p e s m args below meth c H locs ls C hS hH ⟨hL.1, hL.2.1, fun i v hv => hL.2.2 i v (jsub_spec hs i v hv)⟩ hX
theorem J_widen {kc' kn' : Nat} (h1 : kc ≤ kc') (h2 : kn ≤ kn') (k : J G R F M false kc' kn' pc lo st h) : J G R F M false kc kn pc lo st h := by
  intro p e s m args below meth c H locs ls C hS hH hL _
  exact W.widen h1 h2 (k p e s m args below meth c H locs ls C hS hH hL (fun q => by cases q))
theorem J_lax (k : J G R F M false kc kn pc lo st h) : J G R F M X kc kn pc lo st h := by
  intro p e s m args below meth c H locs ls C hS hH hL _
  exact k p e s m args below meth c H locs ls C hS hH hL (fun q => by cases q)
end JROWS

