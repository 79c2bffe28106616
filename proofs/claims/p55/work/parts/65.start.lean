/-! The start: what the tables and the statics give -/
/-! THE CLAIM OUT OF ONE WALK OF THE LAW'S BODY. Your part is whole_start (and what it stands on); all else here is the same for every law, but numbers. -/
def R_law : String := "TrailGuideLaw"
def lw_P (b : Addr) (xs : List Int32) (args : Array Value) (s : State) : Prop := args = #[.ref b] ∧ s.IntsAt b xs ∧ xs.length ≤ 260 ∧ (Jvm.Cond.and given_1 narrow_1).before args s = true
def lw_Q (_ : Array Value) (s : State) (o : Outcome) (t : State) : Prop := o = .returned (some (.int 1)) ∧ Framed s o t [] 1200390 5490680
def lw_Z (below : List Frame) (a : Array Value) (s : State) : State → Prop := fun t => ∃ o, t.status = .running ∧ Ended t below o ∧ lw_Q a s o t
/-- the law's own end, with 1 on the stack, nothing written that was there before, its room as the claim has it -/
theorem lw_ret {p : Program} {l : Launch} {e : Env} {s : State} {m : MethodId} {below : List Frame} {meth : Method} {c : Code} {b : Nat} (hx : p.tables.exec = Jvm.exec) (hb : c.code = code) (hr : meth.sig.returnType = ret) (hlocks : meth.locks = false) {pc : Nat} {H : Heap} {ls : Array Slot} (hdg : decode code pc = .ok (.ireturn, 1)) : W p l e room_1 s m #[Value.ref b] below meth c H [] 1200390 5490680 (lw_Z below #[Value.ref b] s) (F0 m pc ls [.int 1]) := by
  intro T hT X
  obtain ⟨fs, hret, hrun, hended, hW, hframe⟩ := X.leave (v := some (.int 1)) (hlocks := hlocks) (fun h => by rw [hr] at h; cases h)
  have hmeth' : T.vm.method? m = some meth := X.method'
  refine ⟨T.setFrames fs, ?_, .returned (some (.int 1)), hrun, hended, rfl, ⟨_, rfl⟩, hW, hframe⟩
  jvm_step X.here [X.here.top, hx, hb, hdg, hmeth', hr, ret, narrow_b1]
  (try refine ⟨rfl, ?_⟩); (try refine ⟨rfl, ?_⟩)
  first | (intro acts; rw [hret _ acts rfl rfl rfl]) | rw [hret _ _ rfl rfl rfl]
  exact Steps.refl _
/-- what holds at the law's entry: the machine, the code, the tables' words (any of lw_tbl by 'hts w (by decide +kernel)'), the script of L ints xs at the cell b, what the Statement gives of the start (any of its parts by flat_of_before) -/
def lw_At (p : Program) (s : State) (m : MethodId) (meth : Method) (c : Code) (b L : Nat) (xs : Nat → Int32) : Prop :=
  p.tables.exec = Jvm.exec ∧ c.code = code ∧ meth.sig.returnType = ret ∧ c.maxLocals = 5 ∧ s.vm.findClass R_law = some m.cls ∧ (∀ w ∈ lw_tbl, w.before #[Value.ref b] s = true) ∧ va_X b L xs s s.heap ∧ b < s.heap.size ∧ meth.locks = false ∧ (Jvm.Cond.and given_1 narrow_1).before #[Value.ref b] s = true
theorem st_nest : ∀ q ∈ jNest, Cond.methodLinkNest q.1 q.2.1 q.2.2.1 q.2.2.2 ∈ lw_tbl := List.forall_mem_cons.mpr ⟨List.mem_of_getElem? (i := 268) (by decide +kernel), List.forall_mem_cons.mpr ⟨List.mem_of_getElem? (i := 274) (by decide +kernel), List.forall_mem_cons.mpr ⟨List.mem_of_getElem? (i := 319) (by decide +kernel), List.forall_mem_cons.mpr ⟨List.mem_of_getElem? (i := 405) (by decide +kernel), List.forall_mem_cons.mpr ⟨List.mem_of_getElem? (i := 638) (by decide +kernel), List.forall_mem_cons.mpr ⟨List.mem_of_getElem? (i := 644) (by decide +kernel), List.forall_mem_cons.mpr ⟨List.mem_of_getElem? (i := 649) (by decide +kernel), List.forall_mem_cons.mpr ⟨List.mem_of_getElem? (i := 678) (by decide +kernel), List.forall_mem_cons.mpr ⟨List.mem_of_getElem? (i := 713) (by decide +kernel), List.forall_mem_cons.mpr ⟨List.mem_of_getElem? (i := 764) (by decide +kernel), List.forall_mem_cons.mpr ⟨List.mem_of_getElem? (i := 784) (by decide +kernel), List.forall_mem_cons.mpr ⟨List.mem_of_getElem? (i := 815) (by decide +kernel), List.forall_mem_cons.mpr ⟨List.mem_of_getElem? (i := 828) (by decide +kernel), List.forall_mem_cons.mpr ⟨List.mem_of_getElem? (i := 831) (by decide +kernel), List.forall_mem_cons.mpr ⟨List.mem_of_getElem? (i := 865) (by decide +kernel), List.forall_mem_cons.mpr ⟨List.mem_of_getElem? (i := 1312) (by decide +kernel), fun _ h => absurd h List.not_mem_nil⟩⟩⟩⟩⟩⟩⟩⟩⟩⟩⟩⟩⟩⟩⟩⟩
theorem st_cast : ∀ q ∈ jCast, Cond.castable q.1 q.2 ∈ lw_tbl := List.forall_mem_cons.mpr ⟨List.mem_of_getElem? (i := 120) (by decide +kernel), List.forall_mem_cons.mpr ⟨List.mem_of_getElem? (i := 334) (by decide +kernel), List.forall_mem_cons.mpr ⟨List.mem_of_getElem? (i := 350) (by decide +kernel), List.forall_mem_cons.mpr ⟨List.mem_of_getElem? (i := 366) (by decide +kernel), List.forall_mem_cons.mpr ⟨List.mem_of_getElem? (i := 382) (by decide +kernel), fun _ h => absurd h List.not_mem_nil⟩⟩⟩⟩⟩
theorem st_decl : ∀ y ∈ jDecl, Cond.declares y ∈ lw_tbl := List.forall_mem_cons.mpr ⟨List.mem_of_getElem? (i := 121) (by decide +kernel), List.forall_mem_cons.mpr ⟨List.mem_of_getElem? (i := 122) (by decide +kernel), List.forall_mem_cons.mpr ⟨List.mem_of_getElem? (i := 123) (by decide +kernel), List.forall_mem_cons.mpr ⟨List.mem_of_getElem? (i := 124) (by decide +kernel), List.forall_mem_cons.mpr ⟨List.mem_of_getElem? (i := 125) (by decide +kernel), List.forall_mem_cons.mpr ⟨List.mem_of_getElem? (i := 126) (by decide +kernel), fun _ h => absurd h List.not_mem_nil⟩⟩⟩⟩⟩⟩
abbrev st_F : List Cond := flatC (Jvm.Cond.and given_1 narrow_1)
theorem st_noc : ∀ q ∈ jNoCast, Cond.not (Cond.castable q.1 q.2) ∈ st_F := List.forall_mem_cons.mpr ⟨List.mem_of_getElem? (i := 228) (by decide +kernel), List.forall_mem_cons.mpr ⟨List.mem_of_getElem? (i := 229) (by decide +kernel), List.forall_mem_cons.mpr ⟨List.mem_of_getElem? (i := 230) (by decide +kernel), List.forall_mem_cons.mpr ⟨List.mem_of_getElem? (i := 231) (by decide +kernel), List.forall_mem_cons.mpr ⟨List.mem_of_getElem? (i := 245) (by decide +kernel), List.forall_mem_cons.mpr ⟨List.mem_of_getElem? (i := 246) (by decide +kernel), List.forall_mem_cons.mpr ⟨List.mem_of_getElem? (i := 247) (by decide +kernel), List.forall_mem_cons.mpr ⟨List.mem_of_getElem? (i := 248) (by decide +kernel), List.forall_mem_cons.mpr ⟨List.mem_of_getElem? (i := 263) (by decide +kernel), List.forall_mem_cons.mpr ⟨List.mem_of_getElem? (i := 264) (by decide +kernel), List.forall_mem_cons.mpr ⟨List.mem_of_getElem? (i := 265) (by decide +kernel), List.forall_mem_cons.mpr ⟨List.mem_of_getElem? (i := 266) (by decide +kernel), List.forall_mem_cons.mpr ⟨List.mem_of_getElem? (i := 281) (by decide +kernel), List.forall_mem_cons.mpr ⟨List.mem_of_getElem? (i := 282) (by decide +kernel), List.forall_mem_cons.mpr ⟨List.mem_of_getElem? (i := 283) (by decide +kernel), List.forall_mem_cons.mpr ⟨List.mem_of_getElem? (i := 284) (by decide +kernel), List.forall_mem_cons.mpr ⟨List.mem_of_getElem? (i := 299) (by decide +kernel), List.forall_mem_cons.mpr ⟨List.mem_of_getElem? (i := 300) (by decide +kernel), List.forall_mem_cons.mpr ⟨List.mem_of_getElem? (i := 301) (by decide +kernel), List.forall_mem_cons.mpr ⟨List.mem_of_getElem? (i := 302) (by decide +kernel), fun _ h => absurd h List.not_mem_nil⟩⟩⟩⟩⟩⟩⟩⟩⟩⟩⟩⟩⟩⟩⟩⟩⟩⟩⟩⟩
theorem st_ref : ∀ q ∈ jStr, Cond.stringRef q.1 q.2.1 q.2.2.1 ∈ lw_tbl := List.forall_mem_cons.mpr ⟨List.mem_of_getElem? (i := 164) (by decide +kernel), List.forall_mem_cons.mpr ⟨List.mem_of_getElem? (i := 341) (by decide +kernel), List.forall_mem_cons.mpr ⟨List.mem_of_getElem? (i := 357) (by decide +kernel), List.forall_mem_cons.mpr ⟨List.mem_of_getElem? (i := 373) (by decide +kernel), List.forall_mem_cons.mpr ⟨List.mem_of_getElem? (i := 389) (by decide +kernel), List.forall_mem_cons.mpr ⟨List.mem_of_getElem? (i := 551) (by decide +kernel), List.forall_mem_cons.mpr ⟨List.mem_of_getElem? (i := 563) (by decide +kernel), List.forall_mem_cons.mpr ⟨List.mem_of_getElem? (i := 569) (by decide +kernel), List.forall_mem_cons.mpr ⟨List.mem_of_getElem? (i := 582) (by decide +kernel), List.forall_mem_cons.mpr ⟨List.mem_of_getElem? (i := 595) (by decide +kernel), List.forall_mem_cons.mpr ⟨List.mem_of_getElem? (i := 607) (by decide +kernel), List.forall_mem_cons.mpr ⟨List.mem_of_getElem? (i := 993) (by decide +kernel), List.forall_mem_cons.mpr ⟨List.mem_of_getElem? (i := 1133) (by decide +kernel), List.forall_mem_cons.mpr ⟨List.mem_of_getElem? (i := 1134) (by decide +kernel), List.forall_mem_cons.mpr ⟨List.mem_of_getElem? (i := 1135) (by decide +kernel), List.forall_mem_cons.mpr ⟨List.mem_of_getElem? (i := 1175) (by decide +kernel), List.forall_mem_cons.mpr ⟨List.mem_of_getElem? (i := 1199) (by decide +kernel), List.forall_mem_cons.mpr ⟨List.mem_of_getElem? (i := 1200) (by decide +kernel), List.forall_mem_cons.mpr ⟨List.mem_of_getElem? (i := 1201) (by decide +kernel), List.forall_mem_cons.mpr ⟨List.mem_of_getElem? (i := 1202) (by decide +kernel), List.forall_mem_cons.mpr ⟨List.mem_of_getElem? (i := 1239) (by decide +kernel), List.forall_mem_cons.mpr ⟨List.mem_of_getElem? (i := 1271) (by decide +kernel), List.forall_mem_cons.mpr ⟨List.mem_of_getElem? (i := 1272) (by decide +kernel), List.forall_mem_cons.mpr ⟨List.mem_of_getElem? (i := 1273) (by decide +kernel), List.forall_mem_cons.mpr ⟨List.mem_of_getElem? (i := 1274) (by decide +kernel), List.forall_mem_cons.mpr ⟨List.mem_of_getElem? (i := 1275) (by decide +kernel), List.forall_mem_cons.mpr ⟨List.mem_of_getElem? (i := 1276) (by decide +kernel), List.forall_mem_cons.mpr ⟨List.mem_of_getElem? (i := 1277) (by decide +kernel), List.forall_mem_cons.mpr ⟨List.mem_of_getElem? (i := 1278) (by decide +kernel), List.forall_mem_cons.mpr ⟨List.mem_of_getElem? (i := 1279) (by decide +kernel), List.forall_mem_cons.mpr ⟨List.mem_of_getElem? (i := 1329) (by decide +kernel), List.forall_mem_cons.mpr ⟨List.mem_of_getElem? (i := 1342) (by decide +kernel), List.forall_mem_cons.mpr ⟨List.mem_of_getElem? (i := 1406) (by decide +kernel), List.forall_mem_cons.mpr ⟨List.mem_of_getElem? (i := 1420) (by decide +kernel), fun _ h => absurd h List.not_mem_nil⟩⟩⟩⟩⟩⟩⟩⟩⟩⟩⟩⟩⟩⟩⟩⟩⟩⟩⟩⟩⟩⟩⟩⟩⟩⟩⟩⟩⟩⟩⟩⟩⟩⟩
def stW (own : String) (k len : Nat) (byt : List Int32) : List Cond :=
  [Cond.exactly (.string own k) "java/lang/String", Cond.eq (.field (.string own k) "java/lang/String" "coder" "B") (.int 0), Cond.arrayOf (.field (.string own k) "java/lang/String" "value" "[B") .byte, Cond.eq (.length (.field (.string own k) "java/lang/String" "value" "[B")) (.int (Int32.ofNat len))] ++ (List.range len).map (fun j => Cond.eq (.elem (.field (.string own k) "java/lang/String" "value" "[B") (.int (Int32.ofNat j))) (.int (byt.getD j 0)))
theorem st_words : jStr.flatMap (fun q => stW q.1 q.2.1 q.2.2.2.1 q.2.2.2.2) = (st_F.drop 306).take 586 := by decide +kernel
theorem st_do : (List.range 100).map (fun j => Cond.eq (.elem (.static "java/lang/Integer" "DigitOnes" "[B") (.int (Int32.ofNat j))) (.int (jDO j))) = (st_F.drop 14).take 100 := by decide +kernel
theorem st_dt : (List.range 100).map (fun j => Cond.eq (.elem (.static "java/lang/Integer" "DigitTens" "[B") (.int (Int32.ofNat j))) (.int (jDT j))) = (st_F.drop 117).take 100 := by decide +kernel
theorem st_len : ∀ q ∈ jStr, q.2.2.2.1 < 2 ^ 31 := by decide +kernel
theorem st_str {args : Array Value} {s : State} {A : Nat → Prop} {own tx : String} {k len : Nat} {byt : List Int32} (hl : len < 2 ^ 31) (hF : ∀ w ∈ stW own k len byt, w.before args s = true) (hR : (Cond.stringRef own k tx).before args s = true) (hA : ∀ a : Nat, a < s.heap.size → ¬ A a) :
    ∃ p : Nat × Nat, vk_R own k tx p.1 s ∧ vk_S 1 [len] [byt] (fun _ => p.1) (fun _ => p.2) A s s.heap := by
  have i0 : ∀ {i : Nat}, i < 1 → i = 0 := fun h => by omega
  obtain ⟨adK, adV, hS, hE⟩ := vk_Sof (args := args) (s := s) (N := 1) (tm := fun _ => .string own k) (len := [len]) (byt := [byt]) (A := A)
    (fun i hi => by rw [i0 hi]; exact hl)
    (fun i hi => hF _ (List.mem_append_left _ (List.mem_of_getElem? (i := 0) rfl)))
    (fun i hi => hF _ (List.mem_append_left _ (List.mem_of_getElem? (i := 1) rfl)))
    (fun i hi => hF _ (List.mem_append_left _ (List.mem_of_getElem? (i := 2) rfl)))
    (fun i hi => by rw [i0 hi]; exact hF _ (List.mem_append_left _ (List.mem_of_getElem? (i := 3) rfl)))
    (fun i hi j hj => by
      rw [i0 hi] at hj ⊢
      exact hF _ (List.mem_append_right _ (List.mem_map.mpr ⟨j, List.mem_range.mpr hj, rfl⟩)))
    (fun i j hi hj hne => absurd ((i0 hi).trans (i0 hj).symm) hne) hA
  refine ⟨(adK 0, adV 0), vk_R.of (A := args) hR (hE 0 (by decide)), fun i hi => ?_, fun i j hi hj _ => (i0 hi).trans (i0 hj).symm⟩
  have h := hS.1 i hi
  rw [i0 hi] at h ⊢
  exact h
theorem st_kn {args : Array Value} {s : State} {own : String} {idx ci n : Nat} {fs : List Value} (hs : sN own idx ci n fs) (hts : ∀ w ∈ lw_all, w.before args s = true) : ∃ p : ClassId × (Nat → Nat), ∀ q, jcl[ci]? = some q → u_Kn s q.1 q.2.1 q.2.2 p.1 p.2 := by
  obtain ⟨C, T, ty, hc, hin, _, _, hi, _⟩ := hs
  obtain ⟨cC, iS, hk⟩ := u_known hts hin (hts _ hi)
  exact ⟨(cC, iS), fun q hq => by rw [hc] at hq; cases hq; exact hk⟩
theorem st_arr {args : Array Value} {s : State} {ty : FieldType} (hw : (Cond.arrayClass ty).before args s = true) (hR : ∀ cA : ClassId, s.vm.findClass ("[" ++ ty.toString) = some cA → va_RA s cA ty) : ∃ cA : ClassId, ArrOfT s cA ty ∧ va_RA s cA ty := by
  obtain ⟨cA, kA, comp, h1, h2, h3⟩ := Cond.arrayClass_spec hw
  exact ⟨cA, fun n z => ⟨(fun k h => by cases h), kA, h2, comp, h3⟩, hR cA h1⟩
theorem st_arq {s : State} {C : String} (hw : va_AO C s) : ∃ cA : ClassId, ArrOfT s cA (.object C) ∧ va_RA s cA (.object C) := by
  obtain ⟨comp, cA, kA, h1, _, h2, h3, h4⟩ := Cond.arrayOver_spec hw
  exact ⟨cA, fun n z => ⟨(fun k h => by cases h), kA, h2, comp, h3⟩, kA, comp, h2, h3, h1, h4⟩
theorem st_dig {args : Array Value} {s : State} {nm : String} {f : Nat → Int32} (ha : (Cond.arrayOf (.static "java/lang/Integer" nm "[B") .byte).before args s = true) (hl : (Cond.eq (.length (.static "java/lang/Integer" nm "[B")) (.int 100)).before args s = true) (he : ∀ w ∈ (List.range 100).map (fun j => Cond.eq (.elem (.static "java/lang/Integer" nm "[B") (.int (Int32.ofNat j))) (.int (f j))), w.before args s = true)
    (h1 : (Cond.laysStatic "java/lang/Integer" nm "[B").before args s = true) (h2 : (Cond.initialized "java/lang/Integer").before args s = true) (hA : ∀ a : Nat, a < s.heap.size → ¬ (s.heap.size ≤ a)) : ∃ t : Nat, va_Z "java/lang/Integer" nm "[B" (.ref t) (fun q => s.heap.size ≤ q) s s.heap ∧ va_T .byte t 100 (fun j => .int (f j)) (fun q => s.heap.size ≤ q) s s.heap := by
  obtain ⟨t, ht, hT⟩ := va_Tof (args := args) (s := s) (tm := .static "java/lang/Integer" nm "[B") (ty := .byte) (N := 100) (f := fun j => .int (f j)) (A := fun q => s.heap.size ≤ q) (by decide) ha (va_eqt hl) (fun j hj => va_eqt (he _ (List.mem_map.mpr ⟨j, List.mem_range.mpr hj, rfl⟩))) hA
  exact ⟨t, va_Zof (args := args) h1 h2 ht hA, hT⟩
theorem st_priv {args : Array Value} {s : State} (hts : ∀ w ∈ lw_tbl, w.before args s = true) : ∀ y ∈ jPriv, va_Nw (.selects RJ4 y y) s := List.forall_mem_cons.mpr ⟨va_Nw.of rfl (sb_selects (y0 := ⟨"java/lang/AbstractStringBuilder", "isLatin1", "()Z"⟩) (hts _ (List.mem_of_getElem? (i := 1037) (by decide +kernel))) rfl (by decide) (hts _ (List.mem_of_getElem? (i := 1035) (by decide +kernel))) (hts _ (List.mem_of_getElem? (i := 1007) (by decide +kernel))) (hts _ (List.mem_of_getElem? (i := 1006) (by decide +kernel)))), List.forall_mem_cons.mpr ⟨va_Nw.of rfl (sb_selects (y0 := ⟨"java/lang/AbstractStringBuilder", "isLatin1", "()Z"⟩) (hts _ (List.mem_of_getElem? (i := 1037) (by decide +kernel))) rfl (by decide) (hts _ (List.mem_of_getElem? (i := 1035) (by decide +kernel))) (hts _ (List.mem_of_getElem? (i := 1011) (by decide +kernel))) (hts _ (List.mem_of_getElem? (i := 1010) (by decide +kernel)))), List.forall_mem_cons.mpr ⟨va_Nw.of rfl (sb_selects (y0 := ⟨"java/lang/AbstractStringBuilder", "isLatin1", "()Z"⟩) (hts _ (List.mem_of_getElem? (i := 1037) (by decide +kernel))) rfl (by decide) (hts _ (List.mem_of_getElem? (i := 1035) (by decide +kernel))) (hts _ (List.mem_of_getElem? (i := 1076) (by decide +kernel))) (hts _ (List.mem_of_getElem? (i := 1075) (by decide +kernel)))), List.forall_mem_cons.mpr ⟨va_Nw.of rfl (sb_selects (y0 := ⟨"java/lang/AbstractStringBuilder", "isLatin1", "()Z"⟩) (hts _ (List.mem_of_getElem? (i := 1037) (by decide +kernel))) rfl (by decide) (hts _ (List.mem_of_getElem? (i := 1035) (by decide +kernel))) (hts _ (List.mem_of_getElem? (i := 1080) (by decide +kernel))) (hts _ (List.mem_of_getElem? (i := 1079) (by decide +kernel)))), fun _ h => absurd h List.not_mem_nil⟩⟩⟩⟩
theorem st_B {p : Program} {s : State} {m : MethodId} {meth : Method} {c : Code} {b L : Nat} {xs : Nat → Int32} (l : Launch) (hflags : l.flags = flags0) (C0 : lw_At p s m meth c b L xs) :
    ∃ G : jG, g_l G = l ∧ g_n G = s.heap.size ∧ g_L G = L ∧ g_X G 0 = .ref b ∧ (∀ i, g_P G i = g_n G + i) ∧ jB G s := by
  obtain ⟨hx, hb, hr, hml, hown, hts, hX, hbl, hlk, hgv⟩ := C0
  have hF := flat_of_before _ hgv
  have hall : ∀ w ∈ lw_all, w.before #[Value.ref b] s = true := fun w hw => hts w (lw_all_tbl hw)
  obtain ⟨D, hD⟩ := Classical.axiomOfChoice (show ∀ ci : Nat, ∃ p : ClassId × (Nat → Nat), ∀ q, jcl[ci]? = some q → u_Kn s q.1 q.2.1 q.2.2 p.1 p.2 from fun ci => by
    by_cases h12 : ci < 13
    · rcases (show ci = 0 ∨ ci = 1 ∨ ci = 2 ∨ ci = 3 ∨ ci = 4 ∨ ci = 5 ∨ ci = 6 ∨ ci = 7 ∨ ci = 8 ∨ ci = 9 ∨ ci = 10 ∨ ci = 11 ∨ ci = 12 by omega) with rfl | rfl | rfl | rfl | rfl | rfl | rfl | rfl | rfl | rfl | rfl | rfl | rfl
      · exact st_kn n_X1_25 hall
      · exact st_kn n_X10_9 hall
      · exact st_kn n_X10_16 hall
      · exact st_kn n_X10_40 hall
      · exact st_kn n_X7_23 hall
      · exact st_kn n_X1_18 hall
      · exact st_kn n_X10_33 hall
      · exact st_kn n_X1_9 hall
      · exact st_kn n_X7_16 hall
      · exact st_kn n_X7_7 hall
      · exact st_kn n_L_10 hall
      · exact st_kn n_L_150 hall
      · exact st_kn n_J4_18 hall
    · exact ⟨(0, fun _ => 0), fun q hq => absurd (List.getElem?_eq_some_iff.mp hq).1 (by show ¬ ci < 13; exact h12)⟩)
  obtain ⟨a0, A0⟩ := st_arr (hall _ aw_int) (fun _ h => h)
  obtain ⟨a1, A1⟩ := st_arr (hall _ aw_boolean) (fun _ h => h)
  obtain ⟨a2, A2⟩ := st_arr (hall _ aw_char) (fun _ h => h)
  obtain ⟨a3, A3⟩ := st_arr (hall _ aw_byte) (fun _ h => h)
  obtain ⟨a4, A4⟩ := st_arr (hall _ aw_int) (fun _ h => h)
  have hAO : va_AO RX7 s := va_AO.of (A := #[Value.ref b]) (hts _ (List.mem_of_getElem? (i := 814) (by decide +kernel)))
  obtain ⟨a5, A5⟩ := st_arq hAO
  have hA : ∀ a : Nat, a < s.heap.size → ¬ (s.heap.size ≤ a) := fun a h => Nat.not_le.mpr h
  have hU : vx_Zq Bundle.tN "UNASSIGNED_STACK" Bundle.steD (fun q => s.heap.size ≤ q) s s.heap := vx_Zqof (args := #[Value.ref b]) (hts _ (List.mem_of_getElem? (i := 147) (by decide +kernel))) (hts _ (List.mem_of_getElem? (i := 46) (by decide +kernel))) (hF _ (List.mem_of_getElem? (i := 4) (by decide +kernel))) hA
  have hN : vx_Zq Bundle.tN "SUPPRESSED_SENTINEL" Bundle.listD (fun q => s.heap.size ≤ q) s s.heap := vx_Zqof (args := #[Value.ref b]) (hts _ (List.mem_of_getElem? (i := 149) (by decide +kernel))) (hts _ (List.mem_of_getElem? (i := 46) (by decide +kernel))) (hF _ (List.mem_of_getElem? (i := 5) (by decide +kernel))) hA
  have hC : va_Z "java/lang/String" "COMPACT_STRINGS" "Z" (.int 1) (fun q => s.heap.size ≤ q) s s.heap := va_Zof (args := #[Value.ref b]) (hts _ (List.mem_of_getElem? (i := 972) (by decide +kernel))) (hts _ (List.mem_of_getElem? (i := 56) (by decide +kernel))) (va_eqi (hF _ (List.mem_of_getElem? (i := 6) (by decide +kernel)))) hA
  have hP : va_Zq "jdk/internal/util/Preconditions" "SIOOBE_FORMATTER" "Ljava/util/function/BiFunction;" (fun q => s.heap.size ≤ q) s s.heap := va_Zqof (args := #[Value.ref b]) (hts _ (List.mem_of_getElem? (i := 1052) (by decide +kernel))) (hts _ (List.mem_of_getElem? (i := 63) (by decide +kernel))) (hF _ (List.mem_of_getElem? (i := 7) (by decide +kernel))) hA
  obtain ⟨v1, hv1, hZ1⟩ : ∃ v : Value, (v = .null ∨ ∃ a, v = .ref a) ∧ va_Z "jdk/internal/util/Preconditions" "SIOOBE_FORMATTER" "Ljava/util/function/BiFunction;" v (fun q => s.heap.size ≤ q) s s.heap := by
    rcases hP with h | ⟨t, h⟩
    · exact ⟨.null, Or.inl rfl, h⟩
    · exact ⟨.ref t, Or.inr ⟨t, rfl⟩, h⟩
  obtain ⟨t1, hZ3, hT3⟩ := st_dig (args := #[Value.ref b]) (s := s) (nm := "DigitOnes") (f := jDO) (hF _ (List.mem_of_getElem? (i := 12) (by decide +kernel))) (hF _ (List.mem_of_getElem? (i := 13) (by decide +kernel))) (fun w hw => hF w (List.mem_of_mem_drop (i := 14) (List.mem_of_mem_take (i := 100) (by rw [← st_do]; exact hw)))) (hts _ (List.mem_of_getElem? (i := 1122) (by decide +kernel))) (hts _ (List.mem_of_getElem? (i := 66) (by decide +kernel))) hA
  obtain ⟨t2, hZ4, hT4⟩ := st_dig (args := #[Value.ref b]) (s := s) (nm := "DigitTens") (f := jDT) (hF _ (List.mem_of_getElem? (i := 115) (by decide +kernel))) (hF _ (List.mem_of_getElem? (i := 116) (by decide +kernel))) (fun w hw => hF w (List.mem_of_mem_drop (i := 117) (List.mem_of_mem_take (i := 100) (by rw [← st_dt]; exact hw)))) (hts _ (List.mem_of_getElem? (i := 1124) (by decide +kernel))) (hts _ (List.mem_of_getElem? (i := 66) (by decide +kernel))) hA
  obtain ⟨pS, hpS⟩ := Classical.axiomOfChoice (show ∀ i : Nat, ∃ p : Nat × Nat, ∀ q : jS_, jStr[i]? = some q → vk_R q.1 q.2.1 q.2.2.1 p.1 s ∧ vk_S 1 [q.2.2.2.1] [q.2.2.2.2] (fun _ => p.1) (fun _ => p.2) (fun q => s.heap.size ≤ q) s s.heap from fun i => by
    cases hq : jStr[i]? with
    | none => exact ⟨(0, 0), fun q h => by cases h⟩
    | some q =>
      have hm := List.mem_of_getElem? hq
      obtain ⟨p, h1, h2⟩ := st_str (args := #[Value.ref b]) (s := s) (A := fun q => s.heap.size ≤ q) (st_len q hm) (fun w hw => hF w (List.mem_of_mem_drop (i := 306) (List.mem_of_mem_take (i := 586) (by rw [← st_words]; exact List.mem_flatMap.mpr ⟨q, hm, hw⟩)))) (hts _ (st_ref q hm)) hA
      exact ⟨p, fun q' h => by cases h; exact ⟨h1, h2⟩⟩)
  refine ⟨(l, s.heap.size, (fun c => (D c).1, fun c => (D c).2), (fun k => if k = 0 then a0 else if k = 1 then a1 else if k = 2 then a2 else if k = 3 then a3 else if k = 4 then a4 else a5),
    (fun k => (if k = 0 then Value.ref b else if k = 1 then v1 else if k = 1000 then Value.ref t1 else if k = 1001 then Value.ref t2 else if k % 2 = 0 then Value.ref (pS ((k - 2) / 2)).1 else Value.ref (pS ((k - 3) / 2)).2)), L, xs, fun i => s.heap.size + i), rfl, rfl, rfl, rfl, fun _ => rfl, ?_⟩
  refine ⟨Nat.le_refl _, ?_, ⟨fun ci q hq => hD ci q hq, fun k q hq => ?_⟩, hU, hN, fun q hq => va_Nw.of rfl (hts _ (st_nest q hq)), hAO, ⟨fun q hq => va_Nw.of rfl (hts _ (st_cast q hq)), fun y hy => va_Nw.of rfl (hts _ (st_decl y hy))⟩, fun q hq => va_Nc.of (hF _ (st_noc q hq)), fun i q hq => ?_, hC, hZ1, fun k => ?_, ⟨b, rfl, hbl, hX⟩, ⟨t1, rfl, hZ3, hT3⟩, ⟨t2, rfl, hZ4, hT4⟩, st_priv hts⟩
  · show Launch.stackTraces l = false
    unfold Launch.stackTraces
    rw [hflags]
    decide +kernel
  · have hk : k < 6 := (List.getElem?_eq_some_iff.mp hq).1
    rcases (show k = 0 ∨ k = 1 ∨ k = 2 ∨ k = 3 ∨ k = 4 ∨ k = 5 by omega) with rfl | rfl | rfl | rfl | rfl | rfl
    · obtain rfl := Option.some.inj hq; exact A0
    · obtain rfl := Option.some.inj hq; exact A1
    · obtain rfl := Option.some.inj hq; exact A2
    · obtain rfl := Option.some.inj hq; exact A3
    · obtain rfl := Option.some.inj hq; exact A4
    · obtain rfl := Option.some.inj hq; exact A5
  · obtain ⟨h1, h2⟩ := hpS i q hq
    refine ⟨(pS i).1, (pS i).2, ?_, ?_, h1, h2⟩
    · have hi : i < 34 := (List.getElem?_eq_some_iff.mp hq).1
      show (if 2 * i + 2 = 0 then Value.ref b else if 2 * i + 2 = 1 then v1 else if 2 * i + 2 = 1000 then Value.ref t1 else if 2 * i + 2 = 1001 then Value.ref t2 else if (2 * i + 2) % 2 = 0 then Value.ref (pS ((2 * i + 2 - 2) / 2)).1 else Value.ref (pS ((2 * i + 2 - 3) / 2)).2) = Value.ref (pS i).1
      rw [if_neg (by omega), if_neg (by omega), if_neg (by omega), if_neg (by omega), if_pos (by omega), show (2 * i + 2 - 2) / 2 = i by omega]
    · have hi : i < 34 := (List.getElem?_eq_some_iff.mp hq).1
      show (if 2 * i + 3 = 0 then Value.ref b else if 2 * i + 3 = 1 then v1 else if 2 * i + 3 = 1000 then Value.ref t1 else if 2 * i + 3 = 1001 then Value.ref t2 else if (2 * i + 3) % 2 = 0 then Value.ref (pS ((2 * i + 3 - 2) / 2)).1 else Value.ref (pS ((2 * i + 3 - 3) / 2)).2) = Value.ref (pS i).2
      rw [if_neg (by omega), if_neg (by omega), if_neg (by omega), if_neg (by omega), if_neg (by omega), show (2 * i + 3 - 3) / 2 = i by omega]
  · show (if k = 0 then Value.ref b else if k = 1 then v1 else if k = 1000 then Value.ref t1 else if k = 1001 then Value.ref t2 else if k % 2 = 0 then Value.ref (pS ((k - 2) / 2)).1 else Value.ref (pS ((k - 3) / 2)).2) = .null ∨ ∃ a, (if k = 0 then Value.ref b else if k = 1 then v1 else if k = 1000 then Value.ref t1 else if k = 1001 then Value.ref t2 else if k % 2 = 0 then Value.ref (pS ((k - 2) / 2)).1 else Value.ref (pS ((k - 3) / 2)).2) = .ref a
    split
    · exact Or.inr ⟨_, rfl⟩
    · split
      · exact hv1
      · split
        · exact Or.inr ⟨_, rfl⟩
        · split
          · exact Or.inr ⟨_, rfl⟩
          · split
            · exact Or.inr ⟨_, rfl⟩
            · exact Or.inr ⟨_, rfl⟩
