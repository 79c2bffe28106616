theorem jlt {h : jH} {i : Nat} {c : jC} (hc : h[i]? = some c) : i < h.length := (List.getElem?_eq_some_iff.mp hc).1
theorem jget_same2 {h : jH} {i : Nat} {c : jC} (hi : i < h.length) : (h.set i c)[i]? = some c := List.getElem?_set_self hi
section JNAT
variable {G : jG} {R : Room} {F : jF} {M : jM} {X : Bool} {kc kn pc : Nat} {lo : List (Option Value)} {st : List Value} {h : jH}
theorem J_topi {x : Int32} (y : Int32) (hxy : x = y) (k : J G R F M X kc kn pc lo (.int y :: st) h) : J G R F M X kc kn pc lo (.int x :: st) h := hxy ▸ k
theorem J_topl {x : Int64} (y : Int64) (hxy : x = y) (k : J G R F M X kc kn pc lo (.long y :: st) h) : J G R F M X kc kn pc lo (.long x :: st) h := hxy ▸ k
theorem J_iadd_n {a b : Nat} (hd : decode (m_c M) pc = .ok (.iadd, 1)) (k : J G R F M X kc kn (pc + 1) lo (.int (nI (a + b)) :: st) h) : J G R F M X kc kn pc lo (.int (nI b) :: .int (nI a) :: st) h := J_iadd hd (by rw [nI_add]; exact k)
theorem J_imul_n {a b : Nat} (hd : decode (m_c M) pc = .ok (.imul, 1)) (k : J G R F M X kc kn (pc + 1) lo (.int (nI (a * b)) :: st) h) : J G R F M X kc kn pc lo (.int (nI b) :: .int (nI a) :: st) h := J_imul hd (by rw [pk_mul]; exact k)
theorem J_isub_n {a b : Nat} (hb : b ≤ a) (hd : decode (m_c M) pc = .ok (.isub, 1)) (k : J G R F M X kc kn (pc + 1) lo (.int (nI (a - b)) :: st) h) : J G R F M X kc kn pc lo (.int (nI b) :: .int (nI a) :: st) h := J_isub hd (by rw [pk_sub hb]; exact k)
theorem nI_ne {d : Nat} (h0 : 0 < d) (hd : d < 2 ^ 31) : ¬ nI d = 0 := nI_ne0 h0 hd
theorem J_idiv_n {a b : Nat} (ha : a < 2 ^ 31) (h0 : 0 < b) (hb : b < 2 ^ 31) (hd : decode (m_c M) pc = .ok (.idiv, 1)) (k : J G R F M X kc kn (pc + 1) lo (.int (nI (a / b)) :: st) h) : J G R F M X kc kn pc lo (.int (nI b) :: .int (nI a) :: st) h := J_idiv (nI_ne0 h0 hb) hd (by rw [pk_div ha h0 hb]; exact k)
theorem J_irem_n {a b : Nat} (ha : a < 2 ^ 31) (h0 : 0 < b) (hb : b < 2 ^ 31) (hd : decode (m_c M) pc = .ok (.irem, 1)) (k : J G R F M X kc kn (pc + 1) lo (.int (nI (a % b)) :: st) h) : J G R F M X kc kn pc lo (.int (nI b) :: .int (nI a) :: st) h := J_irem (nI_ne0 h0 hb) hd (by rw [pk_rem ha h0 hb]; exact k)
theorem J_icmp_eq_n {a b : Nat} {off : Int} (tgt : Nat) (hd : decode (m_c M) pc = .ok (.if_icmp .eq off, 3)) (ht : (pc : Int) + off = (tgt : Int)) (kt : a = b → J G R F M X kc kn tgt lo st h) (kf : ¬ a = b → J G R F M X kc kn (pc + 3) lo st h) (ha : a < 2 ^ 31 := by omega) (hb : b < 2 ^ 31 := by omega) : J G R F M X kc kn pc lo (.int (nI b) :: .int (nI a) :: st) h :=
  J_icmp_eq tgt hd ht (fun q => kt ((nI_eq ha hb).mp q)) (fun q => kf (fun z => q ((nI_eq ha hb).mpr z)))
theorem J_icmp_ne_n {a b : Nat} {off : Int} (tgt : Nat) (hd : decode (m_c M) pc = .ok (.if_icmp .ne off, 3)) (ht : (pc : Int) + off = (tgt : Int)) (kt : ¬ a = b → J G R F M X kc kn tgt lo st h) (kf : a = b → J G R F M X kc kn (pc + 3) lo st h) (ha : a < 2 ^ 31 := by omega) (hb : b < 2 ^ 31 := by omega) : J G R F M X kc kn pc lo (.int (nI b) :: .int (nI a) :: st) h :=
  J_icmp_ne tgt hd ht (fun q => kt (fun z => q ((nI_eq ha hb).mpr z))) (fun q => kf ((nI_eq ha hb).mp q))
theorem J_icmp_lt_n {a b : Nat} {off : Int} (tgt : Nat) (hd : decode (m_c M) pc = .ok (.if_icmp .lt off, 3)) (ht : (pc : Int) + off = (tgt : Int)) (kt : a < b → J G R F M X kc kn tgt lo st h) (kf : b ≤ a → J G R F M X kc kn (pc + 3) lo st h) (ha : a < 2 ^ 31 := by omega) (hb : b < 2 ^ 31 := by omega) : J G R F M X kc kn pc lo (.int (nI b) :: .int (nI a) :: st) h :=
  J_icmp_lt tgt hd ht (fun q => kt ((nI_ltI ha hb).mp q)) (fun q => kf (Nat.le_of_not_lt fun z => q ((nI_ltI ha hb).mpr z)))
theorem J_icmp_ge_n {a b : Nat} {off : Int} (tgt : Nat) (hd : decode (m_c M) pc = .ok (.if_icmp .ge off, 3)) (ht : (pc : Int) + off = (tgt : Int)) (kt : b ≤ a → J G R F M X kc kn tgt lo st h) (kf : a < b → J G R F M X kc kn (pc + 3) lo st h) (ha : a < 2 ^ 31 := by omega) (hb : b < 2 ^ 31 := by omega) : J G R F M X kc kn pc lo (.int (nI b) :: .int (nI a) :: st) h :=
  J_icmp_ge tgt hd ht (fun q => kt ((nI_leI hb ha).mp q)) (fun q => kf (Nat.lt_of_not_le fun z => q ((nI_leI hb ha).mpr z)))
theorem J_icmp_gt_n {a b : Nat} {off : Int} (tgt : Nat) (hd : decode (m_c M) pc = .ok (.if_icmp .gt off, 3)) (ht : (pc : Int) + off = (tgt : Int)) (kt : b < a → J G R F M X kc kn tgt lo st h) (kf : a ≤ b → J G R F M X kc kn (pc + 3) lo st h) (ha : a < 2 ^ 31 := by omega) (hb : b < 2 ^ 31 := by omega) : J G R F M X kc kn pc lo (.int (nI b) :: .int (nI a) :: st) h :=
  J_icmp_gt tgt hd ht (fun q => kt ((nI_ltI hb ha).mp q)) (fun q => kf (Nat.le_of_not_lt fun z => q ((nI_ltI hb ha).mpr z)))
theorem J_icmp_le_n {a b : Nat} {off : Int} (tgt : Nat) (hd : decode (m_c M) pc = .ok (.if_icmp .le off, 3)) (ht : (pc : Int) + off = (tgt : Int)) (kt : a ≤ b → J G R F M X kc kn tgt lo st h) (kf : b < a → J G R F M X kc kn (pc + 3) lo st h) (ha : a < 2 ^ 31 := by omega) (hb : b < 2 ^ 31 := by omega) : J G R F M X kc kn pc lo (.int (nI b) :: .int (nI a) :: st) h :=
  J_icmp_le tgt hd ht (fun q => kt ((nI_leI ha hb).mp q)) (fun q => kf (Nat.lt_of_not_le fun z => q ((nI_leI ha hb).mpr z)))
theorem nI_z {a : Nat} (ha : a < 2 ^ 31) (q : nI a = 0) : a = 0 := (nI_eq ha (by decide)).mp (q.trans nI_0.symm)
theorem nI_nz {a : Nat} (q : ¬ nI a = 0) : 0 < a := Nat.pos_of_ne_zero fun z => q (by subst z; exact nI_0)
theorem nI_gt0 {a : Nat} (z : 0 < a) (ha : a < 2 ^ 31) : 0 < nI a := by
  have := nI_lt z ha
  rwa [nI_0] at this
theorem J_if_eq_n {a : Nat} {off : Int} (tgt : Nat) (hd : decode (m_c M) pc = .ok (.ifCond .eq off, 3)) (ht : (pc : Int) + off = (tgt : Int)) (kt : a = 0 → J G R F M X kc kn tgt lo st h) (kf : 0 < a → J G R F M X kc kn (pc + 3) lo st h) (ha : a < 2 ^ 31 := by omega) : J G R F M X kc kn pc lo (.int (nI a) :: st) h :=
  J_if_eq tgt hd ht (fun q => kt (nI_z ha q)) (fun q => kf (nI_nz q))
theorem J_if_ne_n {a : Nat} {off : Int} (tgt : Nat) (hd : decode (m_c M) pc = .ok (.ifCond .ne off, 3)) (ht : (pc : Int) + off = (tgt : Int)) (kt : 0 < a → J G R F M X kc kn tgt lo st h) (kf : a = 0 → J G R F M X kc kn (pc + 3) lo st h) (ha : a < 2 ^ 31 := by omega) : J G R F M X kc kn pc lo (.int (nI a) :: st) h :=
  J_if_ne tgt hd ht (fun q => kt (nI_nz q)) (fun q => kf (nI_z ha q))
theorem J_if_lt_n {a : Nat} {off : Int} (tgt : Nat) (hd : decode (m_c M) pc = .ok (.ifCond .lt off, 3)) (ht : (pc : Int) + off = (tgt : Int)) (kf : J G R F M X kc kn (pc + 3) lo st h) (ha : a < 2 ^ 31 := by omega) : J G R F M X kc kn pc lo (.int (nI a) :: st) h :=
  J_if_lt tgt hd ht (fun q => absurd q (nI_pos ha)) (fun q => kf)
theorem J_if_ge_n {a : Nat} {off : Int} (tgt : Nat) (hd : decode (m_c M) pc = .ok (.ifCond .ge off, 3)) (ht : (pc : Int) + off = (tgt : Int)) (kt : J G R F M X kc kn tgt lo st h) (ha : a < 2 ^ 31 := by omega) : J G R F M X kc kn pc lo (.int (nI a) :: st) h :=
  J_if_ge tgt hd ht (fun q => kt) (fun q => absurd (nI_pos' ha) q)
theorem J_if_gt_n {a : Nat} {off : Int} (tgt : Nat) (hd : decode (m_c M) pc = .ok (.ifCond .gt off, 3)) (ht : (pc : Int) + off = (tgt : Int)) (kt : 0 < a → J G R F M X kc kn tgt lo st h) (kf : a = 0 → J G R F M X kc kn (pc + 3) lo st h) (ha : a < 2 ^ 31 := by omega) : J G R F M X kc kn pc lo (.int (nI a) :: st) h :=
  J_if_gt tgt hd ht (fun q => kt (Nat.pos_of_ne_zero fun z => by subst z; exact absurd q (by decide))) (fun q => kf (by rcases Nat.eq_zero_or_pos a with z | z; exact z; exact absurd (nI_gt0 z ha) q))
theorem J_if_le_n {a : Nat} {off : Int} (tgt : Nat) (hd : decode (m_c M) pc = .ok (.ifCond .le off, 3)) (ht : (pc : Int) + off = (tgt : Int)) (kt : a = 0 → J G R F M X kc kn tgt lo st h) (kf : 0 < a → J G R F M X kc kn (pc + 3) lo st h) (ha : a < 2 ^ 31 := by omega) : J G R F M X kc kn pc lo (.int (nI a) :: st) h :=
  J_if_le tgt hd ht (fun q => kt (by rcases Nat.eq_zero_or_pos a with z | z; exact z; exact absurd q (nI_nle z ha))) (fun q => kf (Nat.pos_of_ne_zero fun z => by subst z; exact q (by decide)))
def jb (b : Bool) : Int32 := if b then 1 else 0
theorem jb_n (b : Bool) : narrow .boolean (.int (jb b)) = .int (jb b) := by cases b <;> rfl
theorem jb_f (b : Bool) : fits .boolean (.int (jb b)) = true := by cases b <;> rfl
theorem jb_v (b : Bool) : vp_nar .boolean (jb b) = jb b := by cases b <;> rfl
theorem J_if_eq_b {b : Bool} {off : Int} (tgt : Nat) (hd : decode (m_c M) pc = .ok (.ifCond .eq off, 3)) (ht : (pc : Int) + off = (tgt : Int)) (kt : b = false → J G R F M X kc kn tgt lo st h) (kf : b = true → J G R F M X kc kn (pc + 3) lo st h) : J G R F M X kc kn pc lo (.int (jb b) :: st) h :=
  J_if_eq tgt hd ht (fun q => kt (by cases b; rfl; exact absurd q (by decide))) (fun q => kf (by cases b; exact absurd rfl q; rfl))
theorem J_if_ne_b {b : Bool} {off : Int} (tgt : Nat) (hd : decode (m_c M) pc = .ok (.ifCond .ne off, 3)) (ht : (pc : Int) + off = (tgt : Int)) (kt : b = true → J G R F M X kc kn tgt lo st h) (kf : b = false → J G R F M X kc kn (pc + 3) lo st h) : J G R F M X kc kn pc lo (.int (jb b) :: st) h :=
  J_if_ne tgt hd ht (fun q => kt (by cases b; exact absurd rfl q; rfl)) (fun q => kf (by cases b; rfl; exact absurd q (by decide)))
theorem J_iinc_n_0 {r : List (Option Value)} {a : Nat} (hd : decode (m_c M) pc = .ok (.iinc 0 1, 3)) (k : J G R F M X kc kn (pc + 3) (some (.int (nI (a + 1))) :: r) st h) (hn : 0 < m_n M := by decide)  : J G R F M X kc kn pc (some (.int (nI a)) :: r) st h := J_iinc_0 (nI 1) hd (by decide) (by rw [nI_add]; exact k) hn
theorem J_iinc_n_1 {a0 : Option Value} {r : List (Option Value)} {a : Nat} (hd : decode (m_c M) pc = .ok (.iinc 1 1, 3)) (k : J G R F M X kc kn (pc + 3) (a0 :: some (.int (nI (a + 1))) :: r) st h) (hn : 1 < m_n M := by decide) (hk : jn2 a0 = true := by rfl) : J G R F M X kc kn pc (a0 :: some (.int (nI a)) :: r) st h := J_iinc_1 (nI 1) hd (by decide) (by rw [nI_add]; exact k) hn hk
theorem J_iinc_n_2 {a0 a1 : Option Value} {r : List (Option Value)} {a : Nat} (hd : decode (m_c M) pc = .ok (.iinc 2 1, 3)) (k : J G R F M X kc kn (pc + 3) (a0 :: a1 :: some (.int (nI (a + 1))) :: r) st h) (hn : 2 < m_n M := by decide) (hk : jn2 a1 = true := by rfl) : J G R F M X kc kn pc (a0 :: a1 :: some (.int (nI a)) :: r) st h := J_iinc_2 (nI 1) hd (by decide) (by rw [nI_add]; exact k) hn hk
theorem J_iinc_n_3 {a0 a1 a2 : Option Value} {r : List (Option Value)} {a : Nat} (hd : decode (m_c M) pc = .ok (.iinc 3 1, 3)) (k : J G R F M X kc kn (pc + 3) (a0 :: a1 :: a2 :: some (.int (nI (a + 1))) :: r) st h) (hn : 3 < m_n M := by decide) (hk : jn2 a2 = true := by rfl) : J G R F M X kc kn pc (a0 :: a1 :: a2 :: some (.int (nI a)) :: r) st h := J_iinc_3 (nI 1) hd (by decide) (by rw [nI_add]; exact k) hn hk
theorem J_iinc_n_4 {a0 a1 a2 a3 : Option Value} {r : List (Option Value)} {a : Nat} (hd : decode (m_c M) pc = .ok (.iinc 4 1, 3)) (k : J G R F M X kc kn (pc + 3) (a0 :: a1 :: a2 :: a3 :: some (.int (nI (a + 1))) :: r) st h) (hn : 4 < m_n M := by decide) (hk : jn2 a3 = true := by rfl) : J G R F M X kc kn pc (a0 :: a1 :: a2 :: a3 :: some (.int (nI a)) :: r) st h := J_iinc_4 (nI 1) hd (by decide) (by rw [nI_add]; exact k) hn hk
theorem J_iinc_n_5 {a0 a1 a2 a3 a4 : Option Value} {r : List (Option Value)} {a : Nat} (hd : decode (m_c M) pc = .ok (.iinc 5 1, 3)) (k : J G R F M X kc kn (pc + 3) (a0 :: a1 :: a2 :: a3 :: a4 :: some (.int (nI (a + 1))) :: r) st h) (hn : 5 < m_n M := by decide) (hk : jn2 a4 = true := by rfl) : J G R F M X kc kn pc (a0 :: a1 :: a2 :: a3 :: a4 :: some (.int (nI a)) :: r) st h := J_iinc_5 (nI 1) hd (by decide) (by rw [nI_add]; exact k) hn hk
theorem J_iinc_n_6 {a0 a1 a2 a3 a4 a5 : Option Value} {r : List (Option Value)} {a : Nat} (hd : decode (m_c M) pc = .ok (.iinc 6 1, 3)) (k : J G R F M X kc kn (pc + 3) (a0 :: a1 :: a2 :: a3 :: a4 :: a5 :: some (.int (nI (a + 1))) :: r) st h) (hn : 6 < m_n M := by decide) (hk : jn2 a5 = true := by rfl) : J G R F M X kc kn pc (a0 :: a1 :: a2 :: a3 :: a4 :: a5 :: some (.int (nI a)) :: r) st h := J_iinc_6 (nI 1) hd (by decide) (by rw [nI_add]; exact k) hn hk
theorem J_iinc_n_7 {a0 a1 a2 a3 a4 a5 a6 : Option Value} {r : List (Option Value)} {a : Nat} (hd : decode (m_c M) pc = .ok (.iinc 7 1, 3)) (k : J G R F M X kc kn (pc + 3) (a0 :: a1 :: a2 :: a3 :: a4 :: a5 :: a6 :: some (.int (nI (a + 1))) :: r) st h) (hn : 7 < m_n M := by decide) (hk : jn2 a6 = true := by rfl) : J G R F M X kc kn pc (a0 :: a1 :: a2 :: a3 :: a4 :: a5 :: a6 :: some (.int (nI a)) :: r) st h := J_iinc_7 (nI 1) hd (by decide) (by rw [nI_add]; exact k) hn hk
theorem J_iinc_n_8 {a0 a1 a2 a3 a4 a5 a6 a7 : Option Value} {r : List (Option Value)} {a : Nat} (hd : decode (m_c M) pc = .ok (.iinc 8 1, 3)) (k : J G R F M X kc kn (pc + 3) (a0 :: a1 :: a2 :: a3 :: a4 :: a5 :: a6 :: a7 :: some (.int (nI (a + 1))) :: r) st h) (hn : 8 < m_n M := by decide) (hk : jn2 a7 = true := by rfl) : J G R F M X kc kn pc (a0 :: a1 :: a2 :: a3 :: a4 :: a5 :: a6 :: a7 :: some (.int (nI a)) :: r) st h := J_iinc_8 (nI 1) hd (by decide) (by rw [nI_add]; exact k) hn hk
theorem J_iinc_n_9 {a0 a1 a2 a3 a4 a5 a6 a7 a8 : Option Value} {r : List (Option Value)} {a : Nat} (hd : decode (m_c M) pc = .ok (.iinc 9 1, 3)) (k : J G R F M X kc kn (pc + 3) (a0 :: a1 :: a2 :: a3 :: a4 :: a5 :: a6 :: a7 :: a8 :: some (.int (nI (a + 1))) :: r) st h) (hn : 9 < m_n M := by decide) (hk : jn2 a8 = true := by rfl) : J G R F M X kc kn pc (a0 :: a1 :: a2 :: a3 :: a4 :: a5 :: a6 :: a7 :: a8 :: some (.int (nI a)) :: r) st h := J_iinc_9 (nI 1) hd (by decide) (by rw [nI_add]; exact k) hn hk
theorem J_iinc_n_10 {a0 a1 a2 a3 a4 a5 a6 a7 a8 a9 : Option Value} {r : List (Option Value)} {a : Nat} (hd : decode (m_c M) pc = .ok (.iinc 10 1, 3)) (k : J G R F M X kc kn (pc + 3) (a0 :: a1 :: a2 :: a3 :: a4 :: a5 :: a6 :: a7 :: a8 :: a9 :: some (.int (nI (a + 1))) :: r) st h) (hn : 10 < m_n M := by decide) (hk : jn2 a9 = true := by rfl) : J G R F M X kc kn pc (a0 :: a1 :: a2 :: a3 :: a4 :: a5 :: a6 :: a7 :: a8 :: a9 :: some (.int (nI a)) :: r) st h := J_iinc_10 (nI 1) hd (by decide) (by rw [nI_add]; exact k) hn hk
theorem J_iinc_n_11 {a0 a1 a2 a3 a4 a5 a6 a7 a8 a9 a10 : Option Value} {r : List (Option Value)} {a : Nat} (hd : decode (m_c M) pc = .ok (.iinc 11 1, 3)) (k : J G R F M X kc kn (pc + 3) (a0 :: a1 :: a2 :: a3 :: a4 :: a5 :: a6 :: a7 :: a8 :: a9 :: a10 :: some (.int (nI (a + 1))) :: r) st h) (hn : 11 < m_n M := by decide) (hk : jn2 a10 = true := by rfl) : J G R F M X kc kn pc (a0 :: a1 :: a2 :: a3 :: a4 :: a5 :: a6 :: a7 :: a8 :: a9 :: a10 :: some (.int (nI a)) :: r) st h := J_iinc_11 (nI 1) hd (by decide) (by rw [nI_add]; exact k) hn hk
theorem J_iinc_n_12 {a0 a1 a2 a3 a4 a5 a6 a7 a8 a9 a10 a11 : Option Value} {r : List (Option Value)} {a : Nat} (hd : decode (m_c M) pc = .ok (.iinc 12 1, 3)) (k : J G R F M X kc kn (pc + 3) (a0 :: a1 :: a2 :: a3 :: a4 :: a5 :: a6 :: a7 :: a8 :: a9 :: a10 :: a11 :: some (.int (nI (a + 1))) :: r) st h) (hn : 12 < m_n M := by decide) (hk : jn2 a11 = true := by rfl) : J G R F M X kc kn pc (a0 :: a1 :: a2 :: a3 :: a4 :: a5 :: a6 :: a7 :: a8 :: a9 :: a10 :: a11 :: some (.int (nI a)) :: r) st h := J_iinc_12 (nI 1) hd (by decide) (by rw [nI_add]; exact k) hn hk
theorem J_iinc_n_13 {a0 a1 a2 a3 a4 a5 a6 a7 a8 a9 a10 a11 a12 : Option Value} {r : List (Option Value)} {a : Nat} (hd : decode (m_c M) pc = .ok (.iinc 13 1, 3)) (k : J G R F M X kc kn (pc + 3) (a0 :: a1 :: a2 :: a3 :: a4 :: a5 :: a6 :: a7 :: a8 :: a9 :: a10 :: a11 :: a12 :: some (.int (nI (a + 1))) :: r) st h) (hn : 13 < m_n M := by decide) (hk : jn2 a12 = true := by rfl) : J G R F M X kc kn pc (a0 :: a1 :: a2 :: a3 :: a4 :: a5 :: a6 :: a7 :: a8 :: a9 :: a10 :: a11 :: a12 :: some (.int (nI a)) :: r) st h := J_iinc_13 (nI 1) hd (by decide) (by rw [nI_add]; exact k) hn hk
theorem J_iinc_n_14 {a0 a1 a2 a3 a4 a5 a6 a7 a8 a9 a10 a11 a12 a13 : Option Value} {r : List (Option Value)} {a : Nat} (hd : decode (m_c M) pc = .ok (.iinc 14 1, 3)) (k : J G R F M X kc kn (pc + 3) (a0 :: a1 :: a2 :: a3 :: a4 :: a5 :: a6 :: a7 :: a8 :: a9 :: a10 :: a11 :: a12 :: a13 :: some (.int (nI (a + 1))) :: r) st h) (hn : 14 < m_n M := by decide) (hk : jn2 a13 = true := by rfl) : J G R F M X kc kn pc (a0 :: a1 :: a2 :: a3 :: a4 :: a5 :: a6 :: a7 :: a8 :: a9 :: a10 :: a11 :: a12 :: a13 :: some (.int (nI a)) :: r) st h := J_iinc_14 (nI 1) hd (by decide) (by rw [nI_add]; exact k) hn hk
/-- an int array of naturals, a boolean array, a char array -/
abbrev ia (n : Nat) (f : Nat → Nat) : jC := .inl (0, n, .inl (fun k => nI (f k)))
abbrev za (n : Nat) (f : Nat → Bool) : jC := .inl (1, n, .inl (fun k => jb (f k)))
abbrev ca (n : Nat) (f : Nat → Nat) : jC := .inl (2, n, .inl (fun k => nI (f k)))
def updN {α : Type} (f : Nat → α) (j : Nat) (v : α) : Nat → α := fun k => if k = j then v else f k
theorem updN_s {α : Type} {f : Nat → α} {j : Nat} {v : α} : updN f j v j = v := by simp [updN]
theorem updN_n {α : Type} {f : Nat → α} {j k : Nat} {v : α} (hk : k ≠ j) : updN f j v k = f k := by simp [updN, hk]
theorem upd_nI (f : Nat → Nat) (j v : Nat) : upd (fun k => nI (f k)) j (nI v) = fun k => nI (updN f j v k) := by
  funext k
  by_cases hk : k = j <;> simp [upd, updN, hk]
theorem upd_jb (f : Nat → Bool) (j : Nat) (v : Bool) : upd (fun k => jb (f k)) j (jb v) = fun k => jb (updN f j v k) := by
  funext k
  by_cases hk : k = j <;> simp [upd, updN, hk]
theorem J_iald_n {a n : Nat} {f : Nat → Nat} {x : Int32} (j : Nat) (hd : decode (m_c M) pc = .ok (.iaload, 1)) (he : h[a]? = some (ia n f)) (hx : x = nI j) (hj : j < n) (kk : J G R F M X kc kn (pc + 1) lo (.int (nI (f j)) :: st) h) (hn : n < 2 ^ 31 := by decide) : J G R F M X kc kn pc lo (.int x :: .ref a :: st) h := J_iald j hd he hx hj kk hn
theorem J_cald_n {a n : Nat} {f : Nat → Nat} {x : Int32} (j : Nat) (hd : decode (m_c M) pc = .ok (.caload, 1)) (he : h[a]? = some (ca n f)) (hx : x = nI j) (hj : j < n) (kk : J G R F M X kc kn (pc + 1) lo (.int (nI (f j)) :: st) h) (hn : n < 2 ^ 31 := by decide) : J G R F M X kc kn pc lo (.int x :: .ref a :: st) h := J_cald j hd he hx hj kk hn
theorem J_zald_n {a n : Nat} {f : Nat → Bool} {x : Int32} (j : Nat) (hd : decode (m_c M) pc = .ok (.baload, 1)) (he : h[a]? = some (za n f)) (hx : x = nI j) (hj : j < n) (kk : J G R F M X kc kn (pc + 1) lo (.int (jb (f j)) :: st) h) (hn : n < 2 ^ 31 := by decide) : J G R F M X kc kn pc lo (.int x :: .ref a :: st) h := J_zald j hd he hx hj kk hn
theorem J_iast_n {a n v : Nat} {f : Nat → Nat} {x : Int32} (j : Nat) (hd : decode (m_c M) pc = .ok (.iastore, 1)) (he : h[a]? = some (ia n f)) (hx : x = nI j) (hj : j < n) (kk : J G R F M X kc kn (pc + 1) lo st (h.set a (ia n (updN f j v)))) (hn : n < 2 ^ 31 := by decide) : J G R F M X kc kn pc lo (.int (nI v) :: .int x :: .ref a :: st) h := J_iast j hd he hx hj (by rw [upd_nI]; exact kk) hn
theorem J_cast_n {a n v : Nat} {f : Nat → Nat} {x : Int32} (hv : v < 65536) (j : Nat) (hd : decode (m_c M) pc = .ok (.castore, 1)) (he : h[a]? = some (ca n f)) (hx : x = nI j) (hj : j < n) (kk : J G R F M X kc kn (pc + 1) lo st (h.set a (ca n (updN f j v)))) (hn : n < 2 ^ 31 := by decide) : J G R F M X kc kn pc lo (.int (nI v) :: .int x :: .ref a :: st) h := J_cast j hd he hx hj (by unfold vp_nar; rw [(pk_charN hv).1]) (by rw [upd_nI]; exact kk) hn
theorem J_zast_n {a n : Nat} {v : Bool} {f : Nat → Bool} {x : Int32} (j : Nat) (hd : decode (m_c M) pc = .ok (.bastore, 1)) (he : h[a]? = some (za n f)) (hx : x = nI j) (hj : j < n) (kk : J G R F M X kc kn (pc + 1) lo st (h.set a (za n (updN f j v)))) (hn : n < 2 ^ 31 := by decide) : J G R F M X kc kn pc lo (.int (jb v) :: .int x :: .ref a :: st) h := J_zast j hd he hx hj (jb_v v) (by rw [upd_jb]; exact kk) hn
/-- an integer as the machine has it -/
def iI (z : Int) : Int32 := Int32.ofInt z
theorem iI_n (n : Nat) : iI (n : Int) = nI n := by unfold iI nI; rw [Int32.ofInt_eq_ofNat]
theorem iI_add (a b : Int) : iI a + iI b = iI (a + b) := (Int32.ofInt_add a b).symm
theorem iI_sub (a b : Int) : iI a - iI b = iI (a - b) := (Int32.ofInt_sub a b).symm
theorem iI_mul (a b : Int) : iI a * iI b = iI (a * b) := (Int32.ofInt_mul a b).symm
theorem iI_toInt {z : Int} (h1 : -2 ^ 31 ≤ z) (h2 : z < 2 ^ 31) : (iI z).toInt = z := by unfold iI; exact Int32.toInt_ofInt_of_le h1 h2
theorem iI_sq (z : Int) : iI z * iI z = nI (z.natAbs * z.natAbs) := by rw [iI_mul, ← Int.natAbs_mul_self, iI_n]
theorem nI_sub (a b : Nat) : nI a - nI b = iI ((a : Int) - b) := by rw [← iI_n, ← iI_n, iI_sub]
theorem iI_lt {a b : Int} (h1 : -2 ^ 31 ≤ a) (h2 : a < 2 ^ 31) (h3 : -2 ^ 31 ≤ b) (h4 : b < 2 ^ 31) : iI a < iI b ↔ a < b := by rw [Int32.lt_iff_toInt_lt, iI_toInt h1 h2, iI_toInt h3 h4]
theorem iI_le {a b : Int} (h1 : -2 ^ 31 ≤ a) (h2 : a < 2 ^ 31) (h3 : -2 ^ 31 ≤ b) (h4 : b < 2 ^ 31) : iI a ≤ iI b ↔ a ≤ b := by rw [Int32.le_iff_toInt_le, iI_toInt h1 h2, iI_toInt h3 h4]
theorem iI_eq {a b : Int} (h1 : -2 ^ 31 ≤ a) (h2 : a < 2 ^ 31) (h3 : -2 ^ 31 ≤ b) (h4 : b < 2 ^ 31) : iI a = iI b ↔ a = b := by
  constructor
  · intro e
    have := congrArg Int32.toInt e
    rwa [iI_toInt h1 h2, iI_toInt h3 h4] at this
  · intro e; rw [e]
/-- an index that any int may be -/
theorem ix_cases (x : Int32) {n : Nat} (hn : n < 2 ^ 31) : x < 0 ∨ nI n ≤ x ∨ ∃ j : Nat, j < n ∧ x = nI j := pk_ix x hn
/-- in 0 .. n - 1 -/
def isIx (x : Int32) (n : Nat) : Bool := decide (¬ x < 0 ∧ x < nI n)
theorem isIx_n {j n : Nat} (hj : j < n) (hn : n < 2 ^ 31) : isIx (nI j) n = true := by
  simp only [isIx, decide_eq_true_eq]
  exact ⟨nI_pos (by omega), nI_lt hj hn⟩
theorem isIx_t {x : Int32} {n : Nat} (hn : n < 2 ^ 31) (hx : isIx x n = true) : ∃ j : Nat, j < n ∧ x = nI j := by
  simp only [isIx, decide_eq_true_eq] at hx
  rcases ix_cases x hn with h1 | h1 | h1
  · exact absurd h1 hx.1
  · exact absurd hx.2 (by rw [Int32.not_lt]; exact h1)
  · exact h1
end JNAT
