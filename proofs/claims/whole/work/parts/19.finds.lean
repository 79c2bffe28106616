/-! The reference: least lengths by looking at all pairs until nothing gets less; the waypoint that comes next; rows copied -/
abbrev Bm (w : Nat → Nat) (s : Nat) (D0 D : Nat → Nat) (ch : Bool) (p : Nat) : Prop :=
  (D s = 0) ∧
  (∀ v, v < 12 → D v ≤ 99999) ∧
  (∀ v, v < 12 → D v < 99999 → Wk w s v (D v)) ∧
  (∀ v, v < 12 → D v ≤ D0 v) ∧
  (∀ u v, u < 12 → v < 12 → u * 12 + v < p → 0 < w (u * 12 + v) → D v ≤ D0 u + w (u * 12 + v)) ∧
  (ch = false → ∀ v, v < 12 → D v = D0 v) ∧
  ((∀ u v, u < 12 → v < 12 → 0 < w (u * 12 + v) → D0 v ≤ D0 u + w (u * 12 + v)) → ch = false)
theorem Bm.z {w : Nat → Nat} {s : Nat} {D0 D : Nat → Nat} {ch : Bool} {p : Nat} (I : Bm w s D0 D ch p) : D s = 0 := I.1
theorem Bm.m {w : Nat → Nat} {s : Nat} {D0 D : Nat → Nat} {ch : Bool} {p : Nat} (I : Bm w s D0 D ch p) : ∀ v, v < 12 → D v ≤ 99999 := I.2.1
theorem Bm.k {w : Nat → Nat} {s : Nat} {D0 D : Nat → Nat} {ch : Bool} {p : Nat} (I : Bm w s D0 D ch p) : ∀ v, v < 12 → D v < 99999 → Wk w s v (D v) := I.2.2.1
theorem Bm.le {w : Nat → Nat} {s : Nat} {D0 D : Nat → Nat} {ch : Bool} {p : Nat} (I : Bm w s D0 D ch p) : ∀ v, v < 12 → D v ≤ D0 v := I.2.2.2.1
theorem Bm.e {w : Nat → Nat} {s : Nat} {D0 D : Nat → Nat} {ch : Bool} {p : Nat} (I : Bm w s D0 D ch p) : ∀ u v, u < 12 → v < 12 → u * 12 + v < p → 0 < w (u * 12 + v) → D v ≤ D0 u + w (u * 12 + v) := I.2.2.2.2.1
theorem Bm.c {w : Nat → Nat} {s : Nat} {D0 D : Nat → Nat} {ch : Bool} {p : Nat} (I : Bm w s D0 D ch p) : ch = false → ∀ v, v < 12 → D v = D0 v := I.2.2.2.2.2.1
theorem Bm.f {w : Nat → Nat} {s : Nat} {D0 D : Nat → Nat} {ch : Bool} {p : Nat} (I : Bm w s D0 D ch p) : (∀ u v, u < 12 → v < 12 → 0 < w (u * 12 + v) → D0 v ≤ D0 u + w (u * 12 + v)) → ch = false := I.2.2.2.2.2.2
abbrev Bk (w : Nat → Nat) (s : Nat) (D : Nat → Nat) (ch : Bool) (r : Nat) : Prop :=
  (D s = 0) ∧
  (∀ v, v < 12 → D v ≤ 99999) ∧
  (∀ v, v < 12 → D v < 99999 → Wk w s v (D v)) ∧
  (∀ v, v < 12 → Rc w s v → rk (dst w s) v ≤ r → D v ≤ dst w s v) ∧
  (ch = false → ∀ u v, u < 12 → v < 12 → 0 < w (u * 12 + v) → D v ≤ D u + w (u * 12 + v))
theorem Bk.z {w : Nat → Nat} {s : Nat} {D : Nat → Nat} {ch : Bool} {r : Nat} (I : Bk w s D ch r) : D s = 0 := I.1
theorem Bk.m {w : Nat → Nat} {s : Nat} {D : Nat → Nat} {ch : Bool} {r : Nat} (I : Bk w s D ch r) : ∀ v, v < 12 → D v ≤ 99999 := I.2.1
theorem Bk.k {w : Nat → Nat} {s : Nat} {D : Nat → Nat} {ch : Bool} {r : Nat} (I : Bk w s D ch r) : ∀ v, v < 12 → D v < 99999 → Wk w s v (D v) := I.2.2.1
theorem Bk.q {w : Nat → Nat} {s : Nat} {D : Nat → Nat} {ch : Bool} {r : Nat} (I : Bk w s D ch r) : ∀ v, v < 12 → Rc w s v → rk (dst w s) v ≤ r → D v ≤ dst w s v := I.2.2.2.1
theorem Bk.c {w : Nat → Nat} {s : Nat} {D : Nat → Nat} {ch : Bool} {r : Nat} (I : Bk w s D ch r) : ch = false → ∀ u v, u < 12 → v < 12 → 0 < w (u * 12 + v) → D v ≤ D u + w (u * 12 + v) := I.2.2.2.2
section BM
variable {n s i j p : Nat} {w D D0 : Nat → Nat} {ch : Bool}
theorem Bm.skip (I : Bm w s D0 D ch (i * 12 + j)) (hi : i < 12) (hj : j < 12) (h : 0 < w (i * 12 + j) → D j ≤ D i + w (i * 12 + j)) : Bm w s D0 D ch (i * 12 + j + 1) :=
  ⟨(I.z),
   (I.m),
   (I.k),
   (I.le),
   (fun u v hu hv hq hp => by
      by_cases e : u * 12 + v = i * 12 + j
      · have e1 : u = i := by omega
        have e2 : v = j := by omega
        subst e1 e2
        have h1 := h hp
        have h2 := I.le u hi
        omega
      · exact I.e u v hu hv (by omega) hp),
   (I.c),
   (I.f)⟩
theorem Bm.take (I : Bm w s D0 D ch (i * 12 + j)) (hi : i < 12) (hj : j < 12) (hp : 0 < w (i * 12 + j)) (h : D i + w (i * 12 + j) < D j) : Bm w s D0 (updN D j (D i + w (i * 12 + j))) true (i * 12 + j + 1) := by
  have hsj : s ≠ j := fun e => by have := I.z; subst e; omega
  have hle : ∀ v, updN D j (D i + w (i * 12 + j)) v ≤ D v := fun v => by
    by_cases e : v = j
    · subst e; rw [updN_s]; omega
    · rw [updN_n e]; exact Nat.le_refl _
  have hDi := I.m j hj
  refine ⟨?_, ?_, ?_, ?_, ?_, fun e => absurd e (by decide), fun hcon => ?_⟩
  · rw [updN_n hsj]; exact I.z
  · exact fun v hv => Nat.le_trans (hle v) (I.m v hv)
  · intro v hv hf
    by_cases e : v = j
    · subst e; rw [updN_s]
      exact Wk.st (I.k i hi (by omega)) hi hj hp
    · rw [updN_n e] at hf ⊢; exact I.k v hv hf
  · exact fun v hv => Nat.le_trans (hle v) (I.le v hv)
  · intro u v hu hv hq hp2
    by_cases e : u * 12 + v = i * 12 + j
    · have e1 : u = i := by omega
      have e2 : v = j := by omega
      subst e1 e2
      rw [updN_s]
      have := I.le u hi
      omega
    · exact Nat.le_trans (hle v) (I.e u v hu hv (by omega) hp2)
  · have h1 := I.c (I.f hcon)
    have h2 := hcon i j hi hj hp
    rw [h1 i hi, h1 j hj] at h
    omega
theorem Bk.start (hs : s < 12) (hD : ∀ k, k < 12 → D k = if k = s then 0 else 99999) : Bk w s D true 0 :=
  ⟨(by rw [hD s hs, if_pos rfl]),
   (fun v hv => by rw [hD v hv]; split <;> omega),
   (fun v hv h => by
      rw [hD v hv] at h ⊢
      split
      · rename_i e; subst e; exact Wk.z
      · rename_i e; rw [if_neg e] at h; omega),
   (fun v hv hR hr => by
      by_cases e : v = s
      · subst e; rw [hD v hv, if_pos rfl]; exact Nat.zero_le _
      · obtain ⟨u, hu, hv2, hp, hu2, he⟩ := dst_pred e hR
        have := rk_lt (D := dst w s) (v := v) hu (by omega)
        omega),
   (fun h => absurd h (by decide))⟩
theorem Bk.begin {r : Nat} (I : Bk w s D ch r) : Bm w s D D false 0 :=
  ⟨(I.z),
   (I.m),
   (I.k),
   (fun _ _ => Nat.le_refl _),
   (fun u v hu hv hq hp => by omega),
   (fun _ _ _ => rfl),
   (fun _ => rfl)⟩
theorem Bm.done {ch0 : Bool} {r : Nat} (I0 : Bk w s D0 ch0 r) (I : Bm w s D0 D ch 144) : Bk w s D ch (r + 1) :=
  ⟨(I.z),
   (I.m),
   (I.k),
   (fun v hv hR hr => by
      by_cases e : v = s
      · subst e; rw [I.z]; exact Nat.zero_le _
      · obtain ⟨u, hu, hv2, hp, hu2, he⟩ := dst_pred e hR
        have h1 := rk_lt (D := dst w s) (v := v) hu (by omega)
        have h2 := I0.q u hu hu2 (by omega)
        have h3 := I.e u v hu hv (by omega) hp
        omega),
   (fun h u v hu hv hp => by
      have h1 := I.e u v hu hv (by omega) hp
      have h2 := I.c h u hu
      omega)⟩
theorem Bk.flat {r : Nat} (g : Gr n w) (I : Bk w s D ch r) (h : ch = false ∨ 11 ≤ r) : ∀ u v, u < 12 → v < 12 → 0 < w (u * 12 + v) → D v ≤ D u + w (u * 12 + v) := by
  intro u v hu hv hp
  rcases h with h | h
  · exact I.c h u v hu hv hp
  · by_cases hR : Rc w s u
    · have h1 := I.q v hv (hR.step hu hv hp) (by have := rk_le (D := dst w s) hv; omega)
      have h2 := dst_edge (s := s) g hu hv hp
      have h3 : dst w s u ≤ D u := by
        by_cases h4 : D u < 99999
        · exact dst_le (I.k u hu h4)
        · have := dst_b g hu hR
          omega
      omega
    · have h1 : ¬ D u < 99999 := fun q => hR ⟨_, I.k u hu q⟩
      have h2 := I.m v hv
      omega
theorem Bk.ends {r : Nat} (I : Bk w s D false r) : IsD 99999 w s D := ⟨I.z, I.c rfl, I.m, I.k⟩
theorem IsD.dst (g : Gr n w) (I : IsD 99999 w s D) {v : Nat} (hv : v < 12) : D v = dst w s v := by
  rw [I.eq g (by omega) hv]
  split
  · rfl
  · rename_i h
    have h2 : ¬ ∃ d, Wk w s v d := fun q => h ((dst_fin g hv).mpr q)
    rw [dst_no h2]
end BM
def cpN (g : Nat → Nat) (q : Nat) (f : Nat → Nat) (p n : Nat) : Nat → Nat := fun k => if q ≤ k ∧ k < q + n then f (p + (k - q)) else g k
theorem cpN_0 {g : Nat → Nat} {q : Nat} {f : Nat → Nat} {p : Nat} : cpN g q f p 0 = g := by
  funext k; unfold cpN; rw [if_neg (by omega)]
theorem cpN_s {g : Nat → Nat} {q : Nat} {f : Nat → Nat} {p n : Nat} : updN (cpN g q f p n) (q + n) (f (p + n)) = cpN g q f p (n + 1) := by
  funext k
  unfold updN cpN
  by_cases h : k = q + n
  · subst h
    rw [if_pos rfl, if_pos (by omega), show q + n - q = n by omega]
  · rw [if_neg h]
    by_cases h2 : q ≤ k ∧ k < q + n
    · rw [if_pos h2, if_pos (by omega)]
    · rw [if_neg h2, if_neg (by omega)]
theorem cpN_in {g : Nat → Nat} {q : Nat} {f : Nat → Nat} {p n i : Nat} (h : i < n) : cpN g q f p n (q + i) = f (p + i) := by
  unfold cpN; rw [if_pos (by omega), show q + i - q = i by omega]
theorem cpN_out {g : Nat → Nat} {q : Nat} {f : Nat → Nat} {p n k : Nat} (h : k < q ∨ q + n ≤ k) : cpN g q f p n k = g k := by
  unfold cpN; rw [if_neg (by omega)]
section MODEL2
variable {G : jG} {X : Bool} {h : jH} {Q : jQ_} {ch th ln tp he cm n : Nat} {ea fa an : Int32} {sv : Bool} {s w F D : Nat → Nat}
theorem c_X11_finds {a : Nat} (g : Gr n w) (hw : ∀ k, k < 144 → s (48 + k) = w k) (ha : a < 12) (hM : h[116]? = some (hMo ch th ea fa an sv ln tp he cm)) (hS : h[117]? = some (ia 204 s)) (hF : h[121]? = some (ia 12 F))
    (hQ : ∀ D, IsD 99999 w a D → Q (.inl none) (h.set 121 (ia 12 D))) : jCT G M_X11_finds 2 0 0 X [.ref 116, .int (nI a)] h Q := by
  refine jCT_of [some (.ref 116), some (.int (nI a)), none, none, none, none, none] 5 rfl (by decide +kernel) rfl rfl ?_
  refine J_iconst (nI 0) (by decide) dX11_finds_0 ?_
  refine J_istore_2 dX11_finds_1 ?_
  suffices loop : ∀ i, i ≤ 12 → ∀ D, (∀ k, k < i → D k = if k = a then 0 else 99999) → J G (jR 2 0 0) (jFin G Q X 0 0) M_X11_finds X 0 0 2 [some (.ref 116), some (.int (nI a)), some (.int (nI i)), none, none, none, none] [] (h.set 121 (ia 12 D)) by
    have := loop 0 (by omega) F (fun k hk => by omega)
    rw [hset_id hF] at this
    exact this
  refine up_ind 12 (fun i hi ih D hD => ?_)
  refine J_iload_n (by rfl) dX11_finds_2 ?_
  refine J_bipush (nI 12) (by decide) dX11_finds_3 ?_
  refine J_icmp_ge_n 31 dX11_finds_5 (by decide) (fun c5 => ?_) (fun c5 => ?_)
  · refine J_iconst (nI 1) (by decide) dX11_finds_31 ?_
    refine J_topi (jb true) rfl ?_
    refine J_istore_2 dX11_finds_32 ?_
    suffices main : ∀ k r D, 12 - r ≤ k → r ≤ 11 → Bk w a D true r → ∀ l3 l4 l5 l6, J G (jR 2 0 0) (jFin G Q X 0 0) M_X11_finds X 0 0 33 [some (.ref 116), some (.int (nI a)), some (.int (jb true)), l3, l4, l5, l6] [] (h.set 121 (ia 12 D)) by
      exact main 12 0 D (by omega) (by omega) (Bk.start ha (fun k hk => hD k (by omega))) _ _ _ _
    intro k
    induction k with
    | zero => intro r D h1 h2; omega
    | succ k ihk =>
      intro r D h1 h2 hI l3 l4 l5 l6
      refine J_iload_n (by rfl) dX11_finds_33 ?_
      refine J_if_eq_b 143 dX11_finds_34 (by decide) (fun c34 => ?_) (fun c34 => ?_)
      · exact absurd c34 (by decide)
      · refine J_iconst (nI 0) (by decide) dX11_finds_37 ?_
        refine J_topi (jb false) rfl ?_
        refine J_istore_2 dX11_finds_38 ?_
        refine J_iconst (nI 0) (by decide) dX11_finds_39 ?_
        refine J_istore_3 dX11_finds_40 ?_
        suffices inner : ∀ p, p ≤ 144 → ∀ D1 c1, Bm w a D D1 c1 p → ∀ l4 l5 l6, J G (jR 2 0 0) (jFin G Q X 0 0) M_X11_finds X 0 0 41 [some (.ref 116), some (.int (nI a)), some (.int (jb c1)), some (.int (nI p)), l4, l5, l6] [] (h.set 121 (ia 12 D1)) by
          exact inner 0 (by omega) D false hI.begin _ _ _
        refine up_ind 144 (fun p hp ih2 D1 c1 hJ l4 l5 l6 => ?_)
        refine J_iload_n (by rfl) dX11_finds_41 ?_
        refine J_sipush (nI 144) (by decide) dX11_finds_42 ?_
        refine J_icmp_ge_n 140 dX11_finds_45 (by decide) (fun c45 => ?_) (fun c45 => ?_)
        · have he : p = 144 := by omega
          subst he
          have hI2 := hJ.done hI
          refine J_goto 33 dX11_finds_140 (by decide) ?_
          cases c1 with
          | false =>
            refine J_iload_n (by rfl) dX11_finds_33 ?_
            refine J_if_eq_b 143 dX11_finds_34 (by decide) (fun c34 => ?_) (fun c34 => ?_)
            · exact J_return dX11_finds_143 rfl (hQ D1 hI2.ends) (by decide) (by decide) (fun _ => rfl)
            · exact absurd c34 (by decide)
          | true =>
            have hr : r + 1 ≤ 11 := by
              rcases Nat.lt_or_ge r 11 with q | q
              · omega
              · exact absurd (hJ.f (hI.flat g (.inr q))) (by decide)
            exact ihk (r + 1) D1 (by omega) hr hI2 _ _ _ _
        · have hi12 : p / 12 < 12 := by omega
          have hj12 : p % 12 < 12 := by omega
          have hpe : p / 12 * 12 + p % 12 = p := by omega
          have hm1 := hJ.m (p / 12) hi12
          have hm2 := hJ.m (p % 12) hj12
          have hwl := g.le (p / 12) (p % 12) hi12 hj12
          rw [← hpe] at hJ
          refine J_iload_n (by rfl) dX11_finds_48 ?_
          refine J_bipush (nI 12) (by decide) dX11_finds_49 ?_
          refine J_idiv_n (by omega) (by omega) (by omega) dX11_finds_51 ?_
          refine J_istore_4 dX11_finds_52 ?_
          refine J_iload_n (by rfl) dX11_finds_54 ?_
          refine J_bipush (nI 12) (by decide) dX11_finds_55 ?_
          refine J_irem_n (by omega) (by omega) (by omega) dX11_finds_57 ?_
          refine J_istore_5 dX11_finds_58 ?_
          refine J_aload_n (by rfl) (by rfl) dX11_finds_60 ?_
          refine J_iload (by rfl) dX11_finds_61 ?_
          refine J_iload (by rfl) dX11_finds_63 ?_
          refine J_V2v (ci := 11) dX11_finds_65 s_X11_55 m_X11_trail rfl (by repeat (first | assumption | exact jget_same2 (by (try simp only [List.length_set]); exact jlt (by assumption)) | refine jget_ne (by first | decide | assumption | omega) ?_)) rfl (c_X11_trail (i := p / 12) (j := p % 12) hi12 hj12 hw (by repeat (first | assumption | exact jget_same2 (by (try simp only [List.length_set]); exact jlt (by assumption)) | refine jget_ne (by first | decide | assumption | omega) ?_)) (by repeat (first | assumption | exact jget_same2 (by (try simp only [List.length_set]); exact jlt (by assumption)) | refine jget_ne (by first | decide | assumption | omega) ?_)) (jKv_i ?_))
          refine J_if_le_n 101 dX11_finds_68 (by decide) (fun c68 => ?_) (fun c68 => ?_)
          · refine J_iconst (nI 0) (by decide) dX11_finds_101 ?_
            refine J_istore_6 dX11_finds_102 ?_
            refine J_iload (by rfl) dX11_finds_104 ?_
            refine J_if_eq_n 134 dX11_finds_106 (by decide) (fun c106 => ?_) (fun c106 => ?_)
            · refine J_iinc_3 (nI 1) dX11_finds_134 (by decide) ?_
              try rw [nI_add]
              refine J_goto 41 dX11_finds_137 (by decide) ?_
              have := ih2 c45 D1 c1 (by have := hJ.skip hi12 hj12 (fun q => by omega); rw [hpe] at this; exact this) (some (.int (nI (p / 12)))) (some (.int (nI (p % 12)))) (some (.int (nI 0)))
              exact this
            · exact absurd c106 (by decide)
          · refine J_aload_n (by rfl) (by rfl) dX11_finds_71 ?_
            refine J_get dX11_finds_72 f_X11_22 (by repeat (first | assumption | exact jget_same2 (by (try simp only [List.length_set]); exact jlt (by assumption)) | refine jget_ne (by first | decide | assumption | omega) ?_)) (by rfl) ?_
            refine J_iload (by rfl) dX11_finds_75 ?_
            refine J_iald_n (p / 12) dX11_finds_77 (by repeat (first | assumption | exact jget_same2 (by (try simp only [List.length_set]); exact jlt (by assumption)) | refine jget_ne (by first | decide | assumption | omega) ?_)) (by first | rfl | (simp only [pk_mul, nI_add]; done) | (simp only [pk_mul, nI_add]; congr 1; omega) | (congr 1; omega)) (by omega) ?_
            refine J_aload_n (by rfl) (by rfl) dX11_finds_78 ?_
            refine J_iload (by rfl) dX11_finds_79 ?_
            refine J_iload (by rfl) dX11_finds_81 ?_
            refine J_V2v (ci := 11) dX11_finds_83 s_X11_55 m_X11_trail rfl (by repeat (first | assumption | exact jget_same2 (by (try simp only [List.length_set]); exact jlt (by assumption)) | refine jget_ne (by first | decide | assumption | omega) ?_)) rfl (c_X11_trail (i := p / 12) (j := p % 12) hi12 hj12 hw (by repeat (first | assumption | exact jget_same2 (by (try simp only [List.length_set]); exact jlt (by assumption)) | refine jget_ne (by first | decide | assumption | omega) ?_)) (by repeat (first | assumption | exact jget_same2 (by (try simp only [List.length_set]); exact jlt (by assumption)) | refine jget_ne (by first | decide | assumption | omega) ?_)) (jKv_i ?_))
            refine J_iadd dX11_finds_86 ?_
            try rw [nI_add]
            refine J_aload_n (by rfl) (by rfl) dX11_finds_87 ?_
            refine J_get dX11_finds_88 f_X11_22 (by repeat (first | assumption | exact jget_same2 (by (try simp only [List.length_set]); exact jlt (by assumption)) | refine jget_ne (by first | decide | assumption | omega) ?_)) (by rfl) ?_
            refine J_iload (by rfl) dX11_finds_91 ?_
            refine J_iald_n (p % 12) dX11_finds_93 (by repeat (first | assumption | exact jget_same2 (by (try simp only [List.length_set]); exact jlt (by assumption)) | refine jget_ne (by first | decide | assumption | omega) ?_)) (by first | rfl | (simp only [pk_mul, nI_add]; done) | (simp only [pk_mul, nI_add]; congr 1; omega) | (congr 1; omega)) (by omega) ?_
            refine J_icmp_ge_n 101 dX11_finds_94 (by decide) (fun c94 => ?_) (fun c94 => ?_)
            · refine J_iconst (nI 0) (by decide) dX11_finds_101 ?_
              refine J_istore_6 dX11_finds_102 ?_
              refine J_iload (by rfl) dX11_finds_104 ?_
              refine J_if_eq_n 134 dX11_finds_106 (by decide) (fun c106 => ?_) (fun c106 => ?_)
              · refine J_iinc_3 (nI 1) dX11_finds_134 (by decide) ?_
                try rw [nI_add]
                refine J_goto 41 dX11_finds_137 (by decide) ?_
                have := ih2 c45 D1 c1 (by have := hJ.skip hi12 hj12 (fun q => by omega); rw [hpe] at this; exact this) (some (.int (nI (p / 12)))) (some (.int (nI (p % 12)))) (some (.int (nI 0)))
                exact this
              · exact absurd c106 (by decide)
            · refine J_iconst (nI 1) (by decide) dX11_finds_97 ?_
              refine J_goto 102 dX11_finds_98 (by decide) ?_
              refine J_istore_6 dX11_finds_102 ?_
              refine J_iload (by rfl) dX11_finds_104 ?_
              refine J_if_eq_n 134 dX11_finds_106 (by decide) (fun c106 => ?_) (fun c106 => ?_)
              · exact absurd c106 (by decide)
              · refine J_aload_n (by rfl) (by rfl) dX11_finds_109 ?_
                refine J_get dX11_finds_110 f_X11_22 (by repeat (first | assumption | exact jget_same2 (by (try simp only [List.length_set]); exact jlt (by assumption)) | refine jget_ne (by first | decide | assumption | omega) ?_)) (by rfl) ?_
                refine J_iload (by rfl) dX11_finds_113 ?_
                refine J_aload_n (by rfl) (by rfl) dX11_finds_115 ?_
                refine J_get dX11_finds_116 f_X11_22 (by repeat (first | assumption | exact jget_same2 (by (try simp only [List.length_set]); exact jlt (by assumption)) | refine jget_ne (by first | decide | assumption | omega) ?_)) (by rfl) ?_
                refine J_iload (by rfl) dX11_finds_119 ?_
                refine J_iald_n (p / 12) dX11_finds_121 (by repeat (first | assumption | exact jget_same2 (by (try simp only [List.length_set]); exact jlt (by assumption)) | refine jget_ne (by first | decide | assumption | omega) ?_)) (by first | rfl | (simp only [pk_mul, nI_add]; done) | (simp only [pk_mul, nI_add]; congr 1; omega) | (congr 1; omega)) (by omega) ?_
                refine J_aload_n (by rfl) (by rfl) dX11_finds_122 ?_
                refine J_iload (by rfl) dX11_finds_123 ?_
                refine J_iload (by rfl) dX11_finds_125 ?_
                refine J_V2v (ci := 11) dX11_finds_127 s_X11_55 m_X11_trail rfl (by repeat (first | assumption | exact jget_same2 (by (try simp only [List.length_set]); exact jlt (by assumption)) | refine jget_ne (by first | decide | assumption | omega) ?_)) rfl (c_X11_trail (i := p / 12) (j := p % 12) hi12 hj12 hw (by repeat (first | assumption | exact jget_same2 (by (try simp only [List.length_set]); exact jlt (by assumption)) | refine jget_ne (by first | decide | assumption | omega) ?_)) (by repeat (first | assumption | exact jget_same2 (by (try simp only [List.length_set]); exact jlt (by assumption)) | refine jget_ne (by first | decide | assumption | omega) ?_)) (jKv_i ?_))
                refine J_iadd dX11_finds_130 ?_
                try rw [nI_add]
                refine J_iast_n (p % 12) dX11_finds_131 (by repeat (first | assumption | exact jget_same2 (by (try simp only [List.length_set]); exact jlt (by assumption)) | refine jget_ne (by first | decide | assumption | omega) ?_)) (by first | rfl | (simp only [pk_mul, nI_add]; done) | (simp only [pk_mul, nI_add]; congr 1; omega) | (congr 1; omega)) (by omega) ?_
                refine J_iconst (nI 1) (by decide) dX11_finds_132 ?_
                refine J_topi (jb true) rfl ?_
                refine J_istore_2 dX11_finds_133 ?_
                refine J_iinc_3 (nI 1) dX11_finds_134 (by decide) ?_
                try rw [nI_add]
                refine J_goto 41 dX11_finds_137 (by decide) ?_
                rw [List.set_set]
                exact ih2 c45 (updN D1 (p % 12) (D1 (p / 12) + w (p / 12 * 12 + p % 12))) true (by
                  have hT := hJ.take hi12 hj12 c68 c94
                  rw [← show p / 12 * 12 + p % 12 + 1 = p + 1 by omega]
                  exact hT) (some (.int (nI (p / 12)))) (some (.int (nI (p % 12)))) (some (.int (nI 1)))
  · refine J_aload_n (by rfl) (by rfl) dX11_finds_8 ?_
    refine J_get dX11_finds_9 f_X11_22 (by repeat (first | assumption | exact jget_same2 (by (try simp only [List.length_set]); exact jlt (by assumption)) | refine jget_ne (by first | decide | assumption | omega) ?_)) (by rfl) ?_
    refine J_iload_n (by rfl) dX11_finds_12 ?_
    refine J_iload_n (by rfl) dX11_finds_13 ?_
    refine J_iload_n (by rfl) dX11_finds_14 ?_
    refine J_icmp_ne_n 22 dX11_finds_15 (by decide) (fun c15 => ?_) (fun c15 => ?_)
    · refine J_ldcI dX11_finds_22 k_X11_96 ?_
      refine J_topi (nI 99999) (by rfl) ?_
      refine J_iast_n (i) dX11_finds_24 (by repeat (first | assumption | exact jget_same2 (by (try simp only [List.length_set]); exact jlt (by assumption)) | refine jget_ne (by first | decide | assumption | omega) ?_)) (by first | rfl | (simp only [pk_mul, nI_add]; done) | (simp only [pk_mul, nI_add]; congr 1; omega) | (congr 1; omega)) (by omega) ?_
      refine J_iinc_2 (nI 1) dX11_finds_25 (by decide) ?_
      try rw [nI_add]
      refine J_goto 2 dX11_finds_28 (by decide) ?_
      rw [List.set_set]
      exact ih c5 _ (fun k hk => by
        unfold updN; split
        · rename_i e; subst e; rw [if_neg c15]
        · exact hD k (by omega))
    · refine J_iconst (nI 0) (by decide) dX11_finds_18 ?_
      refine J_goto 24 dX11_finds_19 (by decide) ?_
      refine J_iast_n (i) dX11_finds_24 (by repeat (first | assumption | exact jget_same2 (by (try simp only [List.length_set]); exact jlt (by assumption)) | refine jget_ne (by first | decide | assumption | omega) ?_)) (by first | rfl | (simp only [pk_mul, nI_add]; done) | (simp only [pk_mul, nI_add]; congr 1; omega) | (congr 1; omega)) (by omega) ?_
      refine J_iinc_2 (nI 1) dX11_finds_25 (by decide) ?_
      try rw [nI_add]
      refine J_goto 2 dX11_finds_28 (by decide) ?_
      rw [List.set_set]
      exact ih c5 _ (fun k hk => by
        unfold updN; split
        · rename_i e; subst e; rw [if_pos c15]
        · exact hD k (by omega))
theorem c_X11_following {a c : Nat} (g : Gr n w) (hn : s 0 = n) (hw : ∀ k, k < 144 → s (48 + k) = w k) (hc : c < 12) (hca : c ≠ a) (hf : dst w a c < 99999) (hD : IsD 99999 w a D) (hM : h[116]? = some (hMo ch th ea fa an sv ln tp he cm)) (hS : h[117]? = some (ia 204 s)) (hF : h[121]? = some (ia 12 D))
    (hQ : Q (.inl (some (.int (nI (nxt w n a c))))) h) : jCT G M_X11_following 2 0 0 X [.ref 116, .int (nI c)] h Q := by
  refine jCT_of [some (.ref 116), some (.int (nI c)), none] 1 rfl (by decide +kernel) rfl rfl ?_
  have hn12 := g.n12
  have hx := nxt_spec g hc hca hf
  have hDc := hD.dst g hc
  have hDcm := hD.m c hc
  refine J_iconst (nI 0) (by decide) dX11_following_0 ?_
  refine J_istore_2 dX11_following_1 ?_
  suffices loop : ∀ j, j ≤ n → (∀ k, k < j → ¬ (0 < w (c * 12 + k) ∧ dst w a k + w (c * 12 + k) = dst w a c)) → J G (jR 2 0 0) (jFin G Q X 0 0) M_X11_following X 0 0 2 [some (.ref 116), some (.int (nI c)), some (.int (nI j))] [] h by
    exact loop 0 (by omega) (fun k hk => by omega)
  refine up_ind n (fun j hj ih hno => ?_)
  refine J_iload_n (by rfl) dX11_following_2 ?_
  refine J_aload_n (by rfl) (by rfl) dX11_following_3 ?_
  refine J_get dX11_following_4 f_X11_9 (by repeat (first | assumption | exact jget_same2 (by (try simp only [List.length_set]); exact jlt (by assumption)) | refine jget_ne (by first | decide | assumption | omega) ?_)) (by rfl) ?_
  refine J_iconst (nI 0) (by decide) dX11_following_7 ?_
  refine J_iald_n (0) dX11_following_8 (by repeat (first | assumption | exact jget_same2 (by (try simp only [List.length_set]); exact jlt (by assumption)) | refine jget_ne (by first | decide | assumption | omega) ?_)) (by first | rfl | (simp only [pk_mul, nI_add]; done) | (simp only [pk_mul, nI_add]; congr 1; omega) | (congr 1; omega)) (by omega) ?_
  refine J_icmp_ge_n 51 dX11_following_9 (by decide) (fun c9 => ?_) (fun c9 => ?_)
  · exact absurd hx.2 (hno _ (by omega))
  · have hj12 : j < 12 := by omega
    have hDj := hD.dst g hj12
    have hDjm := hD.m j hj12
    have hwl := g.le c j hc hj12
    refine J_aload_n (by rfl) (by rfl) dX11_following_12 ?_
    refine J_iload_n (by rfl) dX11_following_13 ?_
    refine J_iload_n (by rfl) dX11_following_14 ?_
    refine J_V2v (ci := 11) dX11_following_15 s_X11_55 m_X11_trail rfl (by repeat (first | assumption | exact jget_same2 (by (try simp only [List.length_set]); exact jlt (by assumption)) | refine jget_ne (by first | decide | assumption | omega) ?_)) rfl (c_X11_trail (i := c) (j := j) hc hj12 hw (by repeat (first | assumption | exact jget_same2 (by (try simp only [List.length_set]); exact jlt (by assumption)) | refine jget_ne (by first | decide | assumption | omega) ?_)) (by repeat (first | assumption | exact jget_same2 (by (try simp only [List.length_set]); exact jlt (by assumption)) | refine jget_ne (by first | decide | assumption | omega) ?_)) (jKv_i ?_))
    refine J_if_le_n 45 dX11_following_18 (by decide) (fun c18 => ?_) (fun c18 => ?_)
    · refine J_iinc_2 (nI 1) dX11_following_45 (by decide) ?_
      try rw [nI_add]
      refine J_goto 2 dX11_following_48 (by decide) ?_
      exact ih (by omega) (fun k hk => by
        by_cases e : k = j
        · subst e; omega
        · exact hno k (by omega))
    · refine J_aload_n (by rfl) (by rfl) dX11_following_21 ?_
      refine J_iload_n (by rfl) dX11_following_22 ?_
      refine J_iload_n (by rfl) dX11_following_23 ?_
      refine J_V2v (ci := 11) dX11_following_24 s_X11_55 m_X11_trail rfl (by repeat (first | assumption | exact jget_same2 (by (try simp only [List.length_set]); exact jlt (by assumption)) | refine jget_ne (by first | decide | assumption | omega) ?_)) rfl (c_X11_trail (i := c) (j := j) hc hj12 hw (by repeat (first | assumption | exact jget_same2 (by (try simp only [List.length_set]); exact jlt (by assumption)) | refine jget_ne (by first | decide | assumption | omega) ?_)) (by repeat (first | assumption | exact jget_same2 (by (try simp only [List.length_set]); exact jlt (by assumption)) | refine jget_ne (by first | decide | assumption | omega) ?_)) (jKv_i ?_))
      refine J_aload_n (by rfl) (by rfl) dX11_following_27 ?_
      refine J_get dX11_following_28 f_X11_22 (by repeat (first | assumption | exact jget_same2 (by (try simp only [List.length_set]); exact jlt (by assumption)) | refine jget_ne (by first | decide | assumption | omega) ?_)) (by rfl) ?_
      refine J_iload_n (by rfl) dX11_following_31 ?_
      refine J_iald_n (j) dX11_following_32 (by repeat (first | assumption | exact jget_same2 (by (try simp only [List.length_set]); exact jlt (by assumption)) | refine jget_ne (by first | decide | assumption | omega) ?_)) (by first | rfl | (simp only [pk_mul, nI_add]; done) | (simp only [pk_mul, nI_add]; congr 1; omega) | (congr 1; omega)) (by omega) ?_
      refine J_iadd dX11_following_33 ?_
      try rw [nI_add]
      refine J_aload_n (by rfl) (by rfl) dX11_following_34 ?_
      refine J_get dX11_following_35 f_X11_22 (by repeat (first | assumption | exact jget_same2 (by (try simp only [List.length_set]); exact jlt (by assumption)) | refine jget_ne (by first | decide | assumption | omega) ?_)) (by rfl) ?_
      refine J_iload_n (by rfl) dX11_following_38 ?_
      refine J_iald_n (c) dX11_following_39 (by repeat (first | assumption | exact jget_same2 (by (try simp only [List.length_set]); exact jlt (by assumption)) | refine jget_ne (by first | decide | assumption | omega) ?_)) (by first | rfl | (simp only [pk_mul, nI_add]; done) | (simp only [pk_mul, nI_add]; congr 1; omega) | (congr 1; omega)) (by omega) ?_
      refine J_icmp_ne_n 45 dX11_following_40 (by decide) (fun c40 => ?_) (fun c40 => ?_)
      · refine J_iinc_2 (nI 1) dX11_following_45 (by decide) ?_
        try rw [nI_add]
        refine J_goto 2 dX11_following_48 (by decide) ?_
        exact ih (by omega) (fun k hk => by
          by_cases e : k = j
          · subst e; omega
          · exact hno k (by omega))
      · refine J_iload_n (by rfl) dX11_following_43 ?_
        exact J_ireturn dX11_following_44 rfl (by rw [show nxt w n a c = j from leastB_eq (by omega) ⟨by omega, by omega⟩ hno] at hQ; exact hQ) (by decide) (by decide) (fun _ => rfl)
theorem c_X11_copies {a0 a1 n0 n1 p q : Nat} {f k0 : Nat → Nat} (hne : a1 ≠ a0) (h0 : p + 204 ≤ n0) (h1 : q + 204 ≤ n1) (hn0 : n0 < 2 ^ 31) (hn1 : n1 < 2 ^ 31) (hA : h[a0]? = some (ia n0 f)) (hB : h[a1]? = some (ia n1 k0))
    (hQ : Q (.inl none) (h.set a1 (ia n1 (cpN k0 q f p 204)))) : jCT G M_X11_copies 1 0 0 X [.ref a0, .int (nI p), .ref a1, .int (nI q)] h Q := by
  refine jCT_of [some (.ref a0), some (.int (nI p)), some (.ref a1), some (.int (nI q)), none] 1 rfl (by decide +kernel) rfl rfl ?_
  have hl1 := jlt hB
  refine J_iconst (nI 0) (by decide) dX11_copies_0 ?_
  refine J_istore_4 dX11_copies_1 ?_
  suffices loop : ∀ i, i ≤ 204 → J G (jR 1 0 0) (jFin G Q X 0 0) M_X11_copies X 0 0 3 [some (.ref a0), some (.int (nI p)), some (.ref a1), some (.int (nI q)), some (.int (nI i))] [] (h.set a1 (ia n1 (cpN k0 q f p i))) by
    have := loop 0 (by omega)
    rw [cpN_0, hset_id hB] at this
    exact this
  refine up_ind 204 (fun i hi ih => ?_)
  refine J_iload (by rfl) dX11_copies_3 ?_
  refine J_sipush (nI 204) (by decide) dX11_copies_5 ?_
  refine J_icmp_ge_n 29 dX11_copies_8 (by decide) (fun c8 => ?_) (fun c8 => ?_)
  · exact J_return dX11_copies_29 rfl (by rw [show i = 204 by omega]; exact hQ) (by decide) (by decide) (fun _ => rfl)
  · refine J_aload_n (by rfl) (by rfl) dX11_copies_11 ?_
    refine J_iload_n (by rfl) dX11_copies_12 ?_
    refine J_iload (by rfl) dX11_copies_13 ?_
    refine J_iadd dX11_copies_15 ?_
    try rw [nI_add]
    refine J_aload_n (by rfl) (by rfl) dX11_copies_16 ?_
    refine J_iload_n (by rfl) dX11_copies_17 ?_
    refine J_iload (by rfl) dX11_copies_18 ?_
    refine J_iadd dX11_copies_20 ?_
    try rw [nI_add]
    refine J_iald_n (p + i) dX11_copies_21 (by rw [List.getElem?_set_ne hne]; exact hA) rfl (by omega) ?_ hn0
    refine J_iast_n (q + i) dX11_copies_22 (jget_same2 hl1) rfl (by omega) ?_ hn1
    refine J_iinc_4 (nI 1) dX11_copies_23 (by decide) ?_
    try rw [nI_add]
    refine J_goto 3 dX11_copies_26 (by decide) ?_
    have := ih c8
    rw [← cpN_s] at this
    rw [List.set_set]
    exact this
theorem c_X11_copies_s {a n0 p q : Nat} {f : Nat → Nat} (h0 : p + 204 ≤ n0) (h1 : q + 204 ≤ p) (hn0 : n0 < 2 ^ 31) (hA : h[a]? = some (ia n0 f))
    (hQ : Q (.inl none) (h.set a (ia n0 (cpN f q f p 204)))) : jCT G M_X11_copies 1 0 0 X [.ref a, .int (nI p), .ref a, .int (nI q)] h Q := by
  refine jCT_of [some (.ref a), some (.int (nI p)), some (.ref a), some (.int (nI q)), none] 1 rfl (by decide +kernel) rfl rfl ?_
  have hl1 := jlt hA
  refine J_iconst (nI 0) (by decide) dX11_copies_0 ?_
  refine J_istore_4 dX11_copies_1 ?_
  suffices loop : ∀ i, i ≤ 204 → J G (jR 1 0 0) (jFin G Q X 0 0) M_X11_copies X 0 0 3 [some (.ref a), some (.int (nI p)), some (.ref a), some (.int (nI q)), some (.int (nI i))] [] (h.set a (ia n0 (cpN f q f p i))) by
    have := loop 0 (by omega)
    rw [cpN_0, hset_id hA] at this
    exact this
  refine up_ind 204 (fun i hi ih => ?_)
  refine J_iload (by rfl) dX11_copies_3 ?_
  refine J_sipush (nI 204) (by decide) dX11_copies_5 ?_
  refine J_icmp_ge_n 29 dX11_copies_8 (by decide) (fun c8 => ?_) (fun c8 => ?_)
  · exact J_return dX11_copies_29 rfl (by rw [show i = 204 by omega]; exact hQ) (by decide) (by decide) (fun _ => rfl)
  · refine J_aload_n (by rfl) (by rfl) dX11_copies_11 ?_
    refine J_iload_n (by rfl) dX11_copies_12 ?_
    refine J_iload (by rfl) dX11_copies_13 ?_
    refine J_iadd dX11_copies_15 ?_
    try rw [nI_add]
    refine J_aload_n (by rfl) (by rfl) dX11_copies_16 ?_
    refine J_iload_n (by rfl) dX11_copies_17 ?_
    refine J_iload (by rfl) dX11_copies_18 ?_
    refine J_iadd dX11_copies_20 ?_
    try rw [nI_add]
    refine J_iald_n (p + i) dX11_copies_21 (jget_same2 hl1) rfl (by omega) ?_ hn0
    refine J_topi (nI (f (p + i))) (by rw [cpN_out (by omega)]) ?_
    refine J_iast_n (q + i) dX11_copies_22 (jget_same2 hl1) rfl (by omega) ?_ hn0
    refine J_iinc_4 (nI 1) dX11_copies_23 (by decide) ?_
    try rw [nI_add]
    refine J_goto 3 dX11_copies_26 (by decide) ?_
    have := ih c8
    rw [← cpN_s] at this
    rw [List.set_set]
    exact this
theorem c_X11_keeps {W : Nat → Nat} (hM : h[116]? = some (hMo ch th ea fa an sv ln tp he cm)) (hS : h[117]? = some (ia 204 s)) (hW : h[118]? = some (ia 204 W)) (hQ : Q (.inl none) ((h.set 116 (hMo ch 0 ea fa an sv ln tp he cm)).set 118 (ia 204 (cpN W 0 s 0 204)))) : jCT G M_X11_keeps 2 0 0 X [.ref 116] h Q := by
  refine jCT_of [some (.ref 116)] 0 rfl (by decide +kernel) rfl rfl ?_
  refine J_aload_n (by rfl) (by rfl) dX11_keeps_0 ?_
  refine J_get dX11_keeps_1 f_X11_9 (by repeat (first | assumption | exact jget_same2 (by (try simp only [List.length_set]); exact jlt (by assumption)) | refine jget_ne (by first | decide | assumption | omega) ?_)) (by rfl) ?_
  refine J_iconst (nI 0) (by decide) dX11_keeps_4 ?_
  refine J_aload_n (by rfl) (by rfl) dX11_keeps_5 ?_
  refine J_get dX11_keeps_6 f_X11_13 (by repeat (first | assumption | exact jget_same2 (by (try simp only [List.length_set]); exact jlt (by assumption)) | refine jget_ne (by first | decide | assumption | omega) ?_)) (by rfl) ?_
  refine J_iconst (nI 0) (by decide) dX11_keeps_9 ?_
  refine J_S40 dX11_keeps_10 s_X11_44 m_X11_copies rfl (c_X11_copies (by decide) (by omega) (by omega) (by omega) (by omega) hS hW (jK0_i ?_))
  refine J_aload_n (by rfl) (by rfl) dX11_keeps_13 ?_
  refine J_iconst (nI 0) (by decide) dX11_keeps_14 ?_
  refine J_put_6 dX11_keeps_15 p_X11_41 (by repeat (first | assumption | exact jget_same2 (by (try simp only [List.length_set]); exact jlt (by assumption)) | refine jget_ne (by first | decide | assumption | omega) ?_)) ?_
  exact J_return dX11_keeps_18 rfl (by rw [jsw (i := 116) (j := 118) (by decide)]; exact hQ) (by decide) (by decide) (fun _ => rfl)
/-- the states before the latest changes, one more -/
def pastN (ch : Nat) (P W P' : Nat → Nat) : Prop := if ch = 8 then (∀ j i, j < 7 → i < 204 → P' (204 * j + i) = P (204 * (j + 1) + i)) ∧ ∀ i, i < 204 → P' (1428 + i) = W i
  else (∀ j i, j < ch → i < 204 → P' (204 * j + i) = P (204 * j + i)) ∧ ∀ i, i < 204 → P' (204 * ch + i) = W i
theorem c_X11_ends {v : Nat} {P W : Nat → Nat} (hch : ch ≤ 8) (ht : th < 2 ^ 31) (hM : h[116]? = some (hMo ch th ea fa an sv ln tp he cm)) (hW : h[118]? = some (ia 204 W)) (hP : h[120]? = some (ia 1632 P))
    (hQ1 : th ≠ 0 → Q (.inl (some (.int (nI 0)))) h) (hQ2 : th = 0 → ∀ P', pastN ch P W P' → Q (.inl (some (.int (nI v)))) ((h.set 116 (hMo (min (ch + 1) 8) th ea fa an sv ln tp he cm)).set 120 (ia 1632 P'))) : jCT G M_X11_ends 2 0 0 X [.ref 116, .int (nI v)] h Q := by
  refine jCT_of [some (.ref 116), some (.int (nI v)), none] 1 rfl (by decide +kernel) rfl rfl ?_
  refine J_aload_n (by rfl) (by rfl) dX11_ends_0 ?_
  refine J_get dX11_ends_1 f_X11_41 (by repeat (first | assumption | exact jget_same2 (by (try simp only [List.length_set]); exact jlt (by assumption)) | refine jget_ne (by first | decide | assumption | omega) ?_)) (by rfl) ?_
  refine J_if_eq_n 9 dX11_ends_4 (by decide) (fun c4 => ?_) (fun c4 => ?_)
  · refine J_aload_n (by rfl) (by rfl) dX11_ends_9 ?_
    refine J_get dX11_ends_10 f_X11_48 (by repeat (first | assumption | exact jget_same2 (by (try simp only [List.length_set]); exact jlt (by assumption)) | refine jget_ne (by first | decide | assumption | omega) ?_)) (by rfl) ?_
    refine J_bipush (nI 8) (by decide) dX11_ends_13 ?_
    refine J_icmp_ne_n 65 dX11_ends_15 (by decide) (fun c15 => ?_) (fun c15 => ?_)
    · have h8 : min (ch + 1) 8 = ch + 1 := by omega
      refine J_aload_n (by rfl) (by rfl) dX11_ends_65 ?_
      refine J_get dX11_ends_66 f_X11_13 (by repeat (first | assumption | exact jget_same2 (by (try simp only [List.length_set]); exact jlt (by assumption)) | refine jget_ne (by first | decide | assumption | omega) ?_)) (by rfl) ?_
      refine J_iconst (nI 0) (by decide) dX11_ends_69 ?_
      refine J_aload_n (by rfl) (by rfl) dX11_ends_70 ?_
      refine J_get dX11_ends_71 f_X11_19 (by repeat (first | assumption | exact jget_same2 (by (try simp only [List.length_set]); exact jlt (by assumption)) | refine jget_ne (by first | decide | assumption | omega) ?_)) (by rfl) ?_
      refine J_sipush (nI 204) (by decide) dX11_ends_74 ?_
      refine J_aload_n (by rfl) (by rfl) dX11_ends_77 ?_
      refine J_get dX11_ends_78 f_X11_48 (by repeat (first | assumption | exact jget_same2 (by (try simp only [List.length_set]); exact jlt (by assumption)) | refine jget_ne (by first | decide | assumption | omega) ?_)) (by rfl) ?_
      refine J_imul dX11_ends_81 ?_
      try rw [pk_mul]
      refine J_S40 dX11_ends_82 s_X11_44 m_X11_copies rfl (c_X11_copies (p := 0) (q := 204 * ch) (by decide) (by omega) (by omega) (by omega) (by omega) hW hP (jK0_i ?_))
      refine J_aload_n (by rfl) (by rfl) dX11_ends_85 ?_
      refine J_dup (by rfl) dX11_ends_86 ?_
      refine J_get dX11_ends_87 f_X11_48 (by repeat (first | assumption | exact jget_same2 (by (try simp only [List.length_set]); exact jlt (by assumption)) | refine jget_ne (by first | decide | assumption | omega) ?_)) (by rfl) ?_
      refine J_iconst (nI 1) (by decide) dX11_ends_90 ?_
      refine J_iadd dX11_ends_91 ?_
      try rw [nI_add]
      refine J_put_5 dX11_ends_92 p_X11_48 (by repeat (first | assumption | exact jget_same2 (by (try simp only [List.length_set]); exact jlt (by assumption)) | refine jget_ne (by first | decide | assumption | omega) ?_)) ?_
      refine J_iload_n (by rfl) dX11_ends_95 ?_
      exact J_ireturn dX11_ends_96 rfl (by
        rw [jsw (i := 116) (j := 120) (by decide)]
        have := hQ2 c4 (cpN P (204 * ch) W 0 204) (by
          unfold pastN
          rw [if_neg c15]
          exact ⟨fun j i hj hi => cpN_out (by omega), fun i hi => by rw [cpN_in hi, Nat.zero_add]⟩)
        rw [h8] at this
        exact this) (by decide) (by decide) (fun _ => rfl)
    · subst c15
      have h8 : min (8 + 1) 8 = 8 := rfl
      refine J_iconst (nI 1) (by decide) dX11_ends_18 ?_
      refine J_istore_2 dX11_ends_19 ?_
      suffices loop : ∀ i, i ≤ 8 → 1 ≤ i → ∀ P', (∀ j k, j + 1 < i → k < 204 → P' (204 * j + k) = P (204 * (j + 1) + k)) → (∀ k, 204 * (i - 1) ≤ k → P' k = P k) → J G (jR 2 0 0) (jFin G Q X 0 0) M_X11_ends X 0 0 20 [some (.ref 116), some (.int (nI v)), some (.int (nI i))] [] (h.set 120 (ia 1632 P')) by
        have := loop 1 (by omega) (by omega) P (fun j k hj hk => by omega) (fun k hk => rfl)
        rw [hset_id hP] at this
        exact this
      refine up_ind 8 (fun i hi ih h1 P' hP1 hP2 => ?_)
      refine J_iload_n (by rfl) dX11_ends_20 ?_
      refine J_bipush (nI 8) (by decide) dX11_ends_21 ?_
      refine J_icmp_ge_n 55 dX11_ends_23 (by decide) (fun c23 => ?_) (fun c23 => ?_)
      · have he : i = 8 := by omega
        subst he
        refine J_aload_n (by rfl) (by rfl) dX11_ends_55 ?_
        refine J_dup (by rfl) dX11_ends_56 ?_
        refine J_get dX11_ends_57 f_X11_48 (by repeat (first | assumption | exact jget_same2 (by (try simp only [List.length_set]); exact jlt (by assumption)) | refine jget_ne (by first | decide | assumption | omega) ?_)) (by rfl) ?_
        refine J_iconst (nI 1) (by decide) dX11_ends_60 ?_
        refine J_isub_n (by omega) dX11_ends_61 ?_
        refine J_put_5 dX11_ends_62 p_X11_48 (by repeat (first | assumption | exact jget_same2 (by (try simp only [List.length_set]); exact jlt (by assumption)) | refine jget_ne (by first | decide | assumption | omega) ?_)) ?_
        refine J_aload_n (by rfl) (by rfl) dX11_ends_65 ?_
        refine J_get dX11_ends_66 f_X11_13 (by repeat (first | assumption | exact jget_same2 (by (try simp only [List.length_set]); exact jlt (by assumption)) | refine jget_ne (by first | decide | assumption | omega) ?_)) (by rfl) ?_
        refine J_iconst (nI 0) (by decide) dX11_ends_69 ?_
        refine J_aload_n (by rfl) (by rfl) dX11_ends_70 ?_
        refine J_get dX11_ends_71 f_X11_19 (by repeat (first | assumption | exact jget_same2 (by (try simp only [List.length_set]); exact jlt (by assumption)) | refine jget_ne (by first | decide | assumption | omega) ?_)) (by rfl) ?_
        refine J_sipush (nI 204) (by decide) dX11_ends_74 ?_
        refine J_aload_n (by rfl) (by rfl) dX11_ends_77 ?_
        refine J_get dX11_ends_78 f_X11_48 (by repeat (first | assumption | exact jget_same2 (by (try simp only [List.length_set]); exact jlt (by assumption)) | refine jget_ne (by first | decide | assumption | omega) ?_)) (by rfl) ?_
        refine J_imul dX11_ends_81 ?_
        try rw [pk_mul]
        refine J_S40 dX11_ends_82 s_X11_44 m_X11_copies rfl (c_X11_copies (n0 := 204) (n1 := 1632) (f := W) (k0 := P') (p := 0) (q := 1428) (by decide) (by omega) (by omega) (by omega) (by omega) (by repeat (first | assumption | exact jget_same2 (by (try simp only [List.length_set]); exact jlt (by assumption)) | refine jget_ne (by first | decide | assumption | omega) ?_)) (by repeat (first | assumption | exact jget_same2 (by (try simp only [List.length_set]); exact jlt (by assumption)) | refine jget_ne (by first | decide | assumption | omega) ?_)) (jK0_i ?_))
        refine J_aload_n (by rfl) (by rfl) dX11_ends_85 ?_
        refine J_dup (by rfl) dX11_ends_86 ?_
        refine J_get dX11_ends_87 f_X11_48 (by repeat (first | assumption | exact jget_same2 (by (try simp only [List.length_set]); exact jlt (by assumption)) | refine jget_ne (by first | decide | assumption | omega) ?_)) (by rfl) ?_
        refine J_iconst (nI 1) (by decide) dX11_ends_90 ?_
        refine J_iadd dX11_ends_91 ?_
        try rw [nI_add]
        refine J_put_5 dX11_ends_92 p_X11_48 (by repeat (first | assumption | exact jget_same2 (by (try simp only [List.length_set]); exact jlt (by assumption)) | refine jget_ne (by first | decide | assumption | omega) ?_)) ?_
        refine J_iload_n (by rfl) dX11_ends_95 ?_
        exact J_ireturn dX11_ends_96 rfl (by
          simp only [List.set_set, jsw (i := 116) (j := 117) (by decide), jsw (i := 116) (j := 118) (by decide), jsw (i := 116) (j := 120) (by decide), jsw (i := 116) (j := 121) (by decide), jsw (i := 117) (j := 118) (by decide), jsw (i := 117) (j := 120) (by decide), jsw (i := 117) (j := 121) (by decide), jsw (i := 118) (j := 120) (by decide), jsw (i := 118) (j := 121) (by decide), jsw (i := 120) (j := 121) (by decide)]
          have := hQ2 c4 (cpN P' 1428 W 0 204) (by
            unfold pastN
            rw [if_pos rfl]
            exact ⟨fun j i hj hi => by rw [cpN_out (by omega)]; exact hP1 j i (by omega) hi, fun i hi => by rw [cpN_in hi, Nat.zero_add]⟩)
          rw [h8] at this
          exact this) (by decide) (by decide) (fun _ => rfl)
      · refine J_aload_n (by rfl) (by rfl) dX11_ends_26 ?_
        refine J_get dX11_ends_27 f_X11_19 (by repeat (first | assumption | exact jget_same2 (by (try simp only [List.length_set]); exact jlt (by assumption)) | refine jget_ne (by first | decide | assumption | omega) ?_)) (by rfl) ?_
        refine J_sipush (nI 204) (by decide) dX11_ends_30 ?_
        refine J_iload_n (by rfl) dX11_ends_33 ?_
        refine J_imul dX11_ends_34 ?_
        try rw [pk_mul]
        refine J_aload_n (by rfl) (by rfl) dX11_ends_35 ?_
        refine J_get dX11_ends_36 f_X11_19 (by repeat (first | assumption | exact jget_same2 (by (try simp only [List.length_set]); exact jlt (by assumption)) | refine jget_ne (by first | decide | assumption | omega) ?_)) (by rfl) ?_
        refine J_sipush (nI 204) (by decide) dX11_ends_39 ?_
        refine J_iload_n (by rfl) dX11_ends_42 ?_
        refine J_iconst (nI 1) (by decide) dX11_ends_43 ?_
        refine J_isub_n (by omega) dX11_ends_44 ?_
        refine J_imul dX11_ends_45 ?_
        try rw [pk_mul]
        refine J_S40 dX11_ends_46 s_X11_44 m_X11_copies rfl (c_X11_copies_s (n0 := 1632) (f := P') (p := 204 * i) (q := 204 * (i - 1)) (by omega) (by omega) (by omega) (by repeat (first | assumption | exact jget_same2 (by (try simp only [List.length_set]); exact jlt (by assumption)) | refine jget_ne (by first | decide | assumption | omega) ?_)) (jK0_i ?_))
        refine J_iinc_2 (nI 1) dX11_ends_49 (by decide) ?_
        try rw [nI_add]
        refine J_goto 20 dX11_ends_52 (by decide) ?_
        rw [List.set_set]
        refine ih c23 (by omega) _ (fun j k hj hk => ?_) (fun k hk => ?_)
        · by_cases e : j + 1 = i
          · rw [show j = i - 1 by omega, cpN_in hk, hP2 _ (by omega), show i - 1 + 1 = i by omega]
          · rw [cpN_out (by omega)]; exact hP1 j k (by omega) hk
        · rw [cpN_out (by omega)]
          exact hP2 k (by omega)
  · refine J_iconst (nI 0) (by decide) dX11_ends_7 ?_
    exact J_ireturn dX11_ends_8 rfl (hQ1 (by omega)) (by decide) (by decide) (fun _ => rfl)
end MODEL2
