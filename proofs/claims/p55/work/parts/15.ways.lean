/-! Paths: settleFrom, relaxFrom -/
theorem cnt_full {f : Nat → Bool} : ∀ k, k ≤ cnt f k → ∀ i, i < k → f i = true
  | 0, _, i, hi => by omega
  | k + 1, h, i, hi => by
    unfold cnt at h
    have h1 := cnt_le f k
    cases hf : f k
    · rw [hf] at h; simp at h; omega
    · rcases Nat.lt_or_ge i k with h2 | h2
      · rw [hf] at h; simp at h
        exact cnt_full k h i h2
      · have : i = k := by omega
        subst this; exact hf
theorem nI_neg1 {x : Nat} (hx : x < 2 ^ 31) : ¬ nI x = -1 := fun e => nI_pos hx (by rw [e]; decide)
/-- what stands between two rounds: lengths of walks; the marked ones are settled -/
abbrev Dj (w : Nat → Nat) (s : Nat) (D : Nat → Nat) (m : Nat → Bool) : Prop :=
  (D s = 0) ∧
  (∀ v, v < 12 → D v ≤ 1000000) ∧
  (∀ v, v < 12 → D v < 1000000 → Wk w s v (D v)) ∧
  (∀ u v, u < 12 → v < 12 → m u = true → 0 < w (u * 12 + v) → D v ≤ D u + w (u * 12 + v)) ∧
  (∀ u v, u < 12 → v < 12 → m u = true → m v = false → D u ≤ D v) ∧
  (∀ u, u < 12 → m u = true → D u < 1000000)
theorem Dj.z {w : Nat → Nat} {s : Nat} {D : Nat → Nat} {m : Nat → Bool} (I : Dj w s D m) : D s = 0 := I.1
theorem Dj.m {w : Nat → Nat} {s : Nat} {D : Nat → Nat} {m : Nat → Bool} (I : Dj w s D m) : ∀ v, v < 12 → D v ≤ 1000000 := I.2.1
theorem Dj.k {w : Nat → Nat} {s : Nat} {D : Nat → Nat} {m : Nat → Bool} (I : Dj w s D m) : ∀ v, v < 12 → D v < 1000000 → Wk w s v (D v) := I.2.2.1
theorem Dj.e {w : Nat → Nat} {s : Nat} {D : Nat → Nat} {m : Nat → Bool} (I : Dj w s D m) : ∀ u v, u < 12 → v < 12 → m u = true → 0 < w (u * 12 + v) → D v ≤ D u + w (u * 12 + v) := I.2.2.2.1
theorem Dj.o {w : Nat → Nat} {s : Nat} {D : Nat → Nat} {m : Nat → Bool} (I : Dj w s D m) : ∀ u v, u < 12 → v < 12 → m u = true → m v = false → D u ≤ D v := I.2.2.2.2.1
theorem Dj.f {w : Nat → Nat} {s : Nat} {D : Nat → Nat} {m : Nat → Bool} (I : Dj w s D m) : ∀ u, u < 12 → m u = true → D u < 1000000 := I.2.2.2.2.2
/-- within a round: the trails from x to the waypoints before i are looked at -/
abbrev Di (w : Nat → Nat) (s : Nat) (D : Nat → Nat) (m : Nat → Bool) (x i : Nat) : Prop :=
  (D s = 0) ∧
  (∀ v, v < 12 → D v ≤ 1000000) ∧
  (∀ v, v < 12 → D v < 1000000 → Wk w s v (D v)) ∧
  (∀ u v, u < 12 → v < 12 → m u = true → (u ≠ x ∨ v < i) → 0 < w (u * 12 + v) → D v ≤ D u + w (u * 12 + v)) ∧
  (∀ u v, u < 12 → v < 12 → m u = true → m v = false → D u ≤ D v) ∧
  (∀ u, u < 12 → m u = true → D u < 1000000) ∧
  (∀ u, u < 12 → m u = true → D u ≤ D x) ∧
  (m x = true)
theorem Di.z {w : Nat → Nat} {s : Nat} {D : Nat → Nat} {m : Nat → Bool} {x i : Nat} (I : Di w s D m x i) : D s = 0 := I.1
theorem Di.m {w : Nat → Nat} {s : Nat} {D : Nat → Nat} {m : Nat → Bool} {x i : Nat} (I : Di w s D m x i) : ∀ v, v < 12 → D v ≤ 1000000 := I.2.1
theorem Di.k {w : Nat → Nat} {s : Nat} {D : Nat → Nat} {m : Nat → Bool} {x i : Nat} (I : Di w s D m x i) : ∀ v, v < 12 → D v < 1000000 → Wk w s v (D v) := I.2.2.1
theorem Di.e {w : Nat → Nat} {s : Nat} {D : Nat → Nat} {m : Nat → Bool} {x i : Nat} (I : Di w s D m x i) : ∀ u v, u < 12 → v < 12 → m u = true → (u ≠ x ∨ v < i) → 0 < w (u * 12 + v) → D v ≤ D u + w (u * 12 + v) := I.2.2.2.1
theorem Di.o {w : Nat → Nat} {s : Nat} {D : Nat → Nat} {m : Nat → Bool} {x i : Nat} (I : Di w s D m x i) : ∀ u v, u < 12 → v < 12 → m u = true → m v = false → D u ≤ D v := I.2.2.2.2.1
theorem Di.f {w : Nat → Nat} {s : Nat} {D : Nat → Nat} {m : Nat → Bool} {x i : Nat} (I : Di w s D m x i) : ∀ u, u < 12 → m u = true → D u < 1000000 := I.2.2.2.2.2.1
theorem Di.x {w : Nat → Nat} {s : Nat} {D : Nat → Nat} {m : Nat → Bool} {x i : Nat} (I : Di w s D m x i) : ∀ u, u < 12 → m u = true → D u ≤ D x := I.2.2.2.2.2.2.1
theorem Di.mx {w : Nat → Nat} {s : Nat} {D : Nat → Nat} {m : Nat → Bool} {x i : Nat} (I : Di w s D m x i) : m x = true := I.2.2.2.2.2.2.2
/-- while all pairs are looked at -/
abbrev Bf (w : Nat → Nat) (s : Nat) (D0 D : Nat → Nat) (ch : Bool) (i j : Nat) : Prop :=
  (D s = 0) ∧
  (∀ v, v < 12 → D v ≤ 1000000) ∧
  (∀ v, v < 12 → D v < 1000000 → Wk w s v (D v)) ∧
  (∀ v, v < 12 → D v ≤ D0 v) ∧
  (∀ u v, u < 12 → v < 12 → (u < i ∨ (u = i ∧ v < j)) → 0 < w (u * 12 + v) → D v ≤ D0 u + w (u * 12 + v)) ∧
  (ch = false → ∀ v, v < 12 → D v = D0 v)
theorem Bf.z {w : Nat → Nat} {s : Nat} {D0 D : Nat → Nat} {ch : Bool} {i j : Nat} (I : Bf w s D0 D ch i j) : D s = 0 := I.1
theorem Bf.m {w : Nat → Nat} {s : Nat} {D0 D : Nat → Nat} {ch : Bool} {i j : Nat} (I : Bf w s D0 D ch i j) : ∀ v, v < 12 → D v ≤ 1000000 := I.2.1
theorem Bf.k {w : Nat → Nat} {s : Nat} {D0 D : Nat → Nat} {ch : Bool} {i j : Nat} (I : Bf w s D0 D ch i j) : ∀ v, v < 12 → D v < 1000000 → Wk w s v (D v) := I.2.2.1
theorem Bf.le {w : Nat → Nat} {s : Nat} {D0 D : Nat → Nat} {ch : Bool} {i j : Nat} (I : Bf w s D0 D ch i j) : ∀ v, v < 12 → D v ≤ D0 v := I.2.2.2.1
theorem Bf.e {w : Nat → Nat} {s : Nat} {D0 D : Nat → Nat} {ch : Bool} {i j : Nat} (I : Bf w s D0 D ch i j) : ∀ u v, u < 12 → v < 12 → (u < i ∨ (u = i ∧ v < j)) → 0 < w (u * 12 + v) → D v ≤ D0 u + w (u * 12 + v) := I.2.2.2.2.1
theorem Bf.c {w : Nat → Nat} {s : Nat} {D0 D : Nat → Nat} {ch : Bool} {i j : Nat} (I : Bf w s D0 D ch i j) : ch = false → ∀ v, v < 12 → D v = D0 v := I.2.2.2.2.2
/-- between two rounds of all pairs -/
abbrev Br (w : Nat → Nat) (s : Nat) (D : Nat → Nat) (ch : Bool) (r : Nat) : Prop :=
  (D s = 0) ∧
  (∀ v, v < 12 → D v ≤ 1000000) ∧
  (∀ v, v < 12 → D v < 1000000 → Wk w s v (D v)) ∧
  (∀ v, v < 12 → Rc w s v → rk (dst w s) v ≤ r → D v ≤ dst w s v) ∧
  (ch = false → ∀ u v, u < 12 → v < 12 → 0 < w (u * 12 + v) → D v ≤ D u + w (u * 12 + v))
theorem Br.z {w : Nat → Nat} {s : Nat} {D : Nat → Nat} {ch : Bool} {r : Nat} (I : Br w s D ch r) : D s = 0 := I.1
theorem Br.m {w : Nat → Nat} {s : Nat} {D : Nat → Nat} {ch : Bool} {r : Nat} (I : Br w s D ch r) : ∀ v, v < 12 → D v ≤ 1000000 := I.2.1
theorem Br.k {w : Nat → Nat} {s : Nat} {D : Nat → Nat} {ch : Bool} {r : Nat} (I : Br w s D ch r) : ∀ v, v < 12 → D v < 1000000 → Wk w s v (D v) := I.2.2.1
theorem Br.q {w : Nat → Nat} {s : Nat} {D : Nat → Nat} {ch : Bool} {r : Nat} (I : Br w s D ch r) : ∀ v, v < 12 → Rc w s v → rk (dst w s) v ≤ r → D v ≤ dst w s v := I.2.2.2.1
theorem Br.c {w : Nat → Nat} {s : Nat} {D : Nat → Nat} {ch : Bool} {r : Nat} (I : Br w s D ch r) : ch = false → ∀ u v, u < 12 → v < 12 → 0 < w (u * 12 + v) → D v ≤ D u + w (u * 12 + v) := I.2.2.2.2
section DJ
variable {n s x i : Nat} {w D : Nat → Nat} {m : Nat → Bool}
theorem Dj.start {D : Nat → Nat} (hs : s < 12) (hD : ∀ k, k < 12 → D k = if k = s then 0 else 1000000) (hm : ∀ k, k < 12 → m k = false) : Dj w s D m :=
  ⟨(by rw [hD s hs, if_pos rfl]),
   (fun v hv => by rw [hD v hv]; split <;> omega),
   (fun v hv h => by
      rw [hD v hv] at h ⊢
      split
      · rename_i e; subst e; exact Wk.z
      · rename_i e; rw [if_neg e] at h; omega),
   (fun u v hu hv h => by rw [hm u hu] at h; exact absurd h (by decide)),
   (fun u v hu hv h => by rw [hm u hu] at h; exact absurd h (by decide)),
   (fun u hu h => by rw [hm u hu] at h; exact absurd h (by decide))⟩
theorem Dj.none (I : Dj w s D m) (h : ∀ k, k < 12 → m k = false → D k = 1000000) : IsD 1000000 w s D :=
  ⟨(I.z),
   (fun u v hu hv hp => by
      cases hm : m u
      · have := h u hu hm
        have := I.m v hv
        omega
      · exact I.e u v hu hv hm hp),
   (I.m),
   (I.k)⟩
theorem Dj.full (I : Dj w s D m) (h : 12 ≤ cnt m 12) : IsD 1000000 w s D := I.none fun k hk hm => by rw [cnt_full 12 h k hk] at hm; exact absurd hm (by decide)
theorem Dj.next (I : Dj w s D m) (hx : x < 12) (h1 : D x < 1000000) (h2 : ∀ j, j < 12 → m j = false → D x ≤ D j) (h3 : m x = false) : Di w s D (updN m x true) x 0 :=
  ⟨(I.z),
   (I.m),
   (I.k),
   (fun u v hu hv h hq hp => by
      have hux : u ≠ x := by rcases hq with q | q; exact q; omega
      rw [updN_n hux] at h
      exact I.e u v hu hv h hp),
   (fun u v hu hv h hv2 => by
      have hvx : v ≠ x := fun e => by subst e; rw [updN_s] at hv2; exact absurd hv2 (by decide)
      rw [updN_n hvx] at hv2
      by_cases e : u = x
      · subst e; exact h2 v hv hv2
      · rw [updN_n e] at h; exact I.o u v hu hv h hv2),
   (fun u hu h => by
      by_cases e : u = x
      · subst e; exact h1
      · rw [updN_n e] at h; exact I.f u hu h),
   (fun u hu h => by
      by_cases e : u = x
      · subst e; exact Nat.le_refl _
      · rw [updN_n e] at h; exact I.o u x hu hx h h3),
   (updN_s)⟩
theorem Di.skip (I : Di w s D m x i) (h : 0 < w (x * 12 + i) → D i ≤ D x + w (x * 12 + i)) : Di w s D m x (i + 1) :=
  ⟨(I.z),
   (I.m),
   (I.k),
   (fun u v hu hv hm hq hp => by
      by_cases e : u = x ∧ v = i
      · obtain ⟨rfl, rfl⟩ := e; exact h hp
      · exact I.e u v hu hv hm (by omega) hp),
   (I.o),
   (I.f),
   (I.x),
   (I.mx)⟩
theorem Di.take (I : Di w s D m x i) (hx : x < 12) (hi : i < 12) (hp : 0 < w (x * 12 + i)) (h : D x + w (x * 12 + i) < D i) : Di w s (updN D i (D x + w (x * 12 + i))) m x (i + 1) := by
  have hmi : m i = false := by
    cases hm : m i
    · rfl
    · have := I.x i hi hm; omega
  have hne : ∀ u, m u = true → u ≠ i := fun u hu e => by subst e; rw [hmi] at hu; exact absurd hu (by decide)
  have hxi := hne x I.mx
  have hsi : s ≠ i := fun e => by have := I.z; subst e; omega
  have hle : ∀ v, updN D i (D x + w (x * 12 + i)) v ≤ D v := fun v => by
    by_cases e : v = i
    · subst e; rw [updN_s]; omega
    · rw [updN_n e]; exact Nat.le_refl _
  refine ⟨?_, ?_, ?_, ?_, ?_, ?_, ?_, I.mx⟩
  · rw [updN_n hsi]; exact I.z
  · exact fun v hv => Nat.le_trans (hle v) (I.m v hv)
  · intro v hv hf
    by_cases e : v = i
    · subst e; rw [updN_s]
      exact Wk.st (I.k x hx (I.f x hx I.mx)) hx hi hp
    · rw [updN_n e] at hf ⊢; exact I.k v hv hf
  · intro u v hu hv hm hq hp2
    rw [updN_n (hne u hm)]
    by_cases e : u = x ∧ v = i
    · obtain ⟨rfl, rfl⟩ := e; rw [updN_s]; exact Nat.le_refl _
    · exact Nat.le_trans (hle v) (I.e u v hu hv hm (by omega) hp2)
  · intro u v hu hv hm hv2
    rw [updN_n (hne u hm)]
    by_cases e : v = i
    · subst e; rw [updN_s]; have := I.x u hu hm; omega
    · rw [updN_n e]; exact I.o u v hu hv hm hv2
  · intro u hu hm; rw [updN_n (hne u hm)]; exact I.f u hu hm
  · intro u hu hm; rw [updN_n (hne u hm), updN_n hxi]; exact I.x u hu hm
theorem Di.done (g : Gr n w) (I : Di w s D m x n) : Dj w s D m :=
  ⟨(I.z),
   (I.m),
   (I.k),
   (fun u v hu hv hm hp => I.e u v hu hv hm (.inr (g.inn u v hu hv hp).2) hp),
   (I.o),
   (I.f)⟩
theorem Bf.skip {D0 : Nat → Nat} {ch : Bool} {j : Nat} (I : Bf w s D0 D ch i j) (hi : i < 12) (h : 0 < w (i * 12 + j) → D j ≤ D i + w (i * 12 + j)) : Bf w s D0 D ch i (j + 1) :=
  ⟨(I.z),
   (I.m),
   (I.k),
   (I.le),
   (fun u v hu hv hq hp => by
      by_cases e : u = i ∧ v = j
      · obtain ⟨rfl, rfl⟩ := e; have := h hp; have := I.le u hi; omega
      · exact I.e u v hu hv (by omega) hp),
   (I.c)⟩
theorem Bf.take {D0 : Nat → Nat} {ch : Bool} {j : Nat} (I : Bf w s D0 D ch i j) (hi : i < 12) (hj : j < 12) (hp : 0 < w (i * 12 + j)) (h : D i + w (i * 12 + j) < D j) : Bf w s D0 (updN D j (D i + w (i * 12 + j))) true i (j + 1) := by
  have hsj : s ≠ j := fun e => by have := I.z; subst e; omega
  have hle : ∀ v, updN D j (D i + w (i * 12 + j)) v ≤ D v := fun v => by
    by_cases e : v = j
    · subst e; rw [updN_s]; omega
    · rw [updN_n e]; exact Nat.le_refl _
  have hDi := I.m j hj
  refine ⟨?_, ?_, ?_, ?_, ?_, fun e => absurd e (by decide)⟩
  · rw [updN_n hsj]; exact I.z
  · exact fun v hv => Nat.le_trans (hle v) (I.m v hv)
  · intro v hv hf
    by_cases e : v = j
    · subst e; rw [updN_s]
      exact Wk.st (I.k i hi (by omega)) hi hj hp
    · rw [updN_n e] at hf ⊢; exact I.k v hv hf
  · exact fun v hv => Nat.le_trans (hle v) (I.le v hv)
  · intro u v hu hv hq hp2
    by_cases e : u = i ∧ v = j
    · obtain ⟨rfl, rfl⟩ := e; rw [updN_s]; have := I.le u hi; omega
    · exact Nat.le_trans (hle v) (I.e u v hu hv (by omega) hp2)
theorem Bf.row {D0 : Nat → Nat} {ch : Bool} (g : Gr n w) (I : Bf w s D0 D ch i n) : Bf w s D0 D ch (i + 1) 0 :=
  ⟨(I.z),
   (I.m),
   (I.k),
   (I.le),
   (fun u v hu hv hq hp => I.e u v hu hv (by have := (g.inn u v hu hv hp).2; omega) hp),
   (I.c)⟩
theorem Br.start (hs : s < 12) (hD : ∀ k, k < 12 → D k = if k = s then 0 else 1000000) : Br w s D true 0 :=
  ⟨(by rw [hD s hs, if_pos rfl]),
   (fun v hv => by rw [hD v hv]; split <;> omega),
   (fun v hv h => by
      rw [hD v hv] at h ⊢
      split
      · rename_i e; subst e; exact Wk.z
      · rename_i e; rw [if_neg e] at h; omega),
   (fun v hv hR hr => by
      by_cases e : v = s
      · subst e; rw [hD v hv, if_pos rfl]; exact Nat.zero_le _
      · obtain ⟨u, hu, hv2, hp, hu2, he⟩ := dst_pred e hR
        have := rk_lt (D := dst w s) (v := v) hu (by omega)
        omega),
   (fun h => absurd h (by decide))⟩
theorem Br.begin {ch : Bool} {r : Nat} (I : Br w s D ch r) : Bf w s D D false 0 0 :=
  ⟨(I.z),
   (I.m),
   (I.k),
   (fun _ _ => Nat.le_refl _),
   (fun u v hu hv hq hp => by omega),
   (fun _ _ _ => rfl)⟩
theorem Bf.done {D0 : Nat → Nat} {ch ch0 : Bool} {r : Nat} (g : Gr n w) (I0 : Br w s D0 ch0 r) (I : Bf w s D0 D ch n 0) : Br w s D ch (r + 1) :=
  ⟨(I.z),
   (I.m),
   (I.k),
   (fun v hv hR hr => by
      by_cases e : v = s
      · subst e; rw [I.z]; exact Nat.zero_le _
      · obtain ⟨u, hu, hv2, hp, hu2, he⟩ := dst_pred e hR
        have h1 := rk_lt (D := dst w s) (v := v) hu (by omega)
        have h2 := I0.q u hu hu2 (by omega)
        have h3 := I.e u v hu hv (by have := (g.inn u v hu hv hp).1; omega) hp
        omega),
   (fun h u v hu hv hp => by
      have h1 := I.e u v hu hv (by have := (g.inn u v hu hv hp).1; omega) hp
      have h2 := I.c h u hu
      omega)⟩
theorem Br.ends {ch : Bool} {r : Nat} (g : Gr n w) (I : Br w s D ch r) (h : ch = false ∨ 11 ≤ r) : IsD 1000000 w s D :=
  ⟨(I.z),
   (fun u v hu hv hp => by
      rcases h with h | h
      · exact I.c h u v hu hv hp
      · by_cases hR : Rc w s u
        · have h1 := I.q v hv (hR.step hu hv hp) (by have := rk_le (D := dst w s) hv; omega)
          have h2 := dst_edge (s := s) g hu hv hp
          have h3 : dst w s u ≤ D u := by
            by_cases h4 : D u < 1000000
            · exact dst_le (I.k u hu h4)
            · have := dst_b g hu hR
              omega
          omega
        · have h1 : ¬ D u < 1000000 := fun q => hR ⟨_, I.k u hu q⟩
          have h2 := I.m v hv
          omega),
   (I.m),
   (I.k)⟩
end DJ
section PATHS2
variable {G : jG} {X : Bool} {h : jH} {Q : jQ_} {n t s : Nat} {w D0 E0 : Nat → Nat} {m0 : Nat → Bool}
theorem Gr.lt {n : Nat} {w : Nat → Nat} (g : Gr n w) {i j : Nat} (hi : i < 12) (hj : j < 12) : w (i * 12 + j) < 2 ^ 31 := by have := g.le i j hi hj; omega
theorem c_X5_settleFrom (g : Gr n w) (hs : s < n) (hM : h[3]? = some (hMap n t)) (hW : h[7]? = some (ia 144 w)) (hP : h[11]? = some hPaths) (hA : h[12]? = some (ia 12 D0)) (hK : h[15]? = some (za 12 m0))
    (hQ : ∀ D m, IsD 1000000 w s D → Q (.inl none) ((h.set 12 (ia 12 D)).set 15 (za 12 m))) : jCT G M_X5_settleFrom 3 0 0 X [.ref 11, .ref 3, .int (nI s)] h Q := by
  have hn := g.n12
  refine jCT_of [some (.ref 11), some (.ref 3), some (.int (nI s)), none, none, none] 3 rfl (by decide +kernel) rfl rfl ?_
  refine J_aload_n (by rfl) (by rfl) dX5_settleFrom_0 ?_
  refine J_get dX5_settleFrom_1 f_X5_9 (by repeat (first | assumption | exact jget_same2 (by (try simp only [List.length_set]); exact jlt (by assumption)) | refine jget_ne (by first | decide | assumption | omega) ?_)) (by rfl) ?_
  refine J_iload_n (by rfl) dX5_settleFrom_4 ?_
  refine J_S20 dX5_settleFrom_5 s_X5_30 m_X5_startRow rfl (c_X5_startRow (by omega) hA (fun D1 hD1 => (jK0_i ?_)))
  refine J_aload_n (by rfl) (by rfl) dX5_settleFrom_8 ?_
  refine J_V00 (ci := 5) dX5_settleFrom_9 s_X5_34 m_X5_clearMarks rfl (by repeat (first | assumption | exact jget_same2 (by (try simp only [List.length_set]); exact jlt (by assumption)) | refine jget_ne (by first | decide | assumption | omega) ?_)) rfl (c_X5_clearMarks (by repeat (first | assumption | exact jget_same2 (by (try simp only [List.length_set]); exact jlt (by assumption)) | refine jget_ne (by first | decide | assumption | omega) ?_)) (m := m0) (by repeat (first | assumption | exact jget_same2 (by (try simp only [List.length_set]); exact jlt (by assumption)) | refine jget_ne (by first | decide | assumption | omega) ?_)) (fun m1 hm1 => (jK0_i ?_)))
  refine J_iconst (nI 0) (by decide) dX5_settleFrom_12 ?_
  refine J_istore_3 dX5_settleFrom_13 ?_
  suffices loop : ∀ r, r ≤ 12 → ∀ D m, Dj w s D m → r ≤ cnt m 12 → ∀ l4 l5, J G (jR 3 0 0) (jFin G Q X 0 0) M_X5_settleFrom X 0 0 14 [some (.ref 11), some (.ref 3), some (.int (nI s)), some (.int (nI r)), l4, l5] [] ((h.set 12 (ia 12 D)).set 15 (za 12 m)) by
    exact loop 0 (by omega) D1 m1 (Dj.start (by omega) hD1 hm1) (by omega) _ _
  refine up_ind 12 (fun r hr ih D m hI hc l4 l5 => ?_)
  refine J_iload_n (by rfl) dX5_settleFrom_14 ?_
  refine J_bipush (nI 12) (by decide) dX5_settleFrom_15 ?_
  refine J_icmp_ge_n 96 dX5_settleFrom_17 (by decide) (fun c17 => ?_) (fun c17 => ?_)
  · exact J_return dX5_settleFrom_96 rfl (hQ D m (hI.full (by omega))) (by decide) (by decide) (fun _ => rfl)
  · refine J_aload_n (by rfl) (by rfl) dX5_settleFrom_20 ?_
    refine J_V0v (ci := 5) dX5_settleFrom_21 s_X5_37 m_X5_closestUnmarked rfl (by repeat (first | assumption | exact jget_same2 (by (try simp only [List.length_set]); exact jlt (by assumption)) | refine jget_ne (by first | decide | assumption | omega) ?_)) rfl (c_X5_closestUnmarked hI.m (by repeat (first | assumption | exact jget_same2 (by (try simp only [List.length_set]); exact jlt (by assumption)) | refine jget_ne (by first | decide | assumption | omega) ?_)) (by repeat (first | assumption | exact jget_same2 (by (try simp only [List.length_set]); exact jlt (by assumption)) | refine jget_ne (by first | decide | assumption | omega) ?_)) (by repeat (first | assumption | exact jget_same2 (by (try simp only [List.length_set]); exact jlt (by assumption)) | refine jget_ne (by first | decide | assumption | omega) ?_)) (fun hno => (jKv_i ?_)) (fun x hx hmx hfx hlx => (jKv_i ?_)))
    · refine J_istore_4 dX5_settleFrom_24 ?_
      refine J_iload (by rfl) dX5_settleFrom_26 ?_
      refine J_iconst (-1) (by decide) dX5_settleFrom_28 ?_
      refine J_icmp_ne 33 dX5_settleFrom_29 (by decide) (fun c29 => ?_) (fun c29 => ?_)
      · exact absurd rfl c29
      · exact J_return dX5_settleFrom_32 rfl (hQ D m (hI.none hno)) (by decide) (by decide) (fun _ => rfl)
    · refine J_istore_4 dX5_settleFrom_24 ?_
      refine J_iload (by rfl) dX5_settleFrom_26 ?_
      refine J_iconst (-1) (by decide) dX5_settleFrom_28 ?_
      refine J_icmp_ne 33 dX5_settleFrom_29 (by decide) (fun c29 => ?_) (fun c29 => ?_)
      · refine J_aload_n (by rfl) (by rfl) dX5_settleFrom_33 ?_
        refine J_get dX5_settleFrom_34 f_X5_21 (by repeat (first | assumption | exact jget_same2 (by (try simp only [List.length_set]); exact jlt (by assumption)) | refine jget_ne (by first | decide | assumption | omega) ?_)) (by rfl) ?_
        refine J_iload (by rfl) dX5_settleFrom_37 ?_
        refine J_iconst (nI 1) (by decide) dX5_settleFrom_39 ?_
        refine J_topi (jb true) (by decide) ?_
        refine J_zast_n (x) dX5_settleFrom_40 (by repeat (first | assumption | exact jget_same2 (by (try simp only [List.length_set]); exact jlt (by assumption)) | refine jget_ne (by first | decide | assumption | omega) ?_)) (by first | rfl | (simp only [pk_mul, nI_add]; done) | (simp only [pk_mul, nI_add]; congr 1; omega) | (congr 1; omega)) (by omega) ?_
        refine J_iconst (nI 0) (by decide) dX5_settleFrom_41 ?_
        refine J_istore_5 dX5_settleFrom_42 ?_
        rw [List.set_set]
        suffices inner : ∀ i, i ≤ n → ∀ D, Di w s D (updN m x true) x i → J G (jR 3 0 0) (jFin G Q X 0 0) M_X5_settleFrom X 0 0 44 [some (.ref 11), some (.ref 3), some (.int (nI s)), some (.int (nI r)), some (.int (nI x)), some (.int (nI i))] [] ((h.set 12 (ia 12 D)).set 15 (za 12 (updN m x true))) by
          exact inner 0 (by omega) D (hI.next hx hfx hlx hmx)
        refine up_ind n (fun i hi ih2 D hJ => ?_)
        refine J_iload (by rfl) dX5_settleFrom_44 ?_
        refine J_aload_n (by rfl) (by rfl) dX5_settleFrom_46 ?_
        refine J_get dX5_settleFrom_47 f_X5_41 (by repeat (first | assumption | exact jget_same2 (by (try simp only [List.length_set]); exact jlt (by assumption)) | refine jget_ne (by first | decide | assumption | omega) ?_)) (by rfl) ?_
        refine J_icmp_ge_n 90 dX5_settleFrom_50 (by decide) (fun c50 => ?_) (fun c50 => ?_)
        · refine J_iinc_3 (nI 1) dX5_settleFrom_90 (by decide) ?_
          try rw [nI_add]
          refine J_goto 14 dX5_settleFrom_93 (by decide) ?_
          have he : i = n := by omega
          subst he
          exact ih c17 D _ (hJ.done g) (by have := cnt_lt (j := x) (f := m) (g := updN m x true) 12 hx (fun k _ hk => by unfold updN; split; rfl; exact hk) hmx updN_s; omega) _ _
        · refine J_aload_n (by rfl) (by rfl) dX5_settleFrom_53 ?_
          refine J_iload (by rfl) dX5_settleFrom_54 ?_
          refine J_iload (by rfl) dX5_settleFrom_56 ?_
          refine J_V2v (ci := 9) dX5_settleFrom_58 s_X5_47 m_X9_areJoined rfl (by repeat (first | assumption | exact jget_same2 (by (try simp only [List.length_set]); exact jlt (by assumption)) | refine jget_ne (by first | decide | assumption | omega) ?_)) rfl (c_X9_areJoined (i := x) (j := i) (by omega) (by omega) (by repeat (first | assumption | exact jget_same2 (by (try simp only [List.length_set]); exact jlt (by assumption)) | refine jget_ne (by first | decide | assumption | omega) ?_)) (by repeat (first | assumption | exact jget_same2 (by (try simp only [List.length_set]); exact jlt (by assumption)) | refine jget_ne (by first | decide | assumption | omega) ?_)) (g.lt (by omega) (by omega)) (jKv_i ?_))
          refine J_if_eq_b 84 dX5_settleFrom_61 (by decide) (fun c61 => ?_) (fun c61 => ?_)
          · refine J_iinc_5 (nI 1) dX5_settleFrom_84 (by decide) ?_
            try rw [nI_add]
            refine J_goto 44 dX5_settleFrom_87 (by decide) ?_
            exact ih2 c50 D (hJ.skip fun q => absurd q (by simpa using c61))
          · have hp : 0 < w (x * 12 + i) := by simpa using c61
            refine J_aload_n (by rfl) (by rfl) dX5_settleFrom_64 ?_
            refine J_get dX5_settleFrom_65 f_X5_9 (by repeat (first | assumption | exact jget_same2 (by (try simp only [List.length_set]); exact jlt (by assumption)) | refine jget_ne (by first | decide | assumption | omega) ?_)) (by rfl) ?_
            refine J_iload (by rfl) dX5_settleFrom_68 ?_
            refine J_iload (by rfl) dX5_settleFrom_70 ?_
            refine J_aload_n (by rfl) (by rfl) dX5_settleFrom_72 ?_
            refine J_iload (by rfl) dX5_settleFrom_73 ?_
            refine J_iload (by rfl) dX5_settleFrom_75 ?_
            refine J_V2v (ci := 9) dX5_settleFrom_77 s_X5_51 m_X9_lengthBetween rfl (by repeat (first | assumption | exact jget_same2 (by (try simp only [List.length_set]); exact jlt (by assumption)) | refine jget_ne (by first | decide | assumption | omega) ?_)) rfl (c_X9_lengthBetween (i := x) (j := i) (by omega) (by omega) (by repeat (first | assumption | exact jget_same2 (by (try simp only [List.length_set]); exact jlt (by assumption)) | refine jget_ne (by first | decide | assumption | omega) ?_)) (by repeat (first | assumption | exact jget_same2 (by (try simp only [List.length_set]); exact jlt (by assumption)) | refine jget_ne (by first | decide | assumption | omega) ?_)) (jKv_i ?_))
            refine J_S4v dX5_settleFrom_80 s_X5_55 m_X5_shorten rfl (c_X5_shorten (by omega) (by omega) (g.le x i (by omega) (by omega)) hJ.m (by repeat (first | assumption | exact jget_same2 (by (try simp only [List.length_set]); exact jlt (by assumption)) | refine jget_ne (by first | decide | assumption | omega) ?_)) (fun hc1 => (jKv_i ?_)) (fun hc2 => (jKv_i ?_)))
            · refine J_pop (by rfl) dX5_settleFrom_83 ?_
              refine J_iinc_5 (nI 1) dX5_settleFrom_84 (by decide) ?_
              try rw [nI_add]
              refine J_goto 44 dX5_settleFrom_87 (by decide) ?_
              simp only [List.set_set, jsw (i := 12) (j := 13) (by decide), jsw (i := 12) (j := 15) (by decide), jsw (i := 13) (j := 15) (by decide), jsw (i := 14) (j := 15) (by decide)]
              exact ih2 c50 _ (hJ.take hx (by omega) hp hc1)
            · refine J_pop (by rfl) dX5_settleFrom_83 ?_
              refine J_iinc_5 (nI 1) dX5_settleFrom_84 (by decide) ?_
              try rw [nI_add]
              refine J_goto 44 dX5_settleFrom_87 (by decide) ?_
              exact ih2 c50 D (hJ.skip fun q => by omega)
      · exact absurd c29 (nI_neg1 (by omega))
theorem c_X5_relaxAll {ch0 : Bool} {r : Nat} (g : Gr n w) (I0 : Br w s D0 ch0 r) (hM : h[3]? = some (hMap n t)) (hW : h[7]? = some (ia 144 w)) (hP : h[11]? = some hPaths) (hA : h[13]? = some (ia 12 D0))
    (hQ : ∀ D ch, Br w s D ch (r + 1) → Q (.inl (some (.int (jb ch)))) (h.set 13 (ia 12 D))) : jCT G M_X5_relaxAll 3 0 0 X [.ref 11, .ref 3] h Q := by
  have hn := g.n12
  refine jCT_of [some (.ref 11), some (.ref 3), none, none, none] 3 rfl (by decide +kernel) rfl rfl ?_
  refine J_iconst (nI 0) (by decide) dX5_relaxAll_0 ?_
  refine J_istore_2 dX5_relaxAll_1 ?_
  refine J_iconst (nI 0) (by decide) dX5_relaxAll_2 ?_
  refine J_istore_3 dX5_relaxAll_3 ?_
  suffices loop : ∀ i, i ≤ n → ∀ D ch, Bf w s D0 D ch i 0 → ∀ l4, J G (jR 3 0 0) (jFin G Q X 0 0) M_X5_relaxAll X 0 0 4 [some (.ref 11), some (.ref 3), some (.int (jb ch)), some (.int (nI i)), l4] [] (h.set 13 (ia 12 D)) by
    have := loop 0 (by omega) D0 false I0.begin none
    rw [hset_id hA] at this
    exact this
  refine up_ind n (fun i hi ih D ch hI l4 => ?_)
  refine J_iload_n (by rfl) dX5_relaxAll_4 ?_
  refine J_aload_n (by rfl) (by rfl) dX5_relaxAll_5 ?_
  refine J_get dX5_relaxAll_6 f_X5_41 (by repeat (first | assumption | exact jget_same2 (by (try simp only [List.length_set]); exact jlt (by assumption)) | refine jget_ne (by first | decide | assumption | omega) ?_)) (by rfl) ?_
  refine J_icmp_ge_n 68 dX5_relaxAll_9 (by decide) (fun c9 => ?_) (fun c9 => ?_)
  · have he : i = n := by omega
    subst he
    refine J_iload_n (by rfl) dX5_relaxAll_68 ?_
    exact J_zreturn dX5_relaxAll_69 rfl (jb_n _) (hQ D ch (hI.done g I0)) (by decide) (by decide) (fun _ => rfl)
  · refine J_iconst (nI 0) (by decide) dX5_relaxAll_12 ?_
    refine J_istore_4 dX5_relaxAll_13 ?_
    suffices inner : ∀ j, j ≤ n → ∀ D ch, Bf w s D0 D ch i j → J G (jR 3 0 0) (jFin G Q X 0 0) M_X5_relaxAll X 0 0 15 [some (.ref 11), some (.ref 3), some (.int (jb ch)), some (.int (nI i)), some (.int (nI j))] [] (h.set 13 (ia 12 D)) by
      exact inner 0 (by omega) D ch hI
    refine up_ind n (fun j hj ih2 D ch hJ => ?_)
    refine J_iload (by rfl) dX5_relaxAll_15 ?_
    refine J_aload_n (by rfl) (by rfl) dX5_relaxAll_17 ?_
    refine J_get dX5_relaxAll_18 f_X5_41 (by repeat (first | assumption | exact jget_same2 (by (try simp only [List.length_set]); exact jlt (by assumption)) | refine jget_ne (by first | decide | assumption | omega) ?_)) (by rfl) ?_
    refine J_icmp_ge_n 62 dX5_relaxAll_21 (by decide) (fun c21 => ?_) (fun c21 => ?_)
    · refine J_iinc_3 (nI 1) dX5_relaxAll_62 (by decide) ?_
      try rw [nI_add]
      refine J_goto 4 dX5_relaxAll_65 (by decide) ?_
      have he : j = n := by omega
      subst he
      exact ih c9 D ch (hJ.row g) _
    · refine J_aload_n (by rfl) (by rfl) dX5_relaxAll_24 ?_
      refine J_iload_n (by rfl) dX5_relaxAll_25 ?_
      refine J_iload (by rfl) dX5_relaxAll_26 ?_
      refine J_V2v (ci := 9) dX5_relaxAll_28 s_X5_47 m_X9_areJoined rfl (by repeat (first | assumption | exact jget_same2 (by (try simp only [List.length_set]); exact jlt (by assumption)) | refine jget_ne (by first | decide | assumption | omega) ?_)) rfl (c_X9_areJoined (i := i) (j := j) (by omega) (by omega) (by repeat (first | assumption | exact jget_same2 (by (try simp only [List.length_set]); exact jlt (by assumption)) | refine jget_ne (by first | decide | assumption | omega) ?_)) (by repeat (first | assumption | exact jget_same2 (by (try simp only [List.length_set]); exact jlt (by assumption)) | refine jget_ne (by first | decide | assumption | omega) ?_)) (g.lt (by omega) (by omega)) (jKv_i ?_))
      refine J_if_eq_b 56 dX5_relaxAll_31 (by decide) (fun c31 => ?_) (fun c31 => ?_)
      · refine J_iinc_4 (nI 1) dX5_relaxAll_56 (by decide) ?_
        try rw [nI_add]
        refine J_goto 15 dX5_relaxAll_59 (by decide) ?_
        exact ih2 c21 D ch (hJ.skip (by omega) fun q => absurd q (by simpa using c31))
      · have hp : 0 < w (i * 12 + j) := by simpa using c31
        refine J_aload_n (by rfl) (by rfl) dX5_relaxAll_34 ?_
        refine J_get dX5_relaxAll_35 f_X5_15 (by repeat (first | assumption | exact jget_same2 (by (try simp only [List.length_set]); exact jlt (by assumption)) | refine jget_ne (by first | decide | assumption | omega) ?_)) (by rfl) ?_
        refine J_iload_n (by rfl) dX5_relaxAll_38 ?_
        refine J_iload (by rfl) dX5_relaxAll_39 ?_
        refine J_aload_n (by rfl) (by rfl) dX5_relaxAll_41 ?_
        refine J_iload_n (by rfl) dX5_relaxAll_42 ?_
        refine J_iload (by rfl) dX5_relaxAll_43 ?_
        refine J_V2v (ci := 9) dX5_relaxAll_45 s_X5_51 m_X9_lengthBetween rfl (by repeat (first | assumption | exact jget_same2 (by (try simp only [List.length_set]); exact jlt (by assumption)) | refine jget_ne (by first | decide | assumption | omega) ?_)) rfl (c_X9_lengthBetween (i := i) (j := j) (by omega) (by omega) (by repeat (first | assumption | exact jget_same2 (by (try simp only [List.length_set]); exact jlt (by assumption)) | refine jget_ne (by first | decide | assumption | omega) ?_)) (by repeat (first | assumption | exact jget_same2 (by (try simp only [List.length_set]); exact jlt (by assumption)) | refine jget_ne (by first | decide | assumption | omega) ?_)) (jKv_i ?_))
        refine J_S4v dX5_relaxAll_48 s_X5_55 m_X5_shorten rfl (c_X5_shorten (by omega) (by omega) (g.le i j (by omega) (by omega)) hJ.m (by repeat (first | assumption | exact jget_same2 (by (try simp only [List.length_set]); exact jlt (by assumption)) | refine jget_ne (by first | decide | assumption | omega) ?_)) (fun hc1 => (jKv_i ?_)) (fun hc2 => (jKv_i ?_)))
        · refine J_if_eq_b 56 dX5_relaxAll_51 (by decide) (fun c51 => ?_) (fun c51 => ?_)
          · exact absurd c51 (by decide)
          · refine J_iconst (nI 1) (by decide) dX5_relaxAll_54 ?_
            refine J_istore_2 dX5_relaxAll_55 ?_
            refine J_iinc_4 (nI 1) dX5_relaxAll_56 (by decide) ?_
            try rw [nI_add]
            refine J_goto 15 dX5_relaxAll_59 (by decide) ?_
            simp only [List.set_set, jsw (i := 12) (j := 13) (by decide), jsw (i := 12) (j := 15) (by decide), jsw (i := 13) (j := 15) (by decide), jsw (i := 14) (j := 15) (by decide)]
            exact ih2 c21 _ true (hJ.take (by omega) (by omega) hp hc1)
        · refine J_if_eq_b 56 dX5_relaxAll_51 (by decide) (fun c51 => ?_) (fun c51 => ?_)
          · refine J_iinc_4 (nI 1) dX5_relaxAll_56 (by decide) ?_
            try rw [nI_add]
            refine J_goto 15 dX5_relaxAll_59 (by decide) ?_
            exact ih2 c21 D ch (hJ.skip (by omega) fun q => by omega)
          · exact absurd c51 (by decide)
theorem c_X5_relaxFrom (g : Gr n w) (hs : s < n) (hM : h[3]? = some (hMap n t)) (hW : h[7]? = some (ia 144 w)) (hP : h[11]? = some hPaths) (hA : h[13]? = some (ia 12 D0))
    (hQ : ∀ D, IsD 1000000 w s D → Q (.inl none) (h.set 13 (ia 12 D))) : jCT G M_X5_relaxFrom 4 0 0 X [.ref 11, .ref 3, .int (nI s)] h Q := by
  have hn := g.n12
  refine jCT_of [some (.ref 11), some (.ref 3), some (.int (nI s)), none, none] 2 rfl (by decide +kernel) rfl rfl ?_
  refine J_aload_n (by rfl) (by rfl) dX5_relaxFrom_0 ?_
  refine J_get dX5_relaxFrom_1 f_X5_15 (by repeat (first | assumption | exact jget_same2 (by (try simp only [List.length_set]); exact jlt (by assumption)) | refine jget_ne (by first | decide | assumption | omega) ?_)) (by rfl) ?_
  refine J_iload_n (by rfl) dX5_relaxFrom_4 ?_
  refine J_S20 dX5_relaxFrom_5 s_X5_30 m_X5_startRow rfl (c_X5_startRow (by omega) hA (fun D1 hD1 => (jK0_i ?_)))
  refine J_iconst (nI 1) (by decide) dX5_relaxFrom_8 ?_
  refine J_istore_3 dX5_relaxFrom_9 ?_
  refine J_iconst (nI 0) (by decide) dX5_relaxFrom_10 ?_
  refine J_istore_4 dX5_relaxFrom_11 ?_
  suffices loop : ∀ r, r ≤ 12 → ∀ D ch, Br w s D ch r → J G (jR 4 0 0) (jFin G Q X 0 0) M_X5_relaxFrom X 0 0 13 [some (.ref 11), some (.ref 3), some (.int (nI s)), some (.int (jb ch)), some (.int (nI r))] [] (h.set 13 (ia 12 D)) by
    exact loop 0 (by omega) D1 true (Br.start (by omega) hD1)
  refine up_ind 12 (fun r hr ih D ch hI => ?_)
  refine J_iload_n (by rfl) dX5_relaxFrom_13 ?_
  refine J_if_eq_b 36 dX5_relaxFrom_14 (by decide) (fun c14 => ?_) (fun c14 => ?_)
  · exact J_return dX5_relaxFrom_36 rfl (hQ D (hI.ends g (.inl c14))) (by decide) (by decide) (fun _ => rfl)
  · refine J_iload (by rfl) dX5_relaxFrom_17 ?_
    refine J_bipush (nI 12) (by decide) dX5_relaxFrom_19 ?_
    refine J_icmp_ge_n 36 dX5_relaxFrom_21 (by decide) (fun c21 => ?_) (fun c21 => ?_)
    · exact J_return dX5_relaxFrom_36 rfl (hQ D (hI.ends g (.inr (by omega)))) (by decide) (by decide) (fun _ => rfl)
    · refine J_aload_n (by rfl) (by rfl) dX5_relaxFrom_24 ?_
      refine J_aload_n (by rfl) (by rfl) dX5_relaxFrom_25 ?_
      refine J_V1v (ci := 5) dX5_relaxFrom_26 s_X5_59 m_X5_relaxAll rfl (by repeat (first | assumption | exact jget_same2 (by (try simp only [List.length_set]); exact jlt (by assumption)) | refine jget_ne (by first | decide | assumption | omega) ?_)) rfl (c_X5_relaxAll g hI (by repeat (first | assumption | exact jget_same2 (by (try simp only [List.length_set]); exact jlt (by assumption)) | refine jget_ne (by first | decide | assumption | omega) ?_)) (by repeat (first | assumption | exact jget_same2 (by (try simp only [List.length_set]); exact jlt (by assumption)) | refine jget_ne (by first | decide | assumption | omega) ?_)) (by repeat (first | assumption | exact jget_same2 (by (try simp only [List.length_set]); exact jlt (by assumption)) | refine jget_ne (by first | decide | assumption | omega) ?_)) (by repeat (first | assumption | exact jget_same2 (by (try simp only [List.length_set]); exact jlt (by assumption)) | refine jget_ne (by first | decide | assumption | omega) ?_)) (fun D ch hI => (jKv_i ?_)))
      refine J_istore_3 dX5_relaxFrom_29 ?_
      refine J_iinc_4 (nI 1) dX5_relaxFrom_30 (by decide) ?_
      try rw [nI_add]
      refine J_goto 13 dX5_relaxFrom_33 (by decide) ?_
      simp only [List.set_set, jsw (i := 12) (j := 13) (by decide), jsw (i := 12) (j := 15) (by decide), jsw (i := 13) (j := 15) (by decide), jsw (i := 14) (j := 15) (by decide)]
      exact ih c21 D ch hI
theorem c_X5_distancesAgree (g : Gr n w) (hM : h[3]? = some (hMap n t)) (hW : h[7]? = some (ia 144 w)) (hP : h[11]? = some hPaths) (hA : h[12]? = some (ia 12 D0)) (hB : h[13]? = some (ia 12 E0)) (hK : h[15]? = some (za 12 m0))
    (hQ : ∀ D E m, Q (.inl (some (.int (jb true)))) (((h.set 12 (ia 12 D)).set 13 (ia 12 E)).set 15 (za 12 m))) : jCT G M_X5_distancesAgree 5 0 0 X [.ref 11, .ref 3] h Q := by
  have hn := g.n12
  refine jCT_of [some (.ref 11), some (.ref 3), none, none] 2 rfl (by decide +kernel) rfl rfl ?_
  refine J_iconst (nI 0) (by decide) dX5_distancesAgree_0 ?_
  refine J_istore_2 dX5_distancesAgree_1 ?_
  suffices loop : ∀ i, i ≤ n → ∀ D E m l3, J G (jR 5 0 0) (jFin G Q X 0 0) M_X5_distancesAgree X 0 0 2 [some (.ref 11), some (.ref 3), some (.int (nI i)), l3] [] (((h.set 12 (ia 12 D)).set 13 (ia 12 E)).set 15 (za 12 m)) by
    have := loop 0 (by omega) D0 E0 m0 none
    rw [hset_id hA, hset_id hB, hset_id hK] at this
    exact this
  refine up_ind n (fun i hi ih D E m l3 => ?_)
  refine J_iload_n (by rfl) dX5_distancesAgree_2 ?_
  refine J_aload_n (by rfl) (by rfl) dX5_distancesAgree_3 ?_
  refine J_get dX5_distancesAgree_4 f_X5_41 (by repeat (first | assumption | exact jget_same2 (by (try simp only [List.length_set]); exact jlt (by assumption)) | refine jget_ne (by first | decide | assumption | omega) ?_)) (by rfl) ?_
  refine J_icmp_ge_n 59 dX5_distancesAgree_7 (by decide) (fun c7 => ?_) (fun c7 => ?_)
  · refine J_iconst (nI 1) (by decide) dX5_distancesAgree_59 ?_
    exact J_zreturn dX5_distancesAgree_60 rfl (by first | rfl | exact jb_n _) (hQ D E m) (by decide) (by decide) (fun _ => rfl)
  · refine J_aload_n (by rfl) (by rfl) dX5_distancesAgree_10 ?_
    refine J_aload_n (by rfl) (by rfl) dX5_distancesAgree_11 ?_
    refine J_iload_n (by rfl) dX5_distancesAgree_12 ?_
    refine J_V20 (ci := 5) dX5_distancesAgree_13 s_X5_63 m_X5_settleFrom rfl (by repeat (first | assumption | exact jget_same2 (by (try simp only [List.length_set]); exact jlt (by assumption)) | refine jget_ne (by first | decide | assumption | omega) ?_)) rfl (c_X5_settleFrom (D0 := D) (m0 := m) g (by omega) (by repeat (first | assumption | exact jget_same2 (by (try simp only [List.length_set]); exact jlt (by assumption)) | refine jget_ne (by first | decide | assumption | omega) ?_)) (by repeat (first | assumption | exact jget_same2 (by (try simp only [List.length_set]); exact jlt (by assumption)) | refine jget_ne (by first | decide | assumption | omega) ?_)) (by repeat (first | assumption | exact jget_same2 (by (try simp only [List.length_set]); exact jlt (by assumption)) | refine jget_ne (by first | decide | assumption | omega) ?_)) (by repeat (first | assumption | exact jget_same2 (by (try simp only [List.length_set]); exact jlt (by assumption)) | refine jget_ne (by first | decide | assumption | omega) ?_)) (by repeat (first | assumption | exact jget_same2 (by (try simp only [List.length_set]); exact jlt (by assumption)) | refine jget_ne (by first | decide | assumption | omega) ?_)) (fun D m hD => (jK0_i ?_)))
    refine J_aload_n (by rfl) (by rfl) dX5_distancesAgree_16 ?_
    refine J_aload_n (by rfl) (by rfl) dX5_distancesAgree_17 ?_
    refine J_iload_n (by rfl) dX5_distancesAgree_18 ?_
    refine J_V20 (ci := 5) dX5_distancesAgree_19 s_X5_67 m_X5_relaxFrom rfl (by repeat (first | assumption | exact jget_same2 (by (try simp only [List.length_set]); exact jlt (by assumption)) | refine jget_ne (by first | decide | assumption | omega) ?_)) rfl (c_X5_relaxFrom (D0 := E) g (by omega) (by repeat (first | assumption | exact jget_same2 (by (try simp only [List.length_set]); exact jlt (by assumption)) | refine jget_ne (by first | decide | assumption | omega) ?_)) (by repeat (first | assumption | exact jget_same2 (by (try simp only [List.length_set]); exact jlt (by assumption)) | refine jget_ne (by first | decide | assumption | omega) ?_)) (by repeat (first | assumption | exact jget_same2 (by (try simp only [List.length_set]); exact jlt (by assumption)) | refine jget_ne (by first | decide | assumption | omega) ?_)) (by repeat (first | assumption | exact jget_same2 (by (try simp only [List.length_set]); exact jlt (by assumption)) | refine jget_ne (by first | decide | assumption | omega) ?_)) (fun E hE => (jK0_i ?_)))
    refine J_iconst (nI 0) (by decide) dX5_distancesAgree_22 ?_
    refine J_istore_3 dX5_distancesAgree_23 ?_
    simp only [List.set_set, jsw (i := 12) (j := 13) (by decide), jsw (i := 12) (j := 15) (by decide), jsw (i := 13) (j := 15) (by decide), jsw (i := 14) (j := 15) (by decide)]
    suffices inner : ∀ j, j ≤ n → J G (jR 5 0 0) (jFin G Q X 0 0) M_X5_distancesAgree X 0 0 24 [some (.ref 11), some (.ref 3), some (.int (nI i)), some (.int (nI j))] [] (((h.set 12 (ia 12 D)).set 13 (ia 12 E)).set 15 (za 12 m)) by
      exact inner 0 (by omega)
    refine up_ind n (fun j hj ih2 => ?_)
    refine J_iload_n (by rfl) dX5_distancesAgree_24 ?_
    refine J_aload_n (by rfl) (by rfl) dX5_distancesAgree_25 ?_
    refine J_get dX5_distancesAgree_26 f_X5_41 (by repeat (first | assumption | exact jget_same2 (by (try simp only [List.length_set]); exact jlt (by assumption)) | refine jget_ne (by first | decide | assumption | omega) ?_)) (by rfl) ?_
    refine J_icmp_ge_n 53 dX5_distancesAgree_29 (by decide) (fun c29 => ?_) (fun c29 => ?_)
    · refine J_iinc_2 (nI 1) dX5_distancesAgree_53 (by decide) ?_
      try rw [nI_add]
      refine J_goto 2 dX5_distancesAgree_56 (by decide) ?_
      exact ih c7 D E m _
    · have h1 := hD.eq g (by omega) (show j < 12 by omega)
      have h2 := hE.eq g (by omega) (show j < 12 by omega)
      have h3 := hD.m j (by omega)
      refine J_aload_n (by rfl) (by rfl) dX5_distancesAgree_32 ?_
      refine J_iload_n (by rfl) dX5_distancesAgree_33 ?_
      refine J_V1v (ci := 5) dX5_distancesAgree_34 s_X5_70 m_X5_settledDistance rfl (by repeat (first | assumption | exact jget_same2 (by (try simp only [List.length_set]); exact jlt (by assumption)) | refine jget_ne (by first | decide | assumption | omega) ?_)) rfl (c_X5_settledDistance (D := D) (by omega) (by repeat (first | assumption | exact jget_same2 (by (try simp only [List.length_set]); exact jlt (by assumption)) | refine jget_ne (by first | decide | assumption | omega) ?_)) (by repeat (first | assumption | exact jget_same2 (by (try simp only [List.length_set]); exact jlt (by assumption)) | refine jget_ne (by first | decide | assumption | omega) ?_)) (jKv_i ?_))
      refine J_aload_n (by rfl) (by rfl) dX5_distancesAgree_37 ?_
      refine J_iload_n (by rfl) dX5_distancesAgree_38 ?_
      refine J_V1v (ci := 5) dX5_distancesAgree_39 s_X5_74 m_X5_relaxedDistance rfl (by repeat (first | assumption | exact jget_same2 (by (try simp only [List.length_set]); exact jlt (by assumption)) | refine jget_ne (by first | decide | assumption | omega) ?_)) rfl (c_X5_relaxedDistance (D := E) (by omega) (by repeat (first | assumption | exact jget_same2 (by (try simp only [List.length_set]); exact jlt (by assumption)) | refine jget_ne (by first | decide | assumption | omega) ?_)) (by repeat (first | assumption | exact jget_same2 (by (try simp only [List.length_set]); exact jlt (by assumption)) | refine jget_ne (by first | decide | assumption | omega) ?_)) (jKv_i ?_))
      refine J_icmp_eq_n 47 dX5_distancesAgree_42 (by decide) (fun c42 => ?_) (fun c42 => ?_)
      · refine J_iinc_3 (nI 1) dX5_distancesAgree_47 (by decide) ?_
        try rw [nI_add]
        refine J_goto 24 dX5_distancesAgree_50 (by decide) ?_
        exact ih2 c29
      · exact absurd (h1.trans h2.symm) c42
theorem c_X5_nextTowardsStart {c : Nat} {D : Nat → Nat} (g : Gr n w) (hc : c < 12) (hD : ∀ v, v < 12 → D v ≤ 1000000) (hex : ∃ j, j < n ∧ 0 < w (c * 12 + j) ∧ D j + w (c * 12 + j) = D c) (hM : h[3]? = some (hMap n t)) (hW : h[7]? = some (ia 144 w)) (hP : h[11]? = some hPaths) (hA : h[12]? = some (ia 12 D))
    (hQ : ∀ j, j < n → 0 < w (c * 12 + j) → D j + w (c * 12 + j) = D c → (∀ k, k < j → 0 < w (c * 12 + k) → D k + w (c * 12 + k) ≠ D c) → Q (.inl (some (.int (nI j)))) h) : jCT G M_X5_nextTowardsStart 3 0 0 X [.ref 11, .ref 3, .int (nI c)] h Q := by
  have hn := g.n12
  refine jCT_of [some (.ref 11), some (.ref 3), some (.int (nI c)), none] 1 rfl (by decide +kernel) rfl rfl ?_
  refine J_iconst (nI 0) (by decide) dX5_nextTowardsStart_0 ?_
  refine J_istore_3 dX5_nextTowardsStart_1 ?_
  suffices loop : ∀ j, j ≤ n → (∀ k, k < j → 0 < w (c * 12 + k) → D k + w (c * 12 + k) ≠ D c) → J G (jR 3 0 0) (jFin G Q X 0 0) M_X5_nextTowardsStart X 0 0 2 [some (.ref 11), some (.ref 3), some (.int (nI c)), some (.int (nI j))] [] h by
    exact loop 0 (by omega) (fun k hk => by omega)
  refine up_ind n (fun j hj ih hno => ?_)
  refine J_iload_n (by rfl) dX5_nextTowardsStart_2 ?_
  refine J_aload_n (by rfl) (by rfl) dX5_nextTowardsStart_3 ?_
  refine J_get dX5_nextTowardsStart_4 f_X5_41 (by repeat (first | assumption | exact jget_same2 (by (try simp only [List.length_set]); exact jlt (by assumption)) | refine jget_ne (by first | decide | assumption | omega) ?_)) (by rfl) ?_
  refine J_icmp_ge_n 47 dX5_nextTowardsStart_7 (by decide) (fun c7 => ?_) (fun c7 => ?_)
  · obtain ⟨k, hk, h1, h2⟩ := hex
    exact absurd h2 (hno k (by omega) h1)
  · have hDj := hD j (by omega)
    have hDc := hD c hc
    have hw := g.le c j (by omega) (by omega)
    refine J_aload_n (by rfl) (by rfl) dX5_nextTowardsStart_10 ?_
    refine J_iload_n (by rfl) dX5_nextTowardsStart_11 ?_
    refine J_iload_n (by rfl) dX5_nextTowardsStart_12 ?_
    refine J_V2v (ci := 9) dX5_nextTowardsStart_13 s_X5_47 m_X9_areJoined rfl (by repeat (first | assumption | exact jget_same2 (by (try simp only [List.length_set]); exact jlt (by assumption)) | refine jget_ne (by first | decide | assumption | omega) ?_)) rfl (c_X9_areJoined (i := c) (j := j) (by omega) (by omega) (by repeat (first | assumption | exact jget_same2 (by (try simp only [List.length_set]); exact jlt (by assumption)) | refine jget_ne (by first | decide | assumption | omega) ?_)) (by repeat (first | assumption | exact jget_same2 (by (try simp only [List.length_set]); exact jlt (by assumption)) | refine jget_ne (by first | decide | assumption | omega) ?_)) (g.lt (by omega) (by omega)) (jKv_i ?_))
    refine J_if_eq_b 41 dX5_nextTowardsStart_16 (by decide) (fun c16 => ?_) (fun c16 => ?_)
    · refine J_iinc_3 (nI 1) dX5_nextTowardsStart_41 (by decide) ?_
      try rw [nI_add]
      refine J_goto 2 dX5_nextTowardsStart_44 (by decide) ?_
      refine ih c7 (fun k hk hp => ?_)
      by_cases e : k = j
      · subst e; exact absurd hp (by simpa using c16)
      · exact hno k (by omega) hp
    · have hp : 0 < w (c * 12 + j) := by simpa using c16
      refine J_aload_n (by rfl) (by rfl) dX5_nextTowardsStart_19 ?_
      refine J_iload_n (by rfl) dX5_nextTowardsStart_20 ?_
      refine J_V1v (ci := 5) dX5_nextTowardsStart_21 s_X5_70 m_X5_settledDistance rfl (by repeat (first | assumption | exact jget_same2 (by (try simp only [List.length_set]); exact jlt (by assumption)) | refine jget_ne (by first | decide | assumption | omega) ?_)) rfl (c_X5_settledDistance (D := D) (by omega) (by repeat (first | assumption | exact jget_same2 (by (try simp only [List.length_set]); exact jlt (by assumption)) | refine jget_ne (by first | decide | assumption | omega) ?_)) (by repeat (first | assumption | exact jget_same2 (by (try simp only [List.length_set]); exact jlt (by assumption)) | refine jget_ne (by first | decide | assumption | omega) ?_)) (jKv_i ?_))
      refine J_aload_n (by rfl) (by rfl) dX5_nextTowardsStart_24 ?_
      refine J_iload_n (by rfl) dX5_nextTowardsStart_25 ?_
      refine J_iload_n (by rfl) dX5_nextTowardsStart_26 ?_
      refine J_V2v (ci := 9) dX5_nextTowardsStart_27 s_X5_51 m_X9_lengthBetween rfl (by repeat (first | assumption | exact jget_same2 (by (try simp only [List.length_set]); exact jlt (by assumption)) | refine jget_ne (by first | decide | assumption | omega) ?_)) rfl (c_X9_lengthBetween (i := c) (j := j) (by omega) (by omega) (by repeat (first | assumption | exact jget_same2 (by (try simp only [List.length_set]); exact jlt (by assumption)) | refine jget_ne (by first | decide | assumption | omega) ?_)) (by repeat (first | assumption | exact jget_same2 (by (try simp only [List.length_set]); exact jlt (by assumption)) | refine jget_ne (by first | decide | assumption | omega) ?_)) (jKv_i ?_))
      refine J_iadd dX5_nextTowardsStart_30 ?_
      try rw [nI_add]
      refine J_aload_n (by rfl) (by rfl) dX5_nextTowardsStart_31 ?_
      refine J_iload_n (by rfl) dX5_nextTowardsStart_32 ?_
      refine J_V1v (ci := 5) dX5_nextTowardsStart_33 s_X5_70 m_X5_settledDistance rfl (by repeat (first | assumption | exact jget_same2 (by (try simp only [List.length_set]); exact jlt (by assumption)) | refine jget_ne (by first | decide | assumption | omega) ?_)) rfl (c_X5_settledDistance (D := D) (by omega) (by repeat (first | assumption | exact jget_same2 (by (try simp only [List.length_set]); exact jlt (by assumption)) | refine jget_ne (by first | decide | assumption | omega) ?_)) (by repeat (first | assumption | exact jget_same2 (by (try simp only [List.length_set]); exact jlt (by assumption)) | refine jget_ne (by first | decide | assumption | omega) ?_)) (jKv_i ?_))
      refine J_icmp_ne_n 41 dX5_nextTowardsStart_36 (by decide) (fun c36 => ?_) (fun c36 => ?_)
      · refine J_iinc_3 (nI 1) dX5_nextTowardsStart_41 (by decide) ?_
        try rw [nI_add]
        refine J_goto 2 dX5_nextTowardsStart_44 (by decide) ?_
        refine ih c7 (fun k hk hp => ?_)
        by_cases e : k = j
        · subst e; exact c36
        · exact hno k (by omega) hp
      · refine J_iload_n (by rfl) dX5_nextTowardsStart_39 ?_
        exact J_ireturn dX5_nextTowardsStart_40 rfl (hQ j c7 hp c36 hno) (by decide) (by decide) (fun _ => rfl)
end PATHS2
