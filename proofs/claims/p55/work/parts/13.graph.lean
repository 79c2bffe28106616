/-! Graphs: walks along trails, least lengths, parts that hang together. Pure arithmetic; no machine in it. -/
/-- a map's trails: at most 99 long, between two of the n waypoints, the same both ways -/
abbrev Gr (n : Nat) (w : Nat → Nat) : Prop :=
  (n ≤ 12) ∧
  (∀ i j, i < 12 → j < 12 → w (i * 12 + j) ≤ 99) ∧
  (∀ i j, i < 12 → j < 12 → 0 < w (i * 12 + j) → i < n ∧ j < n) ∧
  (∀ i j, i < 12 → j < 12 → w (i * 12 + j) = w (j * 12 + i))
theorem Gr.n12 {n : Nat} {w : Nat → Nat} (I : Gr n w) : n ≤ 12 := I.1
theorem Gr.le {n : Nat} {w : Nat → Nat} (I : Gr n w) : ∀ i j, i < 12 → j < 12 → w (i * 12 + j) ≤ 99 := I.2.1
theorem Gr.inn {n : Nat} {w : Nat → Nat} (I : Gr n w) : ∀ i j, i < 12 → j < 12 → 0 < w (i * 12 + j) → i < n ∧ j < n := I.2.2.1
theorem Gr.sym {n : Nat} {w : Nat → Nat} (I : Gr n w) : ∀ i j, i < 12 → j < 12 → w (i * 12 + j) = w (j * 12 + i) := I.2.2.2
/-- a walk of k trails from s to v, d long -/
def Wkn (w : Nat → Nat) (s : Nat) : Nat → Nat → Nat → Prop
  | 0, v, d => v = s ∧ d = 0
  | k + 1, v, d => ∃ u e, Wkn w s k u e ∧ u < 12 ∧ v < 12 ∧ 0 < w (u * 12 + v) ∧ d = e + w (u * 12 + v)
def Wk (w : Nat → Nat) (s v d : Nat) : Prop := ∃ k, Wkn w s k v d
theorem Wk.z {w : Nat → Nat} {s : Nat} : Wk w s s 0 := ⟨0, rfl, rfl⟩
theorem Wk.st {w : Nat → Nat} {s u v d : Nat} (h : Wk w s u d) (hu : u < 12) (hv : v < 12) (hp : 0 < w (u * 12 + v)) : Wk w s v (d + w (u * 12 + v)) := let ⟨k, hk⟩ := h; ⟨k + 1, u, d, hk, hu, hv, hp, rfl⟩
theorem Wk.ind {w : Nat → Nat} {s : Nat} {motive : (v d : Nat) → Wk w s v d → Prop} (z : motive s 0 Wk.z) (st : ∀ {u v d : Nat} (k : Wk w s u d) (hu : u < 12) (hv : v < 12) (hp : 0 < w (u * 12 + v)), motive u d k → motive v (d + w (u * 12 + v)) (Wk.st k hu hv hp)) {v d : Nat} (k : Wk w s v d) : motive v d k := by
  obtain ⟨k, hk⟩ := k
  induction k generalizing v d with
  | zero => obtain ⟨rfl, rfl⟩ := hk; exact z
  | succ k ih =>
    obtain ⟨u, e, h1, hu, hv, hp, rfl⟩ := hk
    exact st ⟨k, h1⟩ hu hv hp (ih h1)
theorem Wk.inv {w : Nat → Nat} {s v d : Nat} (h : Wk w s v d) : (v = s ∧ d = 0) ∨ ∃ u e, Wk w s u e ∧ u < 12 ∧ v < 12 ∧ 0 < w (u * 12 + v) ∧ d = e + w (u * 12 + v) := by
  obtain ⟨k, hk⟩ := h
  cases k with
  | zero => exact .inl hk
  | succ k => obtain ⟨u, e, h1, h2⟩ := hk; exact .inr ⟨u, e, ⟨k, h1⟩, h2⟩
theorem Wk.lt {w : Nat → Nat} {s v d : Nat} (hs : s < 12) (k : Wk w s v d) : v < 12 := by
  rcases k.inv with ⟨rfl, _⟩ | ⟨_, _, _, _, h, _⟩
  · exact hs
  · exact h
theorem least_ex {P : Nat → Prop} (h : ∃ d, P d) : ∃ d, P d ∧ ∀ e, P e → d ≤ e := by
  obtain ⟨d, hd⟩ := h
  induction d using Nat.strongRecOn with
  | ind d ih =>
    by_cases hx : ∃ e, e < d ∧ P e
    · obtain ⟨e, he, hpe⟩ := hx
      exact ih e he hpe
    · exact ⟨d, hd, fun e he => Nat.le_of_not_lt fun hlt => hx ⟨e, hlt, he⟩⟩
/-- the least length of a walk; 99999 where there is none -/
noncomputable def dst (w : Nat → Nat) (s v : Nat) : Nat := @dite _ (∃ d, Wk w s v d) (Classical.propDecidable _) (fun h => Classical.choose (least_ex h)) (fun _ => 99999)
theorem dst_wk {w : Nat → Nat} {s v : Nat} (h : ∃ d, Wk w s v d) : Wk w s v (dst w s v) := by
  unfold dst; rw [dif_pos h]; exact (Classical.choose_spec (least_ex h)).1
theorem dst_le {w : Nat → Nat} {s v d : Nat} (k : Wk w s v d) : dst w s v ≤ d := by
  unfold dst; rw [dif_pos ⟨d, k⟩]; exact (Classical.choose_spec (least_ex ⟨d, k⟩)).2 d k
theorem dst_no {w : Nat → Nat} {s v : Nat} (h : ¬ ∃ d, Wk w s v d) : dst w s v = 99999 := by
  unfold dst; rw [dif_neg h]
theorem dst_s (w : Nat → Nat) (s : Nat) : dst w s s = 0 := Nat.le_zero.mp (dst_le Wk.z)
/-- the one before the last on a shortest walk -/
theorem dst_pred {w : Nat → Nat} {s v : Nat} (hv : v ≠ s) (h : ∃ d, Wk w s v d) : ∃ u, u < 12 ∧ v < 12 ∧ 0 < w (u * 12 + v) ∧ (∃ d, Wk w s u d) ∧ dst w s v = dst w s u + w (u * 12 + v) := by
  rcases (dst_wk h).inv with ⟨h1, _⟩ | ⟨u, d, k, hu, hv2, hp, hD⟩
  · exact absurd h1 hv
  · refine ⟨u, hu, hv2, hp, ⟨d, k⟩, ?_⟩
    have h1 := dst_le k
    have h2 := dst_le (Wk.st (dst_wk ⟨d, k⟩) hu hv2 hp)
    omega
/-- how many of the first k are marked -/
def cnt (f : Nat → Bool) : Nat → Nat
  | 0 => 0
  | k + 1 => cnt f k + (if f k then 1 else 0)
theorem cnt_le (f : Nat → Bool) : ∀ k, cnt f k ≤ k
  | 0 => Nat.le_refl _
  | k + 1 => by have := cnt_le f k; unfold cnt; split <;> omega
theorem cnt_mono {f g : Nat → Bool} : ∀ k, (∀ i, i < k → f i = true → g i = true) → cnt f k ≤ cnt g k
  | 0, _ => Nat.le_refl _
  | k + 1, h => by
    have h1 := cnt_mono k (fun i hi => h i (by omega))
    have h2 := h k (by omega)
    unfold cnt
    cases hf : f k
    · simp; omega
    · rw [h2 hf]; simp; omega
theorem cnt_lt {f g : Nat → Bool} {j : Nat} : ∀ k, j < k → (∀ i, i < k → f i = true → g i = true) → f j = false → g j = true → cnt f k < cnt g k
  | 0, h0, _, _, _ => by omega
  | k + 1, hj, h, hf, hg => by
    unfold cnt
    rcases Nat.lt_or_ge j k with hk | hk
    · have h1 := cnt_lt k hk (fun i hi => h i (by omega)) hf hg
      have h2 := h k (by omega)
      cases hfk : f k
      · simp; omega
      · rw [h2 hfk]; simp; omega
    · have : j = k := by omega
      subst this
      have h1 := cnt_mono j (fun i hi => h i (by omega))
      rw [hf, hg]; simp; omega
theorem cnt_congr {f g : Nat → Bool} : ∀ k, (∀ i, i < k → f i = g i) → cnt f k = cnt g k
  | 0, _ => rfl
  | k + 1, h => by unfold cnt; rw [cnt_congr k (fun i hi => h i (by omega)), h k (by omega)]
/-- one fewer -/
theorem cnt_rm {f g : Nat → Bool} {m : Nat} : ∀ k, m < k → f m = true → (∀ i, i < k → g i = (f i && decide (i ≠ m))) → cnt g k + 1 = cnt f k
  | 0, h0, _, _ => by omega
  | k + 1, hm, hf, h => by
    unfold cnt
    rcases Nat.lt_or_ge m k with hk | hk
    · have h1 := cnt_rm k hk hf (fun i hi => h i (by omega))
      rw [h k (by omega)]
      have : decide (k ≠ m) = true := by simp; omega
      rw [this, Bool.and_true]; omega
    · have : m = k := by omega
      subst this
      have h1 := cnt_congr m (f := g) (g := f) (fun i hi => by
        rw [h i (by omega)]
        have : decide (i ≠ m) = true := by simp; omega
        rw [this, Bool.and_true])
      rw [h m (by omega), h1, hf]; simp
def rk (D : Nat → Nat) (v : Nat) : Nat := cnt (fun u => decide (D u < D v)) 12
theorem rk_lt {D : Nat → Nat} {u v : Nat} (hu : u < 12) (h : D u < D v) : rk D u < rk D v := by
  refine cnt_lt (j := u) 12 hu (fun i _ hi => ?_) ?_ ?_
  · simp only [decide_eq_true_eq] at hi ⊢; omega
  · simp
  · simpa using h
theorem rk_le {D : Nat → Nat} {v : Nat} (hv : v < 12) : rk D v ≤ 11 := by
  have h1 : rk D v < cnt (fun _ => true) 12 := cnt_lt (j := v) 12 hv (fun _ _ _ => rfl) (by simp) rfl
  have h2 : cnt (fun _ => true) 12 = 12 := rfl
  omega
theorem dst_rk {n : Nat} {w : Nat → Nat} {s : Nat} (g : Gr n w) : ∀ (k v : Nat), rk (dst w s) v ≤ k → (∃ d, Wk w s v d) → dst w s v ≤ 99 * rk (dst w s) v
  | 0, v, hk, h => by
    by_cases hv : v = s
    · subst hv; rw [dst_s]; omega
    · obtain ⟨u, hu, hv2, hp, hu2, he⟩ := dst_pred hv h
      have := rk_lt (D := dst w s) (v := v) hu (by omega)
      omega
  | k + 1, v, hk, h => by
    by_cases hv : v = s
    · subst hv; rw [dst_s]; omega
    · obtain ⟨u, hu, hv2, hp, hu2, he⟩ := dst_pred hv h
      have h1 := rk_lt (D := dst w s) (v := v) hu (by omega)
      have h2 := dst_rk g k u (by omega) hu2
      have h3 := g.le u v hu hv2
      omega
theorem dst_b {n : Nat} {w : Nat → Nat} {s v : Nat} (g : Gr n w) (hv : v < 12) (h : ∃ d, Wk w s v d) : dst w s v ≤ 1089 := by
  have h1 := dst_rk g _ v (Nat.le_refl _) h
  have h2 := rk_le (D := dst w s) hv
  omega
theorem dst_fin {n : Nat} {w : Nat → Nat} {s v : Nat} (g : Gr n w) (hv : v < 12) : dst w s v < 99999 ↔ ∃ d, Wk w s v d := by
  constructor
  · intro h
    exact Classical.byContradiction fun hn => by rw [dst_no hn] at h; omega
  · intro h
    have := dst_b g hv h
    omega
theorem dst_edge {n : Nat} {w : Nat → Nat} {s u v : Nat} (g : Gr n w) (hu : u < 12) (hv : v < 12) (hp : 0 < w (u * 12 + v)) : dst w s v ≤ dst w s u + w (u * 12 + v) := by
  by_cases h : ∃ d, Wk w s u d
  · exact dst_le (Wk.st (dst_wk h) hu hv hp)
  · rw [dst_no h]
    by_cases h2 : ∃ d, Wk w s v d
    · have := dst_b g hv h2
      omega
    · rw [dst_no h2]; omega
/-- a row of work that holds the least lengths, M where there is no walk -/
abbrev IsD (M : Nat) (w : Nat → Nat) (s : Nat) (D : Nat → Nat) : Prop :=
  (D s = 0) ∧
  (∀ u v, u < 12 → v < 12 → 0 < w (u * 12 + v) → D v ≤ D u + w (u * 12 + v)) ∧
  (∀ v, v < 12 → D v ≤ M) ∧
  (∀ v, v < 12 → D v < M → Wk w s v (D v))
theorem IsD.z {M : Nat} {w : Nat → Nat} {s : Nat} {D : Nat → Nat} (I : IsD M w s D) : D s = 0 := I.1
theorem IsD.e {M : Nat} {w : Nat → Nat} {s : Nat} {D : Nat → Nat} (I : IsD M w s D) : ∀ u v, u < 12 → v < 12 → 0 < w (u * 12 + v) → D v ≤ D u + w (u * 12 + v) := I.2.1
theorem IsD.m {M : Nat} {w : Nat → Nat} {s : Nat} {D : Nat → Nat} (I : IsD M w s D) : ∀ v, v < 12 → D v ≤ M := I.2.2.1
theorem IsD.k {M : Nat} {w : Nat → Nat} {s : Nat} {D : Nat → Nat} (I : IsD M w s D) : ∀ v, v < 12 → D v < M → Wk w s v (D v) := I.2.2.2
theorem IsD.le {M : Nat} {w : Nat → Nat} {s : Nat} {D : Nat → Nat} (h : IsD M w s D) {v d : Nat} (k : Wk w s v d) : D v ≤ d := by
  induction k using Wk.ind with
  | z => rw [h.z]; exact Nat.le_refl _
  | st k hu hv hp ih => exact Nat.le_trans (h.e _ _ hu hv hp) (by omega)
theorem IsD.eq {n M : Nat} {w : Nat → Nat} {s : Nat} {D : Nat → Nat} (g : Gr n w) (hM : 1090 ≤ M) (h : IsD M w s D) {v : Nat} (hv : v < 12) : D v = if dst w s v < 99999 then dst w s v else M := by
  by_cases hx : ∃ d, Wk w s v d
  · rw [if_pos ((dst_fin g hv).mpr hx)]
    have h1 := h.le (dst_wk hx)
    have h2 := dst_b g hv hx
    have h3 := dst_le (h.k v hv (by omega))
    omega
  · rw [if_neg (fun q => hx ((dst_fin g hv).mp q))]
    have h1 := h.m v hv
    by_cases h2 : D v < M
    · exact absurd ⟨_, h.k v hv h2⟩ hx
    · omega
theorem IsD.lt {n M : Nat} {w : Nat → Nat} {s : Nat} {D : Nat → Nat} (g : Gr n w) (hM : 1090 ≤ M) (h : IsD M w s D) {v : Nat} (hv : v < 12) : D v < M ↔ dst w s v < 99999 := by
  rw [h.eq g hM hv]
  split
  · rename_i hx
    have := dst_b g hv ((dst_fin g hv).mp hx)
    omega
  · omega
/-- one waypoint can be reached from another -/
def Rc (w : Nat → Nat) (s v : Nat) : Prop := ∃ d, Wk w s v d
theorem Rc.rfl {w : Nat → Nat} {s : Nat} : Rc w s s := ⟨0, Wk.z⟩
theorem Rc.step {w : Nat → Nat} {s u v : Nat} (h : Rc w s u) (hu : u < 12) (hv : v < 12) (hp : 0 < w (u * 12 + v)) : Rc w s v := let ⟨_, k⟩ := h; ⟨_, Wk.st k hu hv hp⟩
theorem Rc.trans {w : Nat → Nat} {a b c : Nat} (h : Rc w a b) (h2 : Rc w b c) : Rc w a c := by
  obtain ⟨d, k⟩ := h2
  induction k using Wk.ind with
  | z => exact h
  | st k hu hv hp ih => exact ih.step hu hv hp
theorem Rc.symm {n : Nat} {w : Nat → Nat} (g : Gr n w) {a b : Nat} (h : Rc w a b) : Rc w b a := by
  obtain ⟨d, k⟩ := h
  induction k using Wk.ind with
  | z => exact Rc.rfl
  | st k hu hv hp ih => exact Rc.trans (Rc.step Rc.rfl hv hu (by rw [← g.sym _ _ hu hv]; exact hp)) ih
theorem Rc.fin {n : Nat} {w : Nat → Nat} (g : Gr n w) {a b : Nat} (hb : b < 12) : Rc w a b ↔ dst w a b < 99999 := (dst_fin g hb).symm
/-- how many parts hang together: the waypoints that no lower one is reached from -/
noncomputable def lowest (w : Nat → Nat) (p : Nat) : Bool := @decide (∀ o, o < p → ¬ dst w p o < 99999) (Classical.propDecidable _)
noncomputable def comps (w : Nat → Nat) (n : Nat) : Nat := cnt (lowest w) n
theorem lowest_iff {w : Nat → Nat} {p : Nat} : lowest w p = true ↔ ∀ o, o < p → ¬ dst w p o < 99999 := by
  unfold lowest; simp only [decide_eq_true_eq]
/-- closed sets of waypoints hold all that can be reached -/
theorem Rc.closed {w : Nat → Nat} {S : Nat → Bool} (hS : ∀ u v, u < 12 → v < 12 → S u = true → 0 < w (u * 12 + v) → S v = true) {a b : Nat} (ha : S a = true) (h : Rc w a b) : S b = true := by
  obtain ⟨d, k⟩ := h
  induction k using Wk.ind with
  | z => exact ha
  | st k hu hv hp ih => exact hS _ _ hu hv ih hp
theorem cnt_ext {f g : Nat → Bool} (k : Nat) (h : ∀ i, i < k → (f i = true ↔ g i = true)) : cnt f k = cnt g k := cnt_congr k fun i hi => by
  have := h i hi
  cases hf : f i <;> cases hg : g i <;> simp_all
