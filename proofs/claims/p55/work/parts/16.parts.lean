/-! Paths: countBySearch, countByMerging -/
theorem jfit_v {D n d : Nat} (hn : n ≤ 20) (hd : d + 1 ≤ D) : jfit (jR D 0 0) n d 0 0 0 0 = true := by
  simp only [jfit, Bool.and_eq_true, Nat.ble_eq]
  refine ⟨by omega, by omega, by omega, by omega⟩
/-- what search does to the marks -/
abbrev Sp (w : Nat → Nat) (m : Nat → Bool) (u : Nat) (m' : Nat → Bool) : Prop :=
  (∀ k, k < 12 → m k = true → m' k = true) ∧
  (m' u = true) ∧
  (∀ k, k < 12 → m' k = true → m k = true ∨ Rc w u k) ∧
  (∀ a b, a < 12 → b < 12 → m' a = true → m a = false → 0 < w (a * 12 + b) → m' b = true)
theorem Sp.le {w : Nat → Nat} {m : Nat → Bool} {u : Nat} {m' : Nat → Bool} (I : Sp w m u m') : ∀ k, k < 12 → m k = true → m' k = true := I.1
theorem Sp.u {w : Nat → Nat} {m : Nat → Bool} {u : Nat} {m' : Nat → Bool} (I : Sp w m u m') : m' u = true := I.2.1
theorem Sp.r {w : Nat → Nat} {m : Nat → Bool} {u : Nat} {m' : Nat → Bool} (I : Sp w m u m') : ∀ k, k < 12 → m' k = true → m k = true ∨ Rc w u k := I.2.2.1
theorem Sp.c {w : Nat → Nat} {m : Nat → Bool} {u : Nat} {m' : Nat → Bool} (I : Sp w m u m') : ∀ a b, a < 12 → b < 12 → m' a = true → m a = false → 0 < w (a * 12 + b) → m' b = true := I.2.2.2
abbrev Si (w : Nat → Nat) (m : Nat → Bool) (u : Nat) (m' : Nat → Bool) (i : Nat) : Prop :=
  (∀ k, k < 12 → m k = true → m' k = true) ∧
  (m' u = true) ∧
  (∀ k, k < 12 → m' k = true → m k = true ∨ Rc w u k) ∧
  (∀ a b, a < 12 → b < 12 → m' a = true → m a = false → (a ≠ u ∨ b < i) → 0 < w (a * 12 + b) → m' b = true)
theorem Si.le {w : Nat → Nat} {m : Nat → Bool} {u : Nat} {m' : Nat → Bool} {i : Nat} (I : Si w m u m' i) : ∀ k, k < 12 → m k = true → m' k = true := I.1
theorem Si.u {w : Nat → Nat} {m : Nat → Bool} {u : Nat} {m' : Nat → Bool} {i : Nat} (I : Si w m u m' i) : m' u = true := I.2.1
theorem Si.r {w : Nat → Nat} {m : Nat → Bool} {u : Nat} {m' : Nat → Bool} {i : Nat} (I : Si w m u m' i) : ∀ k, k < 12 → m' k = true → m k = true ∨ Rc w u k := I.2.2.1
theorem Si.c {w : Nat → Nat} {m : Nat → Bool} {u : Nat} {m' : Nat → Bool} {i : Nat} (I : Si w m u m' i) : ∀ a b, a < 12 → b < 12 → m' a = true → m a = false → (a ≠ u ∨ b < i) → 0 < w (a * 12 + b) → m' b = true := I.2.2.2
section SP
variable {n u i : Nat} {w : Nat → Nat} {m m' m2 : Nat → Bool}
theorem Si.start : Si w m u (updN m u true) 0 :=
  ⟨(fun k hk h => by unfold updN; split; rfl; exact h),
   (updN_s),
   (fun k hk h => by
      by_cases e : k = u
      · subst e; exact .inr Rc.rfl
      · rw [updN_n e] at h; exact .inl h),
   (fun a b ha hb h h2 h3 => by
      by_cases e : a = u
      · subst e; omega
      · rw [updN_n e, h2] at h; exact absurd h (by decide))⟩
theorem Si.skip (I : Si w m u m' i) (h : 0 < w (u * 12 + i) → m' i = true) : Si w m u m' (i + 1) :=
  ⟨(I.le),
   (I.u),
   (I.r),
   (fun a b ha hb h1 h2 h3 hp => by
      by_cases e : a = u ∧ b = i
      · obtain ⟨rfl, rfl⟩ := e; exact h hp
      · exact I.c a b ha hb h1 h2 (by omega) hp)⟩
theorem Si.take (I : Si w m u m' i) (hu : u < 12) (hi : i < 12) (hp : 0 < w (u * 12 + i)) (S : Sp w m' i m2) : Si w m u m2 (i + 1) :=
  ⟨(fun k hk h => S.le k hk (I.le k hk h)),
   (S.le u hu I.u),
   (fun k hk h => by
      rcases S.r k hk h with h1 | h1
      · exact I.r k hk h1
      · exact .inr ((Rc.step Rc.rfl hu hi hp).trans h1)),
   (fun a b ha hb h1 h2 h3 hp2 => by
      cases h4 : m' a
      · exact S.c a b ha hb h1 h4 hp2
      · by_cases e : a = u ∧ b = i
        · obtain ⟨rfl, rfl⟩ := e; exact S.u
        · exact S.le b hb (I.c a b ha hb h4 h2 (by omega) hp2))⟩
theorem Si.done (g : Gr n w) (I : Si w m u m' n) : Sp w m u m' :=
  ⟨(I.le),
   (I.u),
   (I.r),
   (fun a b ha hb h1 h2 hp => I.c a b ha hb h1 h2 (.inr (g.inn a b ha hb hp).2) hp)⟩
/-- the waypoints before i are looked at -/
abbrev Cs (w : Nat → Nat) (m : Nat → Bool) (i : Nat) : Prop :=
  (∀ k, k < 12 → m k = true → ∃ o, o < i ∧ Rc w o k) ∧
  (∀ o, o < i → m o = true) ∧
  (∀ a b, a < 12 → b < 12 → m a = true → 0 < w (a * 12 + b) → m b = true)
theorem Cs.r {w : Nat → Nat} {m : Nat → Bool} {i : Nat} (I : Cs w m i) : ∀ k, k < 12 → m k = true → ∃ o, o < i ∧ Rc w o k := I.1
theorem Cs.b {w : Nat → Nat} {m : Nat → Bool} {i : Nat} (I : Cs w m i) : ∀ o, o < i → m o = true := I.2.1
theorem Cs.c {w : Nat → Nat} {m : Nat → Bool} {i : Nat} (I : Cs w m i) : ∀ a b, a < 12 → b < 12 → m a = true → 0 < w (a * 12 + b) → m b = true := I.2.2
theorem Cs.no (g : Gr n w) (I : Cs w m i) (hi : i < 12) (hm : m i = true) : lowest w i = false := by
  obtain ⟨o, ho, hR⟩ := I.r i hi hm
  have h1 := (Rc.fin g (by omega : o < 12)).mp (hR.symm g)
  cases hl : lowest w i
  · rfl
  · exact absurd h1 (lowest_iff.mp hl o ho)
theorem Cs.yes (g : Gr n w) (I : Cs w m i) (hi : i < 12) (hm : m i = false) : lowest w i = true := by
  rw [lowest_iff]
  intro o ho h
  have h1 := ((Rc.fin g (by omega : o < 12)).mpr h).symm g
  have := Rc.closed (fun a b ha hb => I.c a b ha hb) (I.b o ho) h1
  rw [hm] at this; exact absurd this (by decide)
theorem Cs.skip (I : Cs w m i) (hm : m i = true) : Cs w m (i + 1) :=
  ⟨(fun k hk h => let ⟨o, ho, hR⟩ := I.r k hk h; ⟨o, by omega, hR⟩),
   (fun o ho => by
      by_cases e : o = i
      · subst e; exact hm
      · exact I.b o (by omega)),
   (I.c)⟩
theorem Cs.take (I : Cs w m i) (hi : i < 12) (S : Sp w m i m') : Cs w m' (i + 1) :=
  ⟨(fun k hk h => by
      rcases S.r k hk h with h1 | h1
      · obtain ⟨o, ho, hR⟩ := I.r k hk h1; exact ⟨o, by omega, hR⟩
      · exact ⟨i, by omega, h1⟩),
   (fun o ho => by
      by_cases e : o = i
      · subst e; exact S.u
      · exact S.le o (by omega) (I.b o (by omega))),
   (fun a b ha hb h hp => by
      cases h4 : m a
      · exact S.c a b ha hb h h4 hp
      · exact S.le b hb (I.c a b ha hb h4 hp))⟩
end SP
/-- leaders, the roots that they lead to, and how far these are -/
abbrev Fo (L R dp : Nat → Nat) : Prop :=
  (∀ v, v < 12 → L v < 12) ∧
  (∀ v, v < 12 → R v < 12) ∧
  (∀ v, v < 12 → L v = v → R v = v ∧ dp v = 0) ∧
  (∀ v, v < 12 → L v ≠ v → R (L v) = R v ∧ dp v = dp (L v) + 1) ∧
  (∀ v, v < 12 → L (R v) = R v) ∧
  (∀ v, v < 12 → dp v + 1 ≤ cnt (fun u => decide (R u = R v)) 12)
theorem Fo.l {L R dp : Nat → Nat} (I : Fo L R dp) : ∀ v, v < 12 → L v < 12 := I.1
theorem Fo.r {L R dp : Nat → Nat} (I : Fo L R dp) : ∀ v, v < 12 → R v < 12 := I.2.1
theorem Fo.root {L R dp : Nat → Nat} (I : Fo L R dp) : ∀ v, v < 12 → L v = v → R v = v ∧ dp v = 0 := I.2.2.1
theorem Fo.up {L R dp : Nat → Nat} (I : Fo L R dp) : ∀ v, v < 12 → L v ≠ v → R (L v) = R v ∧ dp v = dp (L v) + 1 := I.2.2.2.1
theorem Fo.rr {L R dp : Nat → Nat} (I : Fo L R dp) : ∀ v, v < 12 → L (R v) = R v := I.2.2.2.2.1
theorem Fo.d {L R dp : Nat → Nat} (I : Fo L R dp) : ∀ v, v < 12 → dp v + 1 ≤ cnt (fun u => decide (R u = R v)) 12 := I.2.2.2.2.2
noncomputable def lowR (R : Nat → Nat) (v : Nat) : Bool := @decide (∀ o, o < v → R o ≠ R v) (Classical.propDecidable _)
theorem lowR_iff {R : Nat → Nat} {v : Nat} : lowR R v = true ↔ ∀ o, o < v → R o ≠ R v := by
  unfold lowR; simp only [decide_eq_true_eq]
abbrev Me (w : Nat → Nat) (n : Nat) (R : Nat → Nat) (sets i j : Nat) : Prop :=
  (∀ u v, u < 12 → v < 12 → R u = R v → Rc w u v) ∧
  (∀ u v, u < 12 → v < 12 → u < v → (u < i ∨ (u = i ∧ v < j)) → 0 < w (u * 12 + v) → R u = R v) ∧
  (sets = cnt (lowR R) n)
theorem Me.i {w : Nat → Nat} {n : Nat} {R : Nat → Nat} {sets i j : Nat} (I : Me w n R sets i j) : ∀ u v, u < 12 → v < 12 → R u = R v → Rc w u v := I.1
theorem Me.e {w : Nat → Nat} {n : Nat} {R : Nat → Nat} {sets i j : Nat} (I : Me w n R sets i j) : ∀ u v, u < 12 → v < 12 → u < v → (u < i ∨ (u = i ∧ v < j)) → 0 < w (u * 12 + v) → R u = R v := I.2.1
theorem Me.s {w : Nat → Nat} {n : Nat} {R : Nat → Nat} {sets i j : Nat} (I : Me w n R sets i j) : sets = cnt (lowR R) n := I.2.2
def mrg (R : Nat → Nat) (a b : Nat) : Nat → Nat := fun u => if R u = R b then R a else R u
section FO
variable {n : Nat} {w L R dp : Nat → Nat} {a b i j sets : Nat}
theorem Fo.idem (I : Fo L R dp) {v : Nat} (hv : v < 12) : R (R v) = R v ∧ dp (R v) = 0 := I.root _ (I.r v hv) (I.rr v hv)
theorem Fo.join (I : Fo L R dp) (ha : a < 12) (hb : b < 12) (h : R a ≠ R b) : Fo (updN L (R b) (R a)) (mrg R a b) (fun u => if R u = R b then dp u + 1 else dp u) :=
  ⟨(fun v hv => by unfold updN; split; exact I.r a ha; exact I.l v hv),
   (fun v hv => by unfold mrg; split; exact I.r a ha; exact I.r v hv),
   (fun v hv e => by
      by_cases hq : v = R b
      · subst hq; rw [updN_s] at e; exact absurd e h
      · rw [updN_n hq] at e
        have h1 := I.root v hv e
        have h2 : R v ≠ R b := fun z => hq (h1.1 ▸ z)
        unfold mrg
        dsimp only
        rw [if_neg h2, if_neg h2]; exact h1),
   (fun v hv e => by
      have ia := I.idem ha
      have ib := I.idem hb
      by_cases hq : v = R b
      · subst hq
        rw [updN_s]
        unfold mrg
        dsimp only
        rw [ib.1, ia.1, if_pos rfl, if_neg h, if_pos rfl, if_neg h, ib.2, ia.2]
        exact ⟨rfl, rfl⟩
      · rw [updN_n hq] at e ⊢
        have h1 := I.up v hv e
        unfold mrg
        dsimp only
        rw [h1.1]
        refine ⟨rfl, ?_⟩
        split
        · omega
        · exact h1.2),
   (fun v hv => by
      unfold mrg
      split
      · rw [updN_n h]; exact I.rr a ha
      · rename_i hq; rw [updN_n hq]; exact I.rr v hv),
   (fun v hv => by
      have hd := I.d v hv
      have ia := I.idem ha
      by_cases hq : R v = R b
      · have h1 : cnt (fun u => decide (R u = R v)) 12 < cnt (fun u => decide (mrg R a b u = mrg R a b v)) 12 := by
          refine cnt_lt (j := R a) 12 (I.r a ha) (fun u hu hx => ?_) ?_ ?_
          · simp only [decide_eq_true_eq] at hx ⊢; unfold mrg; rw [hx]
          · simp only [decide_eq_false_iff_not]; rw [ia.1, hq]; exact h
          · simp only [decide_eq_true_eq]; unfold mrg; rw [ia.1, if_neg h, if_pos hq]
        show (if R v = R b then dp v + 1 else dp v) + 1 ≤ _
        rw [if_pos hq]; omega
      · have h1 : cnt (fun u => decide (R u = R v)) 12 ≤ cnt (fun u => decide (mrg R a b u = mrg R a b v)) 12 := by
          refine cnt_mono 12 (fun u hu hx => ?_)
          simp only [decide_eq_true_eq] at hx ⊢; unfold mrg; rw [hx]
        show (if R v = R b then dp v + 1 else dp v) + 1 ≤ _
        rw [if_neg hq]; omega)⟩
theorem mrg_eq {u v : Nat} (h : R a ≠ R b) : mrg R a b u = mrg R a b v ↔ (R u = R v ∨ ((R u = R a ∨ R u = R b) ∧ (R v = R a ∨ R v = R b))) := by
  unfold mrg
  split <;> split <;> grind
theorem least_of {P : Nat → Prop} {x : Nat} (h : P x) : ∃ y, y ≤ x ∧ P y ∧ ∀ o, o < y → ¬ P o := by
  obtain ⟨y, hy, hl⟩ := least_ex ⟨x, h⟩
  exact ⟨y, hl x h, hy, fun o ho hp => by have := hl o hp; omega⟩
theorem low_join (ha : a < n) (hb : b < n) (h : R a ≠ R b) : cnt (lowR (mrg R a b)) n + 1 = cnt (lowR R) n := by
  obtain ⟨x, hx, hx1, hx2⟩ := least_of (P := fun o => R o = R a) (x := a) rfl
  obtain ⟨y, hy, hy1, hy2⟩ := least_of (P := fun o => R o = R b) (x := b) rfl
  have hxy : x ≠ y := fun e => h (by rw [← hx1, ← hy1, e])
  have key : ∀ v, lowR (mrg R a b) v = true ↔ (lowR R v = true ∧ v ≠ max x y) := by
    intro v
    rw [lowR_iff, lowR_iff]
    have hm : ∀ o, mrg R a b o ≠ mrg R a b v ↔ ¬ (R o = R v ∨ ((R o = R a ∨ R o = R b) ∧ (R v = R a ∨ R v = R b))) := fun o => not_congr (mrg_eq h)
    constructor
    · intro hl
      refine ⟨fun o ho e => (hm o).mp (hl o ho) (.inl e), fun e => ?_⟩
      have h3 : min x y < v := by omega
      have h4 := (hm _).mp (hl _ h3)
      apply h4
      right
      refine ⟨?_, ?_⟩
      · rcases Nat.le_total x y with q | q
        · rw [Nat.min_eq_left q]; exact .inl hx1
        · rw [Nat.min_eq_right q]; exact .inr hy1
      · rw [e]; rcases Nat.le_total x y with q | q
        · rw [Nat.max_eq_right q]; exact .inr hy1
        · rw [Nat.max_eq_left q]; exact .inl hx1
    · rintro ⟨hl, hne⟩ o ho
      rw [hm]
      rintro (e | ⟨e1, e2⟩)
      · exact hl o ho e
      · rcases e2 with e2 | e2
        · have hvx : v = x := by
            rcases Nat.lt_trichotomy v x with q | q | q
            · exact absurd e2 (hx2 v q)
            · exact q
            · exact absurd (hx1.trans e2.symm) (hl x q)
          subst hvx
          rcases e1 with e1 | e1
          · exact hx2 o ho e1
          · have : ¬ o < y := fun q => hy2 o q e1
            omega
        · have hvy : v = y := by
            rcases Nat.lt_trichotomy v y with q | q | q
            · exact absurd e2 (hy2 v q)
            · exact q
            · exact absurd (hy1.trans e2.symm) (hl y q)
          subst hvy
          rcases e1 with e1 | e1
          · have : ¬ o < x := fun q => hx2 o q e1
            omega
          · exact hy2 o ho e1
  refine cnt_rm (m := max x y) n (by omega) ?_ (fun i hi => ?_)
  · rw [lowR_iff]
    intro o ho
    rcases Nat.le_total x y with q | q
    · rw [Nat.max_eq_right q] at ho ⊢; rw [hy1]; exact hy2 o ho
    · rw [Nat.max_eq_left q] at ho ⊢; rw [hx1]; exact hx2 o ho
  · have := key i
    cases h1 : lowR (mrg R a b) i <;> cases h2 : lowR R i <;> simp_all
theorem Me.start : Me w n (fun v => v) n 0 0 :=
  ⟨(fun u v hu hv e => by have : u = v := e; subst this; exact Rc.rfl),
   (fun u v hu hv h1 h2 => by omega),
   (by
      have : ∀ k, cnt (lowR fun v => v) k = k := by
        intro k
        induction k with
        | zero => rfl
        | succ k ih => unfold cnt; rw [ih, if_pos (lowR_iff.mpr fun o ho e => by omega)]
      exact (this n).symm)⟩
theorem Me.skip (I : Me w n R sets i j) (h : 0 < w (i * 12 + j) → R i = R j) : Me w n R sets i (j + 1) :=
  ⟨(I.i),
   (fun u v hu hv h1 h2 hp => by
      by_cases e : u = i ∧ v = j
      · obtain ⟨rfl, rfl⟩ := e; exact h hp
      · exact I.e u v hu hv h1 (by omega) hp),
   (I.s)⟩
theorem Me.take (g : Gr n w) (I : Me w n R sets i j) (hi : i < n) (hj : j < n) (hp : 0 < w (i * 12 + j)) (h : R i ≠ R j) : Me w n (mrg R i j) (sets - 1) i (j + 1) ∧ 1 ≤ sets := by
  have h3 := low_join hi hj h
  have hs := I.s
  have hn := g.n12
  refine ⟨⟨fun u v hu hv e => ?_, fun u v hu hv h1 h2 hp2 => ?_, by omega⟩, by omega⟩
  · have hij : Rc w i j := Rc.step Rc.rfl (by omega) (by omega) hp
    rcases (mrg_eq h).mp e with q | ⟨q1, q2⟩
    · exact I.i u v hu hv q
    · have a1 : R u = R i → Rc w u i := I.i u i hu (by omega)
      have a2 : R u = R j → Rc w u j := I.i u j hu (by omega)
      have b1 : R v = R i → Rc w i v := fun q => I.i i v (by omega) hv q.symm
      have b2 : R v = R j → Rc w j v := fun q => I.i j v (by omega) hv q.symm
      rcases q1 with q1 | q1 <;> rcases q2 with q2 | q2
      · exact (a1 q1).trans (b1 q2)
      · exact ((a1 q1).trans hij).trans (b2 q2)
      · exact ((a2 q1).trans (hij.symm g)).trans (b1 q2)
      · exact (a2 q1).trans (b2 q2)
  · rw [mrg_eq h]
    by_cases e : u = i ∧ v = j
    · obtain ⟨rfl, rfl⟩ := e; exact .inr ⟨.inl rfl, .inr rfl⟩
    · exact .inl (I.e u v hu hv h1 (by omega) hp2)
theorem Me.row (g : Gr n w) (I : Me w n R sets i n) : Me w n R sets (i + 1) 0 :=
  ⟨(I.i),
   (fun u v hu hv h1 h2 hp => I.e u v hu hv h1 (by have := (g.inn u v hu hv hp).2; omega) hp),
   (I.s)⟩
theorem Me.from (I : Me w n R sets i 0) : Me w n R sets i (i + 1) :=
  ⟨(I.i),
   (fun u v hu hv h1 h2 hp => I.e u v hu hv h1 (by omega) hp),
   (I.s)⟩
theorem Me.done (g : Gr n w) (I : Me w n R sets n 0) : sets = comps w n := by
  have hn := g.n12
  have he : ∀ u v, u < 12 → v < 12 → 0 < w (u * 12 + v) → R u = R v := by
    intro u v hu hv hp
    have hb := g.inn u v hu hv hp
    rcases Nat.lt_trichotomy u v with q | q | q
    · exact I.e u v hu hv q (.inl hb.1) hp
    · rw [q]
    · exact (I.e v u hv hu q (.inl hb.2) (by rw [← g.sym u v hu hv]; exact hp)).symm
  have hR : ∀ u v, Rc w u v → R u = R v := by
    rintro u v ⟨d, k⟩
    induction k using Wk.ind with
    | z => rfl
    | st k hu hv hp ih => exact ih.trans (he _ _ hu hv hp)
  rw [I.s]
  refine cnt_ext n (fun v hv => ?_)
  rw [lowR_iff, lowest_iff]
  refine forall_congr' fun o => forall_congr' fun ho => not_congr ?_
  rw [← Rc.fin g (by omega : o < 12)]
  exact ⟨fun e => I.i v o (by omega) (by omega) e.symm, fun h => (hR v o h).symm⟩
end FO
section PATHS3
variable {G : jG} {X : Bool} {Q : jQ_} {n t s : Nat} {w L0 : Nat → Nat} {m0 : Nat → Bool}
theorem c_X5_search (g : Gr n w) : ∀ (k u dep : Nat) (m : Nat → Bool) (h : jH) (Q : jQ_), u < n → m u = false → 1 ≤ dep → dep ≤ cnt m 12 + 1 → 12 ≤ cnt m 12 + k → h[3]? = some (hMap n t) → h[7]? = some (ia 144 w) → h[15]? = some (za 12 m) →
    (∀ m', Sp w m u m' → Q (.inl none) (h.set 15 (za 12 m'))) → jCT G M_X5_search (k + 2) 0 0 X [.ref 3, .ref 15, .int (nI u), .int (nI dep)] h Q := by
  intro k
  have hn := g.n12
  induction k with
  | zero =>
    intro u dep m h Q hu hm _ _ hc
    rw [cnt_full (f := m) 12 (by omega) u (by omega)] at hm
    exact absurd hm (by decide)
  | succ k IH =>
    intro u dep m h Q hu hm h1 h2 h3 hM hW hK hQ
    have hlt : cnt m 12 < 12 := by
      have := cnt_lt (j := u) (f := m) (g := fun _ => true) 12 (by omega) (fun _ _ _ => rfl) hm rfl
      have h9 : cnt (fun _ => true) 12 = 12 := rfl
      omega
    refine jCT_of [some (.ref 3), some (.ref 15), some (.int (nI u)), some (.int (nI dep)), none] 1 rfl (by decide +kernel) rfl rfl ?_
    refine J_iload_n (by rfl) dX5_search_0 ?_
    refine J_bipush (nI 12) (by decide) dX5_search_1 ?_
    refine J_icmp_gt_n 16 dX5_search_3 (by decide) (fun c3 => ?_) (fun c3 => ?_)
    · omega
    · refine J_iload_n (by rfl) dX5_search_6 ?_
      refine J_if_lt_n 16 dX5_search_7 (by decide) ?_
      refine J_iload_n (by rfl) dX5_search_10 ?_
      refine J_aload_n (by rfl) (by rfl) dX5_search_11 ?_
      refine J_alen (x := 0) dX5_search_12 (by repeat (first | assumption | exact jget_same2 (by (try simp only [List.length_set]); exact jlt (by assumption)) | refine jget_ne (by first | decide | assumption | omega) ?_)) (by decide) ?_
      refine J_icmp_lt_n 17 dX5_search_13 (by decide) (fun c13 => ?_) (fun c13 => ?_)
      · refine J_aload_n (by rfl) (by rfl) dX5_search_17 ?_
        refine J_iload_n (by rfl) dX5_search_18 ?_
        refine J_iconst (nI 1) (by decide) dX5_search_19 ?_
        refine J_topi (jb true) (by decide) ?_
        refine J_zast_n (u) dX5_search_20 (by repeat (first | assumption | exact jget_same2 (by (try simp only [List.length_set]); exact jlt (by assumption)) | refine jget_ne (by first | decide | assumption | omega) ?_)) (by first | rfl | (simp only [pk_mul, nI_add]; done) | (simp only [pk_mul, nI_add]; congr 1; omega) | (congr 1; omega)) (by omega) ?_
        refine J_iconst (nI 0) (by decide) dX5_search_21 ?_
        refine J_istore_4 dX5_search_22 ?_
        suffices loop : ∀ i, i ≤ n → ∀ m', Si w m u m' i → J G (jR (k+1+2) 0 0) (jFin G Q X 0 0) M_X5_search X 0 0 24 [some (.ref 3), some (.ref 15), some (.int (nI u)), some (.int (nI dep)), some (.int (nI i))] [] (h.set 15 (za 12 m')) by
          exact loop 0 (by omega) _ Si.start
        refine up_ind n (fun i hi ih m' hI => ?_)
        have hgt : cnt m 12 < cnt m' 12 := cnt_lt (j := u) 12 (by omega) hI.le hm hI.u
        refine J_iload (by rfl) dX5_search_24 ?_
        refine J_aload_n (by rfl) (by rfl) dX5_search_26 ?_
        refine J_get dX5_search_27 f_X5_41 (by repeat (first | assumption | exact jget_same2 (by (try simp only [List.length_set]); exact jlt (by assumption)) | refine jget_ne (by first | decide | assumption | omega) ?_)) (by rfl) ?_
        refine J_icmp_ge_n 73 dX5_search_30 (by decide) (fun c30 => ?_) (fun c30 => ?_)
        · have he : i = n := by omega
          rw [he] at hI
          exact J_return dX5_search_73 rfl (hQ m' (hI.done g)) (by decide) (by decide) (fun _ => rfl)
        · refine J_iload (by rfl) dX5_search_33 ?_
          refine J_aload_n (by rfl) (by rfl) dX5_search_35 ?_
          refine J_alen (x := 0) dX5_search_36 (by repeat (first | assumption | exact jget_same2 (by (try simp only [List.length_set]); exact jlt (by assumption)) | refine jget_ne (by first | decide | assumption | omega) ?_)) (by decide) ?_
          refine J_icmp_ge_n 73 dX5_search_37 (by decide) (fun c37 => ?_) (fun c37 => ?_)
          · omega
          · refine J_aload_n (by rfl) (by rfl) dX5_search_40 ?_
            refine J_iload (by rfl) dX5_search_41 ?_
            refine J_zald_n (i) dX5_search_43 (by repeat (first | assumption | exact jget_same2 (by (try simp only [List.length_set]); exact jlt (by assumption)) | refine jget_ne (by first | decide | assumption | omega) ?_)) (by first | rfl | (simp only [pk_mul, nI_add]; done) | (simp only [pk_mul, nI_add]; congr 1; omega) | (congr 1; omega)) (by omega) ?_
            refine J_if_ne_b 67 dX5_search_44 (by decide) (fun c44 => ?_) (fun c44 => ?_)
            · refine J_iinc_4 (nI 1) dX5_search_67 (by decide) ?_
              try rw [nI_add]
              refine J_goto 24 dX5_search_70 (by decide) ?_
              exact ih c30 m' (hI.skip fun _ => c44)
            · refine J_aload_n (by rfl) (by rfl) dX5_search_47 ?_
              refine J_iload_n (by rfl) dX5_search_48 ?_
              refine J_iload (by rfl) dX5_search_49 ?_
              refine J_V2v (ci := 9) dX5_search_51 s_X5_47 m_X9_areJoined rfl (by repeat (first | assumption | exact jget_same2 (by (try simp only [List.length_set]); exact jlt (by assumption)) | refine jget_ne (by first | decide | assumption | omega) ?_)) rfl (c_X9_areJoined (i := u) (j := i) (by omega) (by omega) (by repeat (first | assumption | exact jget_same2 (by (try simp only [List.length_set]); exact jlt (by assumption)) | refine jget_ne (by first | decide | assumption | omega) ?_)) (by repeat (first | assumption | exact jget_same2 (by (try simp only [List.length_set]); exact jlt (by assumption)) | refine jget_ne (by first | decide | assumption | omega) ?_)) (g.lt (by omega) (by omega)) (jKv_i ?_)) (hf := jfit_v (by decide) (by omega))
              refine J_if_eq_b 67 dX5_search_54 (by decide) (fun c54 => ?_) (fun c54 => ?_)
              · refine J_iinc_4 (nI 1) dX5_search_67 (by decide) ?_
                try rw [nI_add]
                refine J_goto 24 dX5_search_70 (by decide) ?_
                exact ih c30 m' (hI.skip fun q => absurd q (by simpa using c54))
              · have hp : 0 < w (u * 12 + i) := by simpa using c54
                refine J_aload_n (by rfl) (by rfl) dX5_search_57 ?_
                refine J_aload_n (by rfl) (by rfl) dX5_search_58 ?_
                refine J_iload (by rfl) dX5_search_59 ?_
                refine J_iload_n (by rfl) dX5_search_61 ?_
                refine J_iconst (nI 1) (by decide) dX5_search_62 ?_
                refine J_iadd dX5_search_63 ?_
                try rw [nI_add]
                refine J_S40 dX5_search_64 s_X5_77 m_X5_search rfl (IH i (dep + 1) m' _ _ c30 c44 (by omega) (by omega) (by omega) (by repeat (first | assumption | exact jget_same2 (by (try simp only [List.length_set]); exact jlt (by assumption)) | refine jget_ne (by first | decide | assumption | omega) ?_)) (by repeat (first | assumption | exact jget_same2 (by (try simp only [List.length_set]); exact jlt (by assumption)) | refine jget_ne (by first | decide | assumption | omega) ?_)) (by repeat (first | assumption | exact jget_same2 (by (try simp only [List.length_set]); exact jlt (by assumption)) | refine jget_ne (by first | decide | assumption | omega) ?_)) (fun m2 hS => (jK0_i ?_))) (hf := jfit_v (by decide) (by omega))
                refine J_iinc_4 (nI 1) dX5_search_67 (by decide) ?_
                try rw [nI_add]
                refine J_goto 24 dX5_search_70 (by decide) ?_
                simp only [List.set_set, jsw (i := 12) (j := 13) (by decide), jsw (i := 12) (j := 15) (by decide), jsw (i := 13) (j := 15) (by decide), jsw (i := 14) (j := 15) (by decide)]
                exact ih c30 m2 (hI.take (by omega) (by omega) hp hS)
      · omega
theorem c_X5_countBySearch {h : jH} (g : Gr n w) (hM : h[3]? = some (hMap n t)) (hW : h[7]? = some (ia 144 w)) (hP : h[11]? = some hPaths) (hK : h[15]? = some (za 12 m0))
    (hQ : ∀ m, Q (.inl (some (.int (nI (comps w n))))) (h.set 15 (za 12 m))) : jCT G M_X5_countBySearch 15 0 0 X [.ref 11, .ref 3] h Q := by
  have hn := g.n12
  refine jCT_of [some (.ref 11), some (.ref 3), none, none] 2 rfl (by decide +kernel) rfl rfl ?_
  refine J_aload_n (by rfl) (by rfl) dX5_countBySearch_0 ?_
  refine J_V00 (ci := 5) dX5_countBySearch_1 s_X5_34 m_X5_clearMarks rfl (by repeat (first | assumption | exact jget_same2 (by (try simp only [List.length_set]); exact jlt (by assumption)) | refine jget_ne (by first | decide | assumption | omega) ?_)) rfl (c_X5_clearMarks hP hK (fun m1 hm1 => (jK0_i ?_)))
  refine J_iconst (nI 0) (by decide) dX5_countBySearch_4 ?_
  refine J_istore_2 dX5_countBySearch_5 ?_
  refine J_iconst (nI 0) (by decide) dX5_countBySearch_6 ?_
  refine J_istore_3 dX5_countBySearch_7 ?_
  suffices loop : ∀ i, i ≤ n → ∀ m, Cs w m i → J G (jR 15 0 0) (jFin G Q X 0 0) M_X5_countBySearch X 0 0 8 [some (.ref 11), some (.ref 3), some (.int (nI (cnt (lowest w) i))), some (.int (nI i))] [] (h.set 15 (za 12 m)) by
    exact loop 0 (by omega) m1 ⟨fun k hk h => by rw [hm1 k hk] at h; exact absurd h (by decide), fun o ho => by omega, fun a b ha hb h => by rw [hm1 a ha] at h; exact absurd h (by decide)⟩
  refine up_ind n (fun i hi ih m hI => ?_)
  refine J_iload_n (by rfl) dX5_countBySearch_8 ?_
  refine J_aload_n (by rfl) (by rfl) dX5_countBySearch_9 ?_
  refine J_get dX5_countBySearch_10 f_X5_41 (by repeat (first | assumption | exact jget_same2 (by (try simp only [List.length_set]); exact jlt (by assumption)) | refine jget_ne (by first | decide | assumption | omega) ?_)) (by rfl) ?_
  refine J_icmp_ge_n 50 dX5_countBySearch_13 (by decide) (fun c13 => ?_) (fun c13 => ?_)
  · refine J_iload_n (by rfl) dX5_countBySearch_50 ?_
    exact J_ireturn dX5_countBySearch_51 rfl (by rw [show i = n by omega]; exact hQ m) (by decide) (by decide) (fun _ => rfl)
  · refine J_iload_n (by rfl) dX5_countBySearch_16 ?_
    refine J_bipush (nI 12) (by decide) dX5_countBySearch_17 ?_
    refine J_icmp_ge_n 50 dX5_countBySearch_19 (by decide) (fun c19 => ?_) (fun c19 => ?_)
    · omega
    · refine J_aload_n (by rfl) (by rfl) dX5_countBySearch_22 ?_
      refine J_get dX5_countBySearch_23 f_X5_21 (by repeat (first | assumption | exact jget_same2 (by (try simp only [List.length_set]); exact jlt (by assumption)) | refine jget_ne (by first | decide | assumption | omega) ?_)) (by rfl) ?_
      refine J_iload_n (by rfl) dX5_countBySearch_26 ?_
      refine J_zald_n (i) dX5_countBySearch_27 (by repeat (first | assumption | exact jget_same2 (by (try simp only [List.length_set]); exact jlt (by assumption)) | refine jget_ne (by first | decide | assumption | omega) ?_)) (by first | rfl | (simp only [pk_mul, nI_add]; done) | (simp only [pk_mul, nI_add]; congr 1; omega) | (congr 1; omega)) (by omega) ?_
      refine J_if_ne_b 44 dX5_countBySearch_28 (by decide) (fun c28 => ?_) (fun c28 => ?_)
      · refine J_iinc_3 (nI 1) dX5_countBySearch_44 (by decide) ?_
        try rw [nI_add]
        refine J_goto 8 dX5_countBySearch_47 (by decide) ?_
        have := ih c13 m (hI.skip c28)
        unfold cnt at this
        rw [hI.no g (by omega) c28] at this
        exact this
      · refine J_iinc_2 (nI 1) dX5_countBySearch_31 (by decide) ?_
        try rw [nI_add]
        refine J_aload_n (by rfl) (by rfl) dX5_countBySearch_34 ?_
        refine J_aload_n (by rfl) (by rfl) dX5_countBySearch_35 ?_
        refine J_get dX5_countBySearch_36 f_X5_21 (by repeat (first | assumption | exact jget_same2 (by (try simp only [List.length_set]); exact jlt (by assumption)) | refine jget_ne (by first | decide | assumption | omega) ?_)) (by rfl) ?_
        refine J_iload_n (by rfl) dX5_countBySearch_39 ?_
        refine J_iconst (nI 1) (by decide) dX5_countBySearch_40 ?_
        refine J_S40 dX5_countBySearch_41 s_X5_77 m_X5_search rfl (c_X5_search g 12 i 1 m _ _ c13 c28 (by omega) (by omega) (by omega) (by repeat (first | assumption | exact jget_same2 (by (try simp only [List.length_set]); exact jlt (by assumption)) | refine jget_ne (by first | decide | assumption | omega) ?_)) (by repeat (first | assumption | exact jget_same2 (by (try simp only [List.length_set]); exact jlt (by assumption)) | refine jget_ne (by first | decide | assumption | omega) ?_)) (by repeat (first | assumption | exact jget_same2 (by (try simp only [List.length_set]); exact jlt (by assumption)) | refine jget_ne (by first | decide | assumption | omega) ?_)) (fun m2 hS => (jK0_i ?_)))
        refine J_iinc_3 (nI 1) dX5_countBySearch_44 (by decide) ?_
        try rw [nI_add]
        refine J_goto 8 dX5_countBySearch_47 (by decide) ?_
        simp only [List.set_set, jsw (i := 12) (j := 13) (by decide), jsw (i := 12) (j := 15) (by decide), jsw (i := 13) (j := 15) (by decide), jsw (i := 14) (j := 15) (by decide)]
        have := ih c13 m2 (hI.take (by omega) hS)
        unfold cnt at this
        rw [hI.yes g (by omega) c28] at this
        exact this
theorem c_X5_leaderOf {h : jH} {L R dp : Nat → Nat} {v : Nat} (hF : Fo L R dp) (hv : v < 12) (hP : h[11]? = some hPaths) (hA : h[14]? = some (ia 12 L)) (hQ : Q (.inl (some (.int (nI (R v))))) h) : jCT G M_X5_leaderOf 2 0 0 X [.ref 11, .int (nI v)] h Q := by
  refine jCT_of [some (.ref 11), some (.int (nI v)), none, none] 2 rfl (by decide +kernel) rfl rfl ?_
  refine J_iload_n (by rfl) dX5_leaderOf_0 ?_
  refine J_istore_2 dX5_leaderOf_1 ?_
  refine J_iconst (nI 0) (by decide) dX5_leaderOf_2 ?_
  refine J_istore_3 dX5_leaderOf_3 ?_
  suffices loop : ∀ i, i ≤ 12 → ∀ c, c < 12 → R c = R v → dp c + i = dp v → J G (jR 2 0 0) (jFin G Q X 0 0) M_X5_leaderOf X 0 0 4 [some (.ref 11), some (.int (nI v)), some (.int (nI c)), some (.int (nI i))] [] h by
    exact loop 0 (by omega) v hv rfl (by omega)
  have hdv := hF.d v hv
  have hcl := cnt_le (fun u => decide (R u = R v)) 12
  refine up_ind 12 (fun i hi ih c hc hR hd => ?_)
  have hlc := hF.l c hc
  refine J_iload_n (by rfl) dX5_leaderOf_4 ?_
  refine J_bipush (nI 12) (by decide) dX5_leaderOf_5 ?_
  refine J_icmp_ge_n 45 dX5_leaderOf_7 (by decide) (fun c7 => ?_) (fun c7 => ?_)
  · omega
  · refine J_iload_n (by rfl) dX5_leaderOf_10 ?_
    refine J_iconst (nI 0) (by decide) dX5_leaderOf_11 ?_
    refine J_bipush (nI 11) (by decide) dX5_leaderOf_12 ?_
    refine J_SN3v dX5_leaderOf_14 s_X5_25 m_X10_isWithin rfl (c_X10_isWithin_n (by omega) (by omega) (jKv_i ?_))
    refine J_if_eq_b 30 dX5_leaderOf_17 (by decide) (fun c17 => ?_) (fun c17 => ?_)
    · simp only [decide_eq_false_iff_not] at c17; omega
    · refine J_aload_n (by rfl) (by rfl) dX5_leaderOf_20 ?_
      refine J_get dX5_leaderOf_21 f_X5_18 (by repeat (first | assumption | exact jget_same2 (by (try simp only [List.length_set]); exact jlt (by assumption)) | refine jget_ne (by first | decide | assumption | omega) ?_)) (by rfl) ?_
      refine J_iload_n (by rfl) dX5_leaderOf_24 ?_
      refine J_iald_n (c) dX5_leaderOf_25 (by repeat (first | assumption | exact jget_same2 (by (try simp only [List.length_set]); exact jlt (by assumption)) | refine jget_ne (by first | decide | assumption | omega) ?_)) (by first | rfl | (simp only [pk_mul, nI_add]; done) | (simp only [pk_mul, nI_add]; congr 1; omega) | (congr 1; omega)) (by omega) ?_
      refine J_iload_n (by rfl) dX5_leaderOf_26 ?_
      refine J_icmp_ne_n 32 dX5_leaderOf_27 (by decide) (fun c27 => ?_) (fun c27 => ?_)
      · refine J_aload_n (by rfl) (by rfl) dX5_leaderOf_32 ?_
        refine J_get dX5_leaderOf_33 f_X5_18 (by repeat (first | assumption | exact jget_same2 (by (try simp only [List.length_set]); exact jlt (by assumption)) | refine jget_ne (by first | decide | assumption | omega) ?_)) (by rfl) ?_
        refine J_iload_n (by rfl) dX5_leaderOf_36 ?_
        refine J_iald_n (c) dX5_leaderOf_37 (by repeat (first | assumption | exact jget_same2 (by (try simp only [List.length_set]); exact jlt (by assumption)) | refine jget_ne (by first | decide | assumption | omega) ?_)) (by first | rfl | (simp only [pk_mul, nI_add]; done) | (simp only [pk_mul, nI_add]; congr 1; omega) | (congr 1; omega)) (by omega) ?_
        refine J_istore_2 dX5_leaderOf_38 ?_
        refine J_iinc_3 (nI 1) dX5_leaderOf_39 (by decide) ?_
        try rw [nI_add]
        refine J_goto 4 dX5_leaderOf_42 (by decide) ?_
        have h1 := hF.up c hc c27
        exact ih c7 (L c) hlc (h1.1.trans hR) (by omega)
      · refine J_iload_n (by rfl) dX5_leaderOf_30 ?_
        exact J_ireturn dX5_leaderOf_31 rfl (by rw [← hR, (hF.root c hc c27).1] at hQ; exact hQ) (by decide) (by decide) (fun _ => rfl)
theorem c_X5_merge {h : jH} {L R dp : Nat → Nat} {a b : Nat} (hF : Fo L R dp) (ha : a < 12) (hb : b < 12) (hP : h[11]? = some hPaths) (hA : h[14]? = some (ia 12 L)) (hQ1 : R a = R b → Q (.inl (some (.int (jb false)))) h)
    (hQ2 : R a ≠ R b → Q (.inl (some (.int (jb true)))) (h.set 14 (ia 12 (updN L (R b) (R a))))) : jCT G M_X5_merge 3 0 0 X [.ref 11, .int (nI a), .int (nI b)] h Q := by
  have hra := hF.r a ha
  have hrb := hF.r b hb
  refine jCT_of [some (.ref 11), some (.int (nI a)), some (.int (nI b)), none, none] 2 rfl (by decide +kernel) rfl rfl ?_
  refine J_aload_n (by rfl) (by rfl) dX5_merge_0 ?_
  refine J_iload_n (by rfl) dX5_merge_1 ?_
  refine J_V1v (ci := 5) dX5_merge_2 s_X5_84 m_X5_leaderOf rfl (by repeat (first | assumption | exact jget_same2 (by (try simp only [List.length_set]); exact jlt (by assumption)) | refine jget_ne (by first | decide | assumption | omega) ?_)) rfl (c_X5_leaderOf hF ha hP hA (jKv_i ?_))
  refine J_istore_3 dX5_merge_5 ?_
  refine J_aload_n (by rfl) (by rfl) dX5_merge_6 ?_
  refine J_iload_n (by rfl) dX5_merge_7 ?_
  refine J_V1v (ci := 5) dX5_merge_8 s_X5_84 m_X5_leaderOf rfl (by repeat (first | assumption | exact jget_same2 (by (try simp only [List.length_set]); exact jlt (by assumption)) | refine jget_ne (by first | decide | assumption | omega) ?_)) rfl (c_X5_leaderOf hF hb hP hA (jKv_i ?_))
  refine J_istore_4 dX5_merge_11 ?_
  refine J_iload_n (by rfl) dX5_merge_13 ?_
  refine J_iload (by rfl) dX5_merge_14 ?_
  refine J_icmp_eq_n 30 dX5_merge_16 (by decide) (fun c16 => ?_) (fun c16 => ?_)
  · refine J_iconst (nI 0) (by decide) dX5_merge_30 ?_
    exact J_zreturn dX5_merge_31 rfl (by first | rfl | exact jb_n _) (hQ1 c16) (by decide) (by decide) (fun _ => rfl)
  · refine J_iload (by rfl) dX5_merge_19 ?_
    refine J_iconst (nI 0) (by decide) dX5_merge_21 ?_
    refine J_bipush (nI 11) (by decide) dX5_merge_22 ?_
    refine J_SN3v dX5_merge_24 s_X5_25 m_X10_isWithin rfl (c_X10_isWithin_n (by omega) (by omega) (jKv_i ?_))
    refine J_if_ne_b 32 dX5_merge_27 (by decide) (fun c27 => ?_) (fun c27 => ?_)
    · refine J_aload_n (by rfl) (by rfl) dX5_merge_32 ?_
      refine J_get dX5_merge_33 f_X5_18 (by repeat (first | assumption | exact jget_same2 (by (try simp only [List.length_set]); exact jlt (by assumption)) | refine jget_ne (by first | decide | assumption | omega) ?_)) (by rfl) ?_
      refine J_iload (by rfl) dX5_merge_36 ?_
      refine J_iload_n (by rfl) dX5_merge_38 ?_
      refine J_iast_n (R b) dX5_merge_39 (by repeat (first | assumption | exact jget_same2 (by (try simp only [List.length_set]); exact jlt (by assumption)) | refine jget_ne (by first | decide | assumption | omega) ?_)) (by first | rfl | (simp only [pk_mul, nI_add]; done) | (simp only [pk_mul, nI_add]; congr 1; omega) | (congr 1; omega)) (by omega) ?_
      refine J_iconst (nI 1) (by decide) dX5_merge_40 ?_
      exact J_zreturn dX5_merge_41 rfl (by first | rfl | exact jb_n _) (hQ2 c16) (by decide) (by decide) (fun _ => rfl)
    · simp only [decide_eq_false_iff_not] at c27; omega
theorem nI_dec {a : Nat} (h : 1 ≤ a) : nI a + -1 = nI (a - 1) := by
  obtain ⟨b, rfl⟩ : ∃ b, a = b + 1 := ⟨a - 1, by omega⟩
  rw [← nI_add, Nat.add_sub_cancel, Int32.add_assoc]
  rw [show nI 1 + -1 = 0 by decide, Int32.add_zero]
theorem c_X5_countByMerging {h : jH} (g : Gr n w) (hM : h[3]? = some (hMap n t)) (hW : h[7]? = some (ia 144 w)) (hP : h[11]? = some hPaths) (hA : h[14]? = some (ia 12 L0))
    (hQ : ∀ L, Q (.inl (some (.int (nI (comps w n))))) (h.set 14 (ia 12 L))) : jCT G M_X5_countByMerging 4 0 0 X [.ref 11, .ref 3] h Q := by
  have hn := g.n12
  refine jCT_of [some (.ref 11), some (.ref 3), none, none, none] 3 rfl (by decide +kernel) rfl rfl ?_
  refine J_iconst (nI 0) (by decide) dX5_countByMerging_0 ?_
  refine J_istore_2 dX5_countByMerging_1 ?_
  suffices loop0 : ∀ i, i ≤ 12 → ∀ L, (∀ k, k < i → L k = k) → J G (jR 4 0 0) (jFin G Q X 0 0) M_X5_countByMerging X 0 0 2 [some (.ref 11), some (.ref 3), some (.int (nI i)), none, none] [] (h.set 14 (ia 12 L)) by
    have := loop0 0 (by omega) L0 (fun k hk => by omega)
    rw [hset_id hA] at this
    exact this
  refine up_ind 12 (fun i hi ih L hL => ?_)
  refine J_iload_n (by rfl) dX5_countByMerging_2 ?_
  refine J_bipush (nI 12) (by decide) dX5_countByMerging_3 ?_
  refine J_icmp_ge_n 21 dX5_countByMerging_5 (by decide) (fun c5 => ?_) (fun c5 => ?_)
  · refine J_aload_n (by rfl) (by rfl) dX5_countByMerging_21 ?_
    refine J_get dX5_countByMerging_22 f_X5_41 (by repeat (first | assumption | exact jget_same2 (by (try simp only [List.length_set]); exact jlt (by assumption)) | refine jget_ne (by first | decide | assumption | omega) ?_)) (by rfl) ?_
    refine J_istore_2 dX5_countByMerging_25 ?_
    refine J_iconst (nI 0) (by decide) dX5_countByMerging_26 ?_
    refine J_istore_3 dX5_countByMerging_27 ?_
    suffices loop : ∀ i, i ≤ n → ∀ L R dp sets, Fo L R dp → Me w n R sets i 0 → ∀ l4, J G (jR 4 0 0) (jFin G Q X 0 0) M_X5_countByMerging X 0 0 28 [some (.ref 11), some (.ref 3), some (.int (nI sets)), some (.int (nI i)), l4] [] (h.set 14 (ia 12 L)) by
      refine loop 0 (by omega) L (fun v => v) (fun _ => 0) n ⟨fun v hv => ?_, fun v hv => hv, fun v hv _ => ⟨rfl, rfl⟩, fun v hv e => ?_, fun v hv => ?_, fun v hv => ?_⟩ Me.start _
      · rw [hL v (by omega)]; exact hv
      · exact absurd (hL v (by omega)) e
      · exact hL v (by omega)
      · have := cnt_lt (j := v) (f := fun _ => false) (g := fun u => decide (u = v)) 12 hv (fun _ _ h => absurd h (by decide)) rfl (by simp)
        show 0 + 1 ≤ cnt (fun u => decide (u = v)) 12
        omega
    refine up_ind n (fun i hi ih L R dp sets hF hI l4 => ?_)
    refine J_iload_n (by rfl) dX5_countByMerging_28 ?_
    refine J_aload_n (by rfl) (by rfl) dX5_countByMerging_29 ?_
    refine J_get dX5_countByMerging_30 f_X5_41 (by repeat (first | assumption | exact jget_same2 (by (try simp only [List.length_set]); exact jlt (by assumption)) | refine jget_ne (by first | decide | assumption | omega) ?_)) (by rfl) ?_
    refine J_icmp_ge_n 85 dX5_countByMerging_33 (by decide) (fun c33 => ?_) (fun c33 => ?_)
    · have he : i = n := by omega
      subst he
      have he := hI.done g
      refine J_iload_n (by rfl) dX5_countByMerging_85 ?_
      exact J_ireturn dX5_countByMerging_86 rfl (by rw [he]; exact hQ L) (by decide) (by decide) (fun _ => rfl)
    · refine J_iload_n (by rfl) dX5_countByMerging_36 ?_
      refine J_iconst (nI 1) (by decide) dX5_countByMerging_37 ?_
      refine J_iadd dX5_countByMerging_38 ?_
      try rw [nI_add]
      refine J_istore_4 dX5_countByMerging_39 ?_
      suffices inner : ∀ j, j ≤ n → ∀ L R dp sets, Fo L R dp → Me w n R sets i j → J G (jR 4 0 0) (jFin G Q X 0 0) M_X5_countByMerging X 0 0 41 [some (.ref 11), some (.ref 3), some (.int (nI sets)), some (.int (nI i)), some (.int (nI j))] [] (h.set 14 (ia 12 L)) by
        exact inner (i + 1) (by omega) L R dp sets hF hI.from
      refine up_ind n (fun j hj ih2 L R dp sets hF hI => ?_)
      refine J_iload (by rfl) dX5_countByMerging_41 ?_
      refine J_aload_n (by rfl) (by rfl) dX5_countByMerging_43 ?_
      refine J_get dX5_countByMerging_44 f_X5_41 (by repeat (first | assumption | exact jget_same2 (by (try simp only [List.length_set]); exact jlt (by assumption)) | refine jget_ne (by first | decide | assumption | omega) ?_)) (by rfl) ?_
      refine J_icmp_ge_n 79 dX5_countByMerging_47 (by decide) (fun c47 => ?_) (fun c47 => ?_)
      · have he : j = n := by omega
        subst he
        refine J_iinc_3 (nI 1) dX5_countByMerging_79 (by decide) ?_
        try rw [nI_add]
        refine J_goto 28 dX5_countByMerging_82 (by decide) ?_
        exact ih c33 L R dp sets hF (hI.row g) _
      · refine J_aload_n (by rfl) (by rfl) dX5_countByMerging_50 ?_
        refine J_iload_n (by rfl) dX5_countByMerging_51 ?_
        refine J_iload (by rfl) dX5_countByMerging_52 ?_
        refine J_V2v (ci := 9) dX5_countByMerging_54 s_X5_47 m_X9_areJoined rfl (by repeat (first | assumption | exact jget_same2 (by (try simp only [List.length_set]); exact jlt (by assumption)) | refine jget_ne (by first | decide | assumption | omega) ?_)) rfl (c_X9_areJoined (i := i) (j := j) (by omega) (by omega) (by repeat (first | assumption | exact jget_same2 (by (try simp only [List.length_set]); exact jlt (by assumption)) | refine jget_ne (by first | decide | assumption | omega) ?_)) (by repeat (first | assumption | exact jget_same2 (by (try simp only [List.length_set]); exact jlt (by assumption)) | refine jget_ne (by first | decide | assumption | omega) ?_)) (g.lt (by omega) (by omega)) (jKv_i ?_))
        refine J_if_eq_b 73 dX5_countByMerging_57 (by decide) (fun c57 => ?_) (fun c57 => ?_)
        · refine J_iinc_4 (nI 1) dX5_countByMerging_73 (by decide) ?_
          try rw [nI_add]
          refine J_goto 41 dX5_countByMerging_76 (by decide) ?_
          exact ih2 c47 L R dp sets hF (hI.skip fun q => absurd q (by simpa using c57))
        · have hp : 0 < w (i * 12 + j) := by simpa using c57
          refine J_aload_n (by rfl) (by rfl) dX5_countByMerging_60 ?_
          refine J_iload_n (by rfl) dX5_countByMerging_61 ?_
          refine J_iload (by rfl) dX5_countByMerging_62 ?_
          refine J_V2v (ci := 5) dX5_countByMerging_64 s_X5_81 m_X5_merge rfl (by repeat (first | assumption | exact jget_same2 (by (try simp only [List.length_set]); exact jlt (by assumption)) | refine jget_ne (by first | decide | assumption | omega) ?_)) rfl (c_X5_merge hF (a := i) (b := j) (by omega) (by omega) (by repeat (first | assumption | exact jget_same2 (by (try simp only [List.length_set]); exact jlt (by assumption)) | refine jget_ne (by first | decide | assumption | omega) ?_)) (by repeat (first | assumption | exact jget_same2 (by (try simp only [List.length_set]); exact jlt (by assumption)) | refine jget_ne (by first | decide | assumption | omega) ?_)) (fun hR => (jKv_i ?_)) (fun hR => (jKv_i ?_)))
          · refine J_if_eq_b 73 dX5_countByMerging_67 (by decide) (fun c67 => ?_) (fun c67 => ?_)
            · refine J_iinc_4 (nI 1) dX5_countByMerging_73 (by decide) ?_
              try rw [nI_add]
              refine J_goto 41 dX5_countByMerging_76 (by decide) ?_
              exact ih2 c47 L R dp sets hF (hI.skip fun _ => hR)
            · exact absurd c67 (by decide)
          · refine J_if_eq_b 73 dX5_countByMerging_67 (by decide) (fun c67 => ?_) (fun c67 => ?_)
            · exact absurd c67 (by decide)
            · obtain ⟨hI2, h1⟩ := hI.take g c33 c47 hp hR
              refine J_iinc_2 (-1) dX5_countByMerging_70 (by decide) ?_
              refine J_iinc_4 (nI 1) dX5_countByMerging_73 (by decide) ?_
              try rw [nI_add]
              refine J_goto 41 dX5_countByMerging_76 (by decide) ?_
              simp only [List.set_set, jsw (i := 12) (j := 13) (by decide), jsw (i := 12) (j := 15) (by decide), jsw (i := 13) (j := 15) (by decide), jsw (i := 14) (j := 15) (by decide)]
              rw [nI_dec h1]
              exact ih2 c47 _ _ _ _ (hF.join (by omega) (by omega) hR) hI2
  · refine J_aload_n (by rfl) (by rfl) dX5_countByMerging_8 ?_
    refine J_get dX5_countByMerging_9 f_X5_18 (by repeat (first | assumption | exact jget_same2 (by (try simp only [List.length_set]); exact jlt (by assumption)) | refine jget_ne (by first | decide | assumption | omega) ?_)) (by rfl) ?_
    refine J_iload_n (by rfl) dX5_countByMerging_12 ?_
    refine J_iload_n (by rfl) dX5_countByMerging_13 ?_
    refine J_iast_n (i) dX5_countByMerging_14 (by repeat (first | assumption | exact jget_same2 (by (try simp only [List.length_set]); exact jlt (by assumption)) | refine jget_ne (by first | decide | assumption | omega) ?_)) (by first | rfl | (simp only [pk_mul, nI_add]; done) | (simp only [pk_mul, nI_add]; congr 1; omega) | (congr 1; omega)) (by omega) ?_
    refine J_iinc_2 (nI 1) dX5_countByMerging_15 (by decide) ?_
    try rw [nI_add]
    refine J_goto 2 dX5_countByMerging_18 (by decide) ?_
    simp only [List.set_set, jsw (i := 12) (j := 13) (by decide), jsw (i := 12) (j := 15) (by decide), jsw (i := 13) (j := 15) (by decide), jsw (i := 14) (j := 15) (by decide)]
    refine ih c5 _ (fun k hk => ?_)
    by_cases e : k = i
    · subst e; exact updN_s
    · rw [updN_n e]; exact hL k (by omega)
end PATHS3
