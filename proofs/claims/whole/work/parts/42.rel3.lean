/-! THE DAY: the relation is kept -/
theorem guT1_c (τ : xM) (k m : Int) : guT1 τ k m 3 = τ 3 ∧ guT1 τ k m 4 = τ 4 ∧ guT1 τ k m 2 = τ 2 ∧ (∀ j, j < 10 → guT1 τ k m 0 j = τ 0 j) ∧ guT1 τ k m 0 10 = max (τ 0 10) (m + τ 2 k.toNat) ∧ guT1 τ k m 0 11 = τ 0 11 ∧ guT1 τ k m 0 12 = (if k = 2 then m + τ 2 k.toNat else τ 0 12) ∧ guT1 τ k m 0 13 = m + τ 0 5 ∧ guT1 τ k m 0 14 = τ 0 14 := by
  unfold guT1
  split
  · refine ⟨rfl, rfl, rfl, fun j hj => ?_, rfl, rfl, rfl, rfl, rfl⟩
    exact (x_st_ne (Or.inr (by omega))).trans ((x_st_ne (Or.inr (by omega))).trans (x_st_ne (Or.inr (by omega))))
  · refine ⟨rfl, rfl, rfl, fun j hj => ?_, rfl, rfl, rfl, rfl, rfl⟩
    exact (x_st_ne (Or.inr (by omega))).trans (x_st_ne (Or.inr (by omega)))
theorem tE_c {τ σ : xM} (h3 : σ 3 = τ 3) (h4 : σ 4 = τ 4) (h7 : σ 0 7 = τ 0 7) (top : Int) : tE σ top = tE τ top := by
  show fE (σ 3) (σ 4) top (σ 0 7).toNat = fE (τ 3) (τ 4) top (τ 0 7).toNat
  rw [h3, h4, h7]
theorem mvE_c (τ : xM) (f w : Int) : mvE τ f w 0 = τ 0 ∧ mvE τ f w 2 = τ 2 := by
  unfold mvE
  split <;> exact ⟨rfl, rfl⟩
theorem mvE_at {τ : xM} {f w : Int} (h : 0 ≤ tE τ f) (i : Nat) : mvE τ f w 4 i = (if i = (tE τ f).toNat then 1 - f else τ 4 i) ∧ mvE τ f w 3 i = (if i = (tE τ f).toNat then w else τ 3 i) := by
  unfold mvE
  rw [if_neg (by omega)]
  exact ⟨rfl, rfl⟩
/-- an engine goes over: the counts at its old side and its new side -/
theorem mvE_old {τ : xM} {f w x : Int} (hf : f = 0 ∨ f = 1) (h : 0 ≤ tE τ f) (hs : τ 3 (tE τ f).toNat ≤ x) : cN (fun i => decide (mvE τ f w 4 i = f ∧ mvE τ f w 3 i ≤ x)) (τ 0 7).toNat = cN (fun i => decide (τ 4 i = f ∧ τ 3 i ≤ x)) (τ 0 7).toNat - 1 := by
  have g := fE_ok (τ 3) (τ 4) f (τ 0 7).toNat h
  have e := cN_upd (n := (τ 0 7).toNat) (p := fun i => decide (τ 4 i = f ∧ τ 3 i ≤ x)) (q := fun i => decide (mvE τ f w 4 i = f ∧ mvE τ f w 3 i ≤ x)) (i := (tE τ f).toNat) g.1 (fun j hj => by
    have := mvE_at (w := w) h j
    simp only [this.1, this.2, if_neg hj])
  have a := mvE_at (w := w) h (tE τ f).toNat
  rw [if_pos rfl, if_pos rfl] at a
  have p1 : decide (τ 4 (tE τ f).toNat = f ∧ τ 3 (tE τ f).toNat ≤ x) = true := decide_eq_true ⟨g.2.1, hs⟩
  have q1 : decide (mvE τ f w 4 (tE τ f).toNat = f ∧ mvE τ f w 3 (tE τ f).toNat ≤ x) = false := decide_eq_false (fun q => by have := q.1; rw [a.1] at this; omega)
  rw [e, p1, q1]
  show cN _ _ - 1 + 0 = _
  omega
theorem mvE_new {τ : xM} {f w x : Int} (hf : f = 0 ∨ f = 1) (h : 0 ≤ tE τ f) : cN (fun i => decide (mvE τ f w 4 i = 1 - f ∧ mvE τ f w 3 i ≤ x)) (τ 0 7).toNat = cN (fun i => decide (τ 4 i = 1 - f ∧ τ 3 i ≤ x)) (τ 0 7).toNat + (if w ≤ x then 1 else 0) := by
  have g := fE_ok (τ 3) (τ 4) f (τ 0 7).toNat h
  have e := cN_upd (n := (τ 0 7).toNat) (p := fun i => decide (τ 4 i = 1 - f ∧ τ 3 i ≤ x)) (q := fun i => decide (mvE τ f w 4 i = 1 - f ∧ mvE τ f w 3 i ≤ x)) (i := (tE τ f).toNat) g.1 (fun j hj => by
    have := mvE_at (w := w) h j
    simp only [this.1, this.2, if_neg hj])
  have a := mvE_at (w := w) h (tE τ f).toNat
  rw [if_pos rfl, if_pos rfl] at a
  have g4 : τ 4 (tE τ f).toNat = f := g.2.1
  have p1 : decide (τ 4 (tE τ f).toNat = 1 - f ∧ τ 3 (tE τ f).toNat ≤ x) = false := decide_eq_false (fun q => by have := q.1; omega)
  rw [e, p1]
  simp only [a.1, a.2, true_and]
  by_cases q : w ≤ x
  · rw [if_pos q, decide_eq_true q]
    show cN _ _ - 0 + 1 = _
    omega
  · rw [if_neg q, decide_eq_false q]
    show cN _ _ - 0 + 0 = _
    omega
theorem TR.upS {τ ν : xM} {m t : Int} (h : TR τ ν m) (hl : LA τ) (hD : DI ν) (hm : 0 ≤ m ∧ m ≤ 10000) (ht : 0 ≤ t ∧ t < ν 2 1) (hk : mKind (ν 2) t ≠ 3) (h9 : ν 9 t.toNat < 0) (hf : mKind (ν 2) t ≠ 0 → τ 0 2 ≤ m) : TR (guT2 τ (mKind (ν 2) t) m) (mGU ν m t) (m + 1) := by
  have hI := hD.1
  have hk3 := mKind_in (ν 2) t
  have ht8 : t < 8 := by have := hI.2.1; omega
  have h7 : ν 7 t.toNat < 0 := by
    have := (hD.2.2.2.2.2.1 t.toNat (by omega)).2.2
    omega
  have htk : mTakes (ν 2) t = τ 2 (mKind (ν 2) t).toNat := by
    rw [h.c2 _ (by omega), show ((mKind (ν 2) t).toNat : Int) = mKind (ν 2) t from nat_back hk3.1]
    exact (cMin_takes (ν 2) t).symm
  have htp := mTakes_pos hI hk
  have hT := h.b.gu2 (k := mKind (ν 2) t) (by omega) hm
  have G7 : ∀ j : Nat, mGU ν m t 7 j = if j = t.toNat then m + mTakes (ν 2) t else ν 7 j := fun j => rfl
  have g := guT1_c τ (mKind (ν 2) t) m
  generalize hkk : mKind (ν 2) t = k at *
  have c0 : guT2 τ k m 0 = guT1 τ k m 0 := by
    unfold guT2
    split
    · rfl
    · exact (mvE_c _ _ _).1
  have c2 : guT2 τ k m 2 = guT1 τ k m 2 := by
    unfold guT2
    split
    · rfl
    · exact (mvE_c _ _ _).2
  have e7 : guT1 τ k m 0 7 = τ 0 7 := g.2.2.2.1 7 (by omega)
  have eE : tE (guT1 τ k m) 0 = tE τ 0 := tE_c g.1 g.2.1 e7 0
  have hE : k ≠ 0 → 0 ≤ tE (guT1 τ k m) 0 ∧ guT1 τ k m 3 (tE (guT1 τ k m) 0).toNat ≤ m := by
    intro q
    have := hf q
    rw [hl.f] at this
    rw [eE, g.1]
    unfold tFt at this
    split at this
    · omega
    · exact ⟨by omega, this⟩
  have upE : ∀ x, upF (mGU ν m t) x ↔ upF ν x ∨ x < m + mTakes (ν 2) t := by
    intro x
    unfold upF
    show (∃ j : Nat, j < (ν 2 1).toNat ∧ 0 ≤ mGU ν m t 7 j ∧ x < mGU ν m t 7 j) ↔ _
    constructor
    · rintro ⟨j, h1, h2, h3⟩
      rw [G7] at h2 h3
      by_cases q : j = t.toNat
      · rw [if_pos q] at h3; exact Or.inr h3
      · rw [if_neg q] at h2 h3; exact Or.inl ⟨j, h1, h2, h3⟩
    · rintro (⟨j, h1, h2, h3⟩ | h3)
      · refine ⟨j, h1, ?_⟩
        rw [G7, if_neg (fun q => by rw [q] at h2; omega)]
        exact ⟨h2, h3⟩
      · refine ⟨t.toNat, by omega, ?_⟩
        rw [G7, if_pos rfl]
        exact ⟨by omega, h3⟩
  refine ⟨hT, ?_, ?_, ?_, ?_, ?_, fun x hx => ?_, fun x hx => ?_, fun x hx => ?_, fun x hx => ?_, ?_, fun x hx => ?_, fun x hx => ?_, ?_⟩
  · rw [c0, e7]; exact h.c7
  · rw [c0, g.2.2.2.1 5 (by omega)]; exact h.c5
  · rw [c0, g.2.2.2.1 4 (by omega)]; exact h.c4
  · rw [c0, g.2.2.2.1 6 (by omega)]; exact h.c6
  · rw [c2, g.2.2.1]; exact h.c2
  · have e0 := h.ft x (by omega)
    have ef : fo (mGU ν m t) x = fo ν x - (if 0 < k then 1 else 0) := by
      unfold fo
      have a1 : mGU ν m t 0 12 = ν 0 12 - (if 0 < mKind (ν 2) t then 1 else 0) := rfl
      have a2 : mGU ν m t 8 = ν 8 := rfl
      rw [a1, a2, hkk]
      omega
    rw [ef, ← e0, c0, e7]
    by_cases q : k = 0
    · have : guT2 τ k m = guT1 τ k m := if_pos q
      rw [this, g.1, g.2.1, if_neg (by omega)]
      omega
    · have : guT2 τ k m = mvE (guT1 τ k m) 0 (m + τ 2 k.toNat) := if_neg q
      have w := mvE_old (τ := guT1 τ k m) (f := 0) (w := m + τ 2 k.toNat) (x := x) (Or.inl rfl) (hE q).1 (by have := (hE q).2; omega)
      rw [this, if_pos (by omega)]
      rw [e7, g.1, g.2.1] at w
      exact w
  · have e0 := h.tp x (by omega)
    have ef : to_ (mGU ν m t) x = to_ ν x + (if 0 < k ∧ m + mTakes (ν 2) t ≤ x then 1 else 0) := by
      unfold to_
      have a1 : mGU ν m t 0 13 = ν 0 13 := rfl
      have a2 : mGU ν m t 2 = ν 2 := rfl
      have e := cN_upd (n := (ν 2 1).toNat) (p := fun j => decide (0 ≤ ν 7 j ∧ ν 7 j ≤ x ∧ 0 < mKind (ν 2) j)) (q := fun j => decide (0 ≤ mGU ν m t 7 j ∧ mGU ν m t 7 j ≤ x ∧ 0 < mKind (ν 2) j)) (i := t.toNat) (by omega) (fun j hj => by
        simp only [G7, if_neg hj])
      have p1 : decide (0 ≤ ν 7 t.toNat ∧ ν 7 t.toNat ≤ x ∧ 0 < mKind (ν 2) t.toNat) = false := decide_eq_false (by omega)
      rw [a1, a2, e, p1]
      have q1 : decide (0 ≤ mGU ν m t 7 t.toNat ∧ mGU ν m t 7 t.toNat ≤ x ∧ 0 < mKind (ν 2) t.toNat) = decide (0 < k ∧ m + mTakes (ν 2) t ≤ x) := by
        rw [G7, if_pos rfl, show ((t.toNat : Nat) : Int) = t from nat_back ht.1, hkk]
        exact decide_eq_decide.2 ⟨fun q => ⟨q.2.2, q.2.1⟩, fun q => ⟨by omega, q.2, q.1⟩⟩
      rw [q1]
      by_cases r : 0 < k ∧ m + mTakes (ν 2) t ≤ x
      · rw [decide_eq_true r, if_pos r]
        show _ + (cN _ _ - 0 + 1) = _
        omega
      · rw [decide_eq_false r, if_neg r]
        show _ + (cN _ _ - 0 + 0) = _
        omega
    rw [ef, ← e0, c0, e7, htk]
    by_cases q : k = 0
    · have : guT2 τ k m = guT1 τ k m := if_pos q
      rw [this, g.1, g.2.1, if_neg (by omega)]
      omega
    · have : guT2 τ k m = mvE (guT1 τ k m) 0 (m + τ 2 k.toNat) := if_neg q
      have w := mvE_new (τ := guT1 τ k m) (f := 0) (w := m + τ 2 k.toNat) (x := x) (Or.inl rfl) (hE q).1
      rw [this]
      rw [e7, g.1, g.2.1] at w
      rw [show (1 : Int) - 0 = 1 by omega] at w
      rw [w]
      by_cases r : m + τ 2 k.toNat ≤ x
      · rw [if_pos r, if_pos ⟨by omega, r⟩]
      · rw [if_neg r, if_neg (fun q => r q.2)]
  · rw [upE, h.up x (by omega), c0, g.2.2.2.2.1, htk]
    omega
  · have : dnF (mGU ν m t) x ↔ dnF ν x := Iff.rfl
    rw [this, h.dn x (by omega), c0, g.2.2.2.2.2.1]
  · rw [c0, g.2.2.2.2.2.2.1]
    have a1 : mGU ν m t 0 17 = (if mKind (ν 2) t = 2 then m + mTakes (ν 2) t else ν 0 17) := rfl
    rw [a1, hkk, htk, h.dv]
  · have a1 : mGU ν m t 0 15 = m := rfl
    have a2 : mGU ν m t 2 = ν 2 := rfl
    rw [a1, a2, c0, g.2.2.2.2.2.2.2.1, h.c5]
    omega
  · have a1 : mGU ν m t 0 16 = ν 0 16 := rfl
    have a2 : mGU ν m t 2 = ν 2 := rfl
    rw [a1, a2, c0, g.2.2.2.2.2.2.2.2]
    exact h.dh x (by omega)
  · have a2 : mGU ν m t 2 = ν 2 := rfl
    have := h.dd
    rw [a2, c0, g.2.2.2.2.2.1]
    omega
