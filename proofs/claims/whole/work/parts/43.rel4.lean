/-! THE DAY: an engine begins; the start -/
theorem TR.downS {τ ν : xM} {m : Int} {k : Nat} (h : TR τ ν m) (hl : LA τ) (hD : DI ν) (hm : 0 ≤ m ∧ m ≤ 10000) (hk : k < 6) (h8 : ν 8 k < 0) (hf : τ 0 1 ≤ m) : TR (cdT2 τ m) (mGD ν k m) (m + 1) := by
  have hI := hD.1
  have hb := mBase_in hI
  have hT := (h.b.cd0 hm).mv (f := 1) (w := m + τ 0 4) (Or.inr rfl) (by have := h.b.2.2.2.2.2.1; omega)
  have G8 : ∀ j : Nat, mGD ν k m 8 j = if j = k then m + mBase (ν 2) else ν 8 j := fun j => rfl
  have e7 : cdT0 τ m 0 7 = τ 0 7 := rfl
  have eE : tE (cdT0 τ m) 1 = tE τ 1 := rfl
  have c0 : cdT2 τ m 0 = cdT0 τ m 0 := (mvE_c _ _ _).1
  have c2 : cdT2 τ m 2 = τ 2 := (mvE_c _ _ _).2
  have hE : 0 ≤ tE (cdT0 τ m) 1 ∧ cdT0 τ m 3 (tE (cdT0 τ m) 1).toNat ≤ m := by
    rw [hl.d] at hf
    rw [eE, show cdT0 τ m 3 = τ 3 from rfl]
    unfold tDF at hf
    split at hf
    · omega
    · exact ⟨by omega, by omega⟩
  have dnE : ∀ x, dnF (mGD ν k m) x ↔ dnF ν x ∨ x < m + mBase (ν 2) := by
    intro x
    unfold dnF
    constructor
    · rintro ⟨j, h1, h2, h3⟩
      rw [G8] at h2 h3
      by_cases q : j = k
      · rw [if_pos q] at h3; exact Or.inr h3
      · rw [if_neg q] at h2 h3; exact Or.inl ⟨j, h1, h2, h3⟩
    · rintro (⟨j, h1, h2, h3⟩ | h3)
      · refine ⟨j, h1, ?_⟩
        rw [G8, if_neg (fun q => by rw [q] at h2; omega)]
        exact ⟨h2, h3⟩
      · refine ⟨k, hk, ?_⟩
        rw [G8, if_pos rfl]
        exact ⟨by omega, h3⟩
  have u2 : mGD ν k m 2 = ν 2 := rfl
  refine ⟨hT, ?_, ?_, ?_, ?_, ?_, fun x hx => ?_, fun x hx => ?_, fun x hx => ?_, fun x hx => ?_, ?_, fun x hx => ?_, fun x hx => ?_, ?_⟩
  · rw [c0]; exact h.c7
  · rw [c0]; exact h.c5
  · rw [c0]; exact h.c4
  · rw [c0]; exact h.c6
  · rw [c2]; exact h.c2
  · have e0 := h.ft x (by omega)
    have ef : fo (mGD ν k m) x = fo ν x + (if m + mBase (ν 2) ≤ x then 1 else 0) := by
      unfold fo
      have a1 : mGD ν k m 0 12 = ν 0 12 := rfl
      have e := cN_upd (n := 6) (p := fun j => decide (0 ≤ ν 8 j ∧ ν 8 j ≤ x)) (q := fun j => decide (0 ≤ mGD ν k m 8 j ∧ mGD ν k m 8 j ≤ x)) (i := k) hk (fun j hj => by
        simp only [G8, if_neg hj])
      have p1 : decide (0 ≤ ν 8 k ∧ ν 8 k ≤ x) = false := decide_eq_false (by omega)
      have q1 : decide (0 ≤ mGD ν k m 8 k ∧ mGD ν k m 8 k ≤ x) = decide (m + mBase (ν 2) ≤ x) := by
        rw [G8, if_pos rfl]
        exact decide_eq_decide.2 ⟨fun q => q.2, fun q => ⟨by omega, q⟩⟩
      rw [a1, e, p1, q1]
      by_cases r : m + mBase (ν 2) ≤ x
      · rw [decide_eq_true r, if_pos r]
        show _ + (cN _ _ - 0 + 1) = _
        omega
      · rw [decide_eq_false r, if_neg r]
        show _ + (cN _ _ - 0 + 0) = _
        omega
    have w := mvE_new (τ := cdT0 τ m) (f := 1) (w := m + τ 0 4) (x := x) (Or.inr rfl) hE.1
    rw [show (1 : Int) - 1 = 0 by omega] at w
    rw [ef, ← e0, c0, ← h.c4]
    exact w
  · have e0 := h.tp x (by omega)
    have ef : to_ (mGD ν k m) x = to_ ν x - 1 := by
      unfold to_
      have a1 : mGD ν k m 0 13 = ν 0 13 - 1 := rfl
      have a2 : mGD ν k m 7 = ν 7 := rfl
      rw [a1, a2, u2]
      omega
    have w := mvE_old (τ := cdT0 τ m) (f := 1) (w := m + τ 0 4) (x := x) (Or.inr rfl) hE.1 (by have := hE.2; omega)
    rw [ef, ← e0, c0]
    exact w
  · have : upF (mGD ν k m) x ↔ upF ν x := Iff.rfl
    rw [this, h.up x (by omega), c0]
    rfl
  · rw [dnE, h.dn x (by omega), c0]
    have a1 : cdT0 τ m 0 11 = m + τ 0 4 := rfl
    have := h.dd
    have := h.c4
    rw [a1]
    omega
  · rw [c0]
    exact h.dv
  · have a1 : mGD ν k m 0 15 = ν 0 15 := rfl
    rw [a1, u2, c0]
    exact h.uh x (by omega)
  · have a1 : mGD ν k m 0 16 = m := rfl
    have a2 : cdT0 τ m 0 14 = m + τ 0 5 := rfl
    rw [a1, u2, c0, a2, h.c5]
    omega
  · have a1 : cdT0 τ m 0 11 = m + τ 0 4 := rfl
    have := h.c4
    rw [u2, c0, a1]
    omega
theorem cN_none {p : Nat → Bool} : ∀ {n : Nat}, (∀ k, k < n → p k = false) → cN p n = 0
  | 0, _ => rfl
  | n + 1, h => by
    rw [cN, cN_none (fun k hk => h k (by omega)), h n (by omega)]
    rfl
theorem mOp1_at (μ : xM) (t : Nat) : ∀ n : Nat, t < n → mOp1 μ n 7 t = -9 ∧ mOp1 μ n 9 t = -9
  | 0, h => absurd h (Nat.not_lt_zero t)
  | n + 1, h => by
    rw [mOp1]
    by_cases e : t = n
    · rw [e]
      exact ⟨(x_st_ne (Or.inl (by decide))).trans x_st_eq, x_st_eq⟩
    · have := mOp1_at μ t n (by omega)
      exact ⟨(x_st_ne (Or.inl (by decide))).trans ((x_st_ne (Or.inr e)).trans this.1), (x_st_ne (Or.inr e)).trans ((x_st_ne (Or.inl (by decide))).trans this.2)⟩
theorem mOp3_at (μ : xM) (t : Nat) : ∀ n : Nat, t < n → mOp3 μ n 8 t = -9
  | 0, h => absurd h (Nat.not_lt_zero t)
  | n + 1, h => by
    rw [mOp3]
    by_cases e : t = n
    · rw [e]
      exact x_st_eq
    · exact (x_st_ne (Or.inr e)).trans (mOp3_at μ t n (by omega))
theorem mOp3_ne (μ : xM) {k : Nat} (hk : k ≠ 8) : ∀ n : Nat, mOp3 μ n k = μ k
  | 0 => rfl
  | n + 1 => by
    rw [mOp3, ← mOp3_ne μ hk n]
    exact funext fun x => x_st_ne (Or.inl hk)
theorem op_7 (μ : xM) {t : Nat} (ht : t < 8) : mOpens μ 7 t = -9 ∧ mOpens μ 9 t = -9 := by
  unfold mOpens
  rw [mOp3_ne _ (by decide), mOp3_ne _ (by decide)]
  exact mOp1_at μ t 8 ht
theorem op_8 (μ : xM) {t : Nat} (ht : t < 6) : mOpens μ 8 t = -9 := mOp3_at _ t 6 ht
theorem op_0 (μ : xM) : mOpens μ 0 12 = μ 2 2 ∧ mOpens μ 0 13 = 0 ∧ mOpens μ 0 14 = 0 ∧ mOpens μ 0 15 = -9999 ∧ mOpens μ 0 16 = -9999 ∧ mOpens μ 0 17 = 0 ∧ mOpens μ 2 = μ 2 := by
  unfold mOpens
  rw [mOp3_ne _ (by decide), mOp3_ne _ (by decide)]
  have e2 := mOp1_2 μ 8
  refine ⟨?_, rfl, rfl, rfl, rfl, rfl, e2⟩
  show mOp1 μ 8 2 2 = μ 2 2
  rw [e2]
theorem TR_start (μ ρ : xM) {h : Nat → Int} (hI : MI h) (h2 : ρ 2 = h) : TR (stT μ h) (mOpens ρ) 0 := by
  obtain ⟨o12, o13, o14, o15, o16, o17, o2⟩ := op_0 ρ
  have h1 := hI.2.1
  have hb := mBase_in hI
  have g0 := stT_0 μ h
  have g34 := stT_34 μ h
  have s7 : stC μ h 0 7 = h 2 := rfl
  have hh2 := hI.2.2.1
  have h9 : 1 ≤ h 9 ∧ h 9 ≤ 60 := hI.2.2.2.2.2.2.2.2.2.1
  refine ⟨TB4_stT μ hI, ?_, ?_, ?_, ?_, ?_, fun x hx => ?_, fun x hx => ?_, fun x hx => ?_, fun x hx => ?_, ?_, fun x hx => ?_, fun x hx => ?_, ?_⟩
  · rw [g0, o2, h2]; rfl
  · rw [g0, o2, h2]; rfl
  · rw [g0, o2, h2]; rfl
  · rw [g0, o2, h2]; rfl
  · rw [o2, h2]; exact stT_2 μ h
  · rw [g0, s7]
    unfold fo
    rw [cN_none (p := fun k => decide (0 ≤ mOpens ρ 8 k ∧ mOpens ρ 8 k ≤ x)) (fun k hk => by simp only [op_8 ρ hk]; exact decide_eq_false (by omega)), o12, h2]
    have := cN_all (p := fun i => decide (stT μ h 4 i = 0 ∧ stT μ h 3 i ≤ x)) (n := (h 2).toNat) (fun i hi => by
      have := g34 i (by omega)
      simp only [this.1, this.2]
      exact decide_eq_true ⟨trivial, hx⟩)
    rw [this]
    omega
  · rw [g0, s7]
    unfold to_
    rw [o13, o2, h2]
    rw [cN_none (p := fun t => decide (0 ≤ mOpens ρ 7 t ∧ mOpens ρ 7 t ≤ x ∧ 0 < mKind h t)) (fun k hk => by simp only [(op_7 ρ (t := k) (by omega)).1]; exact decide_eq_false (by omega))]
    exact cN_none (fun i hi => by
      have := g34 i (by omega)
      simp only [this.1, this.2]
      exact decide_eq_false (by omega))
  · rw [g0]
    have a1 : stC μ h 0 10 = 0 := rfl
    rw [a1]
    constructor
    · rintro ⟨t, q1, q2, q3⟩
      rw [o2, h2] at q1
      rw [(op_7 ρ (t := t) (by omega)).1] at q2
      omega
    · intro q; omega
  · rw [g0]
    have a1 : stC μ h 0 11 = 0 := rfl
    rw [a1]
    constructor
    · rintro ⟨t, q1, q2, q3⟩
      rw [op_8 ρ q1] at q2
      omega
    · intro q; omega
  · rw [g0, o17]; rfl
  · rw [g0, o15, o2, h2]
    have a1 : stC μ h 0 13 = 0 := rfl
    rw [a1]
    omega
  · rw [g0, o16, o2, h2]
    have a1 : stC μ h 0 14 = 0 := rfl
    rw [a1]
    omega
  · rw [g0, o2, h2]
    have a1 : stC μ h 0 11 = 0 := rfl
    rw [a1]
    omega
