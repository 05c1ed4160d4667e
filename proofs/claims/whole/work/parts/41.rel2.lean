/-! THE DAY: the relation; thresholds -/
def TR (τ ρ : xM) (m : Int) : Prop := (TB4 τ) ∧ (τ 0 7 = ρ 2 2) ∧ (τ 0 5 = ρ 2 9) ∧ (τ 0 4 = mBase (ρ 2)) ∧ (τ 0 6 = if 0 < mSing (ρ 2) then 1 else 0) ∧ (∀ k : Nat, k < 3 → τ 2 k = cMin (ρ 2) k) ∧ (∀ x, m ≤ x → cN (fun i => decide (τ 4 i = 0 ∧ τ 3 i ≤ x)) (τ 0 7).toNat = fo ρ x) ∧ (∀ x, m ≤ x → cN (fun i => decide (τ 4 i = 1 ∧ τ 3 i ≤ x)) (τ 0 7).toNat = to_ ρ x) ∧ (∀ x, m ≤ x → (upF ρ x ↔ x < τ 0 10)) ∧ (∀ x, m ≤ x → (dnF ρ x ↔ x < τ 0 11)) ∧ (τ 0 12 = ρ 0 17) ∧ (∀ x, m ≤ x → (τ 0 13 ≤ x ↔ ρ 2 9 ≤ x - ρ 0 15)) ∧ (∀ x, m ≤ x → (τ 0 14 ≤ x ↔ ρ 2 9 ≤ x - ρ 0 16)) ∧ (τ 0 11 ≤ m + mBase (ρ 2))
theorem TR.b {τ ρ : xM} {m : Int} (h : TR τ ρ m) : TB4 τ := h.1
theorem TR.c7 {τ ρ : xM} {m : Int} (h : TR τ ρ m) : τ 0 7 = ρ 2 2 := h.2.1
theorem TR.c5 {τ ρ : xM} {m : Int} (h : TR τ ρ m) : τ 0 5 = ρ 2 9 := h.2.2.1
theorem TR.c4 {τ ρ : xM} {m : Int} (h : TR τ ρ m) : τ 0 4 = mBase (ρ 2) := h.2.2.2.1
theorem TR.c6 {τ ρ : xM} {m : Int} (h : TR τ ρ m) : τ 0 6 = if 0 < mSing (ρ 2) then 1 else 0 := h.2.2.2.2.1
theorem TR.c2 {τ ρ : xM} {m : Int} (h : TR τ ρ m) : ∀ k : Nat, k < 3 → τ 2 k = cMin (ρ 2) k := h.2.2.2.2.2.1
theorem TR.ft {τ ρ : xM} {m : Int} (h : TR τ ρ m) : ∀ x, m ≤ x → cN (fun i => decide (τ 4 i = 0 ∧ τ 3 i ≤ x)) (τ 0 7).toNat = fo ρ x := h.2.2.2.2.2.2.1
theorem TR.tp {τ ρ : xM} {m : Int} (h : TR τ ρ m) : ∀ x, m ≤ x → cN (fun i => decide (τ 4 i = 1 ∧ τ 3 i ≤ x)) (τ 0 7).toNat = to_ ρ x := h.2.2.2.2.2.2.2.1
theorem TR.up {τ ρ : xM} {m : Int} (h : TR τ ρ m) : ∀ x, m ≤ x → (upF ρ x ↔ x < τ 0 10) := h.2.2.2.2.2.2.2.2.1
theorem TR.dn {τ ρ : xM} {m : Int} (h : TR τ ρ m) : ∀ x, m ≤ x → (dnF ρ x ↔ x < τ 0 11) := h.2.2.2.2.2.2.2.2.2.1
theorem TR.dv {τ ρ : xM} {m : Int} (h : TR τ ρ m) : τ 0 12 = ρ 0 17 := h.2.2.2.2.2.2.2.2.2.2.1
theorem TR.uh {τ ρ : xM} {m : Int} (h : TR τ ρ m) : ∀ x, m ≤ x → (τ 0 13 ≤ x ↔ ρ 2 9 ≤ x - ρ 0 15) := h.2.2.2.2.2.2.2.2.2.2.2.1
theorem TR.dh {τ ρ : xM} {m : Int} (h : TR τ ρ m) : ∀ x, m ≤ x → (τ 0 14 ≤ x ↔ ρ 2 9 ≤ x - ρ 0 16) := h.2.2.2.2.2.2.2.2.2.2.2.2.1
theorem TR.dd {τ ρ : xM} {m : Int} (h : TR τ ρ m) : τ 0 11 ≤ m + mBase (ρ 2) := h.2.2.2.2.2.2.2.2.2.2.2.2.2
def LA (τ : xM) : Prop := (τ 0 2 = tFt τ) ∧ (τ 1 0 = tU τ) ∧ (τ 1 1 = max (tU τ) (tFt τ)) ∧ (τ 1 2 = max (max (tU τ) (tFt τ)) (max (τ 0 10) (τ 0 11))) ∧ (τ 0 1 = tDF τ)
theorem LA.f {τ : xM} (h : LA τ) : τ 0 2 = tFt τ := h.1
theorem LA.u0 {τ : xM} (h : LA τ) : τ 1 0 = tU τ := h.2.1
theorem LA.u1 {τ : xM} (h : LA τ) : τ 1 1 = max (tU τ) (tFt τ) := h.2.2.1
theorem LA.u2 {τ : xM} (h : LA τ) : τ 1 2 = max (max (tU τ) (tFt τ)) (max (τ 0 10) (τ 0 11)) := h.2.2.2.1
theorem LA.d {τ : xM} (h : LA τ) : τ 0 1 = tDF τ := h.2.2.2.2
theorem LA_lkA (σ : xM) : LA (lkA σ) := ⟨rfl, rfl, rfl, rfl, rfl⟩
theorem lkA_0 (σ : xM) {j : Nat} (h1 : j ≠ 1) (h2 : j ≠ 2) : lkA σ 0 j = σ 0 j := (x_st_ne (Or.inr h1)).trans ((x_st_ne (Or.inl (by decide))).trans ((x_st_ne (Or.inl (by decide))).trans ((x_st_ne (Or.inl (by decide))).trans (x_st_ne (Or.inr h2)))))
theorem TB4_lkA {τ : xM} (h : TB4 τ) : TB4 (lkA τ) := ⟨h.1, h.2.1, h.2.2.1, fun j h1 h2 => by rw [lkA_0 τ (by omega) (by omega)]; exact h.2.2.2.1 j h1 h2, h.2.2.2.2⟩
theorem TR_lkA {τ ρ : xM} {m : Int} (h : TR τ ρ m) : TR (lkA τ) ρ m := ⟨TB4_lkA h.b, h.c7, h.c5, h.c4, h.c6, h.c2, h.ft, h.tp, h.up, h.dn, h.dv, h.uh, h.dh, h.dd⟩
theorem fE_neg (s t : Nat → Int) (top : Int) : ∀ n : Nat, fE s t top n < 0 → ∀ i, i < n → t i ≠ top
  | 0, _, i, hi => absurd hi (Nat.not_lt_zero i)
  | n + 1, h, i, hi => by
    rw [fE] at h
    split at h
    · omega
    next q =>
      by_cases e : i = n
      · subst e
        exact fun r => q ⟨r, Or.inl h⟩
      · exact fE_neg s t top n h i (by omega)
theorem fE_ok (s t : Nat → Int) (top : Int) : ∀ n : Nat, 0 ≤ fE s t top n → (fE s t top n).toNat < n ∧ t (fE s t top n).toNat = top ∧ ∀ i, i < n → t i = top → s (fE s t top n).toNat ≤ s i
  | 0, h => absurd h (show ¬ (0 : Int) ≤ -1 by decide)
  | n + 1, h => by
    have ih := fE_ok s t top n
    have ng := fE_neg s t top n
    rw [fE] at h ⊢
    split
    next q =>
      refine ⟨by omega, by rw [show (n : Int).toNat = n by omega]; exact q.1, fun i hi ht => ?_⟩
      rw [show (n : Int).toNat = n by omega]
      by_cases e : i = n
      · subst e; exact Int.le_refl _
      · rcases q.2 with q2 | q2
        · exact absurd ht (ng q2 i (by omega))
        · rcases Int.lt_or_le (fE s t top n) 0 with r | r
          · exact absurd ht (ng r i (by omega))
          · have := (ih r).2.2 i (by omega) ht
            omega
    next q =>
      rw [if_neg q] at h
      have g := ih h
      refine ⟨by omega, g.2.1, fun i hi ht => ?_⟩
      by_cases e : i = n
      · subst e
        rcases Int.lt_or_le (s i) (s (fE s t top i).toNat) with r | r
        · exact absurd ⟨ht, Or.inr r⟩ q
        · exact r
      · exact g.2.2 i (by omega) ht
theorem fE_cnt (s t : Nat → Int) (top : Int) (n : Nat) {x : Int} (hx : x < 1000000) : 0 < cN (fun i => decide (t i = top ∧ s i ≤ x)) n ↔ (if fE s t top n < 0 then 1000000 else s (fE s t top n).toNat) ≤ x := by
  rw [cN_pos]
  split
  next h =>
    constructor
    · rintro ⟨i, h1, h2⟩
      exact absurd (of_decide_eq_true h2).1 (fE_neg s t top n h i h1)
    · intro q; omega
  next h =>
    have g := fE_ok s t top n (by omega)
    constructor
    · rintro ⟨i, h1, h2⟩
      have h3 := of_decide_eq_true h2
      have := g.2.2 i h1 h3.1
      omega
    · intro q
      exact ⟨_, g.1, decide_eq_true ⟨g.2.1, q⟩⟩
theorem TR.foot {τ ρ : xM} {m x : Int} (h : TR τ ρ m) (hl : LA τ) (hx : m ≤ x) (hx2 : x < 1000000) : 0 < mEnds x ρ 0 12 ↔ τ 0 2 ≤ x := by
  rw [ends_foot, ← h.ft x hx, fE_cnt _ _ _ _ hx2, hl.f]
  rfl
theorem TR.top {τ ρ : xM} {m x : Int} (h : TR τ ρ m) (hx : m ≤ x) (hx2 : x < 1000000) : 0 < mEnds x ρ 0 13 ↔ (if tE τ 1 < 0 then 1000000 else τ 3 (tE τ 1).toNat) ≤ x := by
  rw [ends_top, ← h.tp x hx, fE_cnt _ _ _ _ hx2]
theorem TR.upx {τ ρ : xM} {m x : Int} (h : TR τ ρ m) (hx : m ≤ x) : bI (mUp (mEnds x ρ)) = 0 ↔ τ 0 10 ≤ x := by
  rw [ends_mUp, h.up x hx]
  omega
theorem TR.dnx {τ ρ : xM} {m x : Int} (h : TR τ ρ m) (hx : m ≤ x) : bI (mDn (mEnds x ρ)) = 0 ↔ τ 0 11 ≤ x := by
  rw [ends_mDn, h.dn x hx]
  omega
theorem TR.down {τ ρ : xM} {m x : Int} (h : TR τ ρ m) (hl : LA τ) (hI : MI (ρ 2)) (hx : m ≤ x) (hx2 : x < 1000000) : (0 < mEnds x ρ 0 13 ∧ mLD (mEnds x ρ) x) ↔ τ 0 1 ≤ x := by
  have a1 := h.top hx hx2
  have a2 := h.upx hx
  have a3 := h.dh x hx
  have a4 := h.dv
  have a5 := h.c6
  have a6 := mSing_in hI
  have e17 := ends_0 x ρ (j := 17) (by decide) (by decide)
  have e16 := ends_0 x ρ (j := 16) (by decide) (by decide)
  show (0 < mEnds x ρ 0 13 ∧ mEnds x ρ 0 17 ≤ x ∧ mEnds x ρ 2 9 ≤ x - mEnds x ρ 0 16 ∧ (mSing (mEnds x ρ 2) = 0 ∨ bI (mUp (mEnds x ρ)) = 0)) ↔ _
  rw [e17, e16, mEnds_2, hl.d, a1]
  have b1 : tD τ ≤ x ↔ τ 0 12 ≤ x ∧ τ 0 14 ≤ x ∧ (τ 0 6 = 0 ∨ τ 0 10 ≤ x) := by
    unfold tD
    split <;> omega
  have b2 : tDF τ ≤ x ↔ (if tE τ 1 < 0 then 1000000 else τ 3 (tE τ 1).toNat) ≤ x ∧ tD τ ≤ x := by
    unfold tDF
    split
    · omega
    · omega
  rw [b2, b1]
  have b3 : τ 0 6 = 0 ↔ mSing (ρ 2) = 0 := by
    rw [a5]
    split <;> omega
  rw [b3, ← a4]
  constructor
  · rintro ⟨p1, p2, p3, p4⟩
    exact ⟨p1, p2, a3.2 p3, p4.imp_right a2.1⟩
  · rintro ⟨p1, p2, p3, p4⟩
    exact ⟨p1, p2, a3.1 p3, p4.imp_right a2.2⟩
theorem TR.upk {τ ρ : xM} {m x : Int} (h : TR τ ρ m) (hl : LA τ) (hI : MI (ρ 2)) (hx : m ≤ x) (hx2 : x < 1000000) (t : Int) (hk : mKind (ρ 2) t ≠ 3) : (mHE (mEnds x ρ) t ∧ mLU (mEnds x ρ) x t) ↔ τ 1 (mKind (ρ 2) t).toNat ≤ x := by
  have a1 := h.foot hl hx hx2
  have a2 := h.upx hx
  have a2' := h.dnx hx
  have a3 := h.uh x hx
  have a4 := h.dv
  have a5 := h.c6
  have a6 := mSing_in hI
  have hk3 := mKind_in (ρ 2) t
  have e17 := ends_0 x ρ (j := 17) (by decide) (by decide)
  have e15 := ends_0 x ρ (j := 15) (by decide) (by decide)
  show ((mKind (mEnds x ρ 2) t = 0 ∨ 0 < mEnds x ρ 0 12) ∧ mEnds x ρ 0 17 ≤ x ∧ mEnds x ρ 2 9 ≤ x - mEnds x ρ 0 15 ∧ (mSing (mEnds x ρ 2) ≤ 0 ∨ bI (mDn (mEnds x ρ)) = 0) ∧ (mKind (mEnds x ρ 2) t ≠ 2 ∨ (bI (mUp (mEnds x ρ)) = 0 ∧ bI (mDn (mEnds x ρ)) = 0))) ↔ _
  rw [e17, e15, mEnds_2, a1, ← a3, ← a4, hl.f, a2, a2']
  have b1 : tU τ ≤ x ↔ τ 0 12 ≤ x ∧ τ 0 13 ≤ x ∧ (mSing (ρ 2) ≤ 0 ∨ τ 0 11 ≤ x) := by
    have b3 : τ 0 6 = 0 ↔ mSing (ρ 2) ≤ 0 := by
      rw [a5]
      split <;> omega
    rw [← b3]
    unfold tU
    split <;> omega
  have e : mKind (ρ 2) t = 0 ∨ mKind (ρ 2) t = 1 ∨ mKind (ρ 2) t = 2 := by omega
  rcases e with e | e | e
  · rw [e, show (0 : Int).toNat = 0 from rfl, hl.u0, b1]
    omega
  · rw [e, show (1 : Int).toNat = 1 from rfl, hl.u1]
    omega
  · rw [e, show (2 : Int).toNat = 2 from rfl, hl.u2]
    omega
theorem TR.ends {τ ρ : xM} {m : Int} (h : TR τ ρ m) : TR τ (mEnds m ρ) m := by
  have e2 := mEnds_2 m ρ
  refine ⟨h.b, by rw [e2]; exact h.c7, by rw [e2]; exact h.c5, by rw [e2]; exact h.c4, by rw [e2]; exact h.c6, by rw [e2]; exact h.c2, fun x hx => by rw [ends_fo hx]; exact h.ft x hx, fun x hx => by rw [ends_to hx]; exact h.tp x hx, fun x hx => by rw [ends_up hx]; exact h.up x hx, fun x hx => by rw [ends_dn hx]; exact h.dn x hx, by rw [ends_0 m ρ (by decide) (by decide)]; exact h.dv, fun x hx => by rw [e2, ends_0 m ρ (by decide) (by decide)]; exact h.uh x hx, fun x hx => by rw [e2, ends_0 m ρ (by decide) (by decide)]; exact h.dh x hx, by rw [e2]; exact h.dd⟩
theorem TR.mono {τ ρ : xM} {m n : Int} (h : TR τ ρ m) (hn : m ≤ n) : TR τ ρ n := ⟨h.b, h.c7, h.c5, h.c4, h.c6, h.c2, fun x hx => h.ft x (by omega), fun x hx => h.tp x (by omega), fun x hx => h.up x (by omega), fun x hx => h.dn x (by omega), h.dv, fun x hx => h.uh x (by omega), fun x hx => h.dh x (by omega), by have := h.dd; omega⟩
