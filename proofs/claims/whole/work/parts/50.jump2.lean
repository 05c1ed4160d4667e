/-! THE DAY: the jump -/
theorem DR.jump {μ ρ0 : xM} {m : Int} (h : DR μ (mRun ρ0 m.toNat) m) (hm : 0 ≤ m ∧ m ≤ 1440) (hd : ¬ mDownNow (mEnds m (mRun ρ0 m.toNat)) m) (hb : ¬ 0 ≤ mBest (mEnds m (mRun ρ0 m.toNat)) m) : ∀ n : Nat, m + n ≤ max (dNxN μ (mRun ρ0 m.toNat) m (μ 9 3).toNat) (m + 1) → m + n ≤ 1441 → DR μ (mRun ρ0 (m.toNat + n)) (m + n) ∧ mRun ρ0 (m.toNat + n) 9 = mRun ρ0 m.toNat 9
  | 0, _, _ => by
    rw [show m + ((0 : Nat) : Int) = m by omega]
    exact ⟨h, rfl⟩
  | n + 1, hv, h1 => by
    obtain ⟨hs, h9⟩ := DR.jump h hm hd hb n (by omega) (by omega)
    have hx : m ≤ m + (n : Int) ∧ m + (n : Int) ≤ 10000 := by omega
    have hst := DR.still h (by omega) hx hs h9 hd hb (by omega) (by
      by_cases e : n = 0
      · subst e
        exact Or.inl ⟨by omega, rfl⟩
      · exact Or.inr (by omega))
    have er : mRun ρ0 (m.toNat + (n + 1)) = mMin (m + (n : Int)) (mRun ρ0 (m.toNat + n)) := by
      show mMin ((m.toNat + n : Nat) : Int) (mRun ρ0 (m.toNat + n)) = _
      rw [show ((m.toNat + n : Nat) : Int) = m + (n : Int) by omega]
    rw [er, hst]
    refine ⟨(hs.none).mono (by omega), ?_⟩
    rw [mEnds_9]
    exact h9
