/-! THE DAY: minutes that are jumped over -/
theorem mWt_mono {ρ σ : xM} {m x : Int} (h2 : σ 2 = ρ 2) (h9 : σ 9 = ρ 9) (hx : m ≤ x) : ∀ k : Nat, mWtN (mEnds m ρ) m k = true → mWtN (mEnds x σ) x k = true
  | 0, h => by cases h
  | k + 1, h => by
    rw [mWtN, Bool.or_eq_true, decide_eq_true_eq] at h ⊢
    rcases h with h | h
    · exact Or.inl (mWt_mono h2 h9 hx k h)
    · refine Or.inr ?_
      have e1 : mEnds m ρ 2 = ρ 2 := mEnds_2 m ρ
      have e2 : mEnds x σ 2 = ρ 2 := (mEnds_2 x σ).trans h2
      have e3 : mEnds m ρ 9 = ρ 9 := mEnds_9 m ρ
      have e4 : mEnds x σ 9 = ρ 9 := (mEnds_9 x σ).trans h9
      have h' : mEnds m ρ 9 (k : Int).toNat < 0 ∧ mCm (mEnds m ρ 2) k ≤ m ∧ mKind (mEnds m ρ 2) k ≠ 3 := h
      show mEnds x σ 9 (k : Int).toNat < 0 ∧ mCm (mEnds x σ 2) k ≤ x ∧ mKind (mEnds x σ 2) k ≠ 3
      rw [e1, e3] at h'
      rw [e2, e4]
      exact ⟨h'.1, Int.le_trans h'.2.1 hx, h'.2.2⟩
theorem DR.mono {μ ρ : xM} {m n : Int} (h : DR μ ρ m) (hn : m ≤ n) : DR μ ρ n := ⟨h.1, h.2.1.mono hn, h.2.2⟩
/-- at a minute before the next chance nothing begins -/
theorem DR.still {μ ρ σ : xM} {m x : Int} (h : DR μ ρ m) (hm : 0 ≤ m ∧ m ≤ 10000) (hx : m ≤ x ∧ x ≤ 10000) (hs : DR μ σ x) (h9 : σ 9 = ρ 9) (hd : ¬ mDownNow (mEnds m ρ) m) (hb : ¬ 0 ≤ mBest (mEnds m ρ) m) (hv : x < max (dNxN μ ρ m (μ 9 3).toNat) (m + 1)) : x = m ∧ σ = ρ ∨ m < x → mMin x σ = mEnds x σ := by
  intro hc
  rcases hc with ⟨e, e'⟩ | hlt
  · rw [e, e']
    unfold mMin mMin1
    rw [if_neg hd, if_neg hb]
  · have hW := h.1
    have hl := dNxN_lt (μ := μ) (ρ := ρ) (m := m) (x := x) (μ 9 3).toNat (by omega)
    have e2 : σ 2 = ρ 2 := hs.1.2.1.trans hW.2.1.symm
    have x6 : x < 1000000 := by omega
    have hnb : ¬ 0 ≤ mBest (mEnds x σ) x := by
      intro q
      have hbn := mBsN_in (mEnds x σ) x (mEnds x σ 2 1).toNat
      rcases hbn with r | r
      · have : mBest (mEnds x σ) x = -9 := r
        rw [this] at q
        exact absurd q (by decide)
      · have r2 : mBest (mEnds x σ) x < ((mEnds x σ 2 1).toNat : Int) := r.2.1
        have r3 : mCan (mEnds x σ) x (mBest (mEnds x σ) x) := r.2.2
        have r4 := (dCF_can hs (Int.le_refl x) x6 q).2 r3
        have et : mEnds x σ 2 = hOf μ 9 := (mEnds_2 x σ).trans hs.1.2.1
        rw [et] at r2
        have r5 := hl.2 (mBest (mEnds x σ) x).toNat (by
          have : mBest (mEnds x σ) x < ((μ 9 3).toNat : Int) := r2
          clear r r3 r4
          omega)
        rw [show (((mBest (mEnds x σ) x).toNat : Nat) : Int) = mBest (mEnds x σ) x from nat_back q] at r5
        have ec : dCF μ ρ (mBest (mEnds x σ) x) = dCF μ σ (mBest (mEnds x σ) x) := by
          unfold dCF dTo
          rw [h9]
        rw [ec] at r5
        exact absurd r4 (Int.not_le.mpr r5)
    have hnd : ¬ mDownNow (mEnds x σ) x := by
      intro q
      have q1 := (hs.down ⟨Int.le_trans hm.1 hx.1, hx.2⟩).1 q
      rcases hl.1 with r | r
      · refine hd ((h.down hm).2 ⟨r, ?_⟩)
        refine (bd_f (fun w => ?_)).symm
        refine (bd_of_f q1.2) ⟨w.1, Int.le_trans w.2.1 hx.1, ?_⟩
        have w3 := bI_t w.2.2
        have et : mEnds x σ 2 = mEnds m ρ 2 := (mEnds_2 x σ).trans (e2.trans (mEnds_2 m ρ).symm)
        have w4 : mWaiting (mEnds x σ) x = true := by
          show mWtN (mEnds x σ) x (mEnds x σ 2 1).toNat = true
          rw [et]
          exact mWt_mono e2 h9 hx.1 _ w3
        rw [w4]
        decide
      · exact absurd q1.1 (Int.not_le.mpr r)
    unfold mMin mMin1
    rw [if_neg hnd, if_neg hnb]
