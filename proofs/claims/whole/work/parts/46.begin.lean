/-! THE CLASS, Day: one begins -/
theorem TR_congr {τ σ ρ : xM} {m : Int} (e0 : σ 0 = τ 0) (e2 : σ 2 = τ 2) (e3 : σ 3 = τ 3) (e4 : σ 4 = τ 4) (h : TR τ ρ m) : TR σ ρ m := by
  unfold TR TB4 at h ⊢
  rw [e0, e2, e3, e4]
  exact h
theorem LA_congr {τ σ : xM} (e0 : σ 0 = τ 0) (e1 : σ 1 = τ 1) (e3 : σ 3 = τ 3) (e4 : σ 4 = τ 4) (h : LA τ) : LA σ := by
  have et : ∀ top, tE σ top = tE τ top := fun top => tE_c e3 e4 (by rw [e0]) top
  unfold LA tFt tU tDF tD at h ⊢
  rw [e0, e1, e3, et, et]
  exact h
theorem dT_mrg (μ L : xM) : dT (x_mrg [4, 5, 6, 7, 8] μ L) 0 = L 0 ∧ dT (x_mrg [4, 5, 6, 7, 8] μ L) 1 = L 1 ∧ dT (x_mrg [4, 5, 6, 7, 8] μ L) 2 = L 2 ∧ dT (x_mrg [4, 5, 6, 7, 8] μ L) 3 = L 3 ∧ dT (x_mrg [4, 5, 6, 7, 8] μ L) 4 = L 4 := ⟨rfl, rfl, rfl, rfl, rfl⟩
theorem DR.down {μ ρ : xM} {m : Int} (h : DR μ ρ m) (hm : 0 ≤ m ∧ m ≤ 10000) : mDownNow (mEnds m ρ) m ↔ μ 4 1 ≤ m ∧ bI (decide (hOf μ 9 12 = 1 ∧ μ 4 2 ≤ m ∧ bI (mWaiting (mEnds m ρ) m) ≠ 0)) = 0 := by
  obtain ⟨hW, hT, hL, hD, -⟩ := h
  have m6 : m < 1000000 := by omega
  have fd : (0 < mEnds m ρ 0 13 ∧ mLD (mEnds m ρ) m) ↔ μ 4 1 ≤ m := hT.down hL hD.1 (Int.le_refl m) m6
  have ff : 0 < mEnds m ρ 0 12 ↔ μ 4 2 ≤ m := hT.foot hL (Int.le_refl m) m6
  have e2 : mEnds m ρ 2 = hOf μ 9 := by rw [mEnds_2]; exact hW.2.1
  have h12 : 0 ≤ hOf μ 9 12 ∧ hOf μ 9 12 ≤ 1 := hW.1.2.2.2.2.2.2.2.2.2.2.2.2.1
  have hDe := DI_ends hD m
  have f0 := hDe.2.1.1
  show (0 < mEnds m ρ 0 13 ∧ mLD (mEnds m ρ) m ∧ (mEnds m ρ 2 12 = 0 ∨ mEnds m ρ 0 12 = 0 ∨ bI (mWaiting (mEnds m ρ) m) = 0)) ↔ _
  rw [← fd, e2]
  have hh : bI (decide (hOf μ 9 12 = 1 ∧ μ 4 2 ≤ m ∧ bI (mWaiting (mEnds m ρ) m) ≠ 0)) = 0 ↔ (hOf μ 9 12 = 0 ∨ mEnds m ρ 0 12 = 0 ∨ bI (mWaiting (mEnds m ρ) m) = 0) := by
    clear fd hT hL hD hDe hW
    constructor
    · intro q
      have q2 := bd_of_f q
      clear q
      generalize bI (mWaiting (mEnds m ρ) m) = w at *
      omega
    · intro q
      refine (bd_f ?_).symm
      generalize bI (mWaiting (mEnds m ρ) m) = w at *
      omega
  rw [hh]
  exact ⟨fun q => ⟨⟨q.1, q.2.1⟩, q.2.2⟩, fun q => ⟨q.1.1, q.1.2, q.2⟩⟩
theorem DR.afterD {μ ρ : xM} {m : Int} (h : DR μ ρ m) (hm : 0 ≤ m ∧ m ≤ 10000) (hd : mDownNow (mEnds m ρ) m) : DR (x_st (x_mrg [4, 5, 6, 7, 8] μ (lkA (cdT2 (dT μ) m))) 0 2 (μ 0 2 + 1)) (mMin m ρ) (m + 1) := by
  have hdn := (h.down hm).1 hd
  obtain ⟨hW, hT, hL, hD, hc⟩ := h
  have hDe := DI_ends hD m
  have hfr := mFrN_ok 6 0 rfl (mFree_ex hDe)
  have hT2 := TR_lkA (hT.ends.downS hL hDe hm hfr.1 hfr.2 hdn.1)
  have hM : mMin m ρ = mGD (mEnds m ρ) (mFree (mEnds m ρ)) m := by
    unfold mMin mMin1
    exact if_pos hd
  rw [hM]
  have g := dT_mrg μ (lkA (cdT2 (dT μ) m))
  have hLA := LA_lkA (cdT2 (dT μ) m)
  have hin := (LA_in hT2.b hLA).1
  refine ⟨⟨hW.1, ?_, hin, fun t t0 t1 => ?_⟩, TR_congr g.1 g.2.2.1 g.2.2.2.1 g.2.2.2.2 hT2, LA_congr g.1 g.2.1 g.2.2.2.1 g.2.2.2.2 hLA, DI_GD hDe hm hfr.1 hfr.2 hd.1, ?_⟩
  · exact (mEnds_2 m ρ).trans hW.2.1
  · have e9 : mGD (mEnds m ρ) (mFree (mEnds m ρ)) m 9 = ρ 9 := mEnds_9 m ρ
    rw [e9]
    exact hW.2.2.2 t t0 t1
  · show μ 0 2 + 1 = mEnds m ρ 0 14 + 1
    rw [ends_0 m ρ (by decide) (by decide), hc]
