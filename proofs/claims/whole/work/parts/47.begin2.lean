/-! THE CLASS, Day: a train begins, or none -/
theorem DR.none {μ ρ : xM} {m : Int} (h : DR μ ρ m) : DR μ (mEnds m ρ) m := by
  obtain ⟨hW, hT, hL, hD, hc⟩ := h
  refine ⟨⟨hW.1, (mEnds_2 m ρ).trans hW.2.1, hW.2.2.1, ?_⟩, hT.ends, hL, DI_ends hD m, by rw [ends_0 m ρ (by decide) (by decide)]; exact hc⟩
  rw [mEnds_9]
  exact hW.2.2.2
theorem DR.afterU {μ ρ : xM} {m : Int} (h : DR μ ρ m) (hm : 0 ≤ m ∧ m ≤ 10000) (hd : ¬ mDownNow (mEnds m ρ) m) (hb : 0 ≤ mBest (mEnds m ρ) m) : mBest (mEnds m ρ) m < μ 9 3 ∧ mKind (hOf μ 9) (mBest (mEnds m ρ) m) ≠ 3 ∧ DR (x_st (x_mrg [4, 5, 6, 7, 8] μ (lkA (guT2 (dT μ) (mKind (hOf μ 9) (mBest (mEnds m ρ) m)) m))) 1 (mBest (mEnds m ρ) m).toNat m) (mMin m ρ) (m + 1) := by
  obtain ⟨hW, hT, hL, hD, hc⟩ := h
  have hDe := DI_ends hD m
  have e2 : mEnds m ρ 2 = hOf μ 9 := by rw [mEnds_2]; exact hW.2.1
  have hM : mMin m ρ = mGU (mEnds m ρ) m (mBest (mEnds m ρ) m) := by
    unfold mMin mMin1
    rw [if_neg hd]
    exact if_pos hb
  have hbn := mBsN_in (mEnds m ρ) m (mEnds m ρ 2 1).toNat
  have hcan : mBest (mEnds m ρ) m < ((mEnds m ρ 2 1).toNat : Int) ∧ mCan (mEnds m ρ) m (mBest (mEnds m ρ) m) := by
    rcases hbn with q | q
    · have : mBest (mEnds m ρ) m = -9 := q
      exact absurd hb (by rw [this]; decide)
    · exact ⟨q.2.1, q.2.2⟩
  clear hbn
  rw [hM]
  generalize mBest (mEnds m ρ) m = t at *
  obtain ⟨hlt, hca⟩ := hcan
  have h10 : 0 ≤ mEnds m ρ 2 1 := by rw [e2]; exact hW.1.2.1.1
  have hlt2 : t < mEnds m ρ 2 1 := by
    clear hca
    omega
  have hk : mKind (mEnds m ρ 2) t ≠ 3 := hca.1.2.2
  have h9 : mEnds m ρ 9 t.toNat < 0 := hca.1.1
  have hf : mKind (mEnds m ρ 2) t ≠ 0 → dT μ 0 2 ≤ m := fun q => by
    rcases hca.2.1 with r | r
    · exact absurd r q
    · exact (hT.foot hL (Int.le_refl m) (Int.lt_of_le_of_lt hm.2 (by decide))).1 r
  have hT2 := TR_lkA (hT.ends.upS hL hDe hm ⟨hb, hlt2⟩ hk h9 hf)
  have hGI := DI_GU hDe hm ⟨hb, hlt2⟩ ⟨h9, hk⟩ hca.2.1
  rw [e2] at hT2 hk
  have hl3 : t < μ 9 3 := by
    rw [e2] at hlt2
    exact hlt2
  have g := dT_mrg μ (lkA (guT2 (dT μ) (mKind (hOf μ 9) t) m))
  have hLA := LA_lkA (guT2 (dT μ) (mKind (hOf μ 9) t) m)
  have hin := (LA_in hT2.b hLA).1
  refine ⟨hl3, hk, ⟨hW.1, e2, hin, fun u u0 u1 => ?_⟩, TR_congr g.1 g.2.2.1 g.2.2.2.1 g.2.2.2.2 hT2, LA_congr g.1 g.2.1 g.2.2.2.1 g.2.2.2.2 hLA, hGI, ?_⟩
  · have hw := hW.2.2.2 u u0 u1
    have e9 : mGU (mEnds m ρ) m t 9 u.toNat = if u.toNat = t.toNat then m else ρ 9 u.toNat := by
      have : mGU (mEnds m ρ) m t 9 u.toNat = if u.toNat = t.toNat then m else mEnds m ρ 9 u.toNat := rfl
      rw [this, mEnds_9]
    have e1 : x_st (x_mrg [4, 5, 6, 7, 8] μ (lkA (guT2 (dT μ) (mKind (hOf μ 9) t) m))) 1 t.toNat m 1 u.toNat = if u.toNat = t.toNat then m else μ 1 u.toNat := rfl
    rw [e9, e1]
    refine ⟨?_, hw.2.1, hw.2.2.1, ?_, ?_⟩
    · split
      · rfl
      · exact hw.1
    · split
      · exact Or.inr hm.1
      · exact hw.2.2.2.1
    · split
      · exact hm.2
      · exact hw.2.2.2.2
  · show μ 0 2 = mEnds m ρ 0 14
    rw [ends_0 m ρ (by decide) (by decide), hc]
set_option maxRecDepth 100000 in
set_option maxHeartbeats 4000000 in
theorem s0_beginOne (μ ρ : xM) (m : Int) (hm : 0 ≤ m ∧ m ≤ 10000) (hR : DR μ ρ m) : X E0 shDay 3 yX0_beginOne cX0_beginOne 3 (some .boolean) 0 [some (.inr (.inl 0)), some (.inl m), none] [] μ (fun r μ' => hOf μ' 9 = hOf μ 9 ∧ ((r = some (.inl 1) ∧ DR μ' (mMin m ρ) (m + 1)) ∨ (r = some (.inl 0) ∧ μ' = μ ∧ ¬ mDownNow (mEnds m ρ) m ∧ ¬ 0 ≤ mBest (mEnds m ρ) m))) := by
  have hW := hR.1
  have hin := LA_in hR.2.1.b hR.2.2.1
  have hd1 : 0 ≤ μ 4 1 ∧ μ 4 1 ≤ 1000000 := hin.2.1
  have hd2 : 0 ≤ μ 4 2 ∧ μ 4 2 ≤ 1000000 := hin.2.2
  have hdn := hR.down hm
  have KD : mDownNow (mEnds m ρ) m → DR (x_st (x_mrg [4, 5, 6, 7, 8] μ (lkA (cdT2 (dT μ) m))) 0 2 (μ 0 2 + 1)) (mMin m ρ) (m + 1) := hR.afterD hm
  have KU := hR.afterU hm
  have hTB := hR.2.1.b
  have h8 : 0 ≤ μ 9 3 ∧ μ 9 3 ≤ 8 := hW.1.2.1
  have K39 : ¬ mDownNow (mEnds m ρ) m → X E0 shDay 3 yX0_beginOne cX0_beginOne 3 (some .boolean) 39 [some (.inr (.inl 0)), some (.inl m), none] [] μ (fun r μ' => hOf μ' 9 = hOf μ 9 ∧ ((r = some (.inl 1) ∧ DR μ' (mMin m ρ) (m + 1)) ∨ (r = some (.inl 0) ∧ μ' = μ ∧ ¬ mDownNow (mEnds m ρ) m ∧ ¬ 0 ≤ mBest (mEnds m ρ) m))) := by
    intro hnd
    by_cases hb : 0 ≤ mBest (mEnds m ρ) m
    · obtain ⟨k1, k2, k3⟩ := KU hnd hb
      have hf := s0_firstThatCan μ ρ m hm hR
      have ef : fnd (mBest (mEnds m ρ) m) = mBest (mEnds m ρ) m := if_neg (Int.not_lt.mpr hb)
      rw [ef] at hf
      have ek := (hW.2.2.2 _ hb k1).2.1
      have hk := mKind_in (hOf μ 9) (mBest (mEnds m ρ) m)
      clear hdn KD KU hnd
      generalize mBest (mEnds m ρ) m = t at *
      refine x_aload_n (i := 0) dX0_beginOne_39 rfl rfl ?_
      refine x_iload_n (i := 1) dX0_beginOne_40 rfl rfl ?_
      refine x_cIp0_1 lk_RX0_90 xm_X0_firstThatCan dX0_beginOne_41 (hf) ?_
      refine x_istore_2 dX0_beginOne_44 (by decide) rfl ?_
      refine x_iload_n (i := 2) dX0_beginOne_45 rfl rfl ?_
      refine x_if_ge (tgt := 51) dX0_beginOne_46 (by decide) (by first | (unfold x_in; omega) | (unfold x_in; decide)) (fun c1 => ?_) (fun c1 => ?_)
      · refine x_aload_n (i := 0) dX0_beginOne_51 rfl rfl ?_
        refine x_getR xf_RX0_25 dX0_beginOne_52 rfl rfl ?_
        refine x_aload_n (i := 0) dX0_beginOne_55 rfl rfl ?_
        refine x_getR xf_RX0_29 dX0_beginOne_56 rfl rfl ?_
        refine x_iload_n (i := 2) dX0_beginOne_59 rfl rfl ?_
        refine x_iald dX0_beginOne_60 rfl (by decide) (by first | omega | decide) (by first | omega | decide) ?_
        rw [ek]
        refine x_iload_n (i := 1) dX0_beginOne_61 rfl rfl ?_
        refine x_cVf_2 [4, 5, 6, 7, 8] lk_RX0_93 xm_X4_goUp dX0_beginOne_62 (s4_goUp _ m (by omega) hm (dT μ) hTB) ?_
        refine x_aload_n (i := 0) dX0_beginOne_65 rfl rfl ?_
        refine x_getR xf_RX0_18 dX0_beginOne_66 rfl rfl ?_
        refine x_iload_n (i := 2) dX0_beginOne_69 rfl rfl ?_
        refine x_iload_n (i := 1) dX0_beginOne_70 rfl rfl ?_
        refine x_iast dX0_beginOne_71 rfl (by decide) (by first | omega | decide) (by first | omega | decide) ?_
        refine x_iconst dX0_beginOne_72 ?_
        refine x_iret dX0_beginOne_73 rfl (x_narZ (by first | exact Or.inl rfl | exact Or.inr rfl | omega)) ?_
        exact ⟨rfl, Or.inl ⟨rfl, k3⟩⟩
      · exact absurd c1 (by omega)
    · have hf := s0_firstThatCan μ ρ m hm hR
      have ef : fnd (mBest (mEnds m ρ) m) = -1 := if_pos (Int.not_le.mp hb)
      rw [ef] at hf
      clear hdn KD KU
      refine x_aload_n (i := 0) dX0_beginOne_39 rfl rfl ?_
      refine x_iload_n (i := 1) dX0_beginOne_40 rfl rfl ?_
      refine x_cIp0_1 lk_RX0_90 xm_X0_firstThatCan dX0_beginOne_41 (hf) ?_
      refine x_istore_2 dX0_beginOne_44 (by decide) rfl ?_
      refine x_iload_n (i := 2) dX0_beginOne_45 rfl rfl ?_
      refine x_if_ge (tgt := 51) dX0_beginOne_46 (by decide) (by first | (unfold x_in; omega) | (unfold x_in; decide)) (fun c1 => ?_) (fun c1 => ?_)
      · exact absurd c1 (by omega)
      · refine x_iconst dX0_beginOne_49 ?_
        refine x_iret dX0_beginOne_50 rfl (x_narZ (by first | exact Or.inl rfl | exact Or.inr rfl | omega)) ?_
        exact ⟨rfl, Or.inr ⟨rfl, rfl, hnd, hb⟩⟩
  have hh := s0_hangs μ ρ hW m hm hd2
  clear KU
  refine x_aload_n (i := 0) dX0_beginOne_0 rfl rfl ?_
  refine x_getR xf_RX0_25 dX0_beginOne_1 rfl rfl ?_
  refine x_getI xf_RX0_80 dX0_beginOne_4 rfl rfl ?_
  refine x_iload_n (i := 1) dX0_beginOne_7 rfl rfl ?_
  refine x_icmp_gt (tgt := 39) dX0_beginOne_8 (by decide) (by first | exact bIx _ | (clear hdn; unfold x_in; omega) | (unfold x_in; decide)) (by first | exact bIx _ | (clear hdn; unfold x_in; omega) | (unfold x_in; decide)) (fun c1 => ?_) (fun c1 => ?_)
  · first | exact K39 (fun q => absurd (hdn.1 q).1 (Int.not_le.mpr c1)) | exact K39 (fun q => c2 (hdn.1 q).2)
  · refine x_aload_n (i := 0) dX0_beginOne_11 rfl rfl ?_
    refine x_iload_n (i := 1) dX0_beginOne_12 rfl rfl ?_
    refine x_cIp0_1 lk_RX0_83 xm_X0_hangs dX0_beginOne_13 (hh) ?_
    refine x_if_ne (tgt := 39) dX0_beginOne_16 (by decide) (by first | exact bIx _ | (clear hdn; unfold x_in; omega) | (unfold x_in; decide)) (fun c2 => ?_) (fun c2 => ?_)
    · first | exact K39 (fun q => absurd (hdn.1 q).1 (Int.not_le.mpr c1)) | exact K39 (fun q => c2 (hdn.1 q).2)
    · refine x_aload_n (i := 0) dX0_beginOne_19 rfl rfl ?_
      refine x_getR xf_RX0_25 dX0_beginOne_20 rfl rfl ?_
      refine x_iload_n (i := 1) dX0_beginOne_23 rfl rfl ?_
      refine x_cVf_1 [4, 5, 6, 7, 8] lk_RX0_86 xm_X4_comeDown dX0_beginOne_24 (s4_comeDown m hm (dT μ) hTB) ?_
      refine x_aload_n (i := 0) dX0_beginOne_27 rfl rfl ?_
      first | refine x_dupR dX0_beginOne_28 ?_ | refine x_dupI dX0_beginOne_28 ?_
      refine x_getI xf_RX0_59 dX0_beginOne_29 rfl rfl ?_
      try simp (decide := true) only [x_st_at, ↓reduceIte, if_true, if_false]
      refine x_iconst dX0_beginOne_32 ?_
      refine x_iadd dX0_beginOne_33 ?_
      refine x_putI xp_RX0_59 dX0_beginOne_34 rfl rfl ?_
      refine x_iconst dX0_beginOne_37 ?_
      refine x_iret dX0_beginOne_38 rfl (x_narZ (by first | exact Or.inl rfl | exact Or.inr rfl | omega)) ?_
      exact ⟨rfl, Or.inl ⟨rfl, KD (hdn.2 ⟨c1, c2⟩)⟩⟩
