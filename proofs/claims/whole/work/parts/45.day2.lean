/-! THE CLASS, Day: the first that can -/
abbrev dT (μ : xM) : xM := x_ct [4, 5, 6, 7, 8] μ
def DR (μ ρ : xM) (m : Int) : Prop := DW μ ρ ∧ TR (dT μ) ρ m ∧ LA (dT μ) ∧ DI ρ ∧ μ 0 2 = ρ 0 14
theorem LA_in {τ : xM} (h : TB4 τ) (hl : LA τ) : (∀ k : Nat, k < 3 → 0 ≤ τ 1 k ∧ τ 1 k ≤ 1000000) ∧ (0 ≤ τ 0 1 ∧ τ 0 1 ≤ 1000000) ∧ (0 ≤ τ 0 2 ∧ τ 0 2 ≤ 1000000) := by
  have ht0 := tE_in h 0
  have ht1 := tE_in h 1
  have d10 := h.2.2.2.1 10 (by omega) (by omega)
  have d11 := h.2.2.2.1 11 (by omega) (by omega)
  have d12 := h.2.2.2.1 12 (by omega) (by omega)
  have d13 := h.2.2.2.1 13 (by omega) (by omega)
  have d14 := h.2.2.2.1 14 (by omega) (by omega)
  have hF : 0 ≤ tFt τ ∧ tFt τ ≤ 1000000 := by
    unfold tFt
    split
    · omega
    · have := (h.2.2.1 (tE τ 0).toNat (by omega)).2
      omega
  have hU : 0 ≤ tU τ ∧ tU τ ≤ 30000 := by
    unfold tU
    split <;> omega
  have hD : 0 ≤ tD τ ∧ tD τ ≤ 30000 := by
    unfold tD
    split <;> omega
  refine ⟨fun k hk => ?_, ?_, ?_⟩
  · have e : k = 0 ∨ k = 1 ∨ k = 2 := by omega
    rcases e with rfl | rfl | rfl
    · rw [hl.u0]; omega
    · rw [hl.u1]; omega
    · rw [hl.u2]; omega
  · rw [hl.d]
    unfold tDF
    split
    · omega
    · have := (h.2.2.1 (tE τ 1).toNat (by omega)).2
      omega
  · rw [hl.f]; exact hF
theorem dCF_can {μ ρ : xM} {m x : Int} (h : DR μ ρ m) (hx : m ≤ x) (hx2 : x < 1000000) {t : Int} (h0 : 0 ≤ t) : dCF μ ρ t ≤ x ↔ mCan (mEnds x ρ) x t := by
  obtain ⟨hW, hT, hL, hD, -⟩ := h
  have e2 : mEnds x ρ 2 = hOf μ 9 := by rw [mEnds_2]; exact hW.2.1
  have hwa : mWA (mEnds x ρ) x t ↔ (ρ 9 t.toNat < 0 ∧ mCm (hOf μ 9) t ≤ x ∧ mKind (hOf μ 9) t ≠ 3) := by
    show (mEnds x ρ 9 t.toNat < 0 ∧ mCm (mEnds x ρ 2) t ≤ x ∧ mKind (mEnds x ρ 2) t ≠ 3) ↔ _
    rw [mEnds_9, e2]
  show _ ↔ mWA (mEnds x ρ) x t ∧ mHE (mEnds x ρ) t ∧ mLU (mEnds x ρ) x t
  rw [hwa]
  unfold dCF
  by_cases hd : dTo μ ρ t
  · rw [if_pos hd]
    have hk : mKind (ρ 2) t ≠ 3 := by rw [hW.2.1]; exact hd.2
    have hu := hT.upk hL hD.1 hx hx2 t hk
    rw [hu, hW.2.1]
    show max (mCm (hOf μ 9) t) (μ 5 (mKind (hOf μ 9) t).toNat) ≤ x ↔ _ ∧ μ 5 (mKind (hOf μ 9) t).toNat ≤ x
    have h1 := hd.1
    have h2 := hd.2
    omega
  · rw [if_neg hd]
    constructor
    · intro q; omega
    · rintro ⟨q, -⟩
      exact absurd ⟨q.1, q.2.2⟩ hd
abbrev fnd (z : Int) : Int := if z < 0 then -1 else z
set_option maxRecDepth 100000 in
set_option maxHeartbeats 4000000 in
theorem l0_firstThatCan (μ ρ : xM) (m : Int) (hm : 0 ≤ m ∧ m ≤ 10000) (hR : DR μ ρ m) : ∀ (n : Nat) (p z : Int), 0 ≤ p → p ≤ μ 9 3 → (μ 9 3 - p).toNat < n → z = fnd (mBsN (mEnds m ρ) m p.toNat) → X E0 shDay 2 yX0_firstThatCan cX0_firstThatCan 4 (some .int) 4 [some (.inr (.inl 0)), some (.inl m), some (.inl z), some (.inl p)] [] μ (x_Q (fnd (mBest (mEnds m ρ) m)) μ) := by
  have hW := hR.1
  have h8 : 0 ≤ μ 9 3 ∧ μ 9 3 ≤ 8 := hW.1.2.1
  have e2 : mEnds m ρ 2 = hOf μ 9 := by rw [mEnds_2]; exact hW.2.1
  have eT : (mEnds m ρ 2 1).toNat = (μ 9 3).toNat := by rw [e2]; rfl
  intro n
  induction n with
  | zero => intro p z _ _ h; omega
  | succ n ih =>
    intro p z hp hp2 hn hz
    have hz1 : (-1 ≤ z ∧ z < 8) ∧ (p < μ 9 3 → z < μ 9 3) := by
      have hb := mBsN_in (mEnds m ρ) m p.toNat
      rcases hb with q | q
      · rw [hz, q]
        exact ⟨by decide, fun _ => by show (-1 : Int) < _; omega⟩
      · have q1 := q.1
        have q2 := q.2.1
        rw [hz]
        unfold fnd
        rw [if_neg (by omega)]
        clear q hz
        omega
    have hz2 : (z < 0 ↔ mBsN (mEnds m ρ) m p.toNat < 0) ∧ (0 ≤ z → z = mBsN (mEnds m ρ) m p.toNat) := by
      rw [hz]
      unfold fnd
      split
      · omega
      · omega
    have hcan : dCF μ ρ p ≤ m ↔ mCan (mEnds m ρ) m p := dCF_can hR (Int.le_refl m) (Int.lt_of_le_of_lt hm.2 (by decide)) hp
    have hcf : p < μ 9 3 → 0 ≤ dCF μ ρ p ∧ dCF μ ρ p ≤ 1000000 := fun q => dCF_in hW hp q
    have KK : ∀ z', p < μ 9 3 → z' = fnd (mBsN (mEnds m ρ) m (p + 1).toNat) → X E0 shDay 2 yX0_firstThatCan cX0_firstThatCan 4 (some .int) 4 [some (.inr (.inl 0)), some (.inl m), some (.inl z'), some (.inl (p + 1))] [] μ (x_Q (fnd (mBest (mEnds m ρ) m)) μ) := by
      intro z' hl e
      exact ih (p + 1) z' (by omega) (by omega) (by omega) e
    have KA : ¬ dCF μ ρ p ≤ m → z = fnd (mBsN (mEnds m ρ) m (p + 1).toNat) := by
      intro q
      rw [mBsN_s (mEnds m ρ) m hp, if_neg (fun r => q (hcan.2 r.1))]
      exact hz
    have KB : dCF μ ρ p ≤ m → z < 0 → p = fnd (mBsN (mEnds m ρ) m (p + 1).toNat) := by
      intro q r
      rw [mBsN_s (mEnds m ρ) m hp, if_pos ⟨hcan.1 q, Or.inl (hz2.1.1 r)⟩]
      exact (if_neg (Int.not_lt.mpr hp)).symm
    have KC : dCF μ ρ p ≤ m → 0 ≤ z → mAh (hOf μ 9) p z → p = fnd (mBsN (mEnds m ρ) m (p + 1).toNat) := by
      intro q r a
      rw [hz2.2 r] at a
      rw [mBsN_s (mEnds m ρ) m hp, if_pos ⟨hcan.1 q, Or.inr (by rw [e2]; exact a)⟩]
      exact (if_neg (Int.not_lt.mpr hp)).symm
    have KD : 0 ≤ z → ¬ mAh (hOf μ 9) p z → z = fnd (mBsN (mEnds m ρ) m (p + 1).toNat) := by
      intro r a
      rw [hz2.2 r] at a
      rw [mBsN_s (mEnds m ρ) m hp, if_neg (fun q => q.2.elim (fun w => absurd (hz2.1.2 w) (Int.not_lt.mpr r)) (fun w => a (by rw [e2] at w; exact w)))]
      exact hz
    have KE : p = μ 9 3 → z = fnd (mBest (mEnds m ρ) m) := by
      intro q
      rw [hz, q]
      show fnd (mBsN (mEnds m ρ) m (μ 9 3).toNat) = fnd (mBsN (mEnds m ρ) m (mEnds m ρ 2 1).toNat)
      rw [eT]
    clear hcan hz2 hz ih e2 eT hR
    refine x_iload_n (i := 3) dX0_firstThatCan_4 rfl rfl ?_
    refine x_aload_n (i := 0) dX0_firstThatCan_5 rfl rfl ?_
    refine x_getR xf_RX0_12 dX0_firstThatCan_6 rfl rfl ?_
    refine x_getI xf_RX0_46 dX0_firstThatCan_9 rfl rfl ?_
    refine x_icmp_ge (tgt := 45) dX0_firstThatCan_12 (by decide) (by first | (unfold x_in; omega) | (have g := hcf (by omega); unfold x_in; omega) | exact bIx _) (by first | (unfold x_in; omega) | (have g := hcf (by omega); unfold x_in; omega) | exact bIx _) (fun c1 => ?_) (fun c1 => ?_)
    · refine x_iload_n (i := 2) dX0_firstThatCan_45 rfl rfl ?_
      exact x_iret dX0_firstThatCan_46 rfl rfl (x_ok (by exact KE (by omega)) (by rfl))
    · refine x_aload_n (i := 0) dX0_firstThatCan_15 rfl rfl ?_
      refine x_iload_n (i := 3) dX0_firstThatCan_16 rfl rfl ?_
      refine x_cIp0_1 lk_RX0_106 xm_X0_canFrom dX0_firstThatCan_17 (s0_canFrom _ _ hW p ⟨hp, by omega⟩) ?_
      refine x_iload_n (i := 1) dX0_firstThatCan_20 rfl rfl ?_
      refine x_icmp_gt (tgt := 39) dX0_firstThatCan_21 (by decide) (by first | (unfold x_in; omega) | (have g := hcf (by omega); unfold x_in; omega) | exact bIx _) (by first | (unfold x_in; omega) | (have g := hcf (by omega); unfold x_in; omega) | exact bIx _) (fun c2 => ?_) (fun c2 => ?_)
      · refine x_iinc_3 dX0_firstThatCan_39 (by decide) rfl ?_
        refine x_goto (tgt := 4) dX0_firstThatCan_42 (by decide) ?_
        first | exact KK _ (by omega) (KA (by omega)) | exact KK _ (by omega) (KB (by omega) (by omega)) | exact KK _ (by omega) (KC (by omega) (by omega) (bd_of_t c4)) | exact KK _ (by omega) (KD (by omega) (bd_of_f c4))
      · refine x_iload_n (i := 2) dX0_firstThatCan_24 rfl rfl ?_
        refine x_if_lt (tgt := 37) dX0_firstThatCan_25 (by decide) (by first | (unfold x_in; omega) | (have g := hcf (by omega); unfold x_in; omega) | exact bIx _) (fun c3 => ?_) (fun c3 => ?_)
        · refine x_iload_n (i := 3) dX0_firstThatCan_37 rfl rfl ?_
          refine x_istore_2 dX0_firstThatCan_38 (by decide) rfl ?_
          refine x_iinc_3 dX0_firstThatCan_39 (by decide) rfl ?_
          refine x_goto (tgt := 4) dX0_firstThatCan_42 (by decide) ?_
          first | exact KK _ (by omega) (KA (by omega)) | exact KK _ (by omega) (KB (by omega) (by omega)) | exact KK _ (by omega) (KC (by omega) (by omega) (bd_of_t c4)) | exact KK _ (by omega) (KD (by omega) (bd_of_f c4))
        · refine x_aload_n (i := 0) dX0_firstThatCan_28 rfl rfl ?_
          refine x_iload_n (i := 3) dX0_firstThatCan_29 rfl rfl ?_
          refine x_iload_n (i := 2) dX0_firstThatCan_30 rfl rfl ?_
          refine x_cIp0_2 lk_RX0_109 xm_X0_isBefore dX0_firstThatCan_31 (s0_isBefore _ _ hW p z ⟨hp, by omega⟩ ⟨by omega, by omega⟩) ?_
          refine x_if_eq (tgt := 39) dX0_firstThatCan_34 (by decide) (by first | (unfold x_in; omega) | (have g := hcf (by omega); unfold x_in; omega) | exact bIx _) (fun c4 => ?_) (fun c4 => ?_)
          · refine x_iinc_3 dX0_firstThatCan_39 (by decide) rfl ?_
            refine x_goto (tgt := 4) dX0_firstThatCan_42 (by decide) ?_
            first | exact KK _ (by omega) (KA (by omega)) | exact KK _ (by omega) (KB (by omega) (by omega)) | exact KK _ (by omega) (KC (by omega) (by omega) (bd_of_t c4)) | exact KK _ (by omega) (KD (by omega) (bd_of_f c4))
          · refine x_iload_n (i := 3) dX0_firstThatCan_37 rfl rfl ?_
            refine x_istore_2 dX0_firstThatCan_38 (by decide) rfl ?_
            refine x_iinc_3 dX0_firstThatCan_39 (by decide) rfl ?_
            refine x_goto (tgt := 4) dX0_firstThatCan_42 (by decide) ?_
            first | exact KK _ (by omega) (KA (by omega)) | exact KK _ (by omega) (KB (by omega) (by omega)) | exact KK _ (by omega) (KC (by omega) (by omega) (bd_of_t c4)) | exact KK _ (by omega) (KD (by omega) (bd_of_f c4))
set_option maxRecDepth 100000 in
set_option maxHeartbeats 4000000 in
theorem s0_firstThatCan (μ ρ : xM) (m : Int) (hm : 0 ≤ m ∧ m ≤ 10000) (hR : DR μ ρ m) : X E0 shDay 2 yX0_firstThatCan cX0_firstThatCan 4 (some .int) 0 [some (.inr (.inl 0)), some (.inl m), none, none] [] μ (x_Q (fnd (mBest (mEnds m ρ) m)) μ) := by
  have hW := hR.1
  have h8 : 0 ≤ μ 9 3 ∧ μ 9 3 ≤ 8 := hW.1.2.1
  have e2 : mEnds m ρ 2 = hOf μ 9 := by rw [mEnds_2]; exact hW.2.1
  have eT : (mEnds m ρ 2 1).toNat = (μ 9 3).toNat := by rw [e2]; rfl
  refine x_iconst dX0_firstThatCan_0 ?_
  refine x_istore_2 dX0_firstThatCan_1 (by decide) rfl ?_
  refine x_iconst dX0_firstThatCan_2 ?_
  refine x_istore_3 dX0_firstThatCan_3 (by decide) rfl ?_
  exact l0_firstThatCan μ ρ m hm hR _ 0 _ (by omega) (by omega) (Nat.lt_succ_self _) rfl
