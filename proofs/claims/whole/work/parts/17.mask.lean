/-! THE REFERENCE: what is asked of days -/
def hset (h : Nat → Int) (k : Nat) (v : Int) : Nat → Int := fun j => if j = k then v else h j
theorem x_st_2 (μ : xM) (k : Nat) (v : Int) : x_st μ 2 k v 2 = hset (μ 2) k v := by
  funext j
  simp [x_st, hset]
theorem dAllN_in {h : Nat → Int} (hI : MI h) : ∀ k : Nat, k ≤ 8 → -600 * (k : Int) ≤ dAllN h k ∧ dAllN h k ≤ 10000 * (k : Int)
  | 0, _ => by simp [dAllN]
  | k + 1, hk => by
    have h1 := dAllN_in hI k (by omega)
    have h2 := dBeg_in hI (t := k) (by omega) (by omega)
    have h3 := mCm_in hI (t := k) (by omega) (by omega)
    rw [dAllN]
    split
    · omega
    · split <;> omega
theorem dAll_in {h : Nat → Int} (hI : MI h) : -4800 ≤ dAll h ∧ dAll h ≤ 80000 := by
  have h1 := hI.2.1
  have h2 := dAllN_in hI (h 1).toNat (by omega)
  unfold dAll
  omega
theorem dWtsN_in {h : Nat → Int} (hI : MI h) : ∀ k : Nat, k ≤ 8 → 0 ≤ dWtsN h k ∧ dWtsN h k ≤ 999 * (k : Int)
  | 0, _ => by simp [dWtsN]
  | k + 1, hk => by
    have h1 := dWtsN_in hI k (by omega)
    have h3 := mWt_in hI (t := k) (by omega) (by omega)
    rw [dWtsN]
    split <;> omega
theorem dWts_in {h : Nat → Int} (hI : MI h) : 0 ≤ dWts h ∧ dWts h ≤ 8000 := by
  have h1 := hI.2.1
  have h2 := dWtsN_in hI (h 1).toNat (by omega)
  unfold dWts
  omega
theorem Same.two {μ ν : xM} (h : Same μ ν) : ν 2 = μ 2 := h.2 2 (by decide) (by decide) (by decide) (by decide)
set_option maxRecDepth 100000 in
set_option maxHeartbeats 4000000 in
theorem l6_allOf (μ ν : xM) (hI : MI (ν 2)) (hS : Same μ ν) (hb : ∀ t : Int, 0 ≤ t → t < 8 → ν 9 t.toNat = dBeg (μ 2) t) : ∀ (n : Nat) (p : Int), 0 ≤ p → p ≤ ν 2 1 → (ν 2 1 - p).toNat < n → X E0 shM 7 yX6_allOf cX6_allOf 3 (some .int) 8 [some (.inr (.inl 0)), some (.inl (dAllN (ν 2) p.toNat)), some (.inl p)] [] ν (fun r μ' => r = some (.inl (dAll (μ 2))) ∧ Same μ μ') := by
  have h10 := hI.2.1
  intro n
  induction n with
  | zero => intro p _ _ h; omega
  | succ n ih =>
    intro p hp hp2 hn
    have hk := mKind_in (ν 2) p
    refine x_iload_n (i := 2) dX6_allOf_8 rfl rfl ?_
    refine x_aload_n (i := 0) dX6_allOf_9 rfl rfl ?_
    refine x_getR xf_RX6_13 dX6_allOf_10 rfl rfl ?_
    refine x_iconst dX6_allOf_13 ?_
    refine x_ialdK (K := 1) dX6_allOf_14 rfl rfl (by decide) (by decide) ?_
    refine x_icmp_ge (tgt := 73) dX6_allOf_15 (by decide) (by first | (unfold x_in; omega) | (unfold x_in; decide)) (by first | (unfold x_in; omega) | (unfold x_in; decide)) (fun c1 => ?_) (fun c1 => ?_)
    · refine x_iload_n (i := 1) dX6_allOf_73 rfl rfl ?_
      refine x_iret dX6_allOf_74 rfl rfl ?_
      exact ⟨by rw [show p = ν 2 1 by omega, ← hS.two]; rfl, hS⟩
    · refine x_iload_n (i := 1) dX6_allOf_18 rfl rfl ?_
      refine x_aload_n (i := 0) dX6_allOf_19 rfl rfl ?_
      refine x_getR xf_RX6_34 dX6_allOf_20 rfl rfl ?_
      refine x_iload_n (i := 2) dX6_allOf_23 rfl rfl ?_
      refine x_iald dX6_allOf_24 rfl (by decide) (by first | omega | decide) (by first | omega | decide) ?_
      have hy := hb p hp (by omega)
      rw [← hS.two] at hy
      have hz := dBeg_in hI hp (t := p) (by omega)
      rw [hy]
      refine x_if_lt (tgt := 43) dX6_allOf_25 (by decide) (by first | (unfold x_in; omega) | (unfold x_in; decide)) (fun c2 => ?_) (fun c2 => ?_)
      · refine x_aload_n (i := 0) dX6_allOf_43 rfl rfl ?_
        refine x_iload_n (i := 2) dX6_allOf_44 rfl rfl ?_
        refine x_cIp0_1 lk_RX6_112 xm_X6_kindOf dX6_allOf_45 (s6_kindOf _ (by omega) _ hI) ?_
        refine x_iconst dX6_allOf_48 ?_
        refine x_icmp_ne (tgt := 56) dX6_allOf_49 (by decide) (by first | (unfold x_in; omega) | (unfold x_in; decide)) (by first | (unfold x_in; omega) | (unfold x_in; decide)) (fun c3 => ?_) (fun c3 => ?_)
        · refine x_sipush dX6_allOf_56 (by decide) ?_
          refine x_aload_n (i := 0) dX6_allOf_59 rfl rfl ?_
          refine x_iload_n (i := 2) dX6_allOf_60 rfl rfl ?_
          refine x_cIp0_1 lk_RX6_148 xm_X6_comesAt dX6_allOf_61 (s6_comesAt _ (by omega) _) ?_
          refine x_isub dX6_allOf_64 ?_
          refine x_iadd dX6_allOf_65 ?_
          refine x_istore_1 dX6_allOf_66 (by decide) rfl ?_
          refine x_iinc_2 dX6_allOf_67 (by decide) rfl ?_
          refine x_goto (tgt := 8) dX6_allOf_70 (by decide) ?_
          have h := ih (p + 1) (by omega) (by omega) (by omega)
          rw [dAll_s _ hp] at h
          try rw [hy]
          first | (rw [if_pos (by omega)] at h; exact h) | (rw [if_neg (by omega), if_pos (by omega)] at h; exact h) | (rw [if_neg (by omega), if_neg (by omega)] at h; exact h)
        · refine x_iconst dX6_allOf_52 ?_
          refine x_goto (tgt := 65) dX6_allOf_53 (by decide) ?_
          refine x_iadd dX6_allOf_65 ?_
          refine x_istore_1 dX6_allOf_66 (by decide) rfl ?_
          refine x_iinc_2 dX6_allOf_67 (by decide) rfl ?_
          refine x_goto (tgt := 8) dX6_allOf_70 (by decide) ?_
          have h := ih (p + 1) (by omega) (by omega) (by omega)
          rw [dAll_s _ hp] at h
          try rw [hy]
          first | (rw [if_pos (by omega)] at h; exact h) | (rw [if_neg (by omega), if_pos (by omega)] at h; exact h) | (rw [if_neg (by omega), if_neg (by omega)] at h; exact h)
      · refine x_aload_n (i := 0) dX6_allOf_28 rfl rfl ?_
        refine x_getR xf_RX6_34 dX6_allOf_29 rfl rfl ?_
        refine x_iload_n (i := 2) dX6_allOf_32 rfl rfl ?_
        refine x_iald dX6_allOf_33 rfl (by decide) (by first | omega | decide) (by first | omega | decide) ?_
        refine x_aload_n (i := 0) dX6_allOf_34 rfl rfl ?_
        refine x_iload_n (i := 2) dX6_allOf_35 rfl rfl ?_
        refine x_cIp0_1 lk_RX6_148 xm_X6_comesAt dX6_allOf_36 (s6_comesAt _ (by omega) _) ?_
        refine x_isub dX6_allOf_39 ?_
        refine x_goto (tgt := 65) dX6_allOf_40 (by decide) ?_
        refine x_iadd dX6_allOf_65 ?_
        refine x_istore_1 dX6_allOf_66 (by decide) rfl ?_
        refine x_iinc_2 dX6_allOf_67 (by decide) rfl ?_
        refine x_goto (tgt := 8) dX6_allOf_70 (by decide) ?_
        have h := ih (p + 1) (by omega) (by omega) (by omega)
        rw [dAll_s _ hp] at h
        try rw [hy]
        first | (rw [if_pos (by omega)] at h; exact h) | (rw [if_neg (by omega), if_pos (by omega)] at h; exact h) | (rw [if_neg (by omega), if_neg (by omega)] at h; exact h)
set_option maxRecDepth 100000 in
set_option maxHeartbeats 4000000 in
theorem s6_allOf (μ : xM) (hI : MI (μ 2)) : X E0 shM 7 yX6_allOf cX6_allOf 3 (some .int) 0 [some (.inr (.inl 0)), none, none] [] μ (fun r μ' => r = some (.inl (dAll (μ 2))) ∧ Same μ μ') := by
  have h10 := hI.2.1
  have hS := mDay_S μ
  have h2 := mDay_2 μ
  refine x_aload_n (i := 0) dX6_allOf_0 rfl rfl ?_
  refine x_cVf0_0 lk_RX6_186 xm_X6_day dX6_allOf_1 (s6_day _ hI) ?_
  refine x_iconst dX6_allOf_4 ?_
  refine x_istore_1 dX6_allOf_5 (by decide) rfl ?_
  refine x_iconst dX6_allOf_6 ?_
  refine x_istore_2 dX6_allOf_7 (by decide) rfl ?_
  exact l6_allOf μ (mDay μ) (by rw [h2]; exact hI) hS (fun t t0 t8 => mDay_beg hI t0 t8) _ 0 (by omega) (by rw [h2]; omega) (Nat.lt_succ_self _)
set_option maxRecDepth 100000 in
set_option maxHeartbeats 4000000 in
theorem l6_weightsOf (μ ν : xM) (hI : MI (ν 2)) (hS : Same μ ν) (hb : ∀ t : Int, 0 ≤ t → t < 8 → ν 9 t.toNat = dBeg (μ 2) t) : ∀ (n : Nat) (p : Int), 0 ≤ p → p ≤ ν 2 1 → (ν 2 1 - p).toNat < n → X E0 shM 7 yX6_weightsOf cX6_weightsOf 3 (some .int) 8 [some (.inr (.inl 0)), some (.inl (dWtsN (ν 2) p.toNat)), some (.inl p)] [] ν (fun r μ' => r = some (.inl (dWts (μ 2))) ∧ Same μ μ') := by
  have h10 := hI.2.1
  intro n
  induction n with
  | zero => intro p _ _ h; omega
  | succ n ih =>
    intro p hp hp2 hn
    have hk := mKind_in (ν 2) p
    refine x_iload_n (i := 2) dX6_weightsOf_8 rfl rfl ?_
    refine x_aload_n (i := 0) dX6_weightsOf_9 rfl rfl ?_
    refine x_getR xf_RX6_13 dX6_weightsOf_10 rfl rfl ?_
    refine x_iconst dX6_weightsOf_13 ?_
    refine x_ialdK (K := 1) dX6_weightsOf_14 rfl rfl (by decide) (by decide) ?_
    refine x_icmp_ge (tgt := 45) dX6_weightsOf_15 (by decide) (by first | (unfold x_in; omega) | (unfold x_in; decide)) (by first | (unfold x_in; omega) | (unfold x_in; decide)) (fun c1 => ?_) (fun c1 => ?_)
    · refine x_iload_n (i := 1) dX6_weightsOf_45 rfl rfl ?_
      refine x_iret dX6_weightsOf_46 rfl rfl ?_
      exact ⟨by rw [show p = ν 2 1 by omega, ← hS.two]; rfl, hS⟩
    · refine x_iload_n (i := 1) dX6_weightsOf_18 rfl rfl ?_
      refine x_aload_n (i := 0) dX6_weightsOf_19 rfl rfl ?_
      refine x_getR xf_RX6_34 dX6_weightsOf_20 rfl rfl ?_
      refine x_iload_n (i := 2) dX6_weightsOf_23 rfl rfl ?_
      refine x_iald dX6_weightsOf_24 rfl (by decide) (by first | omega | decide) (by first | omega | decide) ?_
      have hy := hb p hp (by omega)
      rw [← hS.two] at hy
      have hz := dBeg_in hI hp (t := p) (by omega)
      rw [hy]
      refine x_if_lt (tgt := 36) dX6_weightsOf_25 (by decide) (by first | (unfold x_in; omega) | (unfold x_in; decide)) (fun c2 => ?_) (fun c2 => ?_)
      · refine x_iconst dX6_weightsOf_36 ?_
        refine x_iadd dX6_weightsOf_37 ?_
        refine x_istore_1 dX6_weightsOf_38 (by decide) rfl ?_
        refine x_iinc_2 dX6_weightsOf_39 (by decide) rfl ?_
        refine x_goto (tgt := 8) dX6_weightsOf_42 (by decide) ?_
        have h := ih (p + 1) (by omega) (by omega) (by omega)
        rw [dWts_s _ hp] at h
        try rw [hy]
        first | (rw [if_pos (by omega)] at h; exact h) | (rw [if_neg (by omega)] at h; exact h)
      · refine x_aload_n (i := 0) dX6_weightsOf_28 rfl rfl ?_
        refine x_iload_n (i := 2) dX6_weightsOf_29 rfl rfl ?_
        refine x_cIp0_1 lk_RX6_106 xm_X6_weight dX6_weightsOf_30 (s6_weight _ (by omega) _) ?_
        refine x_goto (tgt := 37) dX6_weightsOf_33 (by decide) ?_
        refine x_iadd dX6_weightsOf_37 ?_
        refine x_istore_1 dX6_weightsOf_38 (by decide) rfl ?_
        refine x_iinc_2 dX6_weightsOf_39 (by decide) rfl ?_
        refine x_goto (tgt := 8) dX6_weightsOf_42 (by decide) ?_
        have h := ih (p + 1) (by omega) (by omega) (by omega)
        rw [dWts_s _ hp] at h
        try rw [hy]
        first | (rw [if_pos (by omega)] at h; exact h) | (rw [if_neg (by omega)] at h; exact h)
set_option maxRecDepth 100000 in
set_option maxHeartbeats 4000000 in
theorem s6_weightsOf (μ : xM) (hI : MI (μ 2)) : X E0 shM 7 yX6_weightsOf cX6_weightsOf 3 (some .int) 0 [some (.inr (.inl 0)), none, none] [] μ (fun r μ' => r = some (.inl (dWts (μ 2))) ∧ Same μ μ') := by
  have h10 := hI.2.1
  have hS := mDay_S μ
  have h2 := mDay_2 μ
  refine x_aload_n (i := 0) dX6_weightsOf_0 rfl rfl ?_
  refine x_cVf0_0 lk_RX6_186 xm_X6_day dX6_weightsOf_1 (s6_day _ hI) ?_
  refine x_iconst dX6_weightsOf_4 ?_
  refine x_istore_1 dX6_weightsOf_5 (by decide) rfl ?_
  refine x_iconst dX6_weightsOf_6 ?_
  refine x_istore_2 dX6_weightsOf_7 (by decide) rfl ?_
  exact l6_weightsOf μ (mDay μ) (by rw [h2]; exact hI) hS (fun t t0 t8 => mDay_beg hI t0 t8) _ 0 (by omega) (by rw [h2]; omega) (Nat.lt_succ_self _)
