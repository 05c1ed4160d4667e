/-! THE CLASS, Day: the sums of a day -/
theorem K3_min (m : Int) {μ : xM} (h : ∀ t : Nat, t < 8 → mKind (μ 2) t = 3 → μ 9 t < 0) : ∀ t : Nat, t < 8 → mKind (mMin m μ 2) t = 3 → mMin m μ 9 t < 0 := by
  intro t ht
  have e2 := mMin_2 m μ
  rw [e2]
  have e9 := mEnds_9 m μ
  have k0 := h t ht
  unfold mMin mMin1
  split
  · show mKind (μ 2) t = 3 → mEnds m μ 9 t < 0
    rw [e9]
    exact k0
  · split
    next hb =>
      have hw := mBsN_in (mEnds m μ) m (mEnds m μ 2 1).toNat
      have hw2 : mCan (mEnds m μ) m (mBest (mEnds m μ) m) := by
        rcases hw with q | q
        · have : mBest (mEnds m μ) m = -9 := q
          omega
        · exact q.2.2
      have hc := hw2.1.2.2
      rw [mEnds_2] at hc
      show mKind (μ 2) t = 3 → (if t = (mBest (mEnds m μ) m).toNat then m else mEnds m μ 9 t) < 0
      split
      next e =>
        have : ((t : Nat) : Int) = mBest (mEnds m μ) m := by omega
        rw [this]
        exact fun q => absurd q hc
      next e =>
        rw [e9]
        exact k0
    next =>
      rw [e9]
      exact k0
theorem K3_run {μ : xM} (h : ∀ t : Nat, t < 8 → μ 9 t < 0) : ∀ (k t : Nat), t < 8 → mKind (mRun μ k 2) t = 3 → mRun μ k 9 t < 0
  | 0, t, ht, _ => h t ht
  | k + 1, t, ht, q => by
    rw [mRun] at q ⊢
    exact K3_min (k : Int) (μ := mRun μ k) (fun t ht q => K3_run h k t ht q) t ht q
theorem dBeg_3 {h : Nat → Int} {t : Int} (h0 : 0 ≤ t) (h8 : t < 8) (hk : mKind h t = 3) : dBeg h t < 0 := by
  have e2 : mOpens (canon h) 2 = h := (mOpens_c (canon h)).1
  have e9 : ∀ t : Nat, t < 8 → mOpens (canon h) 9 t < 0 := fun t ht => by rw [((mOpens_c (canon h)).2.2.1 t ht).2]; decide
  have := K3_run (μ := mOpens (canon h)) e9 1441 t.toNat (by omega)
  rw [mRun_2, e2, nat_back h0] at this
  exact this hk
set_option maxRecDepth 100000 in
set_option maxHeartbeats 4000000 in
theorem l0_waitedByAll (μ : xM) (h : Nat → Int) (hE : DE μ h) (hI : MI h) : ∀ (n : Nat) (p : Int), 0 ≤ p → p ≤ μ 9 3 → (μ 9 3 - p).toNat < n → X E0 shDay 0 yX0_waitedByAll cX0_waitedByAll 3 (some .int) 4 [some (.inr (.inl 0)), some (.inl (dAllN h p.toNat)), some (.inl p)] [] μ (x_Q (dAll h) μ) := by
  obtain ⟨hh, -, hT⟩ := hE
  have e3 : μ 9 3 = h 1 := congrFun hh 1
  have h8 : 0 ≤ μ 9 3 ∧ μ 9 3 ≤ 8 := by rw [e3]; exact hI.2.1
  intro n
  induction n with
  | zero => intro p _ _ h; omega
  | succ n ih =>
    intro p hp hp2 hn
    have hs := dAll_s h hp
    have KE : p = μ 9 3 → dAllN h p.toNat = dAll h := by
      intro q
      rw [q, e3]
      rfl
    have KK : ∀ z, p < μ 9 3 → z = dAllN h (p + 1).toNat → X E0 shDay 0 yX0_waitedByAll cX0_waitedByAll 3 (some .int) 4 [some (.inr (.inl 0)), some (.inl z), some (.inl (p + 1))] [] μ (x_Q (dAll h) μ) := by
      intro z hz e
      rw [e]
      exact ih (p + 1) (by omega) (by omega) (by omega)
    have hb : p < μ 9 3 → dBeg h p = -9 ∨ 0 ≤ dBeg h p := fun q => (hT p hp (by omega)).2.2
    have hb2 : p < μ 9 3 → -9 ≤ dBeg h p ∧ dBeg h p ≤ 10000 := fun q => dBeg_in hI hp (by omega)
    have e1 : p < μ 9 3 → μ 1 p.toNat = dBeg h p := fun q => (hT p hp (by omega)).1
    have e2 : p < μ 9 3 → μ 2 p.toNat = mKind h p := fun q => (hT p hp (by omega)).2.1
    have hk3 := mKind_in h p
    have g3 : p < μ 9 3 → mKind h p = 3 → dBeg h p < 0 := fun q r => dBeg_3 hp (by omega) r
    have ec : p < μ 9 3 → μ 12 p.toNat = mCm h p := fun q => by
      rw [← hh]
      exact (hOf_com μ 9 hp (by omega)).symm
    have v1 : p < μ 9 3 → mKind h p = 3 → dAllN h p.toNat = dAllN h (p + 1).toNat := by
      intro q r
      have := g3 q r
      rw [hs, if_neg (by omega), if_pos r]
      omega
    have v2 : p < μ 9 3 → ¬ mKind h p = 3 → dBeg h p = -9 → dAllN h p.toNat + (1440 - μ 12 p.toNat) = dAllN h (p + 1).toNat := by
      intro q r w
      rw [hs, if_neg (by omega), if_neg r, ec q]
    have v3 : p < μ 9 3 → ¬ dBeg h p = -9 → dAllN h p.toNat + (dBeg h p - μ 12 p.toNat) = dAllN h (p + 1).toNat := by
      intro q r
      rw [hs, if_pos (by have := hb q; omega), ec q]
    clear hs ih hT
    refine x_iload_n (i := 2) dX0_waitedByAll_4 rfl rfl ?_
    refine x_aload_n (i := 0) dX0_waitedByAll_5 rfl rfl ?_
    refine x_getR xf_RX0_12 dX0_waitedByAll_6 rfl rfl ?_
    refine x_getI xf_RX0_46 dX0_waitedByAll_9 rfl rfl ?_
    refine x_icmp_ge (tgt := 67) dX0_waitedByAll_12 (by decide) (by first | (unfold x_in; omega) | (unfold x_in; decide) | (have g := hb2 (by omega); unfold x_in; omega)) (by first | (unfold x_in; omega) | (unfold x_in; decide) | (have g := hb2 (by omega); unfold x_in; omega)) (fun c1 => ?_) (fun c1 => ?_)
    · refine x_iload_n (i := 1) dX0_waitedByAll_67 rfl rfl ?_
      exact x_iret dX0_waitedByAll_68 rfl rfl (x_ok (by exact KE (by omega)) (by rfl))
    · refine x_aload_n (i := 0) dX0_waitedByAll_15 rfl rfl ?_
      refine x_getR xf_RX0_29 dX0_waitedByAll_16 rfl rfl ?_
      refine x_iload_n (i := 2) dX0_waitedByAll_19 rfl rfl ?_
      refine x_iald dX0_waitedByAll_20 rfl (by decide) (by first | omega | decide) (by first | omega | decide) ?_
      rw [e2 (by omega)]
      refine x_iconst dX0_waitedByAll_21 ?_
      refine x_icmp_eq (tgt := 61) dX0_waitedByAll_22 (by decide) (by first | (unfold x_in; omega) | (unfold x_in; decide) | (have g := hb2 (by omega); unfold x_in; omega)) (by first | (unfold x_in; omega) | (unfold x_in; decide) | (have g := hb2 (by omega); unfold x_in; omega)) (fun c2 => ?_) (fun c2 => ?_)
      · refine x_iinc_2 dX0_waitedByAll_61 (by decide) rfl ?_
        refine x_goto (tgt := 4) dX0_waitedByAll_64 (by decide) ?_
        first | (have q : mKind h p = 3 := (by omega); exact KK _ (by omega) (v1 (by omega) q)) | (have q : dBeg h p = -9 := (by omega); exact KK _ (by omega) (v2 (by omega) (by omega) q)) | exact KK _ (by omega) (v3 (by omega) (by omega))
      · refine x_iload_n (i := 1) dX0_waitedByAll_25 rfl rfl ?_
        refine x_aload_n (i := 0) dX0_waitedByAll_26 rfl rfl ?_
        refine x_getR xf_RX0_18 dX0_waitedByAll_27 rfl rfl ?_
        refine x_iload_n (i := 2) dX0_waitedByAll_30 rfl rfl ?_
        refine x_iald dX0_waitedByAll_31 rfl (by decide) (by first | omega | decide) (by first | omega | decide) ?_
        rw [e1 (by omega)]
        refine x_bipush dX0_waitedByAll_32 (by decide) ?_
        refine x_icmp_ne (tgt := 43) dX0_waitedByAll_34 (by decide) (by first | (unfold x_in; omega) | (unfold x_in; decide) | (have g := hb2 (by omega); unfold x_in; omega)) (by first | (unfold x_in; omega) | (unfold x_in; decide) | (have g := hb2 (by omega); unfold x_in; omega)) (fun c3 => ?_) (fun c3 => ?_)
        · refine x_aload_n (i := 0) dX0_waitedByAll_43 rfl rfl ?_
          refine x_getR xf_RX0_18 dX0_waitedByAll_44 rfl rfl ?_
          refine x_iload_n (i := 2) dX0_waitedByAll_47 rfl rfl ?_
          refine x_iald dX0_waitedByAll_48 rfl (by decide) (by first | omega | decide) (by first | omega | decide) ?_
          try rw [e1 (by omega)]
          refine x_aload_n (i := 0) dX0_waitedByAll_49 rfl rfl ?_
          refine x_getR xf_RX0_12 dX0_waitedByAll_50 rfl rfl ?_
          refine x_getR xf_RX0_50 dX0_waitedByAll_53 rfl rfl ?_
          refine x_iload_n (i := 2) dX0_waitedByAll_56 rfl rfl ?_
          refine x_iald dX0_waitedByAll_57 rfl (by decide) (by first | omega | decide) (by first | omega | decide) ?_
          refine x_isub dX0_waitedByAll_58 ?_
          refine x_iadd dX0_waitedByAll_59 ?_
          refine x_istore_1 dX0_waitedByAll_60 (by decide) rfl ?_
          refine x_iinc_2 dX0_waitedByAll_61 (by decide) rfl ?_
          refine x_goto (tgt := 4) dX0_waitedByAll_64 (by decide) ?_
          first | (have q : mKind h p = 3 := (by omega); exact KK _ (by omega) (v1 (by omega) q)) | (have q : dBeg h p = -9 := (by omega); exact KK _ (by omega) (v2 (by omega) (by omega) q)) | exact KK _ (by omega) (v3 (by omega) (by omega))
        · refine x_sipush dX0_waitedByAll_37 (by decide) ?_
          refine x_goto (tgt := 49) dX0_waitedByAll_40 (by decide) ?_
          try rw [e1 (by omega)]
          refine x_aload_n (i := 0) dX0_waitedByAll_49 rfl rfl ?_
          refine x_getR xf_RX0_12 dX0_waitedByAll_50 rfl rfl ?_
          refine x_getR xf_RX0_50 dX0_waitedByAll_53 rfl rfl ?_
          refine x_iload_n (i := 2) dX0_waitedByAll_56 rfl rfl ?_
          refine x_iald dX0_waitedByAll_57 rfl (by decide) (by first | omega | decide) (by first | omega | decide) ?_
          refine x_isub dX0_waitedByAll_58 ?_
          refine x_iadd dX0_waitedByAll_59 ?_
          refine x_istore_1 dX0_waitedByAll_60 (by decide) rfl ?_
          refine x_iinc_2 dX0_waitedByAll_61 (by decide) rfl ?_
          refine x_goto (tgt := 4) dX0_waitedByAll_64 (by decide) ?_
          first | (have q : mKind h p = 3 := (by omega); exact KK _ (by omega) (v1 (by omega) q)) | (have q : dBeg h p = -9 := (by omega); exact KK _ (by omega) (v2 (by omega) (by omega) q)) | exact KK _ (by omega) (v3 (by omega) (by omega))
set_option maxRecDepth 100000 in
set_option maxHeartbeats 4000000 in
theorem s0_waitedByAll (μ : xM) (h : Nat → Int) (hE : DE μ h) (hI : MI h) : X E0 shDay 0 yX0_waitedByAll cX0_waitedByAll 3 (some .int) 0 [some (.inr (.inl 0)), none, none] [] μ (x_Q (dAll h) μ) := by
  have h8 : 0 ≤ μ 9 3 ∧ μ 9 3 ≤ 8 := by
    rw [show μ 9 3 = h 1 from congrFun hE.1 1]
    exact hI.2.1
  refine x_iconst dX0_waitedByAll_0 ?_
  refine x_istore_1 dX0_waitedByAll_1 (by decide) rfl ?_
  refine x_iconst dX0_waitedByAll_2 ?_
  refine x_istore_2 dX0_waitedByAll_3 (by decide) rfl ?_
  exact l0_waitedByAll μ h hE hI _ 0 (by omega) (by omega) (Nat.lt_succ_self _)
set_option maxRecDepth 100000 in
set_option maxHeartbeats 4000000 in
theorem l0_weightBegun (μ : xM) (h : Nat → Int) (hE : DE μ h) (hI : MI h) : ∀ (n : Nat) (p : Int), 0 ≤ p → p ≤ μ 9 3 → (μ 9 3 - p).toNat < n → X E0 shDay 0 yX0_weightBegun cX0_weightBegun 3 (some .int) 4 [some (.inr (.inl 0)), some (.inl (dWtsN h p.toNat)), some (.inl p)] [] μ (x_Q (dWts h) μ) := by
  obtain ⟨hh, -, hT⟩ := hE
  have e3 : μ 9 3 = h 1 := congrFun hh 1
  have h8 : 0 ≤ μ 9 3 ∧ μ 9 3 ≤ 8 := by rw [e3]; exact hI.2.1
  intro n
  induction n with
  | zero => intro p _ _ h; omega
  | succ n ih =>
    intro p hp hp2 hn
    have hs := dWts_s h hp
    have KE : p = μ 9 3 → dWtsN h p.toNat = dWts h := by
      intro q
      rw [q, e3]
      rfl
    have KK : ∀ z, p < μ 9 3 → z = dWtsN h (p + 1).toNat → X E0 shDay 0 yX0_weightBegun cX0_weightBegun 3 (some .int) 4 [some (.inr (.inl 0)), some (.inl z), some (.inl (p + 1))] [] μ (x_Q (dWts h) μ) := by
      intro z hz e
      rw [e]
      exact ih (p + 1) (by omega) (by omega) (by omega)
    have hb : p < μ 9 3 → dBeg h p = -9 ∨ 0 ≤ dBeg h p := fun q => (hT p hp (by omega)).2.2
    have hb2 : p < μ 9 3 → -9 ≤ dBeg h p ∧ dBeg h p ≤ 10000 := fun q => dBeg_in hI hp (by omega)
    have e1 : p < μ 9 3 → μ 1 p.toNat = dBeg h p := fun q => (hT p hp (by omega)).1
    have e2 : p < μ 9 3 → μ 2 p.toNat = mKind h p := fun q => (hT p hp (by omega)).2.1
    have hk3 := mKind_in h p
    have g3 : p < μ 9 3 → mKind h p = 3 → dBeg h p < 0 := fun q r => dBeg_3 hp (by omega) r
    have ec : p < μ 9 3 → μ 13 p.toNat = mWt h p := fun q => by
      rw [← hh]
      exact (hOf_wt μ 9 hp (by omega)).symm
    have v1 : p < μ 9 3 → dBeg h p = -9 → dWtsN h p.toNat = dWtsN h (p + 1).toNat := by
      intro q r
      rw [hs, if_neg (by omega)]
      omega
    have v3 : p < μ 9 3 → ¬ dBeg h p = -9 → dWtsN h p.toNat + μ 13 p.toNat = dWtsN h (p + 1).toNat := by
      intro q r
      rw [hs, if_pos (by have := hb q; omega), ec q]
    clear hs ih hT
    refine x_iload_n (i := 2) dX0_weightBegun_4 rfl rfl ?_
    refine x_aload_n (i := 0) dX0_weightBegun_5 rfl rfl ?_
    refine x_getR xf_RX0_12 dX0_weightBegun_6 rfl rfl ?_
    refine x_getI xf_RX0_46 dX0_weightBegun_9 rfl rfl ?_
    refine x_icmp_ge (tgt := 44) dX0_weightBegun_12 (by decide) (by first | (unfold x_in; omega) | (unfold x_in; decide) | (have g := hb2 (by omega); unfold x_in; omega)) (by first | (unfold x_in; omega) | (unfold x_in; decide) | (have g := hb2 (by omega); unfold x_in; omega)) (fun c1 => ?_) (fun c1 => ?_)
    · refine x_iload_n (i := 1) dX0_weightBegun_44 rfl rfl ?_
      exact x_iret dX0_weightBegun_45 rfl rfl (x_ok (by exact KE (by omega)) (by rfl))
    · refine x_aload_n (i := 0) dX0_weightBegun_15 rfl rfl ?_
      refine x_getR xf_RX0_18 dX0_weightBegun_16 rfl rfl ?_
      refine x_iload_n (i := 2) dX0_weightBegun_19 rfl rfl ?_
      refine x_iald dX0_weightBegun_20 rfl (by decide) (by first | omega | decide) (by first | omega | decide) ?_
      rw [e1 (by omega)]
      refine x_bipush dX0_weightBegun_21 (by decide) ?_
      refine x_icmp_eq (tgt := 38) dX0_weightBegun_23 (by decide) (by first | (unfold x_in; omega) | (unfold x_in; decide) | (have g := hb2 (by omega); unfold x_in; omega)) (by first | (unfold x_in; omega) | (unfold x_in; decide) | (have g := hb2 (by omega); unfold x_in; omega)) (fun c2 => ?_) (fun c2 => ?_)
      · refine x_iinc_2 dX0_weightBegun_38 (by decide) rfl ?_
        refine x_goto (tgt := 4) dX0_weightBegun_41 (by decide) ?_
        first | (have q : dBeg h p = -9 := (by omega); exact KK _ (by omega) (v1 (by omega) q)) | exact KK _ (by omega) (v3 (by omega) (by omega))
      · refine x_iload_n (i := 1) dX0_weightBegun_26 rfl rfl ?_
        refine x_aload_n (i := 0) dX0_weightBegun_27 rfl rfl ?_
        refine x_getR xf_RX0_12 dX0_weightBegun_28 rfl rfl ?_
        refine x_getR xf_RX0_53 dX0_weightBegun_31 rfl rfl ?_
        refine x_iload_n (i := 2) dX0_weightBegun_34 rfl rfl ?_
        refine x_iald dX0_weightBegun_35 rfl (by decide) (by first | omega | decide) (by first | omega | decide) ?_
        refine x_iadd dX0_weightBegun_36 ?_
        refine x_istore_1 dX0_weightBegun_37 (by decide) rfl ?_
        refine x_iinc_2 dX0_weightBegun_38 (by decide) rfl ?_
        refine x_goto (tgt := 4) dX0_weightBegun_41 (by decide) ?_
        first | (have q : dBeg h p = -9 := (by omega); exact KK _ (by omega) (v1 (by omega) q)) | exact KK _ (by omega) (v3 (by omega) (by omega))
set_option maxRecDepth 100000 in
set_option maxHeartbeats 4000000 in
theorem s0_weightBegun (μ : xM) (h : Nat → Int) (hE : DE μ h) (hI : MI h) : X E0 shDay 0 yX0_weightBegun cX0_weightBegun 3 (some .int) 0 [some (.inr (.inl 0)), none, none] [] μ (x_Q (dWts h) μ) := by
  have h8 : 0 ≤ μ 9 3 ∧ μ 9 3 ≤ 8 := by
    rw [show μ 9 3 = h 1 from congrFun hE.1 1]
    exact hI.2.1
  refine x_iconst dX0_weightBegun_0 ?_
  refine x_istore_1 dX0_weightBegun_1 (by decide) rfl ?_
  refine x_iconst dX0_weightBegun_2 ?_
  refine x_istore_2 dX0_weightBegun_3 (by decide) rfl ?_
  exact l0_weightBegun μ h hE hI _ 0 (by omega) (by omega) (Nat.lt_succ_self _)
set_option maxRecDepth 100000 in
set_option maxHeartbeats 4000000 in
theorem l0_trainsBegun (μ : xM) (h : Nat → Int) (hE : DE μ h) (hI : MI h) : ∀ (n : Nat) (p : Int), 0 ≤ p → p ≤ μ 9 3 → (μ 9 3 - p).toNat < n → X E0 shDay 0 yX0_trainsBegun cX0_trainsBegun 3 (some .int) 4 [some (.inr (.inl 0)), some (.inl (dCntN h p.toNat)), some (.inl p)] [] μ (x_Q (dCnt h) μ) := by
  obtain ⟨hh, -, hT⟩ := hE
  have e3 : μ 9 3 = h 1 := congrFun hh 1
  have h8 : 0 ≤ μ 9 3 ∧ μ 9 3 ≤ 8 := by rw [e3]; exact hI.2.1
  intro n
  induction n with
  | zero => intro p _ _ h; omega
  | succ n ih =>
    intro p hp hp2 hn
    have hs := dCnt_s h hp
    have KE : p = μ 9 3 → dCntN h p.toNat = dCnt h := by
      intro q
      rw [q, e3]
      rfl
    have KK : ∀ z, p < μ 9 3 → z = dCntN h (p + 1).toNat → X E0 shDay 0 yX0_trainsBegun cX0_trainsBegun 3 (some .int) 4 [some (.inr (.inl 0)), some (.inl z), some (.inl (p + 1))] [] μ (x_Q (dCnt h) μ) := by
      intro z hz e
      rw [e]
      exact ih (p + 1) (by omega) (by omega) (by omega)
    have hb : p < μ 9 3 → dBeg h p = -9 ∨ 0 ≤ dBeg h p := fun q => (hT p hp (by omega)).2.2
    have hb2 : p < μ 9 3 → -9 ≤ dBeg h p ∧ dBeg h p ≤ 10000 := fun q => dBeg_in hI hp (by omega)
    have e1 : p < μ 9 3 → μ 1 p.toNat = dBeg h p := fun q => (hT p hp (by omega)).1
    have e2 : p < μ 9 3 → μ 2 p.toNat = mKind h p := fun q => (hT p hp (by omega)).2.1
    have hk3 := mKind_in h p
    have g3 : p < μ 9 3 → mKind h p = 3 → dBeg h p < 0 := fun q r => dBeg_3 hp (by omega) r
    have v1 : p < μ 9 3 → dBeg h p = -9 → dCntN h p.toNat = dCntN h (p + 1).toNat := by
      intro q r
      rw [hs, if_neg (by omega)]
      omega
    have v3 : p < μ 9 3 → ¬ dBeg h p = -9 → dCntN h p.toNat + 1 = dCntN h (p + 1).toNat := by
      intro q r
      rw [hs, if_pos (by have := hb q; omega)]
    clear hs ih hT
    refine x_iload_n (i := 2) dX0_trainsBegun_4 rfl rfl ?_
    refine x_aload_n (i := 0) dX0_trainsBegun_5 rfl rfl ?_
    refine x_getR xf_RX0_12 dX0_trainsBegun_6 rfl rfl ?_
    refine x_getI xf_RX0_46 dX0_trainsBegun_9 rfl rfl ?_
    refine x_icmp_ge (tgt := 35) dX0_trainsBegun_12 (by decide) (by first | (unfold x_in; omega) | (unfold x_in; decide) | (have g := hb2 (by omega); unfold x_in; omega)) (by first | (unfold x_in; omega) | (unfold x_in; decide) | (have g := hb2 (by omega); unfold x_in; omega)) (fun c1 => ?_) (fun c1 => ?_)
    · refine x_iload_n (i := 1) dX0_trainsBegun_35 rfl rfl ?_
      exact x_iret dX0_trainsBegun_36 rfl rfl (x_ok (by exact KE (by omega)) (by rfl))
    · refine x_aload_n (i := 0) dX0_trainsBegun_15 rfl rfl ?_
      refine x_getR xf_RX0_18 dX0_trainsBegun_16 rfl rfl ?_
      refine x_iload_n (i := 2) dX0_trainsBegun_19 rfl rfl ?_
      refine x_iald dX0_trainsBegun_20 rfl (by decide) (by first | omega | decide) (by first | omega | decide) ?_
      rw [e1 (by omega)]
      refine x_bipush dX0_trainsBegun_21 (by decide) ?_
      refine x_icmp_eq (tgt := 29) dX0_trainsBegun_23 (by decide) (by first | (unfold x_in; omega) | (unfold x_in; decide) | (have g := hb2 (by omega); unfold x_in; omega)) (by first | (unfold x_in; omega) | (unfold x_in; decide) | (have g := hb2 (by omega); unfold x_in; omega)) (fun c2 => ?_) (fun c2 => ?_)
      · refine x_iinc_2 dX0_trainsBegun_29 (by decide) rfl ?_
        refine x_goto (tgt := 4) dX0_trainsBegun_32 (by decide) ?_
        first | (have q : dBeg h p = -9 := (by omega); exact KK _ (by omega) (v1 (by omega) q)) | exact KK _ (by omega) (v3 (by omega) (by omega))
      · refine x_iinc_1 dX0_trainsBegun_26 (by decide) rfl ?_
        refine x_iinc_2 dX0_trainsBegun_29 (by decide) rfl ?_
        refine x_goto (tgt := 4) dX0_trainsBegun_32 (by decide) ?_
        first | (have q : dBeg h p = -9 := (by omega); exact KK _ (by omega) (v1 (by omega) q)) | exact KK _ (by omega) (v3 (by omega) (by omega))
set_option maxRecDepth 100000 in
set_option maxHeartbeats 4000000 in
theorem s0_trainsBegun (μ : xM) (h : Nat → Int) (hE : DE μ h) (hI : MI h) : X E0 shDay 0 yX0_trainsBegun cX0_trainsBegun 3 (some .int) 0 [some (.inr (.inl 0)), none, none] [] μ (x_Q (dCnt h) μ) := by
  have h8 : 0 ≤ μ 9 3 ∧ μ 9 3 ≤ 8 := by
    rw [show μ 9 3 = h 1 from congrFun hE.1 1]
    exact hI.2.1
  refine x_iconst dX0_trainsBegun_0 ?_
  refine x_istore_1 dX0_trainsBegun_1 (by decide) rfl ?_
  refine x_iconst dX0_trainsBegun_2 ?_
  refine x_istore_2 dX0_trainsBegun_3 (by decide) rfl ?_
  exact l0_trainsBegun μ h hE hI _ 0 (by omega) (by omega) (Nat.lt_succ_self _)
