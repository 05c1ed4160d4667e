/-! THE CLASS, Hill: its seven cells read as the reference's row -/
def hOf (μ : xM) (o : Nat) : Nat → Int := fun k => if k = 0 then μ o 0 else if k = 1 then μ o 3 else if k = 2 then μ o 6 else if k = 3 then μ o 8 else if k < 13 then μ (o + 5) (k - 4) else if k < 23 then (if (k - 13) % 2 = 0 then μ (o + 1) ((k - 13) / 2) else μ (o + 2) ((k - 13) / 2)) else if k < 39 then (if (k - 23) % 2 = 0 then μ (o + 3) ((k - 23) / 2) else μ (o + 4) ((k - 23) / 2)) else if k < 47 then μ (o + 6) (k - 39) else 0
theorem hOf_min (μ : xM) (o : Nat) {p : Int} (h0 : 0 ≤ p) (h5 : p < 5) : hOf μ o (13 + 2 * p).toNat = μ (o + 1) p.toNat := by
  unfold hOf
  rw [if_neg (by omega), if_neg (by omega), if_neg (by omega), if_neg (by omega), if_neg (by omega), if_pos (by omega), if_pos (by omega)]
  congr 1
  omega
theorem hOf_dbl (μ : xM) (o : Nat) {p : Int} (h0 : 0 ≤ p) (h5 : p < 5) : hOf μ o (13 + 2 * p + 1).toNat = μ (o + 2) p.toNat := by
  unfold hOf
  rw [if_neg (by omega), if_neg (by omega), if_neg (by omega), if_neg (by omega), if_neg (by omega), if_pos (by omega), if_neg (by omega)]
  congr 1
  omega
theorem hOf_com (μ : xM) (o : Nat) {p : Int} (h0 : 0 ≤ p) (h5 : p < 8) : hOf μ o (23 + 2 * p).toNat = μ (o + 3) p.toNat := by
  unfold hOf
  rw [if_neg (by omega), if_neg (by omega), if_neg (by omega), if_neg (by omega), if_neg (by omega), if_neg (by omega), if_pos (by omega), if_pos (by omega)]
  congr 1
  omega
theorem hOf_wt (μ : xM) (o : Nat) {p : Int} (h0 : 0 ≤ p) (h5 : p < 8) : hOf μ o (23 + 2 * p + 1).toNat = μ (o + 4) p.toNat := by
  unfold hOf
  rw [if_neg (by omega), if_neg (by omega), if_neg (by omega), if_neg (by omega), if_neg (by omega), if_neg (by omega), if_pos (by omega), if_neg (by omega)]
  congr 1
  omega
theorem hOf_set (μ : xM) (o : Nat) {p : Int} (h0 : 0 ≤ p) (h5 : p < 9) : hOf μ o (4 + p).toNat = μ (o + 5) p.toNat := by
  unfold hOf
  rw [if_neg (by omega), if_neg (by omega), if_neg (by omega), if_neg (by omega), if_pos (by omega)]
  congr 1
  omega
theorem hOf_ord (μ : xM) (o : Nat) {p : Int} (h0 : 0 ≤ p) (h5 : p < 8) : hOf μ o (39 + p).toNat = μ (o + 6) p.toNat := by
  unfold hOf
  rw [if_neg (by omega), if_neg (by omega), if_neg (by omega), if_neg (by omega), if_neg (by omega), if_neg (by omega), if_neg (by omega), if_pos (by omega)]
  congr 1
  omega
theorem hOf_z (μ : xM) (o : Nat) {j : Nat} (hj : 47 ≤ j) : hOf μ o j = 0 := by
  unfold hOf
  rw [if_neg (by omega), if_neg (by omega), if_neg (by omega), if_neg (by omega), if_neg (by omega), if_neg (by omega), if_neg (by omega), if_neg (by omega)]
/-- what a hill's cells hold is in range -/
theorem hOf_r5 {μ : xM} {o : Nat} (hI : MI (hOf μ o)) : (1 ≤ μ (o + 5) 0 ∧ μ (o + 5) 0 ≤ 999) ∧ (1 ≤ μ (o + 5) 1 ∧ μ (o + 5) 1 ≤ 999) ∧ (0 ≤ μ (o + 5) 2 ∧ μ (o + 5) 2 ≤ 90) ∧ (0 ≤ μ (o + 5) 3 ∧ μ (o + 5) 3 ≤ 20) ∧ (0 ≤ μ (o + 5) 4 ∧ μ (o + 5) 4 ≤ 20) ∧ (1 ≤ μ (o + 5) 5 ∧ μ (o + 5) 5 ≤ 60) ∧ (0 ≤ μ (o + 5) 6 ∧ μ (o + 5) 6 ≤ 1) ∧ (0 ≤ μ (o + 5) 7 ∧ μ (o + 5) 7 ≤ 3) ∧ (0 ≤ μ (o + 5) 8 ∧ μ (o + 5) 8 ≤ 1) := by
  obtain ⟨a0, a1, a2, a3, a4, a5, a6, a7, a8, a9, a10, a11, a12, -⟩ := hI
  exact ⟨a4, a5, a6, a7, a8, a9, a10, a11, a12⟩
def cRail (h : Nat → Int) (w : Int) : Int := if h 10 = 1 then w - (w * h 6).tdiv 100 else w
def cMin (h : Nat → Int) (k : Int) : Int := if k = 0 then mBase h else if k = 1 then h 7 + mBase h + h 8 else if k = 2 then 2 * (h 7 + mBase h + h 8) + mBase h else -9
theorem cMin_takes (h : Nat → Int) (t : Int) : cMin h (mKind h t) = mTakes h t := rfl
theorem cRail_0 (h : Nat → Int) : cRail h (h 4) = mEdge h 0 := by
  show (if h 10 = 1 then h 4 - (h 4 * h 6).tdiv 100 else h 4) = h 4 - (if h 10 = 1 then (h 4 * h 6).tdiv 100 else 0)
  split <;> omega
theorem cRail_1 (h : Nat → Int) : cRail h (h 5) = mEdge h 1 := by
  show (if h 10 = 1 then h 5 - (h 5 * h 6).tdiv 100 else h 5) = h 5 - (if h 10 = 1 then (h 5 * h 6).tdiv 100 else 0)
  split <;> omega
set_option maxRecDepth 100000 in
set_option maxHeartbeats 4000000 in
theorem s1_hasPiece (p : Int) (hp : x_in p) (μ : xM) (hI : MI (hOf μ 0)) : X E0 shHill 0 yX1_hasPiece cX1_hasPiece 2 (some .boolean) 0 [some (.inr (.inl 0)), some (.inl p)] [] μ (x_Q (mIn p (hOf μ 0 0)) μ) := by
  have h0 : 0 ≤ μ 0 0 ∧ μ 0 0 ≤ 5 := hI.1
  have h1 : 0 ≤ μ 0 3 ∧ μ 0 3 ≤ 8 := hI.2.1
  have r5 := hOf_r5 hI
  simp only [Nat.zero_add] at r5
  refine x_iload_n (i := 1) dX1_hasPiece_0 rfl rfl ?_
  refine x_if_lt (tgt := 16) dX1_hasPiece_1 (by decide) (by first | exact hp | (unfold x_in; omega)) (fun c1 => ?_) (fun c1 => ?_)
  · refine x_iconst dX1_hasPiece_16 ?_
    exact x_iret dX1_hasPiece_17 rfl (x_narZ (by first | exact Or.inl rfl | exact Or.inr rfl | omega)) (x_ok (by first | exact (if_pos (show 0 ≤ p ∧ p < μ 0 0 by omega)).symm | exact (if_neg (show ¬ (0 ≤ p ∧ p < μ 0 0) by omega)).symm) (by rfl))
  · refine x_iload_n (i := 1) dX1_hasPiece_4 rfl rfl ?_
    refine x_aload_n (i := 0) dX1_hasPiece_5 rfl rfl ?_
    refine x_getI xf_RX1_30 dX1_hasPiece_6 rfl rfl ?_
    refine x_icmp_ge (tgt := 16) dX1_hasPiece_9 (by decide) (by first | exact hp | (unfold x_in; omega)) (by first | exact hp | (unfold x_in; omega)) (fun c2 => ?_) (fun c2 => ?_)
    · refine x_iconst dX1_hasPiece_16 ?_
      exact x_iret dX1_hasPiece_17 rfl (x_narZ (by first | exact Or.inl rfl | exact Or.inr rfl | omega)) (x_ok (by first | exact (if_pos (show 0 ≤ p ∧ p < μ 0 0 by omega)).symm | exact (if_neg (show ¬ (0 ≤ p ∧ p < μ 0 0) by omega)).symm) (by rfl))
    · refine x_iconst dX1_hasPiece_12 ?_
      refine x_goto (tgt := 17) dX1_hasPiece_13 (by decide) ?_
      exact x_iret dX1_hasPiece_17 rfl (x_narZ (by first | exact Or.inl rfl | exact Or.inr rfl | omega)) (x_ok (by first | exact (if_pos (show 0 ≤ p ∧ p < μ 0 0 by omega)).symm | exact (if_neg (show ¬ (0 ≤ p ∧ p < μ 0 0) by omega)).symm) (by rfl))
set_option maxRecDepth 100000 in
set_option maxHeartbeats 4000000 in
theorem s1_hasTrain (p : Int) (hp : x_in p) (μ : xM) (hI : MI (hOf μ 0)) : X E0 shHill 0 yX1_hasTrain cX1_hasTrain 2 (some .boolean) 0 [some (.inr (.inl 0)), some (.inl p)] [] μ (x_Q (mIn p (hOf μ 0 1)) μ) := by
  have h0 : 0 ≤ μ 0 0 ∧ μ 0 0 ≤ 5 := hI.1
  have h1 : 0 ≤ μ 0 3 ∧ μ 0 3 ≤ 8 := hI.2.1
  have r5 := hOf_r5 hI
  simp only [Nat.zero_add] at r5
  refine x_iload_n (i := 1) dX1_hasTrain_0 rfl rfl ?_
  refine x_if_lt (tgt := 16) dX1_hasTrain_1 (by decide) (by first | exact hp | (unfold x_in; omega)) (fun c1 => ?_) (fun c1 => ?_)
  · refine x_iconst dX1_hasTrain_16 ?_
    exact x_iret dX1_hasTrain_17 rfl (x_narZ (by first | exact Or.inl rfl | exact Or.inr rfl | omega)) (x_ok (by first | exact (if_pos (show 0 ≤ p ∧ p < μ 0 3 by omega)).symm | exact (if_neg (show ¬ (0 ≤ p ∧ p < μ 0 3) by omega)).symm) (by rfl))
  · refine x_iload_n (i := 1) dX1_hasTrain_4 rfl rfl ?_
    refine x_aload_n (i := 0) dX1_hasTrain_5 rfl rfl ?_
    refine x_getI xf_RX1_40 dX1_hasTrain_6 rfl rfl ?_
    refine x_icmp_ge (tgt := 16) dX1_hasTrain_9 (by decide) (by first | exact hp | (unfold x_in; omega)) (by first | exact hp | (unfold x_in; omega)) (fun c2 => ?_) (fun c2 => ?_)
    · refine x_iconst dX1_hasTrain_16 ?_
      exact x_iret dX1_hasTrain_17 rfl (x_narZ (by first | exact Or.inl rfl | exact Or.inr rfl | omega)) (x_ok (by first | exact (if_pos (show 0 ≤ p ∧ p < μ 0 3 by omega)).symm | exact (if_neg (show ¬ (0 ≤ p ∧ p < μ 0 3) by omega)).symm) (by rfl))
    · refine x_iconst dX1_hasTrain_12 ?_
      refine x_goto (tgt := 17) dX1_hasTrain_13 (by decide) ?_
      exact x_iret dX1_hasTrain_17 rfl (x_narZ (by first | exact Or.inl rfl | exact Or.inr rfl | omega)) (x_ok (by first | exact (if_pos (show 0 ≤ p ∧ p < μ 0 3 by omega)).symm | exact (if_neg (show ¬ (0 ≤ p ∧ p < μ 0 3) by omega)).symm) (by rfl))
set_option maxRecDepth 100000 in
set_option maxHeartbeats 4000000 in
theorem l1_baseMinutes (μ : xM) (hI : MI (hOf μ 0)) : ∀ (n : Nat) (p : Int), 0 ≤ p → p ≤ μ 0 0 → (μ 0 0 - p).toNat < n → X E0 shHill 0 yX1_baseMinutes cX1_baseMinutes 3 (some .int) 4 [some (.inr (.inl 0)), some (.inl (mBaseN (hOf μ 0) p.toNat)), some (.inl p)] [] μ (x_Q (mBase (hOf μ 0)) μ) := by
  have h0 : 0 ≤ μ 0 0 ∧ μ 0 0 ≤ 5 := hI.1
  have h1 : 0 ≤ μ 0 3 ∧ μ 0 3 ≤ 8 := hI.2.1
  have r5 := hOf_r5 hI
  simp only [Nat.zero_add] at r5
  intro n
  induction n with
  | zero => intro p _ _ h; omega
  | succ n ih =>
    intro p hp hp2 hn
    refine x_iload_n (i := 2) dX1_baseMinutes_4 rfl rfl ?_
    refine x_aload_n (i := 0) dX1_baseMinutes_5 rfl rfl ?_
    refine x_getI xf_RX1_30 dX1_baseMinutes_6 rfl rfl ?_
    refine x_icmp_ge (tgt := 27) dX1_baseMinutes_9 (by decide) (by first | (unfold x_in; omega) | (unfold x_in; decide)) (by first | (unfold x_in; omega) | (unfold x_in; decide)) (fun c1 => ?_) (fun c1 => ?_)
    · refine x_iload_n (i := 1) dX1_baseMinutes_27 rfl rfl ?_
      exact x_iret dX1_baseMinutes_28 rfl rfl (x_ok (by rw [show p = μ 0 0 by omega]; rfl) (by rfl))
    · refine x_iload_n (i := 1) dX1_baseMinutes_12 rfl rfl ?_
      refine x_aload_n (i := 0) dX1_baseMinutes_13 rfl rfl ?_
      refine x_getR xf_RX1_9 dX1_baseMinutes_14 rfl rfl ?_
      refine x_iload_n (i := 2) dX1_baseMinutes_17 rfl rfl ?_
      refine x_iald dX1_baseMinutes_18 rfl (by decide) (by first | omega | decide) (by first | omega | decide) ?_
      refine x_iadd dX1_baseMinutes_19 ?_
      refine x_istore_1 dX1_baseMinutes_20 (by decide) rfl ?_
      refine x_iinc_2 dX1_baseMinutes_21 (by decide) rfl ?_
      refine x_goto (tgt := 4) dX1_baseMinutes_24 (by decide) ?_
      have h := ih (p + 1) (by omega) (by omega) (by omega)
      rw [mBase_s _ hp, hOf_min _ _ hp (by omega)] at h
      exact h
set_option maxRecDepth 100000 in
set_option maxHeartbeats 4000000 in
theorem s1_baseMinutes (μ : xM) (hI : MI (hOf μ 0)) : X E0 shHill 0 yX1_baseMinutes cX1_baseMinutes 3 (some .int) 0 [some (.inr (.inl 0)), none, none] [] μ (x_Q (mBase (hOf μ 0)) μ) := by
  have h0 : 0 ≤ μ 0 0 ∧ μ 0 0 ≤ 5 := hI.1
  have h1 : 0 ≤ μ 0 3 ∧ μ 0 3 ≤ 8 := hI.2.1
  have r5 := hOf_r5 hI
  simp only [Nat.zero_add] at r5
  refine x_iconst dX1_baseMinutes_0 ?_
  refine x_istore_1 dX1_baseMinutes_1 (by decide) rfl ?_
  refine x_iconst dX1_baseMinutes_2 ?_
  refine x_istore_2 dX1_baseMinutes_3 (by decide) rfl ?_
  exact l1_baseMinutes μ hI _ 0 (by omega) (by omega) (Nat.lt_succ_self _)
set_option maxRecDepth 100000 in
set_option maxHeartbeats 4000000 in
theorem l1_singles (μ : xM) (hI : MI (hOf μ 0)) : ∀ (n : Nat) (p : Int), 0 ≤ p → p ≤ μ 0 0 → (μ 0 0 - p).toNat < n → X E0 shHill 0 yX1_singles cX1_singles 3 (some .int) 4 [some (.inr (.inl 0)), some (.inl (mSingN (hOf μ 0) p.toNat)), some (.inl p)] [] μ (x_Q (mSing (hOf μ 0)) μ) := by
  have h0 : 0 ≤ μ 0 0 ∧ μ 0 0 ≤ 5 := hI.1
  have h1 : 0 ≤ μ 0 3 ∧ μ 0 3 ≤ 8 := hI.2.1
  have r5 := hOf_r5 hI
  simp only [Nat.zero_add] at r5
  have hq := hI.2.2.2.2.2.2.2.2.2.2.2.2.2.1
  intro n
  induction n with
  | zero => intro p _ _ h; omega
  | succ n ih =>
    intro p hp hp2 hn
    have K : p < μ 0 0 → ∀ z, z = mSingN (hOf μ 0) p.toNat + (1 - μ 2 p.toNat) → X E0 shHill 0 yX1_singles cX1_singles 3 (some .int) 4 [some (.inr (.inl 0)), some (.inl z), some (.inl (p + 1))] [] μ (x_Q (mSing (hOf μ 0)) μ) := by
      intro hlt z hz
      have h := ih (p + 1) (by omega) (by omega) (by omega)
      rw [mSing_s _ hp, hOf_dbl _ _ hp (by omega)] at h
      rw [hz]
      exact h
    refine x_iload_n (i := 2) dX1_singles_4 rfl rfl ?_
    refine x_aload_n (i := 0) dX1_singles_5 rfl rfl ?_
    refine x_getI xf_RX1_30 dX1_singles_6 rfl rfl ?_
    refine x_icmp_ge (tgt := 30) dX1_singles_9 (by decide) (by first | (unfold x_in; omega) | (unfold x_in; decide)) (by first | (unfold x_in; omega) | (unfold x_in; decide)) (fun c1 => ?_) (fun c1 => ?_)
    · refine x_iload_n (i := 1) dX1_singles_30 rfl rfl ?_
      exact x_iret dX1_singles_31 rfl rfl (x_ok (by rw [show p = μ 0 0 by omega]; rfl) (by rfl))
    · refine x_aload_n (i := 0) dX1_singles_12 rfl rfl ?_
      refine x_getR xf_RX1_15 dX1_singles_13 rfl rfl ?_
      refine x_iload_n (i := 2) dX1_singles_16 rfl rfl ?_
      refine x_iald dX1_singles_17 rfl (by decide) (by first | omega | decide) (by first | omega | decide) ?_
      have hx := (hq p hp (by omega)).2
      rw [hOf_dbl _ _ hp (by omega)] at hx
      simp only [Nat.zero_add] at hx
      refine x_if_ne (tgt := 24) dX1_singles_18 (by decide) (by first | (unfold x_in; omega) | (unfold x_in; decide)) (fun c2 => ?_) (fun c2 => ?_)
      · refine x_iinc_2 dX1_singles_24 (by decide) rfl ?_
        refine x_goto (tgt := 4) dX1_singles_27 (by decide) ?_
        exact K c1 _ (by omega)
      · refine x_iinc_1 dX1_singles_21 (by decide) rfl ?_
        refine x_iinc_2 dX1_singles_24 (by decide) rfl ?_
        refine x_goto (tgt := 4) dX1_singles_27 (by decide) ?_
        exact K c1 _ (by omega)
set_option maxRecDepth 100000 in
set_option maxHeartbeats 4000000 in
theorem s1_singles (μ : xM) (hI : MI (hOf μ 0)) : X E0 shHill 0 yX1_singles cX1_singles 3 (some .int) 0 [some (.inr (.inl 0)), none, none] [] μ (x_Q (mSing (hOf μ 0)) μ) := by
  have h0 : 0 ≤ μ 0 0 ∧ μ 0 0 ≤ 5 := hI.1
  have h1 : 0 ≤ μ 0 3 ∧ μ 0 3 ≤ 8 := hI.2.1
  have r5 := hOf_r5 hI
  simp only [Nat.zero_add] at r5
  refine x_iconst dX1_singles_0 ?_
  refine x_istore_1 dX1_singles_1 (by decide) rfl ?_
  refine x_iconst dX1_singles_2 ?_
  refine x_istore_2 dX1_singles_3 (by decide) rfl ?_
  exact l1_singles μ hI _ 0 (by omega) (by omega) (Nat.lt_succ_self _)
set_option maxRecDepth 100000 in
set_option maxHeartbeats 4000000 in
theorem s1_onThisRail (w : Int) (hw : 0 ≤ w ∧ w ≤ 999) (μ : xM) (hI : MI (hOf μ 0)) : X E0 shHill 0 yX1_onThisRail cX1_onThisRail 2 (some .int) 0 [some (.inr (.inl 0)), some (.inl w)] [] μ (x_Q (cRail (hOf μ 0) w) μ) := by
  have h0 : 0 ≤ μ 0 0 ∧ μ 0 0 ≤ 5 := hI.1
  have h1 : 0 ≤ μ 0 3 ∧ μ 0 3 ≤ 8 := hI.2.1
  have r5 := hOf_r5 hI
  simp only [Nat.zero_add] at r5
  have hm : 0 ≤ w * μ 5 2 ∧ w * μ 5 2 ≤ 999 * 90 := ⟨Int.mul_nonneg (by omega) (by omega), Int.mul_le_mul hw.2 r5.2.2.1.2 (by omega) (by omega)⟩
  refine x_aload_n (i := 0) dX1_onThisRail_0 rfl rfl ?_
  refine x_getR xf_RX1_24 dX1_onThisRail_1 rfl rfl ?_
  refine x_bipush dX1_onThisRail_4 (by decide) ?_
  refine x_ialdK (K := 6) dX1_onThisRail_6 rfl rfl (by decide) (by decide) ?_
  refine x_iconst dX1_onThisRail_7 ?_
  refine x_icmp_ne (tgt := 27) dX1_onThisRail_8 (by decide) (by first | (unfold x_in; omega) | (unfold x_in; decide)) (by first | (unfold x_in; omega) | (unfold x_in; decide)) (fun c1 => ?_) (fun c1 => ?_)
  · refine x_iload_n (i := 1) dX1_onThisRail_27 rfl rfl ?_
    exact x_iret dX1_onThisRail_28 rfl rfl (x_ok (by first | exact (if_pos (show μ 5 6 = 1 by omega)).symm | exact (if_neg (show ¬ μ 5 6 = 1 by omega)).symm) (by rfl))
  · refine x_iload_n (i := 1) dX1_onThisRail_11 rfl rfl ?_
    refine x_iload_n (i := 1) dX1_onThisRail_12 rfl rfl ?_
    refine x_aload_n (i := 0) dX1_onThisRail_13 rfl rfl ?_
    refine x_getR xf_RX1_24 dX1_onThisRail_14 rfl rfl ?_
    refine x_iconst dX1_onThisRail_17 ?_
    refine x_ialdK (K := 2) dX1_onThisRail_18 rfl rfl (by decide) (by decide) ?_
    refine x_imul dX1_onThisRail_19 ?_
    refine x_bipush dX1_onThisRail_20 (by decide) ?_
    refine x_idiv dX1_onThisRail_22 (by first | (unfold x_in; omega) | (unfold x_in; decide)) (by first | (unfold x_in; omega) | (unfold x_in; decide)) (by unfold x_in; rw [Int.tdiv_eq_ediv_of_nonneg hm.1]; omega) (by decide) ?_
    refine x_isub dX1_onThisRail_23 ?_
    refine x_goto (tgt := 28) dX1_onThisRail_24 (by decide) ?_
    exact x_iret dX1_onThisRail_28 rfl rfl (x_ok (by first | exact (if_pos (show μ 5 6 = 1 by omega)).symm | exact (if_neg (show ¬ μ 5 6 = 1 by omega)).symm) (by rfl))
set_option maxRecDepth 100000 in
set_option maxHeartbeats 4000000 in
theorem s1_kindOf (w : Int) (hw : 0 ≤ w ∧ w ≤ 1000) (μ : xM) (hI : MI (hOf μ 0)) : X E0 shHill 1 yX1_kindOf cX1_kindOf 3 (some .int) 0 [some (.inr (.inl 0)), some (.inl w), none] [] μ (x_Q (mKindBy (hOf μ 0) w) μ) := by
  have h0 : 0 ≤ μ 0 0 ∧ μ 0 0 ≤ 5 := hI.1
  have h1 : 0 ≤ μ 0 3 ∧ μ 0 3 ≤ 8 := hI.2.1
  have r5 := hOf_r5 hI
  simp only [Nat.zero_add] at r5
  have e0 := mEdge_in hI (Or.inl rfl)
  have e1 := mEdge_in hI (Or.inr rfl)
  have q0 : cRail (hOf μ 0) (μ 5 0) = mEdge (hOf μ 0) 0 := cRail_0 (hOf μ 0)
  have q1 : cRail (hOf μ 0) (μ 5 1) = mEdge (hOf μ 0) 1 := cRail_1 (hOf μ 0)
  refine x_iload_n (i := 1) dX1_kindOf_0 rfl rfl ?_
  refine x_aload_n (i := 0) dX1_kindOf_1 rfl rfl ?_
  refine x_aload_n (i := 0) dX1_kindOf_2 rfl rfl ?_
  refine x_getR xf_RX1_24 dX1_kindOf_3 rfl rfl ?_
  refine x_iconst dX1_kindOf_6 ?_
  refine x_ialdK (K := 0) dX1_kindOf_7 rfl rfl (by decide) (by decide) ?_
  refine x_cIp0_1 lk_RX1_49 xm_X1_onThisRail dX1_kindOf_8 (s1_onThisRail _ (by omega) _ hI) ?_
  rw [q0]
  refine x_icmp_gt (tgt := 16) dX1_kindOf_11 (by decide) (by first | (unfold x_in; omega) | (unfold x_in; decide) | (unfold x_in; rw [Int.tdiv_eq_ediv_of_nonneg (by omega)]; omega)) (by first | (unfold x_in; omega) | (unfold x_in; decide) | (unfold x_in; rw [Int.tdiv_eq_ediv_of_nonneg (by omega)]; omega)) (fun c1 => ?_) (fun c1 => ?_)
  · refine x_aload_n (i := 0) dX1_kindOf_16 rfl rfl ?_
    refine x_aload_n (i := 0) dX1_kindOf_17 rfl rfl ?_
    refine x_getR xf_RX1_24 dX1_kindOf_18 rfl rfl ?_
    refine x_iconst dX1_kindOf_21 ?_
    refine x_ialdK (K := 1) dX1_kindOf_22 rfl rfl (by decide) (by decide) ?_
    refine x_cIp0_1 lk_RX1_49 xm_X1_onThisRail dX1_kindOf_23 (s1_onThisRail _ (by omega) _ hI) ?_
    rw [q1]
    refine x_istore_2 dX1_kindOf_26 (by decide) rfl ?_
    refine x_iload_n (i := 1) dX1_kindOf_27 rfl rfl ?_
    refine x_iload_n (i := 2) dX1_kindOf_28 rfl rfl ?_
    refine x_icmp_gt (tgt := 34) dX1_kindOf_29 (by decide) (by first | (unfold x_in; omega) | (unfold x_in; decide) | (unfold x_in; rw [Int.tdiv_eq_ediv_of_nonneg (by omega)]; omega)) (by first | (unfold x_in; omega) | (unfold x_in; decide) | (unfold x_in; rw [Int.tdiv_eq_ediv_of_nonneg (by omega)]; omega)) (fun c2 => ?_) (fun c2 => ?_)
    · refine x_iload_n (i := 1) dX1_kindOf_34 rfl rfl ?_
      refine x_iconst dX1_kindOf_35 ?_
      refine x_iadd dX1_kindOf_36 ?_
      refine x_iconst dX1_kindOf_37 ?_
      refine x_idiv dX1_kindOf_38 (by first | (unfold x_in; omega) | (unfold x_in; decide) | (unfold x_in; rw [Int.tdiv_eq_ediv_of_nonneg (by omega)]; omega)) (by first | (unfold x_in; omega) | (unfold x_in; decide) | (unfold x_in; rw [Int.tdiv_eq_ediv_of_nonneg (by omega)]; omega)) (by unfold x_in; rw [Int.tdiv_eq_ediv_of_nonneg (by omega)]; omega) (by decide) ?_
      refine x_iload_n (i := 2) dX1_kindOf_39 rfl rfl ?_
      refine x_icmp_gt (tgt := 47) dX1_kindOf_40 (by decide) (by first | (unfold x_in; omega) | (unfold x_in; decide) | (unfold x_in; rw [Int.tdiv_eq_ediv_of_nonneg (by omega)]; omega)) (by first | (unfold x_in; omega) | (unfold x_in; decide) | (unfold x_in; rw [Int.tdiv_eq_ediv_of_nonneg (by omega)]; omega)) (fun c3 => ?_) (fun c3 => ?_)
      · refine x_iconst dX1_kindOf_47 ?_
        exact x_iret dX1_kindOf_48 rfl rfl (x_ok (by unfold mKindBy; first | (rw [if_pos (by omega)]; done) | (rw [if_neg (by omega), if_pos (by omega)]; done) | (rw [if_neg (by omega), if_neg (by omega), if_pos (by omega)]; done) | (rw [if_neg (by omega), if_neg (by omega), if_neg (by omega)]; done)) (by rfl))
      · refine x_iconst dX1_kindOf_43 ?_
        refine x_goto (tgt := 48) dX1_kindOf_44 (by decide) ?_
        exact x_iret dX1_kindOf_48 rfl rfl (x_ok (by unfold mKindBy; first | (rw [if_pos (by omega)]; done) | (rw [if_neg (by omega), if_pos (by omega)]; done) | (rw [if_neg (by omega), if_neg (by omega), if_pos (by omega)]; done) | (rw [if_neg (by omega), if_neg (by omega), if_neg (by omega)]; done)) (by rfl))
    · refine x_iconst dX1_kindOf_32 ?_
      exact x_iret dX1_kindOf_33 rfl rfl (x_ok (by unfold mKindBy; first | (rw [if_pos (by omega)]; done) | (rw [if_neg (by omega), if_pos (by omega)]; done) | (rw [if_neg (by omega), if_neg (by omega), if_pos (by omega)]; done) | (rw [if_neg (by omega), if_neg (by omega), if_neg (by omega)]; done)) (by rfl))
  · refine x_iconst dX1_kindOf_14 ?_
    exact x_iret dX1_kindOf_15 rfl rfl (x_ok (by unfold mKindBy; first | (rw [if_pos (by omega)]; done) | (rw [if_neg (by omega), if_pos (by omega)]; done) | (rw [if_neg (by omega), if_neg (by omega), if_pos (by omega)]; done) | (rw [if_neg (by omega), if_neg (by omega), if_neg (by omega)]; done)) (by rfl))
set_option maxRecDepth 100000 in
set_option maxHeartbeats 4000000 in
theorem s1_climbMinutes (k : Int) (hk : 0 ≤ k ∧ k ≤ 3) (μ : xM) (hI : MI (hOf μ 0)) : X E0 shHill 1 yX1_climbMinutes cX1_climbMinutes 4 (some .int) 0 [some (.inr (.inl 0)), some (.inl k), none, none] [] μ (x_Q (cMin (hOf μ 0) k) μ) := by
  have h0 : 0 ≤ μ 0 0 ∧ μ 0 0 ≤ 5 := hI.1
  have h1 : 0 ≤ μ 0 3 ∧ μ 0 3 ≤ 8 := hI.2.1
  have r5 := hOf_r5 hI
  simp only [Nat.zero_add] at r5
  refine x_aload_n (i := 0) dX1_climbMinutes_0 rfl rfl ?_
  refine x_cIp0_0 lk_RX1_53 xm_X1_baseMinutes dX1_climbMinutes_1 (s1_baseMinutes _ hI) ?_
  refine x_istore_2 dX1_climbMinutes_4 (by decide) rfl ?_
  refine x_aload_n (i := 0) dX1_climbMinutes_5 rfl rfl ?_
  refine x_getR xf_RX1_24 dX1_climbMinutes_6 rfl rfl ?_
  refine x_iconst dX1_climbMinutes_9 ?_
  refine x_ialdK (K := 3) dX1_climbMinutes_10 rfl rfl (by decide) (by decide) ?_
  refine x_iload_n (i := 2) dX1_climbMinutes_11 rfl rfl ?_
  refine x_iadd dX1_climbMinutes_12 ?_
  refine x_aload_n (i := 0) dX1_climbMinutes_13 rfl rfl ?_
  refine x_getR xf_RX1_24 dX1_climbMinutes_14 rfl rfl ?_
  refine x_iconst dX1_climbMinutes_17 ?_
  refine x_ialdK (K := 4) dX1_climbMinutes_18 rfl rfl (by decide) (by decide) ?_
  refine x_iadd dX1_climbMinutes_19 ?_
  refine x_istore_3 dX1_climbMinutes_20 (by decide) rfl ?_
  refine x_iload_n (i := 1) dX1_climbMinutes_21 rfl rfl ?_
  refine x_tab3 (td := 58) (t0 := 48) (t1 := 50) (t2 := 52) dX1_climbMinutes_22 (by first | (unfold x_in; omega) | (unfold x_in; decide)) (by decide) (by decide) (by decide) (by decide) (by decide) (fun c1 => ?_) (fun c1 => ?_) (fun c1 => ?_) (fun c1 => ?_)
  · refine x_iload_n (i := 2) dX1_climbMinutes_48 rfl rfl ?_
    exact x_iret dX1_climbMinutes_49 rfl rfl (x_ok (by unfold cMin; first | (rw [if_pos (by omega)]; done) | (rw [if_neg (by omega), if_pos (by omega)]; rfl) | (rw [if_neg (by omega), if_neg (by omega), if_pos (by omega)]; rfl) | (rw [if_neg (by omega), if_neg (by omega), if_neg (by omega)]; done)) (by rfl))
  · refine x_iload_n (i := 3) dX1_climbMinutes_50 rfl rfl ?_
    exact x_iret dX1_climbMinutes_51 rfl rfl (x_ok (by unfold cMin; first | (rw [if_pos (by omega)]; done) | (rw [if_neg (by omega), if_pos (by omega)]; rfl) | (rw [if_neg (by omega), if_neg (by omega), if_pos (by omega)]; rfl) | (rw [if_neg (by omega), if_neg (by omega), if_neg (by omega)]; done)) (by rfl))
  · refine x_iconst dX1_climbMinutes_52 ?_
    refine x_iload_n (i := 3) dX1_climbMinutes_53 rfl rfl ?_
    refine x_imul dX1_climbMinutes_54 ?_
    refine x_iload_n (i := 2) dX1_climbMinutes_55 rfl rfl ?_
    refine x_iadd dX1_climbMinutes_56 ?_
    exact x_iret dX1_climbMinutes_57 rfl rfl (x_ok (by unfold cMin; first | (rw [if_pos (by omega)]; done) | (rw [if_neg (by omega), if_pos (by omega)]; rfl) | (rw [if_neg (by omega), if_neg (by omega), if_pos (by omega)]; rfl) | (rw [if_neg (by omega), if_neg (by omega), if_neg (by omega)]; done)) (by rfl))
  · refine x_bipush dX1_climbMinutes_58 (by decide) ?_
    exact x_iret dX1_climbMinutes_60 rfl rfl (x_ok (by unfold cMin; first | (rw [if_pos (by omega)]; done) | (rw [if_neg (by omega), if_pos (by omega)]; rfl) | (rw [if_neg (by omega), if_neg (by omega), if_pos (by omega)]; rfl) | (rw [if_neg (by omega), if_neg (by omega), if_neg (by omega)]; done)) (by rfl))
