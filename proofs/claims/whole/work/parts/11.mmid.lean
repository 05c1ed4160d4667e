/-! THE REFERENCE, the hill: kinds, minutes, and what a day's state lets -/
def bI (b : Bool) : Int := if b = true then 1 else 0
theorem bI_in (b : Bool) : 0 ≤ bI b ∧ bI b ≤ 1 := by cases b <;> decide
theorem bI_t {b : Bool} (h : bI b ≠ 0) : b = true := by cases b <;> simp_all [bI]
theorem bI_f {b : Bool} (h : bI b = 0) : b = false := by cases b <;> simp_all [bI]
theorem bI_01 (b : Bool) : bI b = 0 ∨ bI b = 1 := by cases b <;> decide
theorem mWt_in {h : Nat → Int} (hI : MI h) {t : Int} (h0 : 0 ≤ t) (h8 : t < 8) : 0 ≤ mWt h t ∧ mWt h t ≤ 999 := by
  obtain ⟨-, -, -, -, -, -, -, -, -, -, -, -, -, -, ht, -⟩ := hI
  exact (ht t h0 h8).2
theorem mCm_in {h : Nat → Int} (hI : MI h) {t : Int} (h0 : 0 ≤ t) (h8 : t < 8) : 0 ≤ mCm h t ∧ mCm h t ≤ 600 := by
  obtain ⟨-, -, -, -, -, -, -, -, -, -, -, -, -, -, ht, -⟩ := hI
  exact (ht t h0 h8).1
theorem mTakes_in {h : Nat → Int} (hI : MI h) (t : Int) : -9 ≤ mTakes h t ∧ mTakes h t ≤ 215 := by
  have hb := mBase_in hI
  obtain ⟨-, -, -, -, -, -, -, h7, h8, -⟩ := hI
  unfold mTakes
  split
  · omega
  · split
    · omega
    · split <;> omega
theorem mTakes_pos {h : Nat → Int} (hI : MI h) {t : Int} (hk : mKind h t ≠ 3) : 0 ≤ mTakes h t := by
  have hb := mBase_in hI
  have hk2 := mKind_in h t
  obtain ⟨-, -, -, -, -, -, -, h7, h8, -⟩ := hI
  unfold mTakes
  split
  · omega
  · split
    · omega
    · split <;> omega
set_option maxRecDepth 100000 in
set_option maxHeartbeats 4000000 in
theorem s6_weight (t : Int) (ht : 0 ≤ t ∧ t < 8) (μ : xM) : X E0 shM 0 yX6_weight cX6_weight 2 (some .int) 0 [some (.inr (.inl 0)), some (.inl t)] [] μ (x_Q (mWt (μ 2) t) μ) := by
  refine x_aload_n (i := 0) dX6_weight_0 rfl rfl ?_
  refine x_getR xf_RX6_13 dX6_weight_1 rfl rfl ?_
  refine x_bipush dX6_weight_4 (by decide) ?_
  refine x_iconst dX6_weight_6 ?_
  refine x_iload_n (i := 1) dX6_weight_7 rfl rfl ?_
  refine x_imul dX6_weight_8 ?_
  refine x_iadd dX6_weight_9 ?_
  refine x_iconst dX6_weight_10 ?_
  refine x_iadd dX6_weight_11 ?_
  refine x_iald dX6_weight_12 rfl (by decide) (by first | omega | decide) (by first | omega | decide) ?_
  exact x_iret dX6_weight_13 rfl rfl (x_ok (by first | rfl | omega | (simp [*]; done)) (by rfl))
set_option maxRecDepth 100000 in
set_option maxHeartbeats 4000000 in
theorem s6_comesAt (t : Int) (ht : 0 ≤ t ∧ t < 8) (μ : xM) : X E0 shM 0 yX6_comesAt cX6_comesAt 2 (some .int) 0 [some (.inr (.inl 0)), some (.inl t)] [] μ (x_Q (mCm (μ 2) t) μ) := by
  refine x_aload_n (i := 0) dX6_comesAt_0 rfl rfl ?_
  refine x_getR xf_RX6_13 dX6_comesAt_1 rfl rfl ?_
  refine x_bipush dX6_comesAt_4 (by decide) ?_
  refine x_iconst dX6_comesAt_6 ?_
  refine x_iload_n (i := 1) dX6_comesAt_7 rfl rfl ?_
  refine x_imul dX6_comesAt_8 ?_
  refine x_iadd dX6_comesAt_9 ?_
  refine x_iald dX6_comesAt_10 rfl (by decide) (by first | omega | decide) (by first | omega | decide) ?_
  exact x_iret dX6_comesAt_11 rfl rfl (x_ok (by first | rfl | omega | (simp [*]; done)) (by rfl))
set_option maxRecDepth 100000 in
set_option maxHeartbeats 4000000 in
theorem s6_kindOf (t : Int) (ht : 0 ≤ t ∧ t < 8) (μ : xM) (hI : MI (μ 2)) : X E0 shM 2 yX6_kindOf cX6_kindOf 2 (some .int) 0 [some (.inr (.inl 0)), some (.inl t)] [] μ (x_Q (mKind (μ 2) t) μ) := by
  have hw := mWt_in hI ht.1 ht.2
  refine x_aload_n (i := 0) dX6_kindOf_0 rfl rfl ?_
  refine x_aload_n (i := 0) dX6_kindOf_1 rfl rfl ?_
  refine x_iload_n (i := 1) dX6_kindOf_2 rfl rfl ?_
  refine x_cIp0_1 lk_RX6_106 xm_X6_weight dX6_kindOf_3 (s6_weight _ ht _) ?_
  refine x_cIp0_1 lk_RX6_109 xm_X6_kindBy dX6_kindOf_6 (s6_kindBy _ (by omega) _ hI) ?_
  exact x_iret dX6_kindOf_9 rfl rfl (x_ok (by first | rfl | omega | (simp [*]; done)) (by rfl))
theorem mIn_t {v n : Int} (h : mIn v n ≠ 0) : 0 ≤ v ∧ v < n := by
  unfold mIn at h
  split at h
  · assumption
  · exact absurd rfl h
theorem mIn_f {v n : Int} (h : mIn v n = 0) : ¬ (0 ≤ v ∧ v < n) := by
  unfold mIn at h
  split at h
  · exact absurd h (by decide)
  · assumption
theorem mIn_in (v n : Int) : 0 ≤ mIn v n ∧ mIn v n ≤ 1 := by
  unfold mIn
  split <;> omega
set_option maxRecDepth 100000 in
set_option maxHeartbeats 4000000 in
theorem s6_climbs (t : Int) (ht : x_in t) (μ : xM) (hI : MI (μ 2)) : X E0 shM 3 yX6_climbs cX6_climbs 2 (some .int) 0 [some (.inr (.inl 0)), some (.inl t)] [] μ (x_Q (if 0 ≤ t ∧ t < μ 2 1 then mKind (μ 2) t else -1) (if 0 ≤ t ∧ t < μ 2 1 then μ else mRef μ (-1))) := by
  have hm := mIn_in t (μ 2 1)
  have h1 := hI.2.1
  refine x_aload_n (i := 0) dX6_climbs_0 rfl rfl ?_
  refine x_iload_n (i := 1) dX6_climbs_1 rfl rfl ?_
  refine x_cIp0_1 lk_RX6_90 xm_X6_isTrain dX6_climbs_2 (s6_isTrain _ ht _ hI) ?_
  refine x_if_eq (tgt := 16) dX6_climbs_5 (by decide) (by first | (unfold x_in; omega) | (unfold x_in; decide)) (fun c1 => ?_) (fun c1 => ?_)
  · refine x_aload_n (i := 0) dX6_climbs_16 rfl rfl ?_
    refine x_iconst dX6_climbs_17 ?_
    refine x_cIf0_1 lk_RX6_50 xm_X6_refuse dX6_climbs_18 (s6_refuse _ (by decide) _) ?_
    exact x_iret dX6_climbs_21 rfl rfl (x_ok (by first | (rw [if_pos (mIn_t c1)]; done) | (rw [if_neg (mIn_f c1)]; done)) (by first | (rw [if_pos (mIn_t c1)]; done) | (rw [if_neg (mIn_f c1)]; done)))
  · refine x_aload_n (i := 0) dX6_climbs_8 rfl rfl ?_
    refine x_iload_n (i := 1) dX6_climbs_9 rfl rfl ?_
    refine x_cIp0_1 lk_RX6_112 xm_X6_kindOf dX6_climbs_10 (s6_kindOf _ (by have := mIn_t c1; have := hI.2.1; omega) _ hI) ?_
    refine x_goto (tgt := 21) dX6_climbs_13 (by decide) ?_
    exact x_iret dX6_climbs_21 rfl rfl (x_ok (by first | (rw [if_pos (mIn_t c1)]; done) | (rw [if_neg (mIn_f c1)]; done)) (by first | (rw [if_pos (mIn_t c1)]; done) | (rw [if_neg (mIn_f c1)]; done)))
set_option maxRecDepth 100000 in
set_option maxHeartbeats 4000000 in
theorem l6_baseOf (μ : xM) (hI : MI (μ 2)) : ∀ (n : Nat) (p : Int), 0 ≤ p → p ≤ μ 2 0 → (μ 2 0 - p).toNat < n → X E0 shM 0 yX6_baseOf cX6_baseOf 3 (some .int) 4 [some (.inr (.inl 0)), some (.inl (mBaseN (μ 2) p.toNat)), some (.inl p)] [] μ (x_Q (mBase (μ 2)) μ) := by
  have h0 := hI.1
  intro n
  induction n with
  | zero => intro p _ _ h; omega
  | succ n ih =>
    intro p hp hp2 hn
    refine x_iload_n (i := 2) dX6_baseOf_4 rfl rfl ?_
    refine x_aload_n (i := 0) dX6_baseOf_5 rfl rfl ?_
    refine x_getR xf_RX6_13 dX6_baseOf_6 rfl rfl ?_
    refine x_iconst dX6_baseOf_9 ?_
    refine x_ialdK (K := 0) dX6_baseOf_10 rfl rfl (by decide) (by decide) ?_
    refine x_icmp_ge (tgt := 34) dX6_baseOf_11 (by decide) (by first | (unfold x_in; omega) | (unfold x_in; decide)) (by first | (unfold x_in; omega) | (unfold x_in; decide)) (fun c1 => ?_) (fun c1 => ?_)
    · refine x_iload_n (i := 1) dX6_baseOf_34 rfl rfl ?_
      exact x_iret dX6_baseOf_35 rfl rfl (x_ok (by rw [show p = μ 2 0 by omega]; rfl) (by rfl))
    · refine x_iload_n (i := 1) dX6_baseOf_14 rfl rfl ?_
      refine x_aload_n (i := 0) dX6_baseOf_15 rfl rfl ?_
      refine x_getR xf_RX6_13 dX6_baseOf_16 rfl rfl ?_
      refine x_bipush dX6_baseOf_19 (by decide) ?_
      refine x_iconst dX6_baseOf_21 ?_
      refine x_iload_n (i := 2) dX6_baseOf_22 rfl rfl ?_
      refine x_imul dX6_baseOf_23 ?_
      refine x_iadd dX6_baseOf_24 ?_
      refine x_iald dX6_baseOf_25 rfl (by decide) (by first | omega | decide) (by first | omega | decide) ?_
      refine x_iadd dX6_baseOf_26 ?_
      refine x_istore_1 dX6_baseOf_27 (by decide) rfl ?_
      refine x_iinc_2 dX6_baseOf_28 (by decide) rfl ?_
      refine x_goto (tgt := 4) dX6_baseOf_31 (by decide) ?_
      have h := ih (p + 1) (by omega) (by omega) (by omega)
      rw [mBase_s _ hp] at h
      exact h
set_option maxRecDepth 100000 in
set_option maxHeartbeats 4000000 in
theorem s6_baseOf (μ : xM) (hI : MI (μ 2)) : X E0 shM 0 yX6_baseOf cX6_baseOf 3 (some .int) 0 [some (.inr (.inl 0)), none, none] [] μ (x_Q (mBase (μ 2)) μ) := by
  have h0 := hI.1
  refine x_iconst dX6_baseOf_0 ?_
  refine x_istore_1 dX6_baseOf_1 (by decide) rfl ?_
  refine x_iconst dX6_baseOf_2 ?_
  refine x_istore_2 dX6_baseOf_3 (by decide) rfl ?_
  exact l6_baseOf μ hI _ 0 (by omega) (by omega) (Nat.lt_succ_self _)
set_option maxRecDepth 100000 in
set_option maxHeartbeats 4000000 in
theorem s6_base (μ : xM) (hI : MI (μ 2)) : X E0 shM 1 yX6_base cX6_base 1 (some .int) 0 [some (.inr (.inl 0))] [] μ (x_Q (mBase (μ 2)) μ) := by
  refine x_aload_n (i := 0) dX6_base_0 rfl rfl ?_
  refine x_cIp0_0 lk_RX6_115 xm_X6_baseOf dX6_base_1 (s6_baseOf _ hI) ?_
  exact x_iret dX6_base_4 rfl rfl (x_ok (by first | rfl | omega | (simp [*]; done)) (by rfl))
set_option maxRecDepth 100000 in
set_option maxHeartbeats 4000000 in
theorem s6_takesOf (t : Int) (ht : 0 ≤ t ∧ t < 8) (μ : xM) (hI : MI (μ 2)) : X E0 shM 3 yX6_takesOf cX6_takesOf 3 (some .int) 0 [some (.inr (.inl 0)), some (.inl t), none] [] μ (x_Q (mTakes (μ 2) t) μ) := by
  have hk := mKind_in (μ 2) t
  have hb := mBase_in hI
  refine x_aload_n (i := 0) dX6_takesOf_0 rfl rfl ?_
  refine x_getR xf_RX6_13 dX6_takesOf_1 rfl rfl ?_
  refine x_bipush dX6_takesOf_4 (by decide) ?_
  refine x_ialdK (K := 7) dX6_takesOf_6 rfl rfl (by decide) (by decide) ?_
  refine x_aload_n (i := 0) dX6_takesOf_7 rfl rfl ?_
  refine x_cIp0_0 lk_RX6_115 xm_X6_baseOf dX6_takesOf_8 (s6_baseOf _ hI) ?_
  refine x_iadd dX6_takesOf_11 ?_
  refine x_aload_n (i := 0) dX6_takesOf_12 rfl rfl ?_
  refine x_getR xf_RX6_13 dX6_takesOf_13 rfl rfl ?_
  refine x_bipush dX6_takesOf_16 (by decide) ?_
  refine x_ialdK (K := 8) dX6_takesOf_18 rfl rfl (by decide) (by decide) ?_
  refine x_iadd dX6_takesOf_19 ?_
  refine x_istore_2 dX6_takesOf_20 (by decide) rfl ?_
  refine x_aload_n (i := 0) dX6_takesOf_21 rfl rfl ?_
  refine x_iload_n (i := 1) dX6_takesOf_22 rfl rfl ?_
  refine x_cIp0_1 lk_RX6_112 xm_X6_kindOf dX6_takesOf_23 (s6_kindOf _ ht _ hI) ?_
  refine x_tab3 (td := 68) (t0 := 52) (t1 := 57) (t2 := 59) dX6_takesOf_26 (by first | (unfold x_in; omega) | (unfold x_in; decide)) (by decide) (by decide) (by decide) (by decide) (by decide) (fun c1 => ?_) (fun c1 => ?_) (fun c1 => ?_) (fun c1 => ?_)
  · refine x_aload_n (i := 0) dX6_takesOf_52 rfl rfl ?_
    refine x_cIp0_0 lk_RX6_115 xm_X6_baseOf dX6_takesOf_53 (s6_baseOf _ hI) ?_
    exact x_iret dX6_takesOf_56 rfl rfl (x_ok (by unfold mTakes; first | (rw [if_pos (by omega)]; done) | (rw [if_neg (by omega), if_pos (by omega)]; done) | (rw [if_neg (by omega), if_neg (by omega), if_pos (by omega)]; done) | (rw [if_neg (by omega), if_neg (by omega), if_neg (by omega)]; done)) (by rfl))
  · refine x_iload_n (i := 2) dX6_takesOf_57 rfl rfl ?_
    exact x_iret dX6_takesOf_58 rfl rfl (x_ok (by unfold mTakes; first | (rw [if_pos (by omega)]; done) | (rw [if_neg (by omega), if_pos (by omega)]; done) | (rw [if_neg (by omega), if_neg (by omega), if_pos (by omega)]; done) | (rw [if_neg (by omega), if_neg (by omega), if_neg (by omega)]; done)) (by rfl))
  · refine x_iconst dX6_takesOf_59 ?_
    refine x_iload_n (i := 2) dX6_takesOf_60 rfl rfl ?_
    refine x_imul dX6_takesOf_61 ?_
    refine x_aload_n (i := 0) dX6_takesOf_62 rfl rfl ?_
    refine x_cIp0_0 lk_RX6_115 xm_X6_baseOf dX6_takesOf_63 (s6_baseOf _ hI) ?_
    refine x_iadd dX6_takesOf_66 ?_
    exact x_iret dX6_takesOf_67 rfl rfl (x_ok (by unfold mTakes; first | (rw [if_pos (by omega)]; done) | (rw [if_neg (by omega), if_pos (by omega)]; done) | (rw [if_neg (by omega), if_neg (by omega), if_pos (by omega)]; done) | (rw [if_neg (by omega), if_neg (by omega), if_neg (by omega)]; done)) (by rfl))
  · refine x_bipush dX6_takesOf_68 (by decide) ?_
    exact x_iret dX6_takesOf_70 rfl rfl (x_ok (by unfold mTakes; first | (rw [if_pos (by omega)]; done) | (rw [if_neg (by omega), if_pos (by omega)]; done) | (rw [if_neg (by omega), if_neg (by omega), if_pos (by omega)]; done) | (rw [if_neg (by omega), if_neg (by omega), if_neg (by omega)]; done)) (by rfl))
set_option maxRecDepth 100000 in
set_option maxHeartbeats 4000000 in
theorem s6_takes (t : Int) (ht : x_in t) (μ : xM) (hI : MI (μ 2)) : X E0 shM 4 yX6_takes cX6_takes 2 (some .int) 0 [some (.inr (.inl 0)), some (.inl t)] [] μ (x_Q (if 0 ≤ t ∧ t < μ 2 1 then mTakes (μ 2) t else -1) (if 0 ≤ t ∧ t < μ 2 1 then μ else mRef μ (-1))) := by
  have hm := mIn_in t (μ 2 1)
  have h1 := hI.2.1
  refine x_aload_n (i := 0) dX6_takes_0 rfl rfl ?_
  refine x_iload_n (i := 1) dX6_takes_1 rfl rfl ?_
  refine x_cIp0_1 lk_RX6_90 xm_X6_isTrain dX6_takes_2 (s6_isTrain _ ht _ hI) ?_
  refine x_if_eq (tgt := 16) dX6_takes_5 (by decide) (by first | (unfold x_in; omega) | (unfold x_in; decide)) (fun c1 => ?_) (fun c1 => ?_)
  · refine x_aload_n (i := 0) dX6_takes_16 rfl rfl ?_
    refine x_iconst dX6_takes_17 ?_
    refine x_cIf0_1 lk_RX6_50 xm_X6_refuse dX6_takes_18 (s6_refuse _ (by decide) _) ?_
    exact x_iret dX6_takes_21 rfl rfl (x_ok (by first | (rw [if_pos (mIn_t c1)]; done) | (rw [if_neg (mIn_f c1)]; done)) (by first | (rw [if_pos (mIn_t c1)]; done) | (rw [if_neg (mIn_f c1)]; done)))
  · refine x_aload_n (i := 0) dX6_takes_8 rfl rfl ?_
    refine x_iload_n (i := 1) dX6_takes_9 rfl rfl ?_
    refine x_cIp0_1 lk_RX6_118 xm_X6_takesOf dX6_takes_10 (s6_takesOf _ (by have := mIn_t c1; have := hI.2.1; omega) _ hI) ?_
    refine x_goto (tgt := 21) dX6_takes_13 (by decide) ?_
    exact x_iret dX6_takes_21 rfl rfl (x_ok (by first | (rw [if_pos (mIn_t c1)]; done) | (rw [if_neg (mIn_f c1)]; done)) (by first | (rw [if_pos (mIn_t c1)]; done) | (rw [if_neg (mIn_f c1)]; done)))
set_option maxRecDepth 100000 in
set_option maxHeartbeats 4000000 in
theorem l6_singles (μ : xM) (hI : MI (μ 2)) : ∀ (n : Nat) (p : Int), 0 ≤ p → p ≤ μ 2 0 → (μ 2 0 - p).toNat < n → X E0 shM 0 yX6_singles cX6_singles 3 (some .int) 4 [some (.inr (.inl 0)), some (.inl (mSingN (μ 2) p.toNat)), some (.inl p)] [] μ (x_Q (mSing (μ 2)) μ) := by
  have h0 := hI.1
  intro n
  induction n with
  | zero => intro p _ _ h; omega
  | succ n ih =>
    intro p hp hp2 hn
    refine x_iload_n (i := 2) dX6_singles_4 rfl rfl ?_
    refine x_aload_n (i := 0) dX6_singles_5 rfl rfl ?_
    refine x_getR xf_RX6_13 dX6_singles_6 rfl rfl ?_
    refine x_iconst dX6_singles_9 ?_
    refine x_ialdK (K := 0) dX6_singles_10 rfl rfl (by decide) (by decide) ?_
    refine x_icmp_ge (tgt := 38) dX6_singles_11 (by decide) (by first | (unfold x_in; omega) | (unfold x_in; decide)) (by first | (unfold x_in; omega) | (unfold x_in; decide)) (fun c1 => ?_) (fun c1 => ?_)
    · refine x_iload_n (i := 1) dX6_singles_38 rfl rfl ?_
      exact x_iret dX6_singles_39 rfl rfl (x_ok (by rw [show p = μ 2 0 by omega]; rfl) (by rfl))
    · refine x_iload_n (i := 1) dX6_singles_14 rfl rfl ?_
      refine x_iconst dX6_singles_15 ?_
      refine x_aload_n (i := 0) dX6_singles_16 rfl rfl ?_
      refine x_getR xf_RX6_13 dX6_singles_17 rfl rfl ?_
      refine x_bipush dX6_singles_20 (by decide) ?_
      refine x_iconst dX6_singles_22 ?_
      refine x_iload_n (i := 2) dX6_singles_23 rfl rfl ?_
      refine x_imul dX6_singles_24 ?_
      refine x_iadd dX6_singles_25 ?_
      refine x_iconst dX6_singles_26 ?_
      refine x_iadd dX6_singles_27 ?_
      refine x_iald dX6_singles_28 rfl (by decide) (by first | omega | decide) (by first | omega | decide) ?_
      refine x_isub dX6_singles_29 ?_
      refine x_iadd dX6_singles_30 ?_
      refine x_istore_1 dX6_singles_31 (by decide) rfl ?_
      refine x_iinc_2 dX6_singles_32 (by decide) rfl ?_
      refine x_goto (tgt := 4) dX6_singles_35 (by decide) ?_
      have h := ih (p + 1) (by omega) (by omega) (by omega)
      rw [mSing_s _ hp] at h
      exact h
set_option maxRecDepth 100000 in
set_option maxHeartbeats 4000000 in
theorem s6_singles (μ : xM) (hI : MI (μ 2)) : X E0 shM 0 yX6_singles cX6_singles 3 (some .int) 0 [some (.inr (.inl 0)), none, none] [] μ (x_Q (mSing (μ 2)) μ) := by
  have h0 := hI.1
  refine x_iconst dX6_singles_0 ?_
  refine x_istore_1 dX6_singles_1 (by decide) rfl ?_
  refine x_iconst dX6_singles_2 ?_
  refine x_istore_2 dX6_singles_3 (by decide) rfl ?_
  exact l6_singles μ hI _ 0 (by omega) (by omega) (Nat.lt_succ_self _)
/-! a day's state: cell 0: 12 foot, 13 top, 14 downs, 15 lastUp, 16 lastDown, 17 dividedEnd; cells 7 upEnd, 8 downEnd, 9 began -/
def mUpN (μ : xM) : Nat → Bool
  | 0 => false
  | k + 1 => mUpN μ k || decide (0 ≤ μ 7 k)
def mUp (μ : xM) : Bool := mUpN μ (μ 2 1).toNat
def mDnN (μ : xM) : Nat → Bool
  | 0 => false
  | k + 1 => mDnN μ k || decide (0 ≤ μ 8 k)
def mDn (μ : xM) : Bool := mDnN μ 6
theorem mUp_s (μ : xM) {p : Int} (hp : 0 ≤ p) : mUpN μ (p + 1).toNat = (mUpN μ p.toNat || decide (0 ≤ μ 7 p.toNat)) := by rw [nat_succ hp, mUpN]
theorem mDn_s (μ : xM) {p : Int} (hp : 0 ≤ p) : mDnN μ (p + 1).toNat = (mDnN μ p.toNat || decide (0 ≤ μ 8 p.toNat)) := by rw [nat_succ hp, mDnN]
/-- the bounds of a day's state -/
def DB (μ : xM) : Prop := (0 ≤ μ 0 12 ∧ μ 0 12 ≤ 100) ∧ (0 ≤ μ 0 13 ∧ μ 0 13 ≤ 100) ∧ (-9999 ≤ μ 0 15 ∧ μ 0 15 ≤ 10000) ∧ (-9999 ≤ μ 0 16 ∧ μ 0 16 ≤ 10000) ∧ (0 ≤ μ 0 17 ∧ μ 0 17 ≤ 20000) ∧ (∀ t : Int, 0 ≤ t → t < 8 → (-9 ≤ μ 7 t.toNat ∧ μ 7 t.toNat ≤ 20000) ∧ (-9 ≤ μ 9 t.toNat ∧ μ 9 t.toNat ≤ 10000)) ∧ (∀ k : Int, 0 ≤ k → k < 6 → -9 ≤ μ 8 k.toNat ∧ μ 8 k.toNat ≤ 20000)
def mLetsDown (μ : xM) (m : Int) : Bool := decide (μ 0 17 ≤ m) && decide (μ 2 9 ≤ m - μ 0 16) && (decide (mSing (μ 2) = 0) || !mUp μ)
def mLetsUp (μ : xM) (m t : Int) : Bool := decide (μ 0 17 ≤ m) && decide (μ 2 9 ≤ m - μ 0 15) && !(decide (0 < mSing (μ 2)) && mDn μ) && (decide (mKind (μ 2) t ≠ 2) || (!mUp μ && !mDn μ))
def mHas (μ : xM) (t : Int) : Bool := decide (mKind (μ 2) t = 0) || decide (0 < μ 0 12)
def mWaits (μ : xM) (m t : Int) : Bool := decide (μ 9 t.toNat < 0) && decide (mCm (μ 2) t ≤ m) && decide (mKind (μ 2) t ≠ 3)
set_option maxRecDepth 100000 in
set_option maxHeartbeats 4000000 in
theorem l6_isUp (μ : xM) (hI : MI (μ 2)) (hB : DB μ) : ∀ (n : Nat) (p : Int), 0 ≤ p → p ≤ μ 2 1 → (μ 2 1 - p).toNat < n → X E0 shM 0 yX6_isUp cX6_isUp 3 (some .boolean) 4 [some (.inr (.inl 0)), some (.inl (bI (mUpN μ p.toNat))), some (.inl p)] [] μ (x_Q (bI (mUp μ)) μ) := by
  have h0 := hI.2.1
  obtain ⟨-, -, -, -, -, hb7, hb8⟩ := hB
  intro n
  induction n with
  | zero => intro p _ _ h; omega
  | succ n ih =>
    intro p hp hp2 hn
    have hx := bI_in (mUpN μ p.toNat)
    refine x_iload_n (i := 2) dX6_isUp_4 rfl rfl ?_
    refine x_aload_n (i := 0) dX6_isUp_5 rfl rfl ?_
    refine x_getR xf_RX6_13 dX6_isUp_6 rfl rfl ?_
    refine x_iconst dX6_isUp_9 ?_
    refine x_ialdK (K := 1) dX6_isUp_10 rfl rfl (by decide) (by decide) ?_
    refine x_icmp_ge (tgt := 39) dX6_isUp_11 (by decide) (by first | (unfold x_in; omega) | (unfold x_in; decide)) (by first | (unfold x_in; omega) | (unfold x_in; decide)) (fun c1 => ?_) (fun c1 => ?_)
    · refine x_iload_n (i := 1) dX6_isUp_39 rfl rfl ?_
      exact x_iret dX6_isUp_40 rfl (x_narZ (by exact bI_01 _)) (x_ok (by rw [show p = μ 2 1 by omega]; rfl) (by rfl))
    · refine x_iload_n (i := 1) dX6_isUp_14 rfl rfl ?_
      have hy := (hb7 p hp (by omega)).1
      refine x_if_ne (tgt := 27) dX6_isUp_15 (by decide) (by first | (unfold x_in; omega) | (unfold x_in; decide)) (fun c2 => ?_) (fun c2 => ?_)
      · refine x_iconst dX6_isUp_27 ?_
        refine x_goto (tgt := 32) dX6_isUp_28 (by decide) ?_
        refine x_istore_1 dX6_isUp_32 (by decide) rfl ?_
        refine x_iinc_2 dX6_isUp_33 (by decide) rfl ?_
        refine x_goto (tgt := 4) dX6_isUp_36 (by decide) ?_
        have h := ih (p + 1) (by omega) (by omega) (by omega)
        rw [mUp_s _ hp] at h
        first | (rw [bI_t c2] at h; exact h) | (rw [bI_f c2, Bool.false_or, decide_eq_true c3] at h; exact h) | (rw [bI_f c2, Bool.false_or, decide_eq_false (by omega)] at h; exact h)
      · refine x_aload_n (i := 0) dX6_isUp_18 rfl rfl ?_
        refine x_getR xf_RX6_28 dX6_isUp_19 rfl rfl ?_
        refine x_iload_n (i := 2) dX6_isUp_22 rfl rfl ?_
        refine x_iald dX6_isUp_23 rfl (by decide) (by first | omega | decide) (by first | omega | decide) ?_
        refine x_if_lt (tgt := 31) dX6_isUp_24 (by decide) (by first | (unfold x_in; omega) | (unfold x_in; decide)) (fun c3 => ?_) (fun c3 => ?_)
        · refine x_iconst dX6_isUp_31 ?_
          refine x_istore_1 dX6_isUp_32 (by decide) rfl ?_
          refine x_iinc_2 dX6_isUp_33 (by decide) rfl ?_
          refine x_goto (tgt := 4) dX6_isUp_36 (by decide) ?_
          have h := ih (p + 1) (by omega) (by omega) (by omega)
          rw [mUp_s _ hp] at h
          first | (rw [bI_t c2] at h; exact h) | (rw [bI_f c2, Bool.false_or, decide_eq_true c3] at h; exact h) | (rw [bI_f c2, Bool.false_or, decide_eq_false (by omega)] at h; exact h)
        · refine x_iconst dX6_isUp_27 ?_
          refine x_goto (tgt := 32) dX6_isUp_28 (by decide) ?_
          refine x_istore_1 dX6_isUp_32 (by decide) rfl ?_
          refine x_iinc_2 dX6_isUp_33 (by decide) rfl ?_
          refine x_goto (tgt := 4) dX6_isUp_36 (by decide) ?_
          have h := ih (p + 1) (by omega) (by omega) (by omega)
          rw [mUp_s _ hp] at h
          first | (rw [bI_t c2] at h; exact h) | (rw [bI_f c2, Bool.false_or, decide_eq_true c3] at h; exact h) | (rw [bI_f c2, Bool.false_or, decide_eq_false (by omega)] at h; exact h)
set_option maxRecDepth 100000 in
set_option maxHeartbeats 4000000 in
theorem s6_isUp (μ : xM) (hI : MI (μ 2)) (hB : DB μ) : X E0 shM 0 yX6_isUp cX6_isUp 3 (some .boolean) 0 [some (.inr (.inl 0)), none, none] [] μ (x_Q (bI (mUp μ)) μ) := by
  have h0 := hI.2.1
  refine x_iconst dX6_isUp_0 ?_
  refine x_istore_1 dX6_isUp_1 (by decide) rfl ?_
  refine x_iconst dX6_isUp_2 ?_
  refine x_istore_2 dX6_isUp_3 (by decide) rfl ?_
  exact l6_isUp μ hI hB _ 0 (by omega) (by omega) (Nat.lt_succ_self _)
set_option maxRecDepth 100000 in
set_option maxHeartbeats 4000000 in
theorem l6_isDown (μ : xM) (hI : MI (μ 2)) (hB : DB μ) : ∀ (n : Nat) (p : Int), 0 ≤ p → p ≤ 6 → (6 - p).toNat < n → X E0 shM 0 yX6_isDown cX6_isDown 3 (some .boolean) 4 [some (.inr (.inl 0)), some (.inl (bI (mDnN μ p.toNat))), some (.inl p)] [] μ (x_Q (bI (mDn μ)) μ) := by
  have h0 := hI.2.1
  obtain ⟨-, -, -, -, -, hb7, hb8⟩ := hB
  intro n
  induction n with
  | zero => intro p _ _ h; omega
  | succ n ih =>
    intro p hp hp2 hn
    have hx := bI_in (mDnN μ p.toNat)
    refine x_iload_n (i := 2) dX6_isDown_4 rfl rfl ?_
    refine x_bipush dX6_isDown_5 (by decide) ?_
    refine x_icmp_ge (tgt := 35) dX6_isDown_7 (by decide) (by first | (unfold x_in; omega) | (unfold x_in; decide)) (by first | (unfold x_in; omega) | (unfold x_in; decide)) (fun c1 => ?_) (fun c1 => ?_)
    · refine x_iload_n (i := 1) dX6_isDown_35 rfl rfl ?_
      exact x_iret dX6_isDown_36 rfl (x_narZ (by exact bI_01 _)) (x_ok (by rw [show p = 6 by omega]; rfl) (by rfl))
    · refine x_iload_n (i := 1) dX6_isDown_10 rfl rfl ?_
      have hy := hb8 p hp (by omega)
      refine x_if_ne (tgt := 23) dX6_isDown_11 (by decide) (by first | (unfold x_in; omega) | (unfold x_in; decide)) (fun c2 => ?_) (fun c2 => ?_)
      · refine x_iconst dX6_isDown_23 ?_
        refine x_goto (tgt := 28) dX6_isDown_24 (by decide) ?_
        refine x_istore_1 dX6_isDown_28 (by decide) rfl ?_
        refine x_iinc_2 dX6_isDown_29 (by decide) rfl ?_
        refine x_goto (tgt := 4) dX6_isDown_32 (by decide) ?_
        have h := ih (p + 1) (by omega) (by omega) (by omega)
        rw [mDn_s _ hp] at h
        first | (rw [bI_t c2] at h; exact h) | (rw [bI_f c2, Bool.false_or, decide_eq_true c3] at h; exact h) | (rw [bI_f c2, Bool.false_or, decide_eq_false (by omega)] at h; exact h)
      · refine x_aload_n (i := 0) dX6_isDown_14 rfl rfl ?_
        refine x_getR xf_RX6_31 dX6_isDown_15 rfl rfl ?_
        refine x_iload_n (i := 2) dX6_isDown_18 rfl rfl ?_
        refine x_iald dX6_isDown_19 rfl (by decide) (by first | omega | decide) (by first | omega | decide) ?_
        refine x_if_lt (tgt := 27) dX6_isDown_20 (by decide) (by first | (unfold x_in; omega) | (unfold x_in; decide)) (fun c3 => ?_) (fun c3 => ?_)
        · refine x_iconst dX6_isDown_27 ?_
          refine x_istore_1 dX6_isDown_28 (by decide) rfl ?_
          refine x_iinc_2 dX6_isDown_29 (by decide) rfl ?_
          refine x_goto (tgt := 4) dX6_isDown_32 (by decide) ?_
          have h := ih (p + 1) (by omega) (by omega) (by omega)
          rw [mDn_s _ hp] at h
          first | (rw [bI_t c2] at h; exact h) | (rw [bI_f c2, Bool.false_or, decide_eq_true c3] at h; exact h) | (rw [bI_f c2, Bool.false_or, decide_eq_false (by omega)] at h; exact h)
        · refine x_iconst dX6_isDown_23 ?_
          refine x_goto (tgt := 28) dX6_isDown_24 (by decide) ?_
          refine x_istore_1 dX6_isDown_28 (by decide) rfl ?_
          refine x_iinc_2 dX6_isDown_29 (by decide) rfl ?_
          refine x_goto (tgt := 4) dX6_isDown_32 (by decide) ?_
          have h := ih (p + 1) (by omega) (by omega) (by omega)
          rw [mDn_s _ hp] at h
          first | (rw [bI_t c2] at h; exact h) | (rw [bI_f c2, Bool.false_or, decide_eq_true c3] at h; exact h) | (rw [bI_f c2, Bool.false_or, decide_eq_false (by omega)] at h; exact h)
set_option maxRecDepth 100000 in
set_option maxHeartbeats 4000000 in
theorem s6_isDown (μ : xM) (hI : MI (μ 2)) (hB : DB μ) : X E0 shM 0 yX6_isDown cX6_isDown 3 (some .boolean) 0 [some (.inr (.inl 0)), none, none] [] μ (x_Q (bI (mDn μ)) μ) := by
  have h0 := hI.2.1
  refine x_iconst dX6_isDown_0 ?_
  refine x_istore_1 dX6_isDown_1 (by decide) rfl ?_
  refine x_iconst dX6_isDown_2 ?_
  refine x_istore_2 dX6_isDown_3 (by decide) rfl ?_
  exact l6_isDown μ hI hB _ 0 (by omega) (by omega) (Nat.lt_succ_self _)
