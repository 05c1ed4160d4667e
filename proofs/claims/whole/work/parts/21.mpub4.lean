/-! THE REFERENCE: yard, feed, order -/
def YI (μ ν : xM) : Prop := Rest (mCp μ 10 2 47) ν ∧ (∀ w, hWtN (ν 2) w (μ 2 1).toNat = hWtN (μ 2) w (μ 2 1).toNat) ∧ ν 2 1 = μ 2 1 ∧ ∀ j : Nat, 47 ≤ j → ν 2 j = 0
theorem YI_step {μ ν ν2 : xM} (hI : MI (μ 2)) (h : YI μ ν) (w : Int) (hS : Same (mW ν w (μ 2 1).toNat) ν2) : YI μ ν2 := by
  have h10 := hI.2.1
  obtain ⟨a, b, c, d⟩ := h
  have e : ν2 2 = hWtN (ν 2) w (μ 2 1).toNat := by rw [hS.two, mW_2]
  refine ⟨(a.trans (mW_R ν w _)).same hS, fun w2 => by rw [e, hWtN_twice, b], by rw [e, hWtN_low _ _ _ _ (by decide), c], fun j hj => ?_⟩
  rw [e, hWtN_at _ _ _ _ (fun t ht => by omega), d j hj]
theorem YI_end {μ ν : xM} (hG : GI μ) (h : YI μ ν) : Abs μ (mCp ν 2 10 47) := by
  obtain ⟨a, b, c, d⟩ := h
  have e10 : ν 10 = μ 2 := by
    rw [a.2 10 (by decide) (by decide) (by decide) (by decide) (by decide)]
    exact mCp_all (fun j hj => ⟨(hG.2.1 j hj).1, (hG.2.1 j hj).2.2.2⟩)
  have ek : ∀ k, k ≠ 0 → k ≠ 2 → k ≠ 7 → k ≠ 8 → k ≠ 9 → k ≠ 10 → mCp ν 2 10 47 k = μ k := by
    intro k k0 k2 k7 k8 k9 k10
    rw [mCp_ne _ _ _ k2, a.2 k k0 k2 k7 k8 k9, mCp_ne _ _ _ k10]
  have e0 : ∀ j, j < 12 ∨ 17 < j → mCp ν 2 10 47 0 j = μ 0 j := by
    intro j hj
    rw [mCp_ne _ _ _ (by decide), a.1 j hj, mCp_ne _ _ _ (by decide)]
  refine ⟨ek 1 (by decide) (by decide) (by decide) (by decide) (by decide) (by decide), ?_, ek 3 (by decide) (by decide) (by decide) (by decide) (by decide) (by decide), ek 5 (by decide) (by decide) (by decide) (by decide) (by decide) (by decide), ek 12 (by decide) (by decide) (by decide) (by decide) (by decide) (by decide), e0 4 (by decide), e0 7 (by decide), e0 22 (by decide), fun j hj => ⟨?_, ?_⟩⟩
  · rw [mCp_all (fun j hj => ⟨by rw [e10]; exact (hG.2.1 j hj).1, d j hj⟩), e10]
  · rw [ek 4 (by decide) (by decide) (by decide) (by decide) (by decide) (by decide)]
    exact (hG.2.1 j hj).2.2.1
  · rw [mCp_ne _ _ _ (by decide), e10]
    exact (hG.2.1 j hj).1
theorem dYdN_in {h : Nat → Int} (hI : MI h) : ∀ k : Nat, k ≤ 19 → (-9 ≤ (dYdN h k).1 ∧ (dYdN h k).1 ≤ 950) ∧ (0 ≤ (dYdN h k).2 ∧ (dYdN h k).2 ≤ 8000)
  | 0, _ => by simp [dYdN]
  | k + 1, hk => by
    have h1 := dYdN_in hI k (by omega)
    have h10 := hI.2.1
    have h2 := dWts_in (MI_wtN hI (w := 50 + 50 * (k : Int)) (by omega) (h 1).toNat (by omega))
    rw [dYdN]
    split
    · exact h1
    · exact ⟨by omega, h2⟩
set_option maxRecDepth 100000 in
set_option maxHeartbeats 4000000 in
theorem i6_yard (μ ν : xM) (hG : GI μ) (hY : YI μ ν) (i : Nat) (hi : i < 19) (K : ∀ a b ν2 z2, (a, b) = dYdN (μ 2) (i + 1) → YI μ ν2 → X E0 shM 8 yX6_yard cX6_yard 5 (some .int) 24 [some (.inr (.inl 0)), some (.inl a), some (.inl b), some (.inl (50 + 50 * (i : Int) + 50)), z2] [] ν2 (PQ (dYard (μ 2)) μ)) : ∀ (n : Nat) (p : Int), 0 ≤ p → p ≤ μ 2 1 → (μ 2 1 - p).toNat < n → X E0 shM 8 yX6_yard cX6_yard 5 (some .int) 34 [some (.inr (.inl 0)), some (.inl ((dYdN (μ 2) i).1)), some (.inl ((dYdN (μ 2) i).2)), some (.inl (50 + 50 * (i : Int))), some (.inl p)] [] (mW ν (50 + 50 * (i : Int)) p.toNat) (PQ (dYard (μ 2)) μ) := by
  have hI := hG.1
  have h10 := hI.2.1
  have hd := dYdN_in hI i (by omega)
  have hIw := MI_wtN hI (w := 50 + 50 * (i : Int)) (by omega) (μ 2 1).toNat (by omega)
  have hdw := dWts_in hIw
  intro n
  induction n with
  | zero => intro p _ _ h; omega
  | succ n ih =>
    intro p hp hp2 hn
    have hm1 : mW ν (50 + 50 * (i : Int)) p.toNat 2 1 = μ 2 1 := by rw [mW_2, hWtN_low _ _ _ _ (by decide), hY.2.2.1]
    have hm2 : mW ν (50 + 50 * (i : Int)) (μ 2 1).toNat 2 = hWtN (μ 2) (50 + 50 * (i : Int)) (μ 2 1).toNat := by rw [mW_2, hY.2.1]
    refine x_iload dX6_yard_34 rfl ?_
    refine x_aload_n (i := 0) dX6_yard_36 rfl rfl ?_
    refine x_getR xf_RX6_13 dX6_yard_37 rfl rfl ?_
    refine x_iconst dX6_yard_40 ?_
    refine x_ialdK (K := 1) dX6_yard_41 rfl rfl (by decide) (by decide) ?_
    rw [hm1]
    refine x_icmp_ge (tgt := 66) dX6_yard_42 (by decide) (by first | (unfold x_in; omega) | (unfold x_in; decide)) (by first | (unfold x_in; omega) | (unfold x_in; decide)) (fun c1 => ?_) (fun c1 => ?_)
    · have ep : p = μ 2 1 := by omega
      subst ep
      refine x_aload_n (i := 0) dX6_yard_66 rfl rfl ?_
      refine x_cI0_0 lk_RX6_204 xm_X6_weightsOf dX6_yard_67 (s6_weightsOf _ (by rw [hm2]; exact hIw)) (fun a μ' hq => ?_)
      obtain ⟨e1, hS⟩ := hq
      rw [hm2] at e1
      cases e1
      refine x_istore_4 dX6_yard_70 (by decide) rfl ?_
      refine x_iload_n (i := 1) dX6_yard_72 rfl rfl ?_
      refine x_if_lt (tgt := 85) dX6_yard_73 (by decide) (by first | (unfold x_in; omega) | (unfold x_in; decide)) (fun c2 => ?_) (fun c2 => ?_)
      · refine x_iload_n (i := 3) dX6_yard_85 rfl rfl ?_
        refine x_istore_1 dX6_yard_86 (by decide) rfl ?_
        refine x_iload dX6_yard_87 rfl ?_
        refine x_istore_2 dX6_yard_89 (by decide) rfl ?_
        refine x_iinc_3 dX6_yard_90 (by decide) rfl ?_
        refine x_goto (tgt := 24) dX6_yard_93 (by decide) ?_
        refine K _ _ _ _ ?_ (YI_step hI hY _ hS)
        rw [dYdN]
        first | exact (if_pos (by omega)).symm | exact (if_neg (by omega)).symm
      · refine x_iload dX6_yard_76 rfl ?_
        refine x_iload_n (i := 2) dX6_yard_78 rfl rfl ?_
        refine x_icmp_gt (tgt := 85) dX6_yard_79 (by decide) (by first | (unfold x_in; omega) | (unfold x_in; decide)) (by first | (unfold x_in; omega) | (unfold x_in; decide)) (fun c3 => ?_) (fun c3 => ?_)
        · refine x_iload_n (i := 3) dX6_yard_85 rfl rfl ?_
          refine x_istore_1 dX6_yard_86 (by decide) rfl ?_
          refine x_iload dX6_yard_87 rfl ?_
          refine x_istore_2 dX6_yard_89 (by decide) rfl ?_
          refine x_iinc_3 dX6_yard_90 (by decide) rfl ?_
          refine x_goto (tgt := 24) dX6_yard_93 (by decide) ?_
          refine K _ _ _ _ ?_ (YI_step hI hY _ hS)
          rw [dYdN]
          first | exact (if_pos (by omega)).symm | exact (if_neg (by omega)).symm
        · refine x_goto (tgt := 90) dX6_yard_82 (by decide) ?_
          refine x_iinc_3 dX6_yard_90 (by decide) rfl ?_
          refine x_goto (tgt := 24) dX6_yard_93 (by decide) ?_
          refine K _ _ _ _ ?_ (YI_step hI hY _ hS)
          rw [dYdN]
          first | exact (if_pos (by omega)).symm | exact (if_neg (by omega)).symm
    · refine x_aload_n (i := 0) dX6_yard_45 rfl rfl ?_
      refine x_getR xf_RX6_13 dX6_yard_46 rfl rfl ?_
      refine x_bipush dX6_yard_49 (by decide) ?_
      refine x_iconst dX6_yard_51 ?_
      refine x_iload dX6_yard_52 rfl ?_
      refine x_imul dX6_yard_54 ?_
      refine x_iadd dX6_yard_55 ?_
      refine x_iconst dX6_yard_56 ?_
      refine x_iadd dX6_yard_57 ?_
      refine x_iload_n (i := 3) dX6_yard_58 rfl rfl ?_
      refine x_iast dX6_yard_59 rfl (by decide) (by first | omega | decide) (by first | omega | decide) ?_
      refine x_iinc_4 dX6_yard_60 (by decide) rfl ?_
      refine x_goto (tgt := 34) dX6_yard_63 (by decide) ?_
      have h := ih (p + 1) (by omega) (by omega) (by omega)
      rw [mW_s _ _ hp] at h
      exact h
set_option maxRecDepth 100000 in
set_option maxHeartbeats 4000000 in
theorem l6_yard (μ : xM) (hG : GI μ) : ∀ (n i : Nat) (ν : xM) (z : Option xA), i + n = 19 → YI μ ν → X E0 shM 8 yX6_yard cX6_yard 5 (some .int) 24 [some (.inr (.inl 0)), some (.inl ((dYdN (μ 2) i).1)), some (.inl ((dYdN (μ 2) i).2)), some (.inl (50 + 50 * (i : Int))), z] [] ν (PQ (dYard (μ 2)) μ) := by
  have hI := hG.1
  have h10 := hI.2.1
  intro n
  induction n with
  | zero =>
    intro i ν z hi hY
    refine x_iload_n (i := 3) dX6_yard_24 rfl rfl ?_
    refine x_sipush dX6_yard_25 (by decide) ?_
    refine x_icmp_ge (tgt := 96) dX6_yard_28 (by decide) (by first | (unfold x_in; omega) | (unfold x_in; decide)) (by first | (unfold x_in; omega) | (unfold x_in; decide)) (fun c1 => ?_) (fun c1 => ?_)
    · refine x_aload_n (i := 0) dX6_yard_96 rfl rfl ?_
      refine x_cVf0_0 lk_RX6_201 xm_X6_putsBack dX6_yard_97 (s6_putsBack _) ?_
      refine x_iload_n (i := 1) dX6_yard_100 rfl rfl ?_
      refine x_iret dX6_yard_101 rfl rfl ?_
      exact ⟨by rw [show i = 19 by omega]; rfl, YI_end hG hY⟩
    · exact absurd c1 (by omega)
  | succ n ih =>
    intro i ν z hi hY
    refine x_iload_n (i := 3) dX6_yard_24 rfl rfl ?_
    refine x_sipush dX6_yard_25 (by decide) ?_
    refine x_icmp_ge (tgt := 96) dX6_yard_28 (by decide) (by first | (unfold x_in; omega) | (unfold x_in; decide)) (by first | (unfold x_in; omega) | (unfold x_in; decide)) (fun c1 => ?_) (fun c1 => ?_)
    · exact absurd c1 (by omega)
    · refine x_iconst dX6_yard_31 ?_
      refine x_istore_4 dX6_yard_32 (by decide) rfl ?_
      refine i6_yard μ ν hG hY i (by omega) (fun a b ν2 z2 hab hY2 => ?_) _ 0 (by omega) (by omega) (Nat.lt_succ_self _)
      have h := ih (i + 1) ν2 z2 (by omega) hY2
      rw [← hab] at h
      rw [show 50 + 50 * (i : Int) + 50 = 50 + 50 * ((i + 1 : Nat) : Int) by omega]
      exact h
set_option maxRecDepth 100000 in
set_option maxHeartbeats 4000000 in
theorem s6_yard (μ : xM) (hG : GI μ) : X E0 shM 8 yX6_yard cX6_yard 5 (some .int) 0 [some (.inr (.inl 0)), none, none, none, none] [] μ (PQ (if μ 2 1 = 0 then -9 else dYard (μ 2)) μ) := by
  have hI := hG.1
  have h10 := hI.2.1
  have hY : YI μ (mCp μ 10 2 47) := by
    have e2 : mCp μ 10 2 47 2 = μ 2 := mCp_ne _ _ _ (by decide) _
    exact ⟨Rest.rfl' _, fun w => by rw [e2], by rw [e2], fun j hj => by rw [e2]; exact (hG.2.1 j hj).1⟩
  refine x_aload_n (i := 0) dX6_yard_0 rfl rfl ?_
  refine x_getR xf_RX6_13 dX6_yard_1 rfl rfl ?_
  refine x_iconst dX6_yard_4 ?_
  refine x_ialdK (K := 1) dX6_yard_5 rfl rfl (by decide) (by decide) ?_
  refine x_if_ne (tgt := 12) dX6_yard_6 (by decide) (by first | (unfold x_in; omega) | (unfold x_in; decide)) (fun c1 => ?_) (fun c1 => ?_)
  · refine x_aload_n (i := 0) dX6_yard_12 rfl rfl ?_
    refine x_cVf0_0 lk_RX6_198 xm_X6_keeps dX6_yard_13 (s6_keeps _) ?_
    refine x_bipush dX6_yard_16 (by decide) ?_
    refine x_istore_1 dX6_yard_18 (by decide) rfl ?_
    refine x_iconst dX6_yard_19 ?_
    refine x_istore_2 dX6_yard_20 (by decide) rfl ?_
    refine x_bipush dX6_yard_21 (by decide) ?_
    refine x_istore_3 dX6_yard_23 (by decide) rfl ?_
    rw [if_neg c1]
    exact l6_yard μ hG 19 0 _ none (by omega) hY
  · refine x_bipush dX6_yard_9 (by decide) ?_
    refine x_iret dX6_yard_11 rfl rfl ?_
    exact ⟨by rw [if_pos c1], Abs.rfl' hG⟩
def mByte (b : Int64) (k : Int) : Int := ((b >>> ((x_I (8 * k)).toInt64 &&& 63)) &&& 255).toInt32.toInt
def mFeedN (μ : xM) (b : Int64) : Nat → xM
  | 0 => μ
  | k + 1 => x_st (x_st (mFeedN μ b k) 5 (μ 0 7 + (k : Int)).toNat (mByte b k)) 0 7 (μ 0 7 + (k : Int) + 1)
theorem mFeedN_s (μ : xM) (b : Int64) {p : Int} (hp : 0 ≤ p) : mFeedN μ b (p + 1).toNat = x_st (x_st (mFeedN μ b p.toNat) 5 (μ 0 7 + p).toNat (mByte b p)) 0 7 (μ 0 7 + p + 1) := by rw [nat_succ hp, mFeedN, nat_back hp]
theorem mFeedN_7 (μ : xM) (b : Int64) : ∀ k : Nat, mFeedN μ b k 0 7 = μ 0 7 + (k : Int)
  | 0 => by simp [mFeedN]
  | k + 1 => by
    show μ 0 7 + (k : Int) + 1 = _
    omega
theorem mFeedN_ne (μ : xM) (b : Int64) {j : Nat} (h0 : j ≠ 0) (h5 : j ≠ 5) : ∀ k, mFeedN μ b k j = μ j
  | 0 => rfl
  | k + 1 => by
    rw [mFeedN, ← mFeedN_ne μ b h0 h5 k]
    funext x
    simp [x_st, h0, h5]
theorem mFeedN_0 (μ : xM) (b : Int64) {j : Nat} (h7 : j ≠ 7) : ∀ k, mFeedN μ b k 0 j = μ 0 j
  | 0 => rfl
  | k + 1 => by
    rw [mFeedN, ← mFeedN_0 μ b h7 k]
    simp [x_st, h7]
set_option maxRecDepth 100000 in
set_option maxHeartbeats 4000000 in
theorem l6_feed (n : Int) (b : Int64) (μ : xM) (hG : GI μ) (hn : 1 ≤ n ∧ n ≤ 8) (hr : μ 0 7 + n ≤ 48) : ∀ (k : Nat) (p : Int), 0 ≤ p → p ≤ n → (n - p).toNat < k → X E0 shM 2 yX6_feed cX6_feed 5 (some .int) 39 [some (.inr (.inl 0)), some (.inl n), some (.inr (.inr b)), none, some (.inl p)] [] (mFeedN μ b p.toNat) (PQ (μ 0 7 + n) (mFeedN μ b n.toNat)) := by
  have h7 := hG.2.2.1
  intro k
  induction k with
  | zero => intro p _ _ h; omega
  | succ k ih =>
    intro p hp hp2 hk
    have e7 : mFeedN μ b p.toNat 0 7 = μ 0 7 + p := by rw [mFeedN_7, nat_back hp]
    refine x_iload dX6_feed_39 rfl ?_
    refine x_iload_n (i := 1) dX6_feed_41 rfl rfl ?_
    refine x_icmp_ge (tgt := 82) dX6_feed_42 (by decide) (by first | (unfold x_in; omega) | (unfold x_in; decide)) (by first | (unfold x_in; omega) | (unfold x_in; decide)) (fun c1 => ?_) (fun c1 => ?_)
    · refine x_aload_n (i := 0) dX6_feed_82 rfl rfl ?_
      refine x_getI xf_RX6_54 dX6_feed_83 rfl rfl ?_
      refine x_iret dX6_feed_86 rfl rfl ?_
      have ep : p = n := by omega
      subst ep
      exact ⟨by rw [e7], ⟨rfl, rfl, rfl, rfl, rfl, rfl, rfl, rfl, fun j hj => by rw [mFeedN_ne μ b (j := 4) (by decide) (by decide), mFeedN_ne μ b (j := 10) (by decide) (by decide)]; exact (hG.2.1 j hj).2.2⟩⟩
    · refine x_aload_n (i := 0) dX6_feed_45 rfl rfl ?_
      refine x_getR xf_RX6_22 dX6_feed_46 rfl rfl ?_
      refine x_aload_n (i := 0) dX6_feed_49 rfl rfl ?_
      refine x_getI xf_RX6_54 dX6_feed_50 rfl rfl ?_
      rw [e7]
      refine x_lload_n (i := 2) dX6_feed_53 rfl rfl ?_
      refine x_bipush dX6_feed_54 (by decide) ?_
      refine x_iload dX6_feed_56 rfl ?_
      refine x_imul dX6_feed_58 ?_
      refine x_lshr dX6_feed_59 ?_
      refine x_ldc2 dX6_feed_60 ck_RX6_58 ?_
      refine x_land dX6_feed_63 ?_
      refine x_l2i dX6_feed_64 ?_
      refine x_iast dX6_feed_65 rfl (by decide) (by first | omega | decide) (by first | omega | decide) ?_
      refine x_aload_n (i := 0) dX6_feed_66 rfl rfl ?_
      first | refine x_dupR dX6_feed_67 ?_ | refine x_dupI dX6_feed_67 ?_
      refine x_getI xf_RX6_54 dX6_feed_68 rfl rfl ?_
      try simp (decide := true) only [x_st_at, ↓reduceIte, if_true, if_false]
      rw [e7]
      refine x_iconst dX6_feed_71 ?_
      refine x_iadd dX6_feed_72 ?_
      refine x_putI xp_RX6_54 dX6_feed_73 rfl rfl ?_
      refine x_iinc_4 dX6_feed_76 (by decide) rfl ?_
      refine x_goto (tgt := 39) dX6_feed_79 (by decide) ?_
      have h := ih (p + 1) (by omega) (by omega) (by omega)
      rw [mFeedN_s _ _ hp] at h
      exact h
set_option maxRecDepth 100000 in
set_option maxHeartbeats 4000000 in
theorem s6_feed (n : Int) (b : Int64) (hn : x_in n) (μ : xM) (hG : GI μ) : X E0 shM 2 yX6_feed cX6_feed 5 (some .int) 0 [some (.inr (.inl 0)), some (.inl n), some (.inr (.inr b)), none, none] [] μ (PQ (if n < 1 then -4 else if 8 < n ∨ 48 < μ 0 7 + n then -6 else μ 0 7 + n) (if n < 1 then mRef μ (-4) else if 8 < n ∨ 48 < μ 0 7 + n then mRef μ (-6) else mFeedN μ b n.toNat)) := by
  have h7 := hG.2.2.1
  have hn2 := hn
  unfold x_in at hn2
  refine x_iload_n (i := 1) dX6_feed_0 rfl rfl ?_
  refine x_iconst dX6_feed_1 ?_
  refine x_icmp_ge (tgt := 12) dX6_feed_2 (by decide) (by first | (unfold x_in; omega) | (unfold x_in; decide)) (by first | (unfold x_in; omega) | (unfold x_in; decide)) (fun c1 => ?_) (fun c1 => ?_)
  · refine x_iload_n (i := 1) dX6_feed_12 rfl rfl ?_
    refine x_bipush dX6_feed_13 (by decide) ?_
    refine x_icmp_gt (tgt := 29) dX6_feed_15 (by decide) (by first | (unfold x_in; omega) | (unfold x_in; decide)) (by first | (unfold x_in; omega) | (unfold x_in; decide)) (fun c2 => ?_) (fun c2 => ?_)
    · refine x_aload_n (i := 0) dX6_feed_29 rfl rfl ?_
      refine x_bipush dX6_feed_30 (by decide) ?_
      refine x_cIf0_1 lk_RX6_50 xm_X6_refuse dX6_feed_32 (s6_refuse _ (by decide) _) ?_
      refine x_iret dX6_feed_35 rfl rfl ?_
      first | (exact ⟨by rw [if_pos (by omega)], by rw [if_pos (by omega)]; exact Abs.ref hG _⟩) | (exact ⟨by rw [if_neg (by omega), if_pos (by omega)], by rw [if_neg (by omega), if_pos (by omega)]; exact Abs.ref hG _⟩)
    · refine x_aload_n (i := 0) dX6_feed_18 rfl rfl ?_
      refine x_getI xf_RX6_54 dX6_feed_19 rfl rfl ?_
      refine x_iload_n (i := 1) dX6_feed_22 rfl rfl ?_
      refine x_iadd dX6_feed_23 ?_
      refine x_bipush dX6_feed_24 (by decide) ?_
      refine x_icmp_le (tgt := 36) dX6_feed_26 (by decide) (by first | (unfold x_in; omega) | (unfold x_in; decide)) (by first | (unfold x_in; omega) | (unfold x_in; decide)) (fun c3 => ?_) (fun c3 => ?_)
      · refine x_iconst dX6_feed_36 ?_
        refine x_istore_4 dX6_feed_37 (by decide) rfl ?_
        rw [if_neg (by omega), if_neg (by omega), if_neg (by omega), if_neg (by omega)]
        exact l6_feed n b μ hG (by omega) (by omega) _ 0 (by omega) (by omega) (Nat.lt_succ_self _)
      · refine x_aload_n (i := 0) dX6_feed_29 rfl rfl ?_
        refine x_bipush dX6_feed_30 (by decide) ?_
        refine x_cIf0_1 lk_RX6_50 xm_X6_refuse dX6_feed_32 (s6_refuse _ (by decide) _) ?_
        refine x_iret dX6_feed_35 rfl rfl ?_
        first | (exact ⟨by rw [if_pos (by omega)], by rw [if_pos (by omega)]; exact Abs.ref hG _⟩) | (exact ⟨by rw [if_neg (by omega), if_pos (by omega)], by rw [if_neg (by omega), if_pos (by omega)]; exact Abs.ref hG _⟩)
  · refine x_aload_n (i := 0) dX6_feed_5 rfl rfl ?_
    refine x_bipush dX6_feed_6 (by decide) ?_
    refine x_cIf0_1 lk_RX6_50 xm_X6_refuse dX6_feed_8 (s6_refuse _ (by decide) _) ?_
    refine x_iret dX6_feed_11 rfl rfl ?_
    first | (exact ⟨by rw [if_pos (by omega)], by rw [if_pos (by omega)]; exact Abs.ref hG _⟩) | (exact ⟨by rw [if_neg (by omega), if_pos (by omega)], by rw [if_neg (by omega), if_pos (by omega)]; exact Abs.ref hG _⟩)
