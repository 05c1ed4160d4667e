/-! THE CLASS: order, feed, line -/
theorem cp_back {μ ν : xM} (e : ∀ c, 7 ≤ c → ν c = x_ct [12, 13, 14, 15, 16, 17, 18, 28, 29, 30, 31, 32, 33, 34] μ c) : ∀ k, k < 12 ∨ 18 < k → x_mrg [12, 13, 14, 15, 16, 17, 18, 28, 29, 30, 31, 32, 33, 34] μ ν k = μ k := by
  intro k hk
  by_cases q : 28 ≤ k ∧ k ≤ 34
  · have w : k = 28 ∨ k = 29 ∨ k = 30 ∨ k = 31 ∨ k = 32 ∨ k = 33 ∨ k = 34 := by omega
    rcases w with rfl | rfl | rfl | rfl | rfl | rfl | rfl
    · exact e 7 (by decide)
    · exact e 8 (by decide)
    · exact e 9 (by decide)
    · exact e 10 (by decide)
    · exact e 11 (by decide)
    · exact e 12 (by decide)
    · exact e 13 (by decide)
  · exact x_mrg_out μ ν (fun i hi => by simp at hi; omega)
theorem mRs_t (r : Int) : ∀ i, mRs (r.tdiv 10) i = mRs r (i + 1)
  | 0 => rfl
  | i + 1 => by
    rw [mRs, mRs_t r i]
    rfl
theorem mOkN_d {g : Nat → Int} (h1 : g 1 ≤ 8) : ∀ (k : Nat) (r : Int) (S : Nat), S < 256 → mOkN g k r S = true → (∀ i, i < k → S.testBit (mDig (mRs r i)).toNat = false ∧ 0 ≤ mDig (mRs r i) ∧ mDig (mRs r i) < 8) ∧ ∀ i j, i < j → j < k → mDig (mRs r i) ≠ mDig (mRs r j)
  | 0, _, _, _, _ => ⟨fun i hi => absurd hi (Nat.not_lt_zero i), fun i j _ hj => absurd hj (Nat.not_lt_zero j)⟩
  | k + 1, r, S, hS, h => by
    rw [mOkN] at h
    by_cases q : inT g (mDig r) ∧ S.testBit (mDig r).toNat = false
    · rw [if_pos q] at h
      have hd : 0 ≤ mDig r ∧ mDig r < 8 := by
        have := q.1
        unfold inT at this
        omega
      have htn : (mDig r).toNat < 8 := by omega
      have ih := mOkN_d h1 k (r.tdiv 10) (S ||| 2 ^ (mDig r).toNat) (bit_lt S hS _ htn) h
      have hx : ∀ i, i < k → S.testBit (mDig (mRs r (i + 1))).toNat = false ∧ (0 ≤ mDig (mRs r (i + 1)) ∧ mDig (mRs r (i + 1)) < 8) ∧ mDig (mRs r (i + 1)) ≠ mDig r := by
        intro i hi
        have w := ih.1 i hi
        rw [mRs_t] at w
        have b := bit_set S hS _ htn (mDig (mRs r (i + 1))).toNat (by omega)
        rw [w.1] at b
        have b2 := (Bool.or_eq_false_iff.mp b.symm)
        exact ⟨b2.1, w.2, fun e => by
          have := of_decide_eq_false b2.2
          rw [e] at this
          exact this rfl⟩
      refine ⟨fun i hi => ?_, fun i j hij hj => ?_⟩
      · cases i with
        | zero => exact ⟨q.2, hd⟩
        | succ i =>
          have := hx i (by omega)
          exact ⟨this.1, this.2.1⟩
      · cases j with
        | zero => exact absurd hij (Nat.not_lt_zero i)
        | succ j =>
          cases i with
          | zero => exact fun e => (hx j (by omega)).2.2 e.symm
          | succ i =>
            have := ih.2 i j (by omega) (by omega)
            rw [mRs_t, mRs_t] at this
            exact this
    · rw [if_neg q] at h
      exact absurd h Bool.false_ne_true
theorem hPutN_at (h : Nat → Int) (r : Int) (i : Nat) : ∀ k, i < k → hPutN h r k (39 + i) = mDig (mRs r i)
  | 0, q => absurd q (Nat.not_lt_zero i)
  | k + 1, q => by
    rw [hPutN]
    by_cases e : i = k
    · rw [e, show 39 + k = (39 + (k : Int)).toNat by omega, hset_eq]
    · rw [hset_ne (by omega)]
      exact hPutN_at h r i k (by omega)
theorem hPutN_out (h : Nat → Int) (r : Int) (j : Nat) : ∀ k, (j < 39 ∨ 39 + k ≤ j) → hPutN h r k j = h j
  | 0, _ => rfl
  | k + 1, q => by
    rw [hPutN, hset_ne (by omega)]
    exact hPutN_out h r j k (by omega)
theorem MI_set3 {h : Nat → Int} (hI : MI h) {v : Int} (hv : 0 ≤ v ∧ v ≤ 8) : MI (hset h 3 v) := by
  obtain ⟨a0, a1, a2, a3, a4, a5, a6, a7, a8, a9, a10, a11, a12, ap, at_, ao⟩ := hI
  refine ⟨a0, a1, a2, hv, a4, a5, a6, a7, a8, a9, a10, a11, a12, fun p p0 p5 => ?_, fun t t0 t8 => ?_, fun k k0 k8 => ?_⟩
  · unfold hset
    rw [if_neg (by omega), if_neg (by omega)]
    exact ap p p0 p5
  · unfold hset
    rw [if_neg (by omega), if_neg (by omega)]
    exact at_ t t0 t8
  · unfold hset
    rw [if_neg (by omega)]
    exact ao k k0 k8
theorem CR.order {μ μ' κ : xM} (h : CR μ κ) {n r : Int} (hn : 0 ≤ n ∧ n ≤ 8) (hk : mOkN (κ 2) n.toNat r 0 = true) (e : ∀ k, k < 12 ∨ 18 < k → μ' k = μ k) (e12 : hOf μ' 12 = hset (hPutN (κ 2) r n.toNat) 3 n) : CR μ' (x_st (mPut κ r n.toNat) 2 3 n) := by
  have h1 : κ 2 1 ≤ 8 := h.mi.2.1.2
  have e2 : x_st (mPut κ r n.toNat) 2 3 n 2 = hset (hPutN (κ 2) r n.toNat) 3 n := by rw [x_st_row, mPut_2]
  have ek : ∀ k, k ≠ 2 → x_st (mPut κ r n.toNat) 2 3 n k = κ k := fun k q => (funext fun x => x_st_ne (Or.inl q)).trans (mPut_ne κ r q n.toNat)
  have hd := mOkN_d h1 n.toNat r 0 (by decide) hk
  have e35 : hOf μ' 35 = hOf μ 35 := hOf_congr (fun k h1 h2 => e k (by omega))
  obtain ⟨a, b, c, d, e', f, i⟩ := h.gi
  have hI : MI (hset (hPutN (κ 2) r n.toNat) 3 n) := by
    refine MI_set3 (MI_ord a (fun j hj => hPutN_out _ _ _ _ (Or.inl hj)) (fun k k0 k8 => ?_)) hn
    by_cases q : k < n
    · have e39 : (39 + k).toNat = 39 + k.toNat := by omega
      rw [e39, hPutN_at _ _ _ _ (by omega)]
      have := hd.1 k.toNat (by omega)
      omega
    · rw [hPutN_out _ _ _ _ (Or.inr (by omega))]
      exact a.2.2.2.2.2.2.2.2.2.2.2.2.2.2.2 k k0 k8
  refine ⟨⟨?_, fun j hj => ?_, ?_, ?_, ?_, ?_, ?_⟩, ?_, ?_, ?_, ?_, ?_, ?_, ?_, ?_, ?_, ?_⟩
  · rw [e2]; exact hI
  · rw [e2, ek 3 (by decide), ek 4 (by decide), ek 10 (by decide), hset_ne (by omega), hPutN_out _ _ _ _ (Or.inr (by omega))]
    exact b j hj
  · rw [ek 0 (by decide)]; exact c
  · rw [ek 5 (by decide)]; exact d
  · rw [ek 0 (by decide)]; exact e'
  · rw [ek 12 (by decide)]; exact f
  · rw [ek 0 (by decide), ek 3 (by decide)]; exact i
  · rw [e2]
    intro i j hij hj
    have hj2 : (j : Int) < n := hj
    rw [hset_ne (by omega), hset_ne (by omega), hPutN_at _ _ _ _ (by omega), hPutN_at _ _ _ _ (by omega)]
    exact hd.2 i j hij (by omega)
  · rw [ek 0 (by decide), ek 3 (by decide)]; exact h.ok
  · rw [e2]; exact e12
  · rw [ek 0 (by decide), e 0 (by decide)]; exact h.is
  · rw [ek 0 (by decide), ek 3 (by decide), e35]; exact h.kept
  · rw [ek 0 (by decide), e 42 (by decide)]; exact h.ts
  · rw [ek 5 (by decide), e 43 (by decide)]; exact h.tb
  · rw [ek 0 (by decide), e 44 (by decide)]; exact h.rs
  · rw [ek 12 (by decide), e 45 (by decide)]; exact h.rb
  · rw [ek 1 (by decide), e 2 (by decide)]; exact h.rf
theorem mW_08 (w : Int) : (w < 0 → mWithin w 0 8 = -4) ∧ (¬ w < 0 → 8 < w → mWithin w 0 8 = -6) ∧ (¬ w < 0 → ¬ 8 < w → mWithin w 0 8 = 0) := ⟨fun q => if_pos q, fun q r => (if_neg q).trans (if_pos r), fun q r => (if_neg q).trans (if_neg r)⟩
set_option maxRecDepth 100000 in
set_option maxHeartbeats 4000000 in
theorem s5_order (n : Int) (hn : x_in n) (r : Int) (hr : x_in r) (μ κ : xM) (h : CR μ κ) : X E0 shC 9 yX5_order cX5_order 4 (some .int) 0 [some (.inr (.inl 0)), some (.inl n), some (.inl r), none] [] μ (CQ (if mWithin n 0 8 = 0 then (if mOkN (κ 2) n.toNat r 0 = true then κ 2 3 else -1) else mWithin n 0 8) (if mWithin n 0 8 = 0 then (if mOkN (κ 2) n.toNat r 0 = true then x_st (mPut κ r n.toNat) 2 3 n else mRef κ (-1)) else mRef κ (mWithin n 0 8))) := by
  have eH : hOf (x_ct [12, 13, 14, 15, 16, 17, 18] μ) 0 = κ 2 := h.hill
  have hI := h.mi
  have h1 : 0 ≤ κ 2 1 ∧ κ 2 1 ≤ 8 := hI.2.1
  have h0 : 0 ≤ κ 2 0 ∧ κ 2 0 ≤ 5 := hI.1
  have hm := mW_08 n
  have b3 : μ 12 8 = κ 2 3 := congrFun h.hill 3
  have KO : 0 ≤ n ∧ n ≤ 8 → mOkN (κ 2) n.toNat r 0 = true → ∀ ν : xM, hOf ν 0 = hset (hPutN (hOf (x_ct [12, 13, 14, 15, 16, 17, 18] μ) 0) r n.toNat) 3 n → CR (x_mrg [12, 13, 14, 15, 16, 17, 18] μ ν) (x_st (mPut κ r n.toNat) 2 3 n) := by
    intro q1 q2 ν e
    rw [eH] at e
    exact h.order q1 q2 (fun k hk => x_mrg_out μ ν (fun i hi => by simp at hi; omega)) e
  refine x_iload_n (i := 1) dX5_order_0 rfl rfl ?_
  refine x_if_ge (tgt := 11) dX5_order_1 (by decide) (by first | exact bIx _ | assumption | (unfold x_in; omega) | (unfold x_in; decide)) (fun c1 => ?_) (fun c1 => ?_)
  · refine x_iload_n (i := 1) dX5_order_11 rfl rfl ?_
    refine x_bipush dX5_order_12 (by decide) ?_
    refine x_icmp_le (tgt := 24) dX5_order_14 (by decide) (by first | exact bIx _ | assumption | (unfold x_in; omega) | (unfold x_in; decide)) (by first | exact bIx _ | assumption | (unfold x_in; omega) | (unfold x_in; decide)) (fun c2 => ?_) (fun c2 => ?_)
    · refine x_aload_n (i := 0) dX5_order_24 rfl rfl ?_
      refine x_getR xf_RX5_20 dX5_order_25 rfl rfl ?_
      refine x_iload_n (i := 1) dX5_order_28 rfl rfl ?_
      refine x_iload_n (i := 2) dX5_order_29 rfl rfl ?_
      refine x_cIp_2 [12, 13, 14, 15, 16, 17, 18] lk_RX5_105 xm_X1_areDifferentTrains dX5_order_30 (s1_areDifferentTrains n r (by omega) hr _ h.mh) ?_
      rw [eH]
      refine x_if_ne (tgt := 42) dX5_order_33 (by decide) (by first | exact bIx _ | assumption | (unfold x_in; omega) | (unfold x_in; decide)) (fun c3 => ?_) (fun c3 => ?_)
      · refine x_aload_n (i := 0) dX5_order_42 rfl rfl ?_
        refine x_getR xf_RX5_20 dX5_order_43 rfl rfl ?_
        refine x_getI xf_RX5_109 dX5_order_46 rfl rfl ?_
        refine x_istore_3 dX5_order_49 (by decide) rfl ?_
        refine x_aload_n (i := 0) dX5_order_50 rfl rfl ?_
        refine x_getR xf_RX5_20 dX5_order_51 rfl rfl ?_
        refine x_iload_n (i := 1) dX5_order_54 rfl rfl ?_
        refine x_iload_n (i := 2) dX5_order_55 rfl rfl ?_
        refine x_cV_2 [12, 13, 14, 15, 16, 17, 18] lk_RX5_112 xm_X1_putOrder dX5_order_56 (s1_putOrder n r (by omega) hr _ h.mh) (fun ν hq => ?_)
        refine x_iload_n (i := 3) dX5_order_59 rfl rfl ?_
        refine x_iret dX5_order_60 rfl rfl ?_
        rw [hm.2.2 (by omega) (by omega), if_pos rfl, if_pos rfl, if_pos (bI_t c3), if_pos (bI_t c3)]
        exact ⟨congrArg (fun z => some (Sum.inl z)) b3, KO (by omega) (bI_t c3) ν hq.2⟩
      · refine x_aload_n (i := 0) dX5_order_36 rfl rfl ?_
        refine x_iconst dX5_order_37 ?_
        refine x_cIf0_1 lk_RX5_54 xm_X5_refuse dX5_order_38 (s5_refuse _ (by decide) _) ?_
        refine x_iret dX5_order_41 rfl rfl ?_
        rw [hm.2.2 (by omega) (by omega), if_pos rfl, if_pos rfl, bI_f c3, if_neg Bool.false_ne_true, if_neg Bool.false_ne_true]
        exact ⟨rfl, h.ref (-1)⟩
    · refine x_aload_n (i := 0) dX5_order_17 rfl rfl ?_
      refine x_bipush dX5_order_18 (by decide) ?_
      refine x_cIf0_1 lk_RX5_54 xm_X5_refuse dX5_order_20 (s5_refuse _ (by decide) _) ?_
      refine x_iret dX5_order_23 rfl rfl ?_
      rw [hm.2.1 (by omega) (by omega), if_neg (by decide), if_neg (by decide)]
      exact ⟨rfl, h.ref (-6)⟩
  · refine x_aload_n (i := 0) dX5_order_4 rfl rfl ?_
    refine x_bipush dX5_order_5 (by decide) ?_
    refine x_cIf0_1 lk_RX5_54 xm_X5_refuse dX5_order_7 (s5_refuse _ (by decide) _) ?_
    refine x_iret dX5_order_10 rfl rfl ?_
    rw [hm.1 (by omega), if_neg (by decide), if_neg (by decide)]
    exact ⟨rfl, h.ref (-4)⟩
theorem mByte_lt : ∀ n, n < 256 → 0 ≤ (Int64.ofNat n).toInt32.toInt ∧ (Int64.ofNat n).toInt32.toInt ≤ 255 := by decide +kernel
theorem mByte_in (b : Int64) (k : Int) : 0 ≤ mByte b k ∧ mByte b k ≤ 255 := by
  unfold mByte
  generalize (b >>> ((x_I (8 * k)).toInt64 &&& 63)) = c
  have h : c &&& 255 = Int64.ofNat (c.toBitVec.toNat % 256) := by
    apply Int64.toBitVec_inj.1
    apply BitVec.eq_of_toNat_eq
    rw [Int64.toBitVec_and, BitVec.toNat_and]
    show c.toBitVec.toNat &&& 255 = (BitVec.ofNat 64 (c.toBitVec.toNat % 256)).toNat
    rw [BitVec.toNat_ofNat, Nat.mod_eq_of_lt (show c.toBitVec.toNat % 256 < 2 ^ 64 by omega)]
    exact Nat.and_two_pow_sub_one_eq_mod _ 8
  rw [h]
  exact mByte_lt _ (Nat.mod_lt _ (by decide))
theorem mFeedN_ne2 (κ : xM) (b : Int64) {j : Nat} (h0 : j ≠ 0) (h5 : j ≠ 5) : ∀ k, mFeedN κ b k j = κ j
  | 0 => rfl
  | k + 1 => by
    rw [mFeedN, ← mFeedN_ne2 κ b h0 h5 k]
    exact funext fun x => (x_st_ne (Or.inl h0)).trans (x_st_ne (Or.inl h5))
theorem mFeedN_02 (κ : xM) (b : Int64) {j : Nat} (h7 : j ≠ 7) : ∀ k, mFeedN κ b k 0 j = κ 0 j
  | 0 => rfl
  | k + 1 => by
    rw [mFeedN, ← mFeedN_02 κ b h7 k]
    exact (x_st_ne (Or.inr h7)).trans (x_st_ne (Or.inl (by decide)))
theorem mFeedN_in {κ : xM} (b : Int64) (h : ∀ j : Int, 0 ≤ j → j < 48 → 0 ≤ κ 5 j.toNat ∧ κ 5 j.toNat ≤ 255) : ∀ k : Nat, ∀ j : Int, 0 ≤ j → j < 48 → 0 ≤ mFeedN κ b k 5 j.toNat ∧ mFeedN κ b k 5 j.toNat ≤ 255
  | 0 => h
  | k + 1 => by
    intro j j0 j1
    have ih := mFeedN_in b h k j j0 j1
    have hb := mByte_in b k
    have e : mFeedN κ b (k + 1) 5 j.toNat = if j.toNat = (κ 0 7 + (k : Int)).toNat then mByte b k else mFeedN κ b k 5 j.toNat := rfl
    rw [e]
    split
    · exact hb
    · exact ih
theorem tFeed_m {τ κ : xM} (b : Int64) (h0 : τ 0 0 = κ 0 7) (h1 : τ 1 = κ 5) : ∀ k : Nat, tFeedN τ b k 1 = mFeedN κ b k 5
  | 0 => h1
  | k + 1 => by
    have e1 : tFeedN τ b (k + 1) 1 = hset (tFeedN τ b k 1) (τ 0 0 + (k : Int)).toNat (mByte b k) := x_st_row (tFeedN τ b k) 1 _ _
    have e2 : mFeedN κ b (k + 1) 5 = hset (mFeedN κ b k 5) (κ 0 7 + (k : Int)).toNat (mByte b k) := x_st_row (mFeedN κ b k) 5 _ _
    rw [e1, e2, tFeed_m b h0 h1 k, h0]
theorem CR.feed {μ κ : xM} (h : CR μ κ) (b : Int64) {n : Int} (hn : 0 ≤ n) (h48 : κ 0 7 + n ≤ 48) : CR (x_mrg [42, 43] μ (tFeedN (x_ct [42, 43] μ) b n.toNat)) (mFeedN κ b n.toNat) := by
  obtain ⟨a1, a2, a3, a4, a5, a6, a7⟩ := h.gi
  have e : ∀ j, j ≠ 0 → j ≠ 5 → mFeedN κ b n.toNat j = κ j := fun j q r => mFeedN_ne2 κ b q r n.toNat
  have e0 : ∀ j, j ≠ 7 → mFeedN κ b n.toNat 0 j = κ 0 j := fun j q => mFeedN_02 κ b q n.toNat
  have e7 : mFeedN κ b n.toNat 0 7 = κ 0 7 + ((n.toNat : Nat) : Int) := mFeedN_7 κ b n.toNat
  refine ⟨⟨?_, fun j hj => ?_, ?_, mFeedN_in b a4 n.toNat, ?_, ?_, ?_⟩, ?_, ?_, ?_, ?_, ?_, ?_, ?_, ?_, ?_, ?_⟩
  · rw [e 2 (by decide) (by decide)]; exact a1
  · rw [e 2 (by decide) (by decide), e 3 (by decide) (by decide), e 4 (by decide) (by decide), e 10 (by decide) (by decide)]; exact a2 j hj
  · rw [e7]; omega
  · rw [e0 22 (by decide)]; exact a5
  · rw [e 12 (by decide) (by decide)]; exact a6
  · rw [e0 4 (by decide), e 3 (by decide) (by decide)]; exact a7
  · rw [e 2 (by decide) (by decide)]; exact h.o
  · rw [e0 4 (by decide), e 3 (by decide) (by decide)]; exact h.ok
  · rw [e 2 (by decide) (by decide)]; exact h.hill
  · rw [e0 4 (by decide)]; exact h.is
  · rw [e0 4 (by decide), e 3 (by decide) (by decide)]; exact h.kept
  · rw [e7, ← h.ts]
    exact tFeedN_0 (x_ct [42, 43] μ) b n.toNat
  · exact tFeed_m b h.ts h.tb n.toNat
  · rw [e0 22 (by decide)]; exact h.rs
  · rw [e 12 (by decide) (by decide)]; exact h.rb
  · rw [e 1 (by decide) (by decide)]; exact h.rf
set_option maxRecDepth 100000 in
set_option maxHeartbeats 4000000 in
theorem s5_feed (n : Int) (hn : x_in n) (b : Int64) (μ κ : xM) (h : CR μ κ) : X E0 shC 9 yX5_feed cX5_feed 4 (some .int) 0 [some (.inr (.inl 0)), some (.inl n), some (.inr (.inr b)), none] [] μ (CQ (if n < 1 then -4 else if 8 < n ∨ 48 < κ 0 7 + n then -6 else κ 0 7 + n) (if n < 1 then mRef κ (-4) else if 8 < n ∨ 48 < κ 0 7 + n then mRef κ (-6) else mFeedN κ b n.toNat)) := by
  have eH : hOf (x_ct [12, 13, 14, 15, 16, 17, 18] μ) 0 = κ 2 := h.hill
  have hI := h.mi
  have h1 : 0 ≤ κ 2 1 ∧ κ 2 1 ≤ 8 := hI.2.1
  have h0 : 0 ≤ κ 2 0 ∧ κ 2 0 ≤ 5 := hI.1
  have hts : 0 ≤ κ 0 7 ∧ κ 0 7 ≤ 48 := h.gi.2.2.1
  have ets : (x_ct [42, 43] μ) 0 0 = κ 0 7 := h.ts
  have KF : 1 ≤ n → κ 0 7 + n ≤ 48 → CR (x_mrg [42, 43] μ (tFeedN (x_ct [42, 43] μ) b n.toNat)) (mFeedN κ b n.toNat) := fun q r => h.feed b (by omega) r
  have KV : 1 ≤ n → (x_mrg [42, 43] μ (tFeedN (x_ct [42, 43] μ) b n.toNat)) 42 0 = κ 0 7 + n := by
    intro q
    have : (x_mrg [42, 43] μ (tFeedN (x_ct [42, 43] μ) b n.toNat)) 42 0 = κ 0 7 + ((n.toNat : Nat) : Int) := by
      rw [← h.ts]
      exact tFeedN_0 (x_ct [42, 43] μ) b n.toNat
    omega
  refine x_iload_n (i := 1) dX5_feed_0 rfl rfl ?_
  refine x_iconst dX5_feed_1 ?_
  refine x_icmp_ge (tgt := 12) dX5_feed_2 (by decide) (by first | exact bIx _ | assumption | (unfold x_in; omega) | (unfold x_in; decide)) (by first | exact bIx _ | assumption | (unfold x_in; omega) | (unfold x_in; decide)) (fun c1 => ?_) (fun c1 => ?_)
  · refine x_iload_n (i := 1) dX5_feed_12 rfl rfl ?_
    refine x_bipush dX5_feed_13 (by decide) ?_
    refine x_icmp_gt (tgt := 29) dX5_feed_15 (by decide) (by first | exact bIx _ | assumption | (unfold x_in; omega) | (unfold x_in; decide)) (by first | exact bIx _ | assumption | (unfold x_in; omega) | (unfold x_in; decide)) (fun c2 => ?_) (fun c2 => ?_)
    · refine x_aload_n (i := 0) dX5_feed_29 rfl rfl ?_
      refine x_bipush dX5_feed_30 (by decide) ?_
      refine x_cIf0_1 lk_RX5_54 xm_X5_refuse dX5_feed_32 (s5_refuse _ (by decide) _) ?_
      refine x_iret dX5_feed_35 rfl rfl ?_
      have q1 : ¬ n < 1 := (by omega)
      have q2 : 8 < n ∨ 48 < κ 0 7 + n := (by first | exact Or.inl (by omega) | (have := of_decide_eq_false (bI_f c3); exact Or.inr (by omega)))
      rw [if_neg q1, if_neg q1, if_pos q2, if_pos q2]
      exact ⟨rfl, h.ref (-6)⟩
    · refine x_aload_n (i := 0) dX5_feed_18 rfl rfl ?_
      refine x_getR xf_RX5_36 dX5_feed_19 rfl rfl ?_
      refine x_iload_n (i := 1) dX5_feed_22 rfl rfl ?_
      refine x_cIp_1 [42, 43] lk_RX5_58 xm_X3_hasRoom dX5_feed_23 (s3_hasRoom n (by omega) _ (by rw [ets]; exact hts)) ?_
      rw [ets]
      refine x_if_ne (tgt := 36) dX5_feed_26 (by decide) (by first | exact bIx _ | assumption | (unfold x_in; omega) | (unfold x_in; decide)) (fun c3 => ?_) (fun c3 => ?_)
      · refine x_aload_n (i := 0) dX5_feed_36 rfl rfl ?_
        refine x_getR xf_RX5_36 dX5_feed_37 rfl rfl ?_
        refine x_iload_n (i := 1) dX5_feed_40 rfl rfl ?_
        refine x_lload_n (i := 2) dX5_feed_41 rfl rfl ?_
        refine x_cVf_IL [42, 43] lk_RX5_62 xm_X3_put dX5_feed_42 (s3_put b n (by omega) _ (by rw [ets]; have := of_decide_eq_true (bI_t c3); omega)) ?_
        refine x_aload_n (i := 0) dX5_feed_45 rfl rfl ?_
        refine x_getR xf_RX5_36 dX5_feed_46 rfl rfl ?_
        refine x_getI xf_RX5_66 dX5_feed_49 rfl rfl ?_
        try simp (decide := true) only [x_st_at, ↓reduceIte, if_true, if_false]
        refine x_iret dX5_feed_52 rfl rfl ?_
        have q1 : ¬ n < 1 := (by omega)
        have q3 := of_decide_eq_true (bI_t c3)
        have q2 : ¬ (8 < n ∨ 48 < κ 0 7 + n) := (by omega)
        rw [if_neg q1, if_neg q1, if_neg q2, if_neg q2]
        exact ⟨congrArg (fun z => some (Sum.inl z)) (KV (by omega)), KF (by omega) (by omega)⟩
      · refine x_aload_n (i := 0) dX5_feed_29 rfl rfl ?_
        refine x_bipush dX5_feed_30 (by decide) ?_
        refine x_cIf0_1 lk_RX5_54 xm_X5_refuse dX5_feed_32 (s5_refuse _ (by decide) _) ?_
        refine x_iret dX5_feed_35 rfl rfl ?_
        have q1 : ¬ n < 1 := (by omega)
        have q2 : 8 < n ∨ 48 < κ 0 7 + n := (by first | exact Or.inl (by omega) | (have := of_decide_eq_false (bI_f c3); exact Or.inr (by omega)))
        rw [if_neg q1, if_neg q1, if_pos q2, if_pos q2]
        exact ⟨rfl, h.ref (-6)⟩
  · refine x_aload_n (i := 0) dX5_feed_5 rfl rfl ?_
    refine x_bipush dX5_feed_6 (by decide) ?_
    refine x_cIf0_1 lk_RX5_54 xm_X5_refuse dX5_feed_8 (s5_refuse _ (by decide) _) ?_
    refine x_iret dX5_feed_11 rfl rfl ?_
    rw [if_pos (by omega), if_pos (by omega)]
    exact ⟨rfl, h.ref (-4)⟩
def LI (h : Nat → Int) : Prop := MI h ∧ (∀ j : Nat, 47 ≤ j → h j = 0) ∧ DO h
theorem pCm_out {h : Nat → Int} (hI : MI h) {c v0 v1 : Int} (hk : (pCm h c v0 v1).1 = true) {j : Nat} (hj : 39 ≤ j ∨ j = 3) : (pCm h c v0 v1).2 j = h j := by
  have h0 := hI.1
  have h1 := hI.2.1
  unfold pCm at hk ⊢
  split
  · exact hset_ne (by omega)
  · split
    · split
      · show hset (hset (hset h (13 + 2 * h 0).toNat v0) (13 + 2 * h 0 + 1).toNat v1) 0 (h 0 + 1) j = h j
        rw [hset_ne (by omega), hset_ne (by omega), hset_ne (by omega)]
      · rfl
    · split
      · show hset (hset (hset h (23 + 2 * h 1).toNat v0) (23 + 2 * h 1 + 1).toNat v1) 1 (h 1 + 1) j = h j
        rw [hset_ne (by omega), hset_ne (by omega), hset_ne (by omega)]
      · rfl
theorem LI_pCm {h : Nat → Int} (hL : LI h) {c v0 v1 : Int} (h0 : 0 ≤ v0 ∧ v0 ≤ 999) (h1 : 0 ≤ v1 ∧ v1 ≤ 999) (hc : c = 112 ∧ v0 ≤ 9 ∧ v1 ≤ 1 ∨ c = 101 ∧ v0 ≤ 9 ∨ c = 116) (hk : (pCm h c v0 v1).1 = true) : LI (pCm h c v0 v1).2 := by
  have ho : ∀ j : Nat, (39 ≤ j ∨ j = 3) → (pCm h c v0 v1).2 j = h j := fun j hj => pCm_out hL.1 hk hj
  refine ⟨MI_pCm hL.1 h0 h1 hc hk, fun j hj => ?_, fun i j hij hj => ?_⟩
  · rw [ho j (by omega)]
    exact hL.2.1 j hj
  · rw [ho 3 (by omega)] at hj
    rw [ho _ (by omega), ho _ (by omega)]
    exact hL.2.2 i j hij hj
theorem LI_pBr {tp : Nat → Int} (ht : TB tp) {n : Int} (hn : n ≤ 48) (F : Int) (hF0 : 0 ≤ F) : ∀ (k q : Nat) (a c : Int) (h : Nat → Int), 0 ≤ a ∧ a ≤ n → 0 ≤ c → F = (if a < n then pFm tp n q a c else c) → n - a < q → LI h → LI (pBr tp n k a h).2
  | 0, _, _, _, _, _, _, _, _, hL => hL
  | k + 1, q, a, c, h, ha, hc, hF, hq, hL => by
    rw [pBr]
    split
    next hlt =>
      cases q with
      | zero => omega
      | succ q =>
        rw [if_pos hlt, pFm] at hF
        have hok : (pSt tp n a).1 = true := by
          by_cases hok : (pSt tp n a).1 = true
          · exact hok
          · rw [if_neg hok] at hF
            have := pSt_at ht hn ha.1 ha.2
            omega
        rw [if_pos hok] at hF
        have hs := pSt_ok ht hn ha.1 ha.2 hok
        split
        next hcm => exact LI_pBr ht hn F hF0 k q _ (c + 1) _ ⟨by omega, hs.2.1⟩ (by omega) hF (by omega) (LI_pCm hL hs.2.2.1 hs.2.2.2.1 hs.2.2.2.2 hcm)
        next => exact hL
    next => exact hL
theorem LI_dLine {tp : Nat → Int} (ht : TB tp) {n : Int} (hn : 0 ≤ n ∧ n ≤ 48) {h : Nat → Int} (hL : LI h) : LI (dLine tp n h).2 := by
  unfold dLine
  split
  · exact hL
  next hF =>
    split
    · exact hL
    · show LI (pBr tp n 50 0 h).2
      by_cases q : 0 < n
      · exact LI_pBr ht hn.2 (pFm tp n 50 0 0) (by omega) 50 50 0 0 h (by omega) (by decide) (by rw [if_pos q]) (by omega) hL
      · rw [pBr, if_neg q]
        exact hL
theorem dLine_neg {tp : Nat → Int} {n : Int} {h : Nat → Int} (q : (dLine tp n h).1 < 0) : (dLine tp n h).2 = h := by
  unfold dLine at q ⊢
  split
  · rfl
  next hF =>
    rw [if_neg hF] at q
    split
    · rfl
    next hB =>
      rw [if_neg hB] at q
      exact absurd q hF
theorem pBr_lo {tp : Nat → Int} {n : Int} (hn : n ≤ 48) : ∀ (k : Nat) (a : Int) (h : Nat → Int), -2048 ≤ (pBr tp n k a h).1
  | 0, _, _ => (show (-2048 : Int) ≤ 0 by decide)
  | k + 1, a, h => by
    rw [pBr]
    split
    · split
      · exact pBr_lo hn k _ _
      · show -2048 ≤ -2000 - a
        omega
    · show (-2048 : Int) ≤ 0
      decide
theorem dLine_in {tp : Nat → Int} (ht : TB tp) {n : Int} (hn : 0 ≤ n ∧ n ≤ 48) (h : Nat → Int) : x_in (dLine tp n h).1 := by
  have K : ∀ (k : Nat) (a c : Int), 0 ≤ a ∧ a ≤ n → 0 ≤ c → c + k ≤ 100 → -2000 ≤ pFm tp n k a c ∧ pFm tp n k a c ≤ 100 := by
    intro k
    induction k with
    | zero => intro a c ha hc hk; rw [pFm]; omega
    | succ k ih =>
      intro a c ha hc hk
      have hat := pSt_at ht hn.2 ha.1 ha.2
      rw [pFm]
      by_cases hok : (pSt tp n a).1 = true
      · rw [if_pos hok]
        have hs := pSt_ok ht hn.2 ha.1 ha.2 hok
        split
        · exact ih _ _ (by omega) (by omega) (by omega)
        · omega
      · rw [if_neg hok]
        omega
  have h1 := K 50 0 0 (by omega) (by omega) (by omega)
  have h2 := pBr_lo (tp := tp) hn.2 50 0 h
  unfold dLine x_in
  split
  · exact ⟨by show -2147483648 ≤ pFm tp n 50 0 0; omega, by show pFm tp n 50 0 0 < 2147483648; omega⟩
  · split
    next q => exact ⟨by show -2147483648 ≤ (pBr tp n 50 0 h).1; omega, by show (pBr tp n 50 0 h).1 < 2147483648; omega⟩
    next => exact ⟨by show -2147483648 ≤ pFm tp n 50 0 0; omega, by show pFm tp n 50 0 0 < 2147483648; omega⟩
theorem CR.line {μ μ' κ : xM} (h : CR μ κ) {g : Nat → Int} (hg : LI g) (e12 : hOf μ' 12 = g) (e42 : μ' 42 0 = 0) (e : ∀ k, k < 12 ∨ 34 < k → k ≠ 42 → μ' k = μ k) : CR μ' (x_st (fun k => if k = 2 then g else κ k) 0 7 0) := by
  have e35 : hOf μ' 35 = hOf μ 35 := hOf_congr (fun k h1 h2 => e k (by omega) (by omega))
  obtain ⟨a1, a2, a3, a4, a5, a6, a7⟩ := h.gi
  refine ⟨⟨hg.1, fun j hj => ⟨hg.2.1 j hj, (a2 j hj).2⟩, ⟨show (0 : Int) ≤ 0 by decide, show (0 : Int) ≤ 48 by decide⟩, a4, a5, a6, a7⟩, hg.2.2, h.ok, e12, ?_, fun q => e35.trans (h.kept q), e42, ?_, ?_, ?_, ?_⟩
  · exact (congrFun (e 0 (by decide) (by decide)) 5).trans h.is
  · exact (e 43 (by decide) (by decide)).trans h.tb
  · exact (congrFun (e 44 (by decide) (by decide)) 0).trans h.rs
  · exact (e 45 (by decide) (by decide)).trans h.rb
  · exact (e 2 (by decide) (by decide)).trans h.rf
set_option maxRecDepth 100000 in
set_option maxHeartbeats 4000000 in
theorem s5_line (μ κ : xM) (h : CR μ κ) : X E0 shC 9 yX5_line cX5_line 2 (some .int) 0 [some (.inr (.inl 0)), none] [] μ (CQ ((dLine (κ 5) (κ 0 7) (κ 2)).1) (x_st (fun k => if k = 2 then (dLine (κ 5) (κ 0 7) (κ 2)).2 else κ k) 0 7 0)) := by
  have eH : hOf (x_ct [12, 13, 14, 15, 16, 17, 18] μ) 0 = κ 2 := h.hill
  have hI := h.mi
  have h1 : 0 ≤ κ 2 1 ∧ κ 2 1 ≤ 8 := hI.2.1
  have h0 : 0 ≤ κ 2 0 ∧ κ 2 0 ≤ 5 := hI.1
  have hts : 0 ≤ κ 0 7 ∧ κ 0 7 ≤ 48 := h.gi.2.2.1
  have hL : LI (dLine (κ 5) (κ 0 7) (κ 2)).2 := LI_dLine h.gi.2.2.2.1 hts ⟨hI, fun j hj => (h.gi.2.1 j hj).1, h.o⟩
  have K11 : ∀ μ1, CR μ1 κ → hOf μ1 28 = κ 2 → X E0 shC 9 yX5_line cX5_line 2 (some .int) 11 [some (.inr (.inl 0)), none] [] μ1 (CQ ((dLine (κ 5) (κ 0 7) (κ 2)).1) (x_st (fun k => if k = 2 then (dLine (κ 5) (κ 0 7) (κ 2)).2 else κ k) 0 7 0)) := by
    intro μ1 hc h28
    have hR := s3_readInto (κ 5) (κ 0 7) hts.2 hts.1 h.gi.2.2.2.1 (x_ct [42, 43, 28, 29, 30, 31, 32, 33, 34] μ1) (by show MI (hOf μ1 28); rw [h28]; exact hI) hc.tb hc.ts
    have K27 : ∀ μ2, (∀ k, k < 28 ∨ 34 < k → k ≠ 42 → μ2 k = μ1 k) → μ2 42 0 = 0 → (0 ≤ (dLine (κ 5) (κ 0 7) (κ 2)).1 → hOf μ2 28 = (dLine (κ 5) (κ 0 7) (κ 2)).2) → x_in (dLine (κ 5) (κ 0 7) (κ 2)).1 → X E0 shC 9 yX5_line cX5_line 2 (some .int) 22 [some (.inr (.inl 0)), none] [.inl (dLine (κ 5) (κ 0 7) (κ 2)).1] μ2 (CQ ((dLine (κ 5) (κ 0 7) (κ 2)).1) (x_st (fun k => if k = 2 then (dLine (κ 5) (κ 0 7) (κ 2)).2 else κ k) 0 7 0)) := by
      intro μ2 e e42 e28 hxin
      have KN : (dLine (κ 5) (κ 0 7) (κ 2)).1 < 0 → CR μ2 (x_st (fun k => if k = 2 then (dLine (κ 5) (κ 0 7) (κ 2)).2 else κ k) 0 7 0) := fun q => hc.line hL ((hOf_congr (fun k h1 h2 => e k (by omega) (by omega))).trans (hc.hill.trans (dLine_neg q).symm)) e42 (fun k hk h42 => e k (by omega) h42)
      have KP : 0 ≤ (dLine (κ 5) (κ 0 7) (κ 2)).1 → ∀ μ3 : xM, (∀ k, k < 12 ∨ 18 < k → μ3 k = μ2 k) → hOf μ3 12 = hOf μ2 28 → CR μ3 (x_st (fun k => if k = 2 then (dLine (κ 5) (κ 0 7) (κ 2)).2 else κ k) 0 7 0) := fun q μ3 e3 e12 => hc.line hL (e12.trans (e28 q)) ((congrFun (e3 42 (by decide)) 0).trans e42) (fun k hk h42 => (e3 k (by omega)).trans (e k (by omega) h42))
      clear hR hL e28
      generalize (dLine (κ 5) (κ 0 7) (κ 2)).1 = d at *
      refine x_istore_1 dX5_line_22 (by decide) rfl ?_
      refine x_iload_n (i := 1) dX5_line_23 rfl rfl ?_
      refine x_if_lt (tgt := 38) dX5_line_24 (by decide) (by first | assumption | (unfold x_in; decide)) (fun c1 => ?_) (fun c1 => ?_)
      · refine x_iload_n (i := 1) dX5_line_38 rfl rfl ?_
        refine x_iret dX5_line_39 rfl rfl ?_
        first | exact ⟨rfl, KN (by omega)⟩ | exact ⟨rfl, KP (by omega) μ3 hx h12⟩
      · refine x_aload_n (i := 0) dX5_line_27 rfl rfl ?_
        refine x_getR xf_RX5_20 dX5_line_28 rfl rfl ?_
        refine x_aload_n (i := 0) dX5_line_31 rfl rfl ?_
        refine x_getR xf_RX5_24 dX5_line_32 rfl rfl ?_
        refine x_cV_R [12, 13, 14, 15, 16, 17, 18, 28, 29, 30, 31, 32, 33, 34] lk_RX5_70 xm_X1_copyFrom dX5_line_35 (s1_copyFrom (x_ct [12, 13, 14, 15, 16, 17, 18, 28, 29, 30, 31, 32, 33, 34] μ2)) (fun ν hq => ?_)
        have hx := cp_back hq.2.2
        have h12 : hOf (x_mrg [12, 13, 14, 15, 16, 17, 18, 28, 29, 30, 31, 32, 33, 34] μ2 ν) 12 = hOf μ2 28 := hq.2.1
        generalize x_mrg [12, 13, 14, 15, 16, 17, 18, 28, 29, 30, 31, 32, 33, 34] μ2 ν = μ3 at *
        refine x_iload_n (i := 1) dX5_line_38 rfl rfl ?_
        refine x_iret dX5_line_39 rfl rfl ?_
        first | exact ⟨rfl, KN (by omega)⟩ | exact ⟨rfl, KP (by omega) μ3 hx h12⟩
    have hxin := dLine_in h.gi.2.2.2.1 hts (κ 2)
    refine x_aload_n (i := 0) dX5_line_11 rfl rfl ?_
    refine x_getR xf_RX5_36 dX5_line_12 rfl rfl ?_
    refine x_aload_n (i := 0) dX5_line_15 rfl rfl ?_
    refine x_getR xf_RX5_24 dX5_line_16 rfl rfl ?_
    refine x_cI_R [42, 43, 28, 29, 30, 31, 32, 33, 34] lk_RX5_74 xm_X3_readInto dX5_line_19 (hR) (fun a ν hq => ?_)
    obtain ⟨ea, e1, e2, e3⟩ := hq
    rw [show hOf (x_ct [42, 43, 28, 29, 30, 31, 32, 33, 34] μ1) 2 = κ 2 from h28] at ea e1
    cases ea
    refine K27 _ (fun k hk h42 => ?_) e3 e1 hxin
    by_cases q : k = 43
    · rw [q]
      exact e2.trans hc.tb.symm
    · exact x_mrg_out μ1 ν (fun i hi => by simp at hi; omega)
  refine x_aload_n (i := 0) dX5_line_0 rfl rfl ?_
  refine x_getR xf_RX5_24 dX5_line_1 rfl rfl ?_
  refine x_aload_n (i := 0) dX5_line_4 rfl rfl ?_
  refine x_getR xf_RX5_20 dX5_line_5 rfl rfl ?_
  refine x_cV_R [28, 29, 30, 31, 32, 33, 34, 12, 13, 14, 15, 16, 17, 18] lk_RX5_70 xm_X1_copyFrom dX5_line_8 (s1_copyFrom (x_ct [28, 29, 30, 31, 32, 33, 34, 12, 13, 14, 15, 16, 17, 18] μ)) (fun ν hq => ?_)
  have hx := cp_trial hq.2.2
  have hc : CR (x_mrg [28, 29, 30, 31, 32, 33, 34, 12, 13, 14, 15, 16, 17, 18] μ ν) κ := h.same (fun k hk _ => hx k (by omega))
  have h28 : hOf (x_mrg [28, 29, 30, 31, 32, 33, 34, 12, 13, 14, 15, 16, 17, 18] μ ν) 28 = κ 2 := hq.2.1.trans h.hill
  clear hx
  generalize x_mrg [28, 29, 30, 31, 32, 33, 34, 12, 13, 14, 15, 16, 17, 18] μ ν = μ1 at *
  exact K11 μ1 hc h28
