/-! THE CLASS: what asks a day of the hill -/
theorem x_pos_out {k : Nat} : ∀ {is : List Nat}, (∀ i ∈ is, k ≠ i) → x_pos is k = none
  | [], _ => rfl
  | a :: l, h => by
    rw [x_pos, if_neg (h a List.mem_cons_self), x_pos_out (fun i hi => h i (List.mem_cons_of_mem _ hi))]
    rfl
theorem x_mrg_out {is : List Nat} {k : Nat} (μ ν : xM) (h : ∀ i ∈ is, k ≠ i) : x_mrg is μ ν k = μ k := by
  unfold x_mrg
  rw [x_pos_out h]
theorem DE_ct {μ ν : xM} {g : Nat → Int} (h : DE ν g) : DE (x_ct [3, 4, 5, 6, 7, 8, 9, 10, 11, 12, 13, 14, 15, 16, 17, 18] (x_mrg [3, 4, 5, 6, 7, 8, 9, 10, 11, 12, 13, 14, 15, 16, 17, 18] μ ν)) g := h
theorem DE_ctT {μ ν : xM} {g : Nat → Int} (h : DE ν g) : DE (x_ct [19, 20, 21, 22, 23, 24, 25, 26, 27, 28, 29, 30, 31, 32, 33, 34] (x_mrg [19, 20, 21, 22, 23, 24, 25, 26, 27, 28, 29, 30, 31, 32, 33, 34] μ ν)) g := h
set_option maxRecDepth 100000 in
set_option maxHeartbeats 4000000 in
theorem s5_allWaited (μ κ : xM) (h : CR μ κ) : X E0 shC 9 yX5_allWaited cX5_allWaited 1 (some .int) 0 [some (.inr (.inl 0))] [] μ (CQ (dAll (κ 2)) (κ)) := by
  have eH : hOf (x_ct [12, 13, 14, 15, 16, 17, 18] μ) 0 = κ 2 := h.hill
  have hI := h.mi
  have h1 : 0 ≤ κ 2 1 ∧ κ 2 1 ≤ 8 := hI.2.1
  have h0 : 0 ≤ κ 2 0 ∧ κ 2 0 ≤ 5 := hI.1
  refine x_aload_n (i := 0) dX5_allWaited_0 rfl rfl ?_
  refine x_getR xf_RX5_10 dX5_allWaited_1 rfl rfl ?_
  refine x_cV_0 [3, 4, 5, 6, 7, 8, 9, 10, 11, 12, 13, 14, 15, 16, 17, 18] lk_RX5_126 xm_X0_run dX5_allWaited_4 (s0_run (x_ct [3, 4, 5, 6, 7, 8, 9, 10, 11, 12, 13, 14, 15, 16, 17, 18] μ) (κ 2) h.hill h.mi h.o) (fun ν hq => ?_)
  have hc : CR (x_mrg [3, 4, 5, 6, 7, 8, 9, 10, 11, 12, 13, 14, 15, 16, 17, 18] μ ν) κ := h.day (hq.2.1.trans h.hill.symm)
  refine x_aload_n (i := 0) dX5_allWaited_7 rfl rfl ?_
  refine x_getR xf_RX5_10 dX5_allWaited_8 rfl rfl ?_
  refine x_cIp_0 [3, 4, 5, 6, 7, 8, 9, 10, 11, 12, 13, 14, 15, 16, 17, 18] lk_RX5_132 xm_X0_waitedByAll dX5_allWaited_11 (s0_waitedByAll _ (κ 2) (DE_ct hq.2) h.mi) ?_
  refine x_iret dX5_allWaited_14 rfl rfl ?_
  exact ⟨rfl, hc⟩
set_option maxRecDepth 100000 in
set_option maxHeartbeats 4000000 in
theorem s5_heaviest (μ κ : xM) (h : CR μ κ) : X E0 shC 9 yX5_heaviest cX5_heaviest 1 (some .int) 0 [some (.inr (.inl 0))] [] μ (CQ (dWts (κ 2)) (κ)) := by
  have eH : hOf (x_ct [12, 13, 14, 15, 16, 17, 18] μ) 0 = κ 2 := h.hill
  have hI := h.mi
  have h1 : 0 ≤ κ 2 1 ∧ κ 2 1 ≤ 8 := hI.2.1
  have h0 : 0 ≤ κ 2 0 ∧ κ 2 0 ≤ 5 := hI.1
  refine x_aload_n (i := 0) dX5_heaviest_0 rfl rfl ?_
  refine x_getR xf_RX5_10 dX5_heaviest_1 rfl rfl ?_
  refine x_cV_0 [3, 4, 5, 6, 7, 8, 9, 10, 11, 12, 13, 14, 15, 16, 17, 18] lk_RX5_126 xm_X0_run dX5_heaviest_4 (s0_run (x_ct [3, 4, 5, 6, 7, 8, 9, 10, 11, 12, 13, 14, 15, 16, 17, 18] μ) (κ 2) h.hill h.mi h.o) (fun ν hq => ?_)
  have hc : CR (x_mrg [3, 4, 5, 6, 7, 8, 9, 10, 11, 12, 13, 14, 15, 16, 17, 18] μ ν) κ := h.day (hq.2.1.trans h.hill.symm)
  refine x_aload_n (i := 0) dX5_heaviest_7 rfl rfl ?_
  refine x_getR xf_RX5_10 dX5_heaviest_8 rfl rfl ?_
  refine x_cIp_0 [3, 4, 5, 6, 7, 8, 9, 10, 11, 12, 13, 14, 15, 16, 17, 18] lk_RX5_153 xm_X0_weightBegun dX5_heaviest_11 (s0_weightBegun _ (κ 2) (DE_ct hq.2) h.mi) ?_
  refine x_iret dX5_heaviest_14 rfl rfl ?_
  exact ⟨rfl, hc⟩
set_option maxRecDepth 100000 in
set_option maxHeartbeats 4000000 in
theorem s5_downs (μ κ : xM) (h : CR μ κ) : X E0 shC 9 yX5_downs cX5_downs 1 (some .int) 0 [some (.inr (.inl 0))] [] μ (CQ (dDowns (κ 2)) (κ)) := by
  have eH : hOf (x_ct [12, 13, 14, 15, 16, 17, 18] μ) 0 = κ 2 := h.hill
  have hI := h.mi
  have h1 : 0 ≤ κ 2 1 ∧ κ 2 1 ≤ 8 := hI.2.1
  have h0 : 0 ≤ κ 2 0 ∧ κ 2 0 ≤ 5 := hI.1
  refine x_aload_n (i := 0) dX5_downs_0 rfl rfl ?_
  refine x_getR xf_RX5_10 dX5_downs_1 rfl rfl ?_
  refine x_cV_0 [3, 4, 5, 6, 7, 8, 9, 10, 11, 12, 13, 14, 15, 16, 17, 18] lk_RX5_126 xm_X0_run dX5_downs_4 (s0_run (x_ct [3, 4, 5, 6, 7, 8, 9, 10, 11, 12, 13, 14, 15, 16, 17, 18] μ) (κ 2) h.hill h.mi h.o) (fun ν hq => ?_)
  have hc : CR (x_mrg [3, 4, 5, 6, 7, 8, 9, 10, 11, 12, 13, 14, 15, 16, 17, 18] μ ν) κ := h.day (hq.2.1.trans h.hill.symm)
  refine x_aload_n (i := 0) dX5_downs_7 rfl rfl ?_
  refine x_getR xf_RX5_10 dX5_downs_8 rfl rfl ?_
  refine x_getI xf_RX5_135 dX5_downs_11 rfl rfl ?_
  try simp (decide := true) only [x_st_at, ↓reduceIte, if_true, if_false]
  refine x_iret dX5_downs_14 rfl rfl ?_
  exact ⟨congrArg (fun z => some (Sum.inl z)) hq.2.2.1, hc⟩
set_option maxRecDepth 100000 in
set_option maxHeartbeats 4000000 in
theorem s5_began (t : Int) (ht : x_in t) (μ κ : xM) (h : CR μ κ) : X E0 shC 9 yX5_began cX5_began 2 (some .int) 0 [some (.inr (.inl 0)), some (.inl t)] [] μ (CQ (if inT (κ 2) t then dBeg (κ 2) t else -1) (if inT (κ 2) t then κ else mRef κ (-1))) := by
  have eH : hOf (x_ct [12, 13, 14, 15, 16, 17, 18] μ) 0 = κ 2 := h.hill
  have hI := h.mi
  have h1 : 0 ≤ κ 2 1 ∧ κ 2 1 ≤ 8 := hI.2.1
  have h0 : 0 ≤ κ 2 0 ∧ κ 2 0 ≤ 5 := hI.1
  have hm := mIn_in t (κ 2 1)
  refine x_aload_n (i := 0) dX5_began_0 rfl rfl ?_
  refine x_getR xf_RX5_20 dX5_began_1 rfl rfl ?_
  refine x_iload_n (i := 1) dX5_began_4 rfl rfl ?_
  refine x_cIp_1 [12, 13, 14, 15, 16, 17, 18] lk_RX5_87 xm_X1_hasTrain dX5_began_5 (s1_hasTrain _ ht _ h.mh) ?_
  rw [eH]
  refine x_if_ne (tgt := 17) dX5_began_8 (by decide) (by first | (unfold x_in; omega) | (unfold x_in; decide)) (fun c1 => ?_) (fun c1 => ?_)
  · have hT := mIn_t c1
    refine x_aload_n (i := 0) dX5_began_17 rfl rfl ?_
    refine x_getR xf_RX5_10 dX5_began_18 rfl rfl ?_
    refine x_cV_0 [3, 4, 5, 6, 7, 8, 9, 10, 11, 12, 13, 14, 15, 16, 17, 18] lk_RX5_126 xm_X0_run dX5_began_21 (s0_run (x_ct [3, 4, 5, 6, 7, 8, 9, 10, 11, 12, 13, 14, 15, 16, 17, 18] μ) (κ 2) h.hill h.mi h.o) (fun ν hq => ?_)
    have hc : CR (x_mrg [3, 4, 5, 6, 7, 8, 9, 10, 11, 12, 13, 14, 15, 16, 17, 18] μ ν) κ := h.day (hq.2.1.trans h.hill.symm)
    refine x_aload_n (i := 0) dX5_began_24 rfl rfl ?_
    refine x_getR xf_RX5_10 dX5_began_25 rfl rfl ?_
    refine x_getR xf_RX5_129 dX5_began_28 rfl rfl ?_
    refine x_iload_n (i := 1) dX5_began_31 rfl rfl ?_
    refine x_iald dX5_began_32 rfl (by decide) (by first | omega | decide) (by first | omega | decide) ?_
    try simp (decide := true) only [x_st_at, ↓reduceIte, if_true, if_false]
    refine x_iret dX5_began_33 rfl rfl ?_
    first | (rw [if_neg (mIn_f c1), if_neg (mIn_f c1)]; exact ⟨rfl, h.ref (-1)⟩) | (rw [if_pos (mIn_t c1), if_pos (mIn_t c1)]; exact ⟨congrArg (fun z => some (Sum.inl z)) (hq.2.2.2 t hT.1 hT.2).1, hc⟩)
  · refine x_aload_n (i := 0) dX5_began_11 rfl rfl ?_
    refine x_iconst dX5_began_12 ?_
    refine x_cIf0_1 lk_RX5_54 xm_X5_refuse dX5_began_13 (s5_refuse _ (by decide) _) ?_
    refine x_iret dX5_began_16 rfl rfl ?_
    first | (rw [if_neg (mIn_f c1), if_neg (mIn_f c1)]; exact ⟨rfl, h.ref (-1)⟩) | (rw [if_pos (mIn_t c1), if_pos (mIn_t c1)]; exact ⟨congrArg (fun z => some (Sum.inl z)) (hq.2.2.2 t hT.1 hT.2).1, hc⟩)
set_option maxRecDepth 100000 in
set_option maxHeartbeats 4000000 in
theorem s5_waited (t : Int) (ht : x_in t) (μ κ : xM) (h : CR μ κ) : X E0 shC 9 yX5_waited cX5_waited 3 (some .int) 0 [some (.inr (.inl 0)), some (.inl t), none] [] μ (CQ (if inT (κ 2) t then (if dBeg (κ 2) t < 0 then -9 else dBeg (κ 2) t - mCm (κ 2) t) else -1) (if inT (κ 2) t then κ else mRef κ (-1))) := by
  have eH : hOf (x_ct [12, 13, 14, 15, 16, 17, 18] μ) 0 = κ 2 := h.hill
  have hI := h.mi
  have h1 : 0 ≤ κ 2 1 ∧ κ 2 1 ≤ 8 := hI.2.1
  have h0 : 0 ≤ κ 2 0 ∧ κ 2 0 ≤ 5 := hI.1
  have hm := mIn_in t (κ 2 1)
  refine x_aload_n (i := 0) dX5_waited_0 rfl rfl ?_
  refine x_getR xf_RX5_20 dX5_waited_1 rfl rfl ?_
  refine x_iload_n (i := 1) dX5_waited_4 rfl rfl ?_
  refine x_cIp_1 [12, 13, 14, 15, 16, 17, 18] lk_RX5_87 xm_X1_hasTrain dX5_waited_5 (s1_hasTrain _ ht _ h.mh) ?_
  rw [eH]
  refine x_if_ne (tgt := 17) dX5_waited_8 (by decide) (by first | (unfold x_in; omega) | (unfold x_in; decide)) (fun c1 => ?_) (fun c1 => ?_)
  · have hT := mIn_t c1
    have hbi := dBeg_in hI hT.1 (show t < 8 by omega)
    refine x_aload_n (i := 0) dX5_waited_17 rfl rfl ?_
    refine x_getR xf_RX5_10 dX5_waited_18 rfl rfl ?_
    refine x_cV_0 [3, 4, 5, 6, 7, 8, 9, 10, 11, 12, 13, 14, 15, 16, 17, 18] lk_RX5_126 xm_X0_run dX5_waited_21 (s0_run (x_ct [3, 4, 5, 6, 7, 8, 9, 10, 11, 12, 13, 14, 15, 16, 17, 18] μ) (κ 2) h.hill h.mi h.o) (fun ν hq => ?_)
    have hc : CR (x_mrg [3, 4, 5, 6, 7, 8, 9, 10, 11, 12, 13, 14, 15, 16, 17, 18] μ ν) κ := h.day (hq.2.1.trans h.hill.symm)
    refine x_aload_n (i := 0) dX5_waited_24 rfl rfl ?_
    refine x_getR xf_RX5_10 dX5_waited_25 rfl rfl ?_
    refine x_getR xf_RX5_129 dX5_waited_28 rfl rfl ?_
    refine x_iload_n (i := 1) dX5_waited_31 rfl rfl ?_
    refine x_iald dX5_waited_32 rfl (by decide) (by first | omega | decide) (by first | omega | decide) ?_
    try simp (decide := true) only [x_st_at, ↓reduceIte, if_true, if_false]
    rw [show (x_mrg [3, 4, 5, 6, 7, 8, 9, 10, 11, 12, 13, 14, 15, 16, 17, 18] μ ν) 4 t.toNat = dBeg (κ 2) t from (hq.2.2.2 t hT.1 hT.2).1]
    have hb := (hq.2.2.2 t hT.1 hT.2).2.2
    refine x_istore_2 dX5_waited_33 (by decide) rfl ?_
    refine x_iload_n (i := 2) dX5_waited_34 rfl rfl ?_
    refine x_bipush dX5_waited_35 (by decide) ?_
    refine x_icmp_ne (tgt := 45) dX5_waited_37 (by decide) (by first | (unfold x_in; omega) | (unfold x_in; decide)) (by first | (unfold x_in; omega) | (unfold x_in; decide)) (fun c2 => ?_) (fun c2 => ?_)
    · refine x_iload_n (i := 2) dX5_waited_45 rfl rfl ?_
      refine x_aload_n (i := 0) dX5_waited_46 rfl rfl ?_
      refine x_getR xf_RX5_20 dX5_waited_47 rfl rfl ?_
      refine x_getR xf_RX5_90 dX5_waited_50 rfl rfl ?_
      refine x_iload_n (i := 1) dX5_waited_53 rfl rfl ?_
      refine x_iald dX5_waited_54 rfl (by decide) (by first | omega | decide) (by first | omega | decide) ?_
      try simp (decide := true) only [x_st_at, ↓reduceIte, if_true, if_false]
      rw [show (x_mrg [3, 4, 5, 6, 7, 8, 9, 10, 11, 12, 13, 14, 15, 16, 17, 18] μ ν) 15 t.toNat = mCm (κ 2) t by rw [← hc.hill]; exact (hOf_com (x_mrg [3, 4, 5, 6, 7, 8, 9, 10, 11, 12, 13, 14, 15, 16, 17, 18] μ ν) 12 hT.1 (by omega)).symm]
      refine x_isub dX5_waited_55 ?_
      refine x_iret dX5_waited_56 rfl rfl ?_
      first | (rw [if_neg (mIn_f c1), if_neg (mIn_f c1)]; exact ⟨rfl, h.ref (-1)⟩) | (rw [if_pos (mIn_t c1), if_pos (mIn_t c1), if_pos (by omega)]; exact ⟨rfl, hc⟩) | (rw [if_pos (mIn_t c1), if_pos (mIn_t c1), if_neg (by omega)]; exact ⟨rfl, hc⟩)
    · refine x_bipush dX5_waited_40 (by decide) ?_
      refine x_goto (tgt := 56) dX5_waited_42 (by decide) ?_
      refine x_iret dX5_waited_56 rfl rfl ?_
      first | (rw [if_neg (mIn_f c1), if_neg (mIn_f c1)]; exact ⟨rfl, h.ref (-1)⟩) | (rw [if_pos (mIn_t c1), if_pos (mIn_t c1), if_pos (by omega)]; exact ⟨rfl, hc⟩) | (rw [if_pos (mIn_t c1), if_pos (mIn_t c1), if_neg (by omega)]; exact ⟨rfl, hc⟩)
  · refine x_aload_n (i := 0) dX5_waited_11 rfl rfl ?_
    refine x_iconst dX5_waited_12 ?_
    refine x_cIf0_1 lk_RX5_54 xm_X5_refuse dX5_waited_13 (s5_refuse _ (by decide) _) ?_
    refine x_iret dX5_waited_16 rfl rfl ?_
    first | (rw [if_neg (mIn_f c1), if_neg (mIn_f c1)]; exact ⟨rfl, h.ref (-1)⟩) | (rw [if_pos (mIn_t c1), if_pos (mIn_t c1), if_pos (by omega)]; exact ⟨rfl, hc⟩) | (rw [if_pos (mIn_t c1), if_pos (mIn_t c1), if_neg (by omega)]; exact ⟨rfl, hc⟩)
set_option maxRecDepth 100000 in
set_option maxHeartbeats 4000000 in
theorem s5_count (w : Int) (hw : x_in w) (μ κ : xM) (h : CR μ κ) : X E0 shC 9 yX5_count cX5_count 2 (some .int) 0 [some (.inr (.inl 0)), some (.inl w)] [] μ (CQ (dCount κ w) (κ)) := by
  have eH : hOf (x_ct [12, 13, 14, 15, 16, 17, 18] μ) 0 = κ 2 := h.hill
  have hI := h.mi
  have h1 : 0 ≤ κ 2 1 ∧ κ 2 1 ≤ 8 := hI.2.1
  have h0 : 0 ≤ κ 2 0 ∧ κ 2 0 ≤ 5 := hI.1
  have hs : ∀ v, v = dCount κ w → ∀ μ', CR μ' κ → CQ (dCount κ w) κ (some (.inl v)) μ' := fun v e μ' c => ⟨by rw [e], c⟩
  have k0 : w = 0 → κ 2 0 = dCount κ w := fun e => by rw [e]; rfl
  have k1 : w = 1 → κ 2 1 = dCount κ w := fun e => by rw [e]; rfl
  have k2 : w = 2 → κ 2 2 = dCount κ w := fun e => by rw [e]; rfl
  have k3 : w = 3 → mSing (κ 2) = dCount κ w := fun e => by rw [e]; rfl
  have k4 : w = 4 → dCnt (κ 2) = dCount κ w := fun e => by rw [e]; rfl
  have k5 : w = 5 → κ 2 3 = dCount κ w := fun e => by rw [e]; rfl
  have k6 : w = 6 → κ 0 22 = dCount κ w := fun e => by rw [e]; rfl
  have k7 : w = 7 → κ 0 7 = dCount κ w := fun e => by rw [e]; rfl
  have kr : 10 < w ∧ w < 17 → μ 2 (w - 10).toNat = dCount κ w := fun e => by
    rw [h.rf]
    exact (if_pos e).symm
  have kn : ¬ (10 < w ∧ w < 17) → ¬ (0 ≤ w ∧ w ≤ 7) → -9 = dCount κ w := fun e q => by
    unfold dCount
    rw [if_neg e, if_neg (by omega), if_neg (by omega), if_neg (by omega), if_neg (by omega), if_neg (by omega), if_neg (by omega)]
  have b0 : μ 12 0 = κ 2 0 := congrFun h.hill 0
  have b1 : μ 12 3 = κ 2 1 := congrFun h.hill 1
  have b2 : μ 12 6 = κ 2 2 := congrFun h.hill 2
  have b3 : μ 12 8 = κ 2 3 := congrFun h.hill 3
  refine x_iload_n (i := 1) dX5_count_0 rfl rfl ?_
  refine x_tab8 (td := 119) (t0 := 48) (t1 := 56) (t2 := 64) (t3 := 72) (t4 := 80) (t5 := 95) (t6 := 103) (t7 := 111) dX5_count_1 (by first | assumption | (unfold x_in; omega) | (unfold x_in; decide)) (by decide) (by decide) (by decide) (by decide) (by decide) (by decide) (by decide) (by decide) (by decide) (by decide) (fun c1 => ?_) (fun c1 => ?_) (fun c1 => ?_) (fun c1 => ?_) (fun c1 => ?_) (fun c1 => ?_) (fun c1 => ?_) (fun c1 => ?_) (fun c1 => ?_)
  · refine x_aload_n (i := 0) dX5_count_48 rfl rfl ?_
    refine x_getR xf_RX5_20 dX5_count_49 rfl rfl ?_
    refine x_getI xf_RX5_150 dX5_count_52 rfl rfl ?_
    refine x_iret dX5_count_55 rfl rfl ?_
    exact hs _ (b0.trans (k0 (by omega))) _ h
  · refine x_aload_n (i := 0) dX5_count_56 rfl rfl ?_
    refine x_getR xf_RX5_20 dX5_count_57 rfl rfl ?_
    refine x_getI xf_RX5_138 dX5_count_60 rfl rfl ?_
    refine x_iret dX5_count_63 rfl rfl ?_
    exact hs _ (b1.trans (k1 (by omega))) _ h
  · refine x_aload_n (i := 0) dX5_count_64 rfl rfl ?_
    refine x_getR xf_RX5_20 dX5_count_65 rfl rfl ?_
    refine x_getI xf_RX5_144 dX5_count_68 rfl rfl ?_
    refine x_iret dX5_count_71 rfl rfl ?_
    exact hs _ (b2.trans (k2 (by omega))) _ h
  · refine x_aload_n (i := 0) dX5_count_72 rfl rfl ?_
    refine x_getR xf_RX5_20 dX5_count_73 rfl rfl ?_
    refine x_cIp_0 [12, 13, 14, 15, 16, 17, 18] lk_RX5_177 xm_X1_singles dX5_count_76 (s1_singles _ h.mh) ?_
    rw [eH]
    refine x_iret dX5_count_79 rfl rfl ?_
    exact hs _ (k3 (by omega)) _ h
  · refine x_aload_n (i := 0) dX5_count_80 rfl rfl ?_
    refine x_getR xf_RX5_10 dX5_count_81 rfl rfl ?_
    refine x_cV_0 [3, 4, 5, 6, 7, 8, 9, 10, 11, 12, 13, 14, 15, 16, 17, 18] lk_RX5_126 xm_X0_run dX5_count_84 (s0_run (x_ct [3, 4, 5, 6, 7, 8, 9, 10, 11, 12, 13, 14, 15, 16, 17, 18] μ) (κ 2) h.hill h.mi h.o) (fun ν hq => ?_)
    have hc : CR (x_mrg [3, 4, 5, 6, 7, 8, 9, 10, 11, 12, 13, 14, 15, 16, 17, 18] μ ν) κ := h.day (hq.2.1.trans h.hill.symm)
    refine x_aload_n (i := 0) dX5_count_87 rfl rfl ?_
    refine x_getR xf_RX5_10 dX5_count_88 rfl rfl ?_
    refine x_cIp_0 [3, 4, 5, 6, 7, 8, 9, 10, 11, 12, 13, 14, 15, 16, 17, 18] lk_RX5_180 xm_X0_trainsBegun dX5_count_91 (s0_trainsBegun _ (κ 2) (DE_ct hq.2) h.mi) ?_
    refine x_iret dX5_count_94 rfl rfl ?_
    exact hs _ (k4 (by omega)) _ hc
  · refine x_aload_n (i := 0) dX5_count_95 rfl rfl ?_
    refine x_getR xf_RX5_20 dX5_count_96 rfl rfl ?_
    refine x_getI xf_RX5_109 dX5_count_99 rfl rfl ?_
    refine x_iret dX5_count_102 rfl rfl ?_
    exact hs _ (b3.trans (k5 (by omega))) _ h
  · refine x_aload_n (i := 0) dX5_count_103 rfl rfl ?_
    refine x_getR xf_RX5_43 dX5_count_104 rfl rfl ?_
    refine x_getI xf_RX5_160 dX5_count_107 rfl rfl ?_
    refine x_iret dX5_count_110 rfl rfl ?_
    exact hs _ (h.rs.trans (k6 (by omega))) _ h
  · refine x_aload_n (i := 0) dX5_count_111 rfl rfl ?_
    refine x_getR xf_RX5_36 dX5_count_112 rfl rfl ?_
    refine x_getI xf_RX5_66 dX5_count_115 rfl rfl ?_
    refine x_iret dX5_count_118 rfl rfl ?_
    exact hs _ (h.ts.trans (k7 (by omega))) _ h
  · refine x_iload_n (i := 1) dX5_count_119 rfl rfl ?_
    refine x_bipush dX5_count_120 (by decide) ?_
    refine x_icmp_lt (tgt := 143) dX5_count_122 (by decide) (by first | assumption | (unfold x_in; omega) | (unfold x_in; decide)) (by first | assumption | (unfold x_in; omega) | (unfold x_in; decide)) (fun c2 => ?_) (fun c2 => ?_)
    · refine x_bipush dX5_count_143 (by decide) ?_
      refine x_iret dX5_count_145 rfl rfl ?_
      first | exact hs _ (kr (by omega)) _ h | exact hs _ (kn (by omega) (by omega)) _ h
    · refine x_iload_n (i := 1) dX5_count_125 rfl rfl ?_
      refine x_bipush dX5_count_126 (by decide) ?_
      refine x_icmp_gt (tgt := 143) dX5_count_128 (by decide) (by first | assumption | (unfold x_in; omega) | (unfold x_in; decide)) (by first | assumption | (unfold x_in; omega) | (unfold x_in; decide)) (fun c3 => ?_) (fun c3 => ?_)
      · refine x_bipush dX5_count_143 (by decide) ?_
        refine x_iret dX5_count_145 rfl rfl ?_
        first | exact hs _ (kr (by omega)) _ h | exact hs _ (kn (by omega) (by omega)) _ h
      · refine x_aload_n (i := 0) dX5_count_131 rfl rfl ?_
        refine x_getR xf_RX5_51 dX5_count_132 rfl rfl ?_
        refine x_iload_n (i := 1) dX5_count_135 rfl rfl ?_
        refine x_bipush dX5_count_136 (by decide) ?_
        refine x_isub dX5_count_138 ?_
        refine x_iald dX5_count_139 rfl (by decide) (by first | omega | decide) (by first | omega | decide) ?_
        refine x_goto (tgt := 145) dX5_count_140 (by decide) ?_
        refine x_iret dX5_count_145 rfl rfl ?_
        first | exact hs _ (kr (by omega)) _ h | exact hs _ (kn (by omega) (by omega)) _ h
set_option maxRecDepth 100000 in
set_option maxHeartbeats 4000000 in
theorem s5_waitedOnTrial (g : Nat → Int) (hI : MI g) (hO : DO g) (μ : xM) (hg : hOf μ 28 = g) : X E0 shC 5 yX5_waitedOnTrial cX5_waitedOnTrial 1 (some .int) 0 [some (.inr (.inl 0))] [] μ (fun r μ' => r = some (.inl (dAll g)) ∧ hOf μ' 28 = g ∧ ∀ k, k < 19 ∨ 34 < k → μ' k = μ k) := by
  refine x_aload_n (i := 0) dX5_waitedOnTrial_0 rfl rfl ?_
  refine x_getR xf_RX5_21 dX5_waitedOnTrial_1 rfl rfl ?_
  refine x_cV_0 [19, 20, 21, 22, 23, 24, 25, 26, 27, 28, 29, 30, 31, 32, 33, 34] lk_RX5_126 xm_X0_run dX5_waitedOnTrial_4 (s0_run (x_ct [19, 20, 21, 22, 23, 24, 25, 26, 27, 28, 29, 30, 31, 32, 33, 34] μ) g hg hI hO) (fun ν hq => ?_)
  refine x_aload_n (i := 0) dX5_waitedOnTrial_7 rfl rfl ?_
  refine x_getR xf_RX5_21 dX5_waitedOnTrial_8 rfl rfl ?_
  refine x_cIp_0 [19, 20, 21, 22, 23, 24, 25, 26, 27, 28, 29, 30, 31, 32, 33, 34] lk_RX5_132 xm_X0_waitedByAll dX5_waitedOnTrial_11 (s0_waitedByAll _ g (DE_ctT hq.2) hI) ?_
  refine x_iret dX5_waitedOnTrial_14 rfl rfl ?_
  exact ⟨rfl, hq.2.1, fun k hk => x_mrg_out μ ν (fun i hi => by simp at hi; omega)⟩
