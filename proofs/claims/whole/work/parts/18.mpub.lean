/-! THE REFERENCE: its public methods over its whole state -/
/-- what holds of its whole state between calls -/
def GI (μ : xM) : Prop := MI (μ 2) ∧ (∀ j : Nat, 47 ≤ j → μ 2 j = 0 ∧ μ 3 j = 0 ∧ μ 4 j = 0 ∧ μ 10 j = 0) ∧ (0 ≤ μ 0 7 ∧ μ 0 7 ≤ 48) ∧ (∀ k : Int, 0 ≤ k → k < 48 → 0 ≤ μ 5 k.toNat ∧ μ 5 k.toNat ≤ 255) ∧ (0 ≤ μ 0 22 ∧ μ 0 22 ≤ 16) ∧ (∀ k : Int, 0 ≤ k → k < 16 → 0 ≤ μ 12 k.toNat ∧ μ 12 k.toNat ≤ 9) ∧ (μ 0 4 = 0 ∨ (μ 0 4 = 1 ∧ MI (μ 3)))
/-- two states alike in all that later calls can show -/
def Abs (μ ν : xM) : Prop := ν 1 = μ 1 ∧ ν 2 = μ 2 ∧ ν 3 = μ 3 ∧ ν 5 = μ 5 ∧ ν 12 = μ 12 ∧ ν 0 4 = μ 0 4 ∧ ν 0 7 = μ 0 7 ∧ ν 0 22 = μ 0 22 ∧ ∀ j : Nat, 47 ≤ j → ν 4 j = 0 ∧ ν 10 j = 0
theorem Abs.gi {μ ν : xM} (h : Abs μ ν) (g : GI μ) : GI ν := by
  obtain ⟨a1, a2, a3, a5, a12, b4, b7, b22, z⟩ := h
  obtain ⟨g1, g2, g3, g4, g5, g6, g7⟩ := g
  refine ⟨by rw [a2]; exact g1, fun j hj => ⟨by rw [a2]; exact (g2 j hj).1, by rw [a3]; exact (g2 j hj).2.1, (z j hj).1, (z j hj).2⟩, by rw [b7]; exact g3, by rw [a5]; exact g4, by rw [b22]; exact g5, by rw [a12]; exact g6, by rw [b4, a3]; exact g7⟩
theorem Abs.rfl' {μ : xM} (g : GI μ) : Abs μ μ := ⟨rfl, rfl, rfl, rfl, rfl, rfl, rfl, rfl, fun j hj => (g.2.1 j hj).2.2⟩
theorem Abs.ref {μ : xM} (g : GI μ) (c : Int) : Abs (mRef μ c) (mRef μ c) := ⟨rfl, rfl, rfl, rfl, rfl, rfl, rfl, rfl, fun j hj => (g.2.1 j hj).2.2⟩
theorem Abs.trans {a b c : xM} (h : Abs a b) (g : Abs b c) : Abs a c := by
  obtain ⟨a1, a2, a3, a5, a12, b4, b7, b22, z⟩ := h
  obtain ⟨c1, c2, c3, c5, c12, d4, d7, d22, z'⟩ := g
  exact ⟨c1.trans a1, c2.trans a2, c3.trans a3, c5.trans a5, c12.trans a12, d4.trans b4, d7.trans b7, d22.trans b22, z'⟩
theorem Same.abs {μ ν : xM} (h : Same μ ν) (g : GI μ) : Abs μ ν := by
  have k := fun a b c d e => h.2 a b c d e
  exact ⟨k 1 (by decide) (by decide) (by decide) (by decide), k 2 (by decide) (by decide) (by decide) (by decide), k 3 (by decide) (by decide) (by decide) (by decide), k 5 (by decide) (by decide) (by decide) (by decide), k 12 (by decide) (by decide) (by decide) (by decide), h.1 4 (by decide), h.1 7 (by decide), h.1 22 (by decide), fun j hj => by rw [k 4 (by decide) (by decide) (by decide) (by decide), k 10 (by decide) (by decide) (by decide) (by decide)]; exact (g.2.1 j hj).2.2⟩
abbrev PQ (v : Int) (m : xM) : Option xA → xM → Prop := fun r μ' => r = some (.inl v) ∧ Abs m μ'
abbrev inT (h : Nat → Int) (t : Int) : Prop := 0 ≤ t ∧ t < h 1
abbrev inP (h : Nat → Int) (p : Int) : Prop := 0 ≤ p ∧ p < h 0
set_option maxRecDepth 100000 in
set_option maxHeartbeats 4000000 in
theorem s6_waited (t : Int) (ht : x_in t) (μ : xM) (hG : GI μ) : X E0 shM 7 yX6_waited cX6_waited 2 (some .int) 0 [some (.inr (.inl 0)), some (.inl t)] [] μ (PQ (if inT (μ 2) t then (if dBeg (μ 2) t < 0 then -9 else dBeg (μ 2) t - mCm (μ 2) t) else -1) (if inT (μ 2) t then μ else mRef μ (-1))) := by
  have hI := hG.1
  have h10 := hI.2.1
  have h00 := hI.1
  have hm := mIn_in t (μ 2 1)
  have hS := (mDay_S μ).abs hG
  have h2 := mDay_2 μ
  refine x_aload_n (i := 0) dX6_waited_0 rfl rfl ?_
  refine x_iload_n (i := 1) dX6_waited_1 rfl rfl ?_
  refine x_cIp0_1 lk_RX6_90 xm_X6_isTrain dX6_waited_2 (s6_isTrain _ ht _ hI) ?_
  refine x_if_ne (tgt := 14) dX6_waited_5 (by decide) (by first | (unfold x_in; omega) | (unfold x_in; decide)) (fun c1 => ?_) (fun c1 => ?_)
  · have hr := mIn_t c1
    have hy := mDay_beg hI (t := t) (by omega) (by omega)
    have hz := dBeg_in hI (t := t) (by omega) (by omega)
    refine x_aload_n (i := 0) dX6_waited_14 rfl rfl ?_
    refine x_cVf0_0 lk_RX6_186 xm_X6_day dX6_waited_15 (s6_day _ hI) ?_
    refine x_aload_n (i := 0) dX6_waited_18 rfl rfl ?_
    refine x_getR xf_RX6_34 dX6_waited_19 rfl rfl ?_
    refine x_iload_n (i := 1) dX6_waited_22 rfl rfl ?_
    refine x_iald dX6_waited_23 rfl (by decide) (by first | omega | decide) (by first | omega | decide) ?_
    try simp (decide := true) only [x_st_at, ↓reduceIte, if_true, if_false]
    rw [hy]
    refine x_if_ge (tgt := 32) dX6_waited_24 (by decide) (by first | (unfold x_in; omega) | (unfold x_in; decide)) (fun c2 => ?_) (fun c2 => ?_)
    · refine x_aload_n (i := 0) dX6_waited_32 rfl rfl ?_
      refine x_getR xf_RX6_34 dX6_waited_33 rfl rfl ?_
      refine x_iload_n (i := 1) dX6_waited_36 rfl rfl ?_
      refine x_iald dX6_waited_37 rfl (by decide) (by first | omega | decide) (by first | omega | decide) ?_
      try simp (decide := true) only [x_st_at, ↓reduceIte, if_true, if_false]
      refine x_aload_n (i := 0) dX6_waited_38 rfl rfl ?_
      refine x_iload_n (i := 1) dX6_waited_39 rfl rfl ?_
      refine x_cIp0_1 lk_RX6_148 xm_X6_comesAt dX6_waited_40 (s6_comesAt _ (by omega) _) ?_
      rw [hy, h2]
      refine x_isub dX6_waited_43 ?_
      refine x_iret dX6_waited_44 rfl rfl ?_
      exact ⟨by rw [if_pos hr]; first | rw [if_pos (by omega)] | rw [if_neg (by omega)], by rw [if_pos hr]; exact hS⟩
    · refine x_bipush dX6_waited_27 (by decide) ?_
      refine x_goto (tgt := 44) dX6_waited_29 (by decide) ?_
      refine x_iret dX6_waited_44 rfl rfl ?_
      exact ⟨by rw [if_pos hr]; first | rw [if_pos (by omega)] | rw [if_neg (by omega)], by rw [if_pos hr]; exact hS⟩
  · refine x_aload_n (i := 0) dX6_waited_8 rfl rfl ?_
    refine x_iconst dX6_waited_9 ?_
    refine x_cIf0_1 lk_RX6_50 xm_X6_refuse dX6_waited_10 (s6_refuse _ (by decide) _) ?_
    refine x_iret dX6_waited_13 rfl rfl ?_
    exact ⟨by first | rfl | rw [if_neg (mIn_f c1)], by rw [if_neg (mIn_f c1)]; exact Abs.ref hG _⟩
set_option maxRecDepth 100000 in
set_option maxHeartbeats 4000000 in
theorem s6_began (t : Int) (ht : x_in t) (μ : xM) (hG : GI μ) : X E0 shM 7 yX6_began cX6_began 2 (some .int) 0 [some (.inr (.inl 0)), some (.inl t)] [] μ (PQ (if inT (μ 2) t then dBeg (μ 2) t else -1) (if inT (μ 2) t then μ else mRef μ (-1))) := by
  have hI := hG.1
  have h10 := hI.2.1
  have h00 := hI.1
  have hm := mIn_in t (μ 2 1)
  have hS := (mDay_S μ).abs hG
  refine x_aload_n (i := 0) dX6_began_0 rfl rfl ?_
  refine x_iload_n (i := 1) dX6_began_1 rfl rfl ?_
  refine x_cIp0_1 lk_RX6_90 xm_X6_isTrain dX6_began_2 (s6_isTrain _ ht _ hI) ?_
  refine x_if_ne (tgt := 14) dX6_began_5 (by decide) (by first | (unfold x_in; omega) | (unfold x_in; decide)) (fun c1 => ?_) (fun c1 => ?_)
  · have hr := mIn_t c1
    have hy := mDay_beg hI (t := t) (by omega) (by omega)
    refine x_aload_n (i := 0) dX6_began_14 rfl rfl ?_
    refine x_cVf0_0 lk_RX6_186 xm_X6_day dX6_began_15 (s6_day _ hI) ?_
    refine x_aload_n (i := 0) dX6_began_18 rfl rfl ?_
    refine x_getR xf_RX6_34 dX6_began_19 rfl rfl ?_
    refine x_iload_n (i := 1) dX6_began_22 rfl rfl ?_
    refine x_iald dX6_began_23 rfl (by decide) (by first | omega | decide) (by first | omega | decide) ?_
    try simp (decide := true) only [x_st_at, ↓reduceIte, if_true, if_false]
    rw [hy]
    refine x_iret dX6_began_24 rfl rfl ?_
    exact ⟨by rw [if_pos hr], by rw [if_pos hr]; exact hS⟩
  · refine x_aload_n (i := 0) dX6_began_8 rfl rfl ?_
    refine x_iconst dX6_began_9 ?_
    refine x_cIf0_1 lk_RX6_50 xm_X6_refuse dX6_began_10 (s6_refuse _ (by decide) _) ?_
    refine x_iret dX6_began_13 rfl rfl ?_
    exact ⟨by first | rfl | rw [if_neg (mIn_f c1)], by rw [if_neg (mIn_f c1)]; exact Abs.ref hG _⟩
set_option maxRecDepth 100000 in
set_option maxHeartbeats 4000000 in
theorem s6_allWaited (μ : xM) (hG : GI μ) : X E0 shM 8 yX6_allWaited cX6_allWaited 1 (some .int) 0 [some (.inr (.inl 0))] [] μ (PQ (dAll (μ 2)) μ) := by
  have hI := hG.1
  have h10 := hI.2.1
  have h00 := hI.1
  refine x_aload_n (i := 0) dX6_allWaited_0 rfl rfl ?_
  refine x_cI0_0 lk_RX6_189 xm_X6_allOf dX6_allWaited_1 (s6_allOf _ hI) (fun a μ' hq => ?_)
  obtain ⟨e1, hS⟩ := hq
  cases e1
  refine x_iret dX6_allWaited_4 rfl rfl ?_
  exact ⟨rfl, hS.abs hG⟩
set_option maxRecDepth 100000 in
set_option maxHeartbeats 4000000 in
theorem s6_heaviest (μ : xM) (hG : GI μ) : X E0 shM 8 yX6_heaviest cX6_heaviest 1 (some .int) 0 [some (.inr (.inl 0))] [] μ (PQ (dWts (μ 2)) μ) := by
  have hI := hG.1
  have h10 := hI.2.1
  have h00 := hI.1
  refine x_aload_n (i := 0) dX6_heaviest_0 rfl rfl ?_
  refine x_cI0_0 lk_RX6_204 xm_X6_weightsOf dX6_heaviest_1 (s6_weightsOf _ hI) (fun a μ' hq => ?_)
  obtain ⟨e1, hS⟩ := hq
  cases e1
  refine x_iret dX6_heaviest_4 rfl rfl ?_
  exact ⟨rfl, hS.abs hG⟩
set_option maxRecDepth 100000 in
set_option maxHeartbeats 4000000 in
theorem s6_downs (μ : xM) (hG : GI μ) : X E0 shM 7 yX6_downs cX6_downs 1 (some .int) 0 [some (.inr (.inl 0))] [] μ (PQ (dDowns (μ 2)) μ) := by
  have hI := hG.1
  have h10 := hI.2.1
  have h00 := hI.1
  have hy := mDay_downs hI
  refine x_aload_n (i := 0) dX6_downs_0 rfl rfl ?_
  refine x_cVf0_0 lk_RX6_186 xm_X6_day dX6_downs_1 (s6_day _ hI) ?_
  refine x_aload_n (i := 0) dX6_downs_4 rfl rfl ?_
  refine x_getI xf_RX6_127 dX6_downs_5 rfl rfl ?_
  try simp (decide := true) only [x_st_at, ↓reduceIte, if_true, if_false]
  refine x_iret dX6_downs_8 rfl rfl ?_
  exact ⟨by rw [hy], (mDay_S μ).abs hG⟩
set_option maxRecDepth 100000 in
set_option maxHeartbeats 4000000 in
theorem s6_piece (p w : Int) (hp : x_in p) (hw : x_in w) (μ : xM) (hG : GI μ) : X E0 shM 2 yX6_piece cX6_piece 3 (some .int) 0 [some (.inr (.inl 0)), some (.inl p), some (.inl w)] [] μ (PQ (if inP (μ 2) p then (if 0 ≤ w ∧ w < 2 then μ 2 (13 + 2 * p + w).toNat else -2) else -1) (if inP (μ 2) p then (if 0 ≤ w ∧ w < 2 then μ else mRef μ (-2)) else mRef μ (-1))) := by
  have hI := hG.1
  have h10 := hI.2.1
  have h00 := hI.1
  have hm := mIn_in p (μ 2 0)
  have hm2 := mIn_in w 2
  refine x_aload_n (i := 0) dX6_piece_0 rfl rfl ?_
  refine x_iload_n (i := 1) dX6_piece_1 rfl rfl ?_
  refine x_cIp0_1 lk_RX6_87 xm_X6_isPiece dX6_piece_2 (s6_isPiece _ hp _ hI) ?_
  refine x_if_ne (tgt := 16) dX6_piece_5 (by decide) (by first | (unfold x_in; omega) | (unfold x_in; decide)) (fun c1 => ?_) (fun c1 => ?_)
  · have hr := mIn_t c1
    refine x_iload_n (i := 2) dX6_piece_16 rfl rfl ?_
    refine x_iconst dX6_piece_17 ?_
    refine x_cS_2 lk_RX6_46 xm_X6_isIn dX6_piece_18 (s6_isIn _ _ hw (by unfold x_in; decide) _) ?_
    refine x_if_eq (tgt := 40) dX6_piece_21 (by decide) (by first | (unfold x_in; omega) | (unfold x_in; decide)) (fun c2 => ?_) (fun c2 => ?_)
    · refine x_aload_n (i := 0) dX6_piece_40 rfl rfl ?_
      refine x_bipush dX6_piece_41 (by decide) ?_
      refine x_cIf0_1 lk_RX6_50 xm_X6_refuse dX6_piece_43 (s6_refuse _ (by decide) _) ?_
      refine x_iret dX6_piece_46 rfl rfl ?_
      first | (exact ⟨by rw [if_neg (mIn_f c1)], by rw [if_neg (mIn_f c1)]; exact Abs.ref hG _⟩) | (exact ⟨by rw [if_pos hr, if_pos hr2], by rw [if_pos hr, if_pos hr2]; exact Abs.rfl' hG⟩) | (exact ⟨by rw [if_pos hr, if_neg (mIn_f c2)], by rw [if_pos hr, if_neg (mIn_f c2)]; exact Abs.ref hG _⟩)
    · have hr2 := mIn_t c2
      refine x_aload_n (i := 0) dX6_piece_24 rfl rfl ?_
      refine x_getR xf_RX6_13 dX6_piece_25 rfl rfl ?_
      refine x_bipush dX6_piece_28 (by decide) ?_
      refine x_iconst dX6_piece_30 ?_
      refine x_iload_n (i := 1) dX6_piece_31 rfl rfl ?_
      refine x_imul dX6_piece_32 ?_
      refine x_iadd dX6_piece_33 ?_
      refine x_iload_n (i := 2) dX6_piece_34 rfl rfl ?_
      refine x_iadd dX6_piece_35 ?_
      refine x_iald dX6_piece_36 rfl (by decide) (by first | omega | decide) (by first | omega | decide) ?_
      refine x_goto (tgt := 46) dX6_piece_37 (by decide) ?_
      refine x_iret dX6_piece_46 rfl rfl ?_
      first | (exact ⟨by rw [if_neg (mIn_f c1)], by rw [if_neg (mIn_f c1)]; exact Abs.ref hG _⟩) | (exact ⟨by rw [if_pos hr, if_pos hr2], by rw [if_pos hr, if_pos hr2]; exact Abs.rfl' hG⟩) | (exact ⟨by rw [if_pos hr, if_neg (mIn_f c2)], by rw [if_pos hr, if_neg (mIn_f c2)]; exact Abs.ref hG _⟩)
  · refine x_aload_n (i := 0) dX6_piece_8 rfl rfl ?_
    refine x_iconst dX6_piece_9 ?_
    refine x_cIf0_1 lk_RX6_50 xm_X6_refuse dX6_piece_10 (s6_refuse _ (by decide) _) ?_
    refine x_goto (tgt := 46) dX6_piece_13 (by decide) ?_
    refine x_iret dX6_piece_46 rfl rfl ?_
    first | (exact ⟨by rw [if_neg (mIn_f c1)], by rw [if_neg (mIn_f c1)]; exact Abs.ref hG _⟩) | (exact ⟨by rw [if_pos hr, if_pos hr2], by rw [if_pos hr, if_pos hr2]; exact Abs.rfl' hG⟩) | (exact ⟨by rw [if_pos hr, if_neg (mIn_f c2)], by rw [if_pos hr, if_neg (mIn_f c2)]; exact Abs.ref hG _⟩)
set_option maxRecDepth 100000 in
set_option maxHeartbeats 4000000 in
theorem s6_train (t w : Int) (ht : x_in t) (hw : x_in w) (μ : xM) (hG : GI μ) : X E0 shM 2 yX6_train cX6_train 3 (some .int) 0 [some (.inr (.inl 0)), some (.inl t), some (.inl w)] [] μ (PQ (if inT (μ 2) t then (if 0 ≤ w ∧ w < 2 then μ 2 (23 + 2 * t + w).toNat else -2) else -1) (if inT (μ 2) t then (if 0 ≤ w ∧ w < 2 then μ else mRef μ (-2)) else mRef μ (-1))) := by
  have hI := hG.1
  have h10 := hI.2.1
  have h00 := hI.1
  have hm := mIn_in t (μ 2 1)
  have hm2 := mIn_in w 2
  refine x_aload_n (i := 0) dX6_train_0 rfl rfl ?_
  refine x_iload_n (i := 1) dX6_train_1 rfl rfl ?_
  refine x_cIp0_1 lk_RX6_90 xm_X6_isTrain dX6_train_2 (s6_isTrain _ ht _ hI) ?_
  refine x_if_ne (tgt := 16) dX6_train_5 (by decide) (by first | (unfold x_in; omega) | (unfold x_in; decide)) (fun c1 => ?_) (fun c1 => ?_)
  · have hr := mIn_t c1
    refine x_iload_n (i := 2) dX6_train_16 rfl rfl ?_
    refine x_iconst dX6_train_17 ?_
    refine x_cS_2 lk_RX6_46 xm_X6_isIn dX6_train_18 (s6_isIn _ _ hw (by unfold x_in; decide) _) ?_
    refine x_if_eq (tgt := 40) dX6_train_21 (by decide) (by first | (unfold x_in; omega) | (unfold x_in; decide)) (fun c2 => ?_) (fun c2 => ?_)
    · refine x_aload_n (i := 0) dX6_train_40 rfl rfl ?_
      refine x_bipush dX6_train_41 (by decide) ?_
      refine x_cIf0_1 lk_RX6_50 xm_X6_refuse dX6_train_43 (s6_refuse _ (by decide) _) ?_
      refine x_iret dX6_train_46 rfl rfl ?_
      first | (exact ⟨by rw [if_neg (mIn_f c1)], by rw [if_neg (mIn_f c1)]; exact Abs.ref hG _⟩) | (exact ⟨by rw [if_pos hr, if_pos hr2], by rw [if_pos hr, if_pos hr2]; exact Abs.rfl' hG⟩) | (exact ⟨by rw [if_pos hr, if_neg (mIn_f c2)], by rw [if_pos hr, if_neg (mIn_f c2)]; exact Abs.ref hG _⟩)
    · have hr2 := mIn_t c2
      refine x_aload_n (i := 0) dX6_train_24 rfl rfl ?_
      refine x_getR xf_RX6_13 dX6_train_25 rfl rfl ?_
      refine x_bipush dX6_train_28 (by decide) ?_
      refine x_iconst dX6_train_30 ?_
      refine x_iload_n (i := 1) dX6_train_31 rfl rfl ?_
      refine x_imul dX6_train_32 ?_
      refine x_iadd dX6_train_33 ?_
      refine x_iload_n (i := 2) dX6_train_34 rfl rfl ?_
      refine x_iadd dX6_train_35 ?_
      refine x_iald dX6_train_36 rfl (by decide) (by first | omega | decide) (by first | omega | decide) ?_
      refine x_goto (tgt := 46) dX6_train_37 (by decide) ?_
      refine x_iret dX6_train_46 rfl rfl ?_
      first | (exact ⟨by rw [if_neg (mIn_f c1)], by rw [if_neg (mIn_f c1)]; exact Abs.ref hG _⟩) | (exact ⟨by rw [if_pos hr, if_pos hr2], by rw [if_pos hr, if_pos hr2]; exact Abs.rfl' hG⟩) | (exact ⟨by rw [if_pos hr, if_neg (mIn_f c2)], by rw [if_pos hr, if_neg (mIn_f c2)]; exact Abs.ref hG _⟩)
  · refine x_aload_n (i := 0) dX6_train_8 rfl rfl ?_
    refine x_iconst dX6_train_9 ?_
    refine x_cIf0_1 lk_RX6_50 xm_X6_refuse dX6_train_10 (s6_refuse _ (by decide) _) ?_
    refine x_goto (tgt := 46) dX6_train_13 (by decide) ?_
    refine x_iret dX6_train_46 rfl rfl ?_
    first | (exact ⟨by rw [if_neg (mIn_f c1)], by rw [if_neg (mIn_f c1)]; exact Abs.ref hG _⟩) | (exact ⟨by rw [if_pos hr, if_pos hr2], by rw [if_pos hr, if_pos hr2]; exact Abs.rfl' hG⟩) | (exact ⟨by rw [if_pos hr, if_neg (mIn_f c2)], by rw [if_pos hr, if_neg (mIn_f c2)]; exact Abs.ref hG _⟩)
theorem mLeast_in (w : Int) : 0 ≤ mLeast w ∧ mLeast w ≤ 1 := by
  unfold mLeast
  split <;> omega
theorem mMost_in (w : Int) : 1 ≤ mMost w ∧ mMost w ≤ 999 := by
  unfold mMost
  split
  · omega
  · split
    · omega
    · split
      · omega
      · split
        · omega
        · split <;> omega
theorem mWithin_in (v l m : Int) : mWithin v l m = 0 ∨ mWithin v l m = -4 ∨ mWithin v l m = -6 := by
  unfold mWithin
  split
  · omega
  · split <;> omega
theorem mWithin_0 {v l m : Int} (h : mWithin v l m = 0) : l ≤ v ∧ v ≤ m := by
  unfold mWithin at h
  split at h
  · omega
  · split at h
    · omega
    · omega
set_option maxRecDepth 100000 in
set_option maxHeartbeats 4000000 in
theorem s6_set (w z : Int) (hw : x_in w) (hz : x_in z) (μ : xM) (hG : GI μ) : X E0 shM 2 yX6_set cX6_set 5 (some .int) 0 [some (.inr (.inl 0)), some (.inl w), some (.inl z), none, none] [] μ (PQ (if 0 ≤ w ∧ w < 9 then (if mWithin z (mLeast w) (mMost w) = 0 then μ 2 (4 + w).toNat else mWithin z (mLeast w) (mMost w)) else -2) (if 0 ≤ w ∧ w < 9 then (if mWithin z (mLeast w) (mMost w) = 0 then x_st μ 2 (4 + w).toNat z else mRef μ (mWithin z (mLeast w) (mMost w))) else mRef μ (-2))) := by
  have hI := hG.1
  have h10 := hI.2.1
  have h00 := hI.1
  have hm := mIn_in w 9
  have hl := mLeast_in w
  have hmm := mMost_in w
  have hww := mWithin_in z (mLeast w) (mMost w)
  refine x_iload_n (i := 1) dX6_set_0 rfl rfl ?_
  refine x_bipush dX6_set_1 (by decide) ?_
  refine x_cS_2 lk_RX6_46 xm_X6_isIn dX6_set_3 (s6_isIn _ _ hw (by unfold x_in; decide) _) ?_
  refine x_if_ne (tgt := 16) dX6_set_6 (by decide) (by first | (unfold x_in; omega) | (unfold x_in; decide)) (fun c1 => ?_) (fun c1 => ?_)
  · have hr := mIn_t c1
    refine x_iload_n (i := 2) dX6_set_16 rfl rfl ?_
    refine x_iload_n (i := 1) dX6_set_17 rfl rfl ?_
    refine x_cS_1 lk_RX6_93 xm_X6_least dX6_set_18 (s6_least _ hw _) ?_
    refine x_iload_n (i := 1) dX6_set_21 rfl rfl ?_
    refine x_cS_1 lk_RX6_96 xm_X6_most dX6_set_22 (s6_most _ hw _) ?_
    refine x_cS_3 lk_RX6_99 xm_X6_within dX6_set_25 (s6_within _ _ _ hz (by unfold x_in; omega) (by unfold x_in; omega) _) ?_
    refine x_istore_3 dX6_set_28 (by decide) rfl ?_
    refine x_iload_n (i := 3) dX6_set_29 rfl rfl ?_
    refine x_if_eq (tgt := 39) dX6_set_30 (by decide) (by first | (unfold x_in; omega) | (unfold x_in; decide)) (fun c2 => ?_) (fun c2 => ?_)
    · refine x_aload_n (i := 0) dX6_set_39 rfl rfl ?_
      refine x_getR xf_RX6_13 dX6_set_40 rfl rfl ?_
      refine x_iconst dX6_set_43 ?_
      refine x_iload_n (i := 1) dX6_set_44 rfl rfl ?_
      refine x_iadd dX6_set_45 ?_
      refine x_iald dX6_set_46 rfl (by decide) (by first | omega | decide) (by first | omega | decide) ?_
      refine x_istore_4 dX6_set_47 (by decide) rfl ?_
      refine x_aload_n (i := 0) dX6_set_49 rfl rfl ?_
      refine x_getR xf_RX6_13 dX6_set_50 rfl rfl ?_
      refine x_iconst dX6_set_53 ?_
      refine x_iload_n (i := 1) dX6_set_54 rfl rfl ?_
      refine x_iadd dX6_set_55 ?_
      refine x_iload_n (i := 2) dX6_set_56 rfl rfl ?_
      refine x_iast dX6_set_57 rfl (by decide) (by first | omega | decide) (by first | omega | decide) ?_
      refine x_iload dX6_set_58 rfl ?_
      refine x_iret dX6_set_60 rfl rfl ?_
      exact ⟨by rw [if_pos hr, if_pos c2], by rw [if_pos hr, if_pos c2]; exact ⟨rfl, rfl, rfl, rfl, rfl, rfl, rfl, rfl, fun j hj => (hG.2.1 j hj).2.2⟩⟩
    · refine x_aload_n (i := 0) dX6_set_33 rfl rfl ?_
      refine x_iload_n (i := 3) dX6_set_34 rfl rfl ?_
      refine x_cIf0_1 lk_RX6_50 xm_X6_refuse dX6_set_35 (s6_refuse _ (by omega) _) ?_
      refine x_iret dX6_set_38 rfl rfl ?_
      exact ⟨by rw [if_pos hr, if_neg c2], by rw [if_pos hr, if_neg c2]; exact Abs.ref hG _⟩
  · refine x_aload_n (i := 0) dX6_set_9 rfl rfl ?_
    refine x_bipush dX6_set_10 (by decide) ?_
    refine x_cIf0_1 lk_RX6_50 xm_X6_refuse dX6_set_12 (s6_refuse _ (by omega) _) ?_
    refine x_iret dX6_set_15 rfl rfl ?_
    exact ⟨by first | rfl | rw [if_neg (mIn_f c1)], by rw [if_neg (mIn_f c1)]; exact Abs.ref hG _⟩
set_option maxRecDepth 100000 in
set_option maxHeartbeats 4000000 in
theorem s6_makeDouble (p z : Int) (hp : x_in p) (hz : z = 0 ∨ z = 1) (μ : xM) (hG : GI μ) : X E0 shM 2 yX6_makeDouble cX6_makeDouble 4 (some .int) 0 [some (.inr (.inl 0)), some (.inl p), some (.inl z), none] [] μ (PQ (if inP (μ 2) p then (if μ 2 (13 + 2 * p + 1).toNat = z then 0 else 1) else -1) (if inP (μ 2) p then x_st μ 2 (13 + 2 * p + 1).toNat z else mRef μ (-1))) := by
  have hI := hG.1
  have h10 := hI.2.1
  have h00 := hI.1
  have hm := mIn_in p (μ 2 0)
  have K : ∀ z2, z2 = z → μ 2 (13 + 2 * p + 1).toNat = z2 → Abs (x_st μ 2 (13 + 2 * p + 1).toNat z) μ := by
    intro z2 hz2 he
    refine ⟨rfl, ?_, rfl, rfl, rfl, rfl, rfl, rfl, fun j hj => (hG.2.1 j hj).2.2⟩
    funext j
    show μ 2 j = (if j = (13 + 2 * p + 1).toNat then z else μ 2 j)
    split
    next e => rw [e, he, hz2]
    next => rfl
  have hh := hI
  obtain ⟨-, -, -, -, -, -, -, -, -, -, -, -, -, hq, -⟩ := hh
  refine x_aload_n (i := 0) dX6_makeDouble_0 rfl rfl ?_
  refine x_iload_n (i := 1) dX6_makeDouble_1 rfl rfl ?_
  refine x_cIp0_1 lk_RX6_87 xm_X6_isPiece dX6_makeDouble_2 (s6_isPiece _ hp _ hI) ?_
  refine x_if_ne (tgt := 14) dX6_makeDouble_5 (by decide) (by first | (unfold x_in; omega) | (unfold x_in; decide)) (fun c1 => ?_) (fun c1 => ?_)
  · have hr := mIn_t c1
    have hx := (hq p (by omega) (by omega)).2
    refine x_bipush dX6_makeDouble_14 (by decide) ?_
    refine x_iconst dX6_makeDouble_16 ?_
    refine x_iload_n (i := 1) dX6_makeDouble_17 rfl rfl ?_
    refine x_imul dX6_makeDouble_18 ?_
    refine x_iadd dX6_makeDouble_19 ?_
    refine x_iconst dX6_makeDouble_20 ?_
    refine x_iadd dX6_makeDouble_21 ?_
    refine x_istore_3 dX6_makeDouble_22 (by decide) rfl ?_
    refine x_aload_n (i := 0) dX6_makeDouble_23 rfl rfl ?_
    refine x_getR xf_RX6_13 dX6_makeDouble_24 rfl rfl ?_
    refine x_iload_n (i := 3) dX6_makeDouble_27 rfl rfl ?_
    refine x_iald dX6_makeDouble_28 rfl (by decide) (by first | omega | decide) (by first | omega | decide) ?_
    refine x_iload_n (i := 2) dX6_makeDouble_29 rfl rfl ?_
    refine x_if_eq (tgt := 37) dX6_makeDouble_30 (by decide) (by first | (unfold x_in; omega) | (unfold x_in; decide)) (fun c2 => ?_) (fun c2 => ?_)
    · refine x_iconst dX6_makeDouble_37 ?_
      refine x_icmp_ne (tgt := 43) dX6_makeDouble_38 (by decide) (by first | (unfold x_in; omega) | (unfold x_in; decide)) (by first | (unfold x_in; omega) | (unfold x_in; decide)) (fun c3 => ?_) (fun c3 => ?_)
      · refine x_aload_n (i := 0) dX6_makeDouble_43 rfl rfl ?_
        refine x_getR xf_RX6_13 dX6_makeDouble_44 rfl rfl ?_
        refine x_iload_n (i := 3) dX6_makeDouble_47 rfl rfl ?_
        refine x_iload_n (i := 2) dX6_makeDouble_48 rfl rfl ?_
        refine x_if_eq (tgt := 56) dX6_makeDouble_49 (by decide) (by first | (unfold x_in; omega) | (unfold x_in; decide)) (fun c4 => ?_) (fun c4 => ?_)
        · refine x_iconst dX6_makeDouble_56 ?_
          refine x_iast dX6_makeDouble_57 rfl (by decide) (by first | omega | decide) (by first | omega | decide) ?_
          refine x_iconst dX6_makeDouble_58 ?_
          refine x_iret dX6_makeDouble_59 rfl rfl ?_
          exact ⟨by rw [if_pos hr, if_neg (by omega)], by rw [if_pos hr]; first | (rw [show z = 1 by omega]; exact ⟨rfl, rfl, rfl, rfl, rfl, rfl, rfl, rfl, fun j hj => (hG.2.1 j hj).2.2⟩) | (rw [show z = 0 by omega]; exact ⟨rfl, rfl, rfl, rfl, rfl, rfl, rfl, rfl, fun j hj => (hG.2.1 j hj).2.2⟩)⟩
        · refine x_iconst dX6_makeDouble_52 ?_
          refine x_goto (tgt := 57) dX6_makeDouble_53 (by decide) ?_
          refine x_iast dX6_makeDouble_57 rfl (by decide) (by first | omega | decide) (by first | omega | decide) ?_
          refine x_iconst dX6_makeDouble_58 ?_
          refine x_iret dX6_makeDouble_59 rfl rfl ?_
          exact ⟨by rw [if_pos hr, if_neg (by omega)], by rw [if_pos hr]; first | (rw [show z = 1 by omega]; exact ⟨rfl, rfl, rfl, rfl, rfl, rfl, rfl, rfl, fun j hj => (hG.2.1 j hj).2.2⟩) | (rw [show z = 0 by omega]; exact ⟨rfl, rfl, rfl, rfl, rfl, rfl, rfl, rfl, fun j hj => (hG.2.1 j hj).2.2⟩)⟩
      · refine x_iconst dX6_makeDouble_41 ?_
        refine x_iret dX6_makeDouble_42 rfl rfl ?_
        exact ⟨by rw [if_pos hr, if_pos (by omega)], by rw [if_pos hr]; exact K _ (by omega) c3⟩
    · refine x_iconst dX6_makeDouble_33 ?_
      refine x_goto (tgt := 38) dX6_makeDouble_34 (by decide) ?_
      refine x_icmp_ne (tgt := 43) dX6_makeDouble_38 (by decide) (by first | (unfold x_in; omega) | (unfold x_in; decide)) (by first | (unfold x_in; omega) | (unfold x_in; decide)) (fun c3 => ?_) (fun c3 => ?_)
      · refine x_aload_n (i := 0) dX6_makeDouble_43 rfl rfl ?_
        refine x_getR xf_RX6_13 dX6_makeDouble_44 rfl rfl ?_
        refine x_iload_n (i := 3) dX6_makeDouble_47 rfl rfl ?_
        refine x_iload_n (i := 2) dX6_makeDouble_48 rfl rfl ?_
        refine x_if_eq (tgt := 56) dX6_makeDouble_49 (by decide) (by first | (unfold x_in; omega) | (unfold x_in; decide)) (fun c4 => ?_) (fun c4 => ?_)
        · refine x_iconst dX6_makeDouble_56 ?_
          refine x_iast dX6_makeDouble_57 rfl (by decide) (by first | omega | decide) (by first | omega | decide) ?_
          refine x_iconst dX6_makeDouble_58 ?_
          refine x_iret dX6_makeDouble_59 rfl rfl ?_
          exact ⟨by rw [if_pos hr, if_neg (by omega)], by rw [if_pos hr]; first | (rw [show z = 1 by omega]; exact ⟨rfl, rfl, rfl, rfl, rfl, rfl, rfl, rfl, fun j hj => (hG.2.1 j hj).2.2⟩) | (rw [show z = 0 by omega]; exact ⟨rfl, rfl, rfl, rfl, rfl, rfl, rfl, rfl, fun j hj => (hG.2.1 j hj).2.2⟩)⟩
        · refine x_iconst dX6_makeDouble_52 ?_
          refine x_goto (tgt := 57) dX6_makeDouble_53 (by decide) ?_
          refine x_iast dX6_makeDouble_57 rfl (by decide) (by first | omega | decide) (by first | omega | decide) ?_
          refine x_iconst dX6_makeDouble_58 ?_
          refine x_iret dX6_makeDouble_59 rfl rfl ?_
          exact ⟨by rw [if_pos hr, if_neg (by omega)], by rw [if_pos hr]; first | (rw [show z = 1 by omega]; exact ⟨rfl, rfl, rfl, rfl, rfl, rfl, rfl, rfl, fun j hj => (hG.2.1 j hj).2.2⟩) | (rw [show z = 0 by omega]; exact ⟨rfl, rfl, rfl, rfl, rfl, rfl, rfl, rfl, fun j hj => (hG.2.1 j hj).2.2⟩)⟩
      · refine x_iconst dX6_makeDouble_41 ?_
        refine x_iret dX6_makeDouble_42 rfl rfl ?_
        exact ⟨by rw [if_pos hr, if_pos (by omega)], by rw [if_pos hr]; exact K _ (by omega) c3⟩
  · refine x_aload_n (i := 0) dX6_makeDouble_8 rfl rfl ?_
    refine x_iconst dX6_makeDouble_9 ?_
    refine x_cIf0_1 lk_RX6_50 xm_X6_refuse dX6_makeDouble_10 (s6_refuse _ (by decide) _) ?_
    refine x_iret dX6_makeDouble_13 rfl rfl ?_
    exact ⟨by first | rfl | rw [if_neg (mIn_f c1)], by rw [if_neg (mIn_f c1)]; exact Abs.ref hG _⟩
def dEdN (h : Nat → Int) (kind : Int) : Nat → Int
  | 0 => -9
  | w + 1 => if mKindBy h ((w + 1 : Nat) : Int) = kind then ((w + 1 : Nat) : Int) else dEdN h kind w
def dEdge (h : Nat → Int) (kind : Int) : Int := dEdN h kind 999
set_option maxRecDepth 100000 in
set_option maxHeartbeats 4000000 in
theorem l6_edge (kind : Int) (hk : 0 ≤ kind ∧ kind < 3) (μ : xM) (hG : GI μ) : ∀ (n : Nat), n ≤ 999 → X E0 shM 2 yX6_edge cX6_edge 3 (some .int) 19 [some (.inr (.inl 0)), some (.inl kind), some (.inl (n : Int))] [] μ (PQ (dEdN (μ 2) kind n) μ) := by
  have hI := hG.1
  intro n
  induction n with
  | zero =>
    intro _
    refine x_iload_n (i := 2) dX6_edge_19 rfl rfl ?_
    refine x_if_le (tgt := 40) dX6_edge_20 (by decide) (by first | (unfold x_in; omega) | (unfold x_in; decide)) (fun c1 => ?_) (fun c1 => ?_)
    · refine x_bipush dX6_edge_40 (by decide) ?_
      refine x_iret dX6_edge_42 rfl rfl ?_
      exact ⟨rfl, Abs.rfl' hG⟩
    · exact absurd c1 (by omega)
  | succ n ih =>
    intro hn
    have hkb := mKindBy_in (μ 2) ((n + 1 : Nat) : Int)
    refine x_iload_n (i := 2) dX6_edge_19 rfl rfl ?_
    refine x_if_le (tgt := 40) dX6_edge_20 (by decide) (by first | (unfold x_in; omega) | (unfold x_in; decide)) (fun c1 => ?_) (fun c1 => ?_)
    · exact absurd c1 (by omega)
    · refine x_aload_n (i := 0) dX6_edge_23 rfl rfl ?_
      refine x_iload_n (i := 2) dX6_edge_24 rfl rfl ?_
      refine x_cIp0_1 lk_RX6_109 xm_X6_kindBy dX6_edge_25 (s6_kindBy _ (by omega) _ hI) ?_
      refine x_iload_n (i := 1) dX6_edge_28 rfl rfl ?_
      refine x_icmp_ne (tgt := 34) dX6_edge_29 (by decide) (by first | (unfold x_in; omega) | (unfold x_in; decide)) (by first | (unfold x_in; omega) | (unfold x_in; decide)) (fun c2 => ?_) (fun c2 => ?_)
      · refine x_iinc_2 dX6_edge_34 (by decide) rfl ?_
        refine x_goto (tgt := 19) dX6_edge_37 (by decide) ?_
        have h := ih (by omega)
        rw [dEdN, if_neg (by omega)]
        rw [show ((n + 1 : Nat) : Int) + -1 = (n : Int) by omega]
        exact h
      · refine x_iload_n (i := 2) dX6_edge_32 rfl rfl ?_
        refine x_iret dX6_edge_33 rfl rfl ?_
        exact ⟨by rw [dEdN, if_pos (by omega)], Abs.rfl' hG⟩
set_option maxRecDepth 100000 in
set_option maxHeartbeats 4000000 in
theorem s6_edge (kind : Int) (hk : x_in kind) (μ : xM) (hG : GI μ) : X E0 shM 2 yX6_edge cX6_edge 3 (some .int) 0 [some (.inr (.inl 0)), some (.inl kind), none] [] μ (PQ (if 0 ≤ kind ∧ kind < 3 then dEdge (μ 2) kind else -2) (if 0 ≤ kind ∧ kind < 3 then μ else mRef μ (-2))) := by
  have hI := hG.1
  have h10 := hI.2.1
  have h00 := hI.1
  have hm := mIn_in kind 3
  refine x_iload_n (i := 1) dX6_edge_0 rfl rfl ?_
  refine x_iconst dX6_edge_1 ?_
  refine x_cS_2 lk_RX6_46 xm_X6_isIn dX6_edge_2 (s6_isIn _ _ hk (by unfold x_in; decide) _) ?_
  refine x_if_ne (tgt := 15) dX6_edge_5 (by decide) (by first | (unfold x_in; omega) | (unfold x_in; decide)) (fun c1 => ?_) (fun c1 => ?_)
  · refine x_sipush dX6_edge_15 (by decide) ?_
    refine x_istore_2 dX6_edge_18 (by decide) rfl ?_
    have hr := mIn_t c1
    rw [if_pos hr, if_pos hr]
    exact l6_edge kind hr μ hG 999 (by omega)
  · refine x_aload_n (i := 0) dX6_edge_8 rfl rfl ?_
    refine x_bipush dX6_edge_9 (by decide) ?_
    refine x_cIf0_1 lk_RX6_50 xm_X6_refuse dX6_edge_11 (s6_refuse _ (by decide) _) ?_
    refine x_iret dX6_edge_14 rfl rfl ?_
    exact ⟨by first | rfl | rw [if_neg (mIn_f c1)], by rw [if_neg (mIn_f c1)]; exact Abs.ref hG _⟩
