/-! THE CLASS: its object beside the reference's -/
def CR (μ κ : xM) : Prop := GI κ ∧ DO (κ 2) ∧ (κ 0 4 = 1 → DO (κ 3)) ∧ hOf μ 12 = κ 2 ∧ μ 0 5 = κ 0 4 ∧ (κ 0 4 = 1 → hOf μ 35 = κ 3) ∧ μ 42 0 = κ 0 7 ∧ μ 43 = κ 5 ∧ μ 44 0 = κ 0 22 ∧ μ 45 = κ 12 ∧ μ 2 = κ 1
abbrev CQ (v : Int) (m : xM) : Option xA → xM → Prop := fun r μ' => r = some (.inl v) ∧ CR μ' m
theorem CR.gi {μ κ : xM} (h : CR μ κ) : GI κ := h.1
theorem CR.o {μ κ : xM} (h : CR μ κ) : DO (κ 2) := h.2.1
theorem CR.ok {μ κ : xM} (h : CR μ κ) : κ 0 4 = 1 → DO (κ 3) := h.2.2.1
theorem CR.hill {μ κ : xM} (h : CR μ κ) : hOf μ 12 = κ 2 := h.2.2.2.1
theorem CR.is {μ κ : xM} (h : CR μ κ) : μ 0 5 = κ 0 4 := h.2.2.2.2.1
theorem CR.kept {μ κ : xM} (h : CR μ κ) : κ 0 4 = 1 → hOf μ 35 = κ 3 := h.2.2.2.2.2.1
theorem CR.ts {μ κ : xM} (h : CR μ κ) : μ 42 0 = κ 0 7 := h.2.2.2.2.2.2.1
theorem CR.tb {μ κ : xM} (h : CR μ κ) : μ 43 = κ 5 := h.2.2.2.2.2.2.2.1
theorem CR.rs {μ κ : xM} (h : CR μ κ) : μ 44 0 = κ 0 22 := h.2.2.2.2.2.2.2.2.1
theorem CR.rb {μ κ : xM} (h : CR μ κ) : μ 45 = κ 12 := h.2.2.2.2.2.2.2.2.2.1
theorem CR.rf {μ κ : xM} (h : CR μ κ) : μ 2 = κ 1 := h.2.2.2.2.2.2.2.2.2.2
theorem CR.mi {μ κ : xM} (h : CR μ κ) : MI (κ 2) := h.1.1
theorem CR.mh {μ κ : xM} (h : CR μ κ) : MI (hOf μ 12) := by rw [h.hill]; exact h.mi
theorem CR.oh {μ κ : xM} (h : CR μ κ) : DO (hOf μ 12) := by rw [h.hill]; exact h.o
theorem x_st_row (μ : xM) (c j : Nat) (v : Int) : x_st μ c j v c = hset (μ c) j v := by
  funext b
  simp [x_st, hset]
/-- alike in all that later calls show -/
theorem CR.abs {μ m κ : xM} (h : CR μ m) (a : Abs m κ) : CR μ κ := by
  have g := a.gi h.gi
  obtain ⟨a1, a2, a3, a5, a12, a04, a07, a22, -⟩ := a
  refine ⟨g, ?_, ?_, ?_, ?_, ?_, ?_, ?_, ?_, ?_, ?_⟩
  · rw [a2]; exact h.o
  · rw [a3, a04]; exact h.ok
  · rw [a2]; exact h.hill
  · rw [a04]; exact h.is
  · rw [a3, a04]; exact h.kept
  · rw [a07]; exact h.ts
  · rw [a5]; exact h.tb
  · rw [a22]; exact h.rs
  · rw [a12]; exact h.rb
  · rw [a1]; exact h.rf
theorem GI.ref {κ : xM} (g : GI κ) (c : Int) : GI (mRef κ c) := g
theorem CR.ref {μ κ : xM} (h : CR μ κ) (c : Int) : CR (x_st μ 2 (-c).toNat (μ 2 (-c).toNat + 1)) (mRef κ c) := by
  refine ⟨h.gi.ref c, h.o, h.ok, h.hill, h.is, h.kept, h.ts, h.tb, h.rs, h.rb, ?_⟩
  have e : mRef κ c 1 = hset (κ 1) (-c).toNat (κ 1 (-c).toNat + 1) := x_st_row κ 1 _ _
  rw [e, x_st_row, h.rf]
/-- a day of the hill changes nothing that counts -/
theorem CR.day {μ κ : xM} (h : CR μ κ) {ν : xM} (e : hOf ν 9 = hOf μ 12) : CR (x_mrg [3, 4, 5, 6, 7, 8, 9, 10, 11, 12, 13, 14, 15, 16, 17, 18] μ ν) κ := ⟨h.gi, h.o, h.ok, (show hOf ν 9 = κ 2 from e.trans h.hill), h.is, h.kept, h.ts, h.tb, h.rs, h.rb, h.rf⟩
/-- what lies on the trial day doesn't count -/
theorem CR.trial {μ κ : xM} (h : CR μ κ) (ν : xM) : CR (x_mrg [19, 20, 21, 22, 23, 24, 25, 26, 27, 28, 29, 30, 31, 32, 33, 34] μ ν) κ := ⟨h.gi, h.o, h.ok, h.hill, h.is, h.kept, h.ts, h.tb, h.rs, h.rb, h.rf⟩
theorem CR.same {μ μ' κ : xM} (h : CR μ κ) (e : ∀ k, k < 19 ∨ 34 < k → k ≠ 1 → μ' k = μ k) : CR μ' κ := by
  have e12 : hOf μ' 12 = hOf μ 12 := hOf_congr (fun k h1 h2 => e k (by omega) (by omega))
  have e35 : hOf μ' 35 = hOf μ 35 := hOf_congr (fun k h1 h2 => e k (by omega) (by omega))
  refine ⟨h.gi, h.o, h.ok, e12.trans h.hill, ?_, fun q => e35.trans (h.kept q), ?_, ?_, ?_, ?_, ?_⟩
  · rw [e 0 (by omega) (by omega)]; exact h.is
  · rw [e 42 (by omega) (by omega)]; exact h.ts
  · rw [e 43 (by omega) (by omega)]; exact h.tb
  · rw [e 44 (by omega) (by omega)]; exact h.rs
  · rw [e 45 (by omega) (by omega)]; exact h.rb
  · rw [e 2 (by omega) (by omega)]; exact h.rf
set_option maxRecDepth 100000 in
set_option maxHeartbeats 4000000 in
theorem s5_refuse (code : Int) (hc : -6 ≤ code ∧ code ≤ -1) (μ : xM) : X E0 shC 0 yX5_refuse cX5_refuse 3 (some .int) 0 [some (.inr (.inl 0)), some (.inl code), none] [] μ (x_Q code (x_st μ 2 (-code).toNat (μ 2 (-code).toNat + 1))) := by
  refine x_iload_n (i := 1) dX5_refuse_0 rfl rfl ?_
  refine x_ineg dX5_refuse_1 ?_
  refine x_istore_2 dX5_refuse_2 (by decide) rfl ?_
  refine x_iload_n (i := 2) dX5_refuse_3 rfl rfl ?_
  refine x_if_lt (tgt := 26) dX5_refuse_4 (by decide) (by first | (unfold x_in; omega) | (unfold x_in; decide)) (fun c1 => ?_) (fun c1 => ?_)
  · exact absurd c1 (by omega)
  · refine x_iload_n (i := 2) dX5_refuse_7 rfl rfl ?_
    refine x_aload_n (i := 0) dX5_refuse_8 rfl rfl ?_
    refine x_getR xf_RX5_51 dX5_refuse_9 rfl rfl ?_
    refine x_alen dX5_refuse_12 rfl ?_
    refine x_icmp_ge (tgt := 26) dX5_refuse_13 (by decide) (by first | (unfold x_in; omega) | (unfold x_in; decide)) (by first | (unfold x_in; omega) | (unfold x_in; decide)) (fun c2 => ?_) (fun c2 => ?_)
    · exact absurd c2 (by omega)
    · refine x_aload_n (i := 0) dX5_refuse_16 rfl rfl ?_
      refine x_getR xf_RX5_51 dX5_refuse_17 rfl rfl ?_
      refine x_iload_n (i := 2) dX5_refuse_20 rfl rfl ?_
      refine x_dup2 dX5_refuse_21 ?_
      refine x_iald dX5_refuse_22 rfl (by decide) (by first | omega | decide) (by first | omega | decide) ?_
      refine x_iconst dX5_refuse_23 ?_
      refine x_iadd dX5_refuse_24 ?_
      refine x_iast dX5_refuse_25 rfl (by decide) (by first | omega | decide) (by first | omega | decide) ?_
      refine x_iload_n (i := 1) dX5_refuse_26 rfl rfl ?_
      exact x_iret dX5_refuse_27 rfl rfl (x_ok (by first | rfl | omega | (simp [*]; done)) (by rfl))
set_option maxRecDepth 100000 in
set_option maxHeartbeats 4000000 in
theorem s5_climbs (t : Int) (ht : x_in t) (μ κ : xM) (h : CR μ κ) : X E0 shC 9 yX5_climbs cX5_climbs 2 (some .int) 0 [some (.inr (.inl 0)), some (.inl t)] [] μ (CQ (if 0 ≤ t ∧ t < κ 2 1 then mKind (κ 2) t else -1) (if 0 ≤ t ∧ t < κ 2 1 then κ else mRef κ (-1))) := by
  have eH : hOf (x_ct [12, 13, 14, 15, 16, 17, 18] μ) 0 = κ 2 := h.hill
  have hI := h.mi
  have h1 : 0 ≤ κ 2 1 ∧ κ 2 1 ≤ 8 := hI.2.1
  have h0 : 0 ≤ κ 2 0 ∧ κ 2 0 ≤ 5 := hI.1
  have hm := mIn_in t (κ 2 1)
  refine x_aload_n (i := 0) dX5_climbs_0 rfl rfl ?_
  refine x_getR xf_RX5_20 dX5_climbs_1 rfl rfl ?_
  refine x_iload_n (i := 1) dX5_climbs_4 rfl rfl ?_
  refine x_cIp_1 [12, 13, 14, 15, 16, 17, 18] lk_RX5_87 xm_X1_hasTrain dX5_climbs_5 (s1_hasTrain _ ht _ h.mh) ?_
  rw [eH]
  refine x_if_eq (tgt := 30) dX5_climbs_8 (by decide) (by first | (unfold x_in; omega) | (unfold x_in; decide)) (fun c1 => ?_) (fun c1 => ?_)
  · refine x_aload_n (i := 0) dX5_climbs_30 rfl rfl ?_
    refine x_iconst dX5_climbs_31 ?_
    refine x_cIf0_1 lk_RX5_54 xm_X5_refuse dX5_climbs_32 (s5_refuse _ (by decide) _) ?_
    refine x_iret dX5_climbs_35 rfl rfl ?_
    first | (rw [if_pos (mIn_t c1), if_pos (mIn_t c1)]; exact ⟨rfl, h⟩) | (rw [if_neg (mIn_f c1), if_neg (mIn_f c1)]; exact ⟨rfl, h.ref (-1)⟩)
  · have hT := mIn_t c1
    have hw : μ 16 t.toNat = mWt (κ 2) t := by rw [← h.hill]; exact (hOf_wt μ 12 hT.1 (by omega)).symm
    refine x_aload_n (i := 0) dX5_climbs_11 rfl rfl ?_
    refine x_getR xf_RX5_20 dX5_climbs_12 rfl rfl ?_
    refine x_aload_n (i := 0) dX5_climbs_15 rfl rfl ?_
    refine x_getR xf_RX5_20 dX5_climbs_16 rfl rfl ?_
    refine x_getR xf_RX5_93 dX5_climbs_19 rfl rfl ?_
    refine x_iload_n (i := 1) dX5_climbs_22 rfl rfl ?_
    refine x_iald dX5_climbs_23 rfl (by decide) (by first | omega | decide) (by first | omega | decide) ?_
    rw [hw]
    refine x_cIp_1 [12, 13, 14, 15, 16, 17, 18] lk_RX5_116 xm_X1_kindOf dX5_climbs_24 (s1_kindOf _ (by have := mWt_in hI hT.1 (show t < 8 by omega); omega) _ h.mh) ?_
    rw [eH]
    refine x_goto (tgt := 35) dX5_climbs_27 (by decide) ?_
    refine x_iret dX5_climbs_35 rfl rfl ?_
    first | (rw [if_pos (mIn_t c1), if_pos (mIn_t c1)]; exact ⟨rfl, h⟩) | (rw [if_neg (mIn_f c1), if_neg (mIn_f c1)]; exact ⟨rfl, h.ref (-1)⟩)
set_option maxRecDepth 100000 in
set_option maxHeartbeats 4000000 in
theorem s5_takes (t : Int) (ht : x_in t) (μ κ : xM) (h : CR μ κ) : X E0 shC 9 yX5_takes cX5_takes 2 (some .int) 0 [some (.inr (.inl 0)), some (.inl t)] [] μ (CQ (if 0 ≤ t ∧ t < κ 2 1 then mTakes (κ 2) t else -1) (if 0 ≤ t ∧ t < κ 2 1 then κ else mRef κ (-1))) := by
  have eH : hOf (x_ct [12, 13, 14, 15, 16, 17, 18] μ) 0 = κ 2 := h.hill
  have hI := h.mi
  have h1 : 0 ≤ κ 2 1 ∧ κ 2 1 ≤ 8 := hI.2.1
  have h0 : 0 ≤ κ 2 0 ∧ κ 2 0 ≤ 5 := hI.1
  have hm := mIn_in t (κ 2 1)
  have hk := mKind_in (κ 2) t
  refine x_aload_n (i := 0) dX5_takes_0 rfl rfl ?_
  refine x_getR xf_RX5_20 dX5_takes_1 rfl rfl ?_
  refine x_iload_n (i := 1) dX5_takes_4 rfl rfl ?_
  refine x_cIp_1 [12, 13, 14, 15, 16, 17, 18] lk_RX5_87 xm_X1_hasTrain dX5_takes_5 (s1_hasTrain _ ht _ h.mh) ?_
  rw [eH]
  refine x_if_ne (tgt := 17) dX5_takes_8 (by decide) (by first | (unfold x_in; omega) | (unfold x_in; decide)) (fun c1 => ?_) (fun c1 => ?_)
  · have hT := mIn_t c1
    have hw : μ 16 t.toNat = mWt (κ 2) t := by rw [← h.hill]; exact (hOf_wt μ 12 hT.1 (by omega)).symm
    refine x_aload_n (i := 0) dX5_takes_17 rfl rfl ?_
    refine x_getR xf_RX5_20 dX5_takes_18 rfl rfl ?_
    refine x_aload_n (i := 0) dX5_takes_21 rfl rfl ?_
    refine x_getR xf_RX5_20 dX5_takes_22 rfl rfl ?_
    refine x_aload_n (i := 0) dX5_takes_25 rfl rfl ?_
    refine x_getR xf_RX5_20 dX5_takes_26 rfl rfl ?_
    refine x_getR xf_RX5_93 dX5_takes_29 rfl rfl ?_
    refine x_iload_n (i := 1) dX5_takes_32 rfl rfl ?_
    refine x_iald dX5_takes_33 rfl (by decide) (by first | omega | decide) (by first | omega | decide) ?_
    rw [hw]
    refine x_cIp_1 [12, 13, 14, 15, 16, 17, 18] lk_RX5_116 xm_X1_kindOf dX5_takes_34 (s1_kindOf _ (by have := mWt_in hI hT.1 (show t < 8 by omega); omega) _ h.mh) ?_
    rw [eH, show mKindBy (κ 2) (mWt (κ 2) t) = mKind (κ 2) t from rfl]
    refine x_cIp_1 [12, 13, 14, 15, 16, 17, 18] lk_RX5_119 xm_X1_climbMinutes dX5_takes_37 (s1_climbMinutes _ hk _ h.mh) ?_
    rw [eH, cMin_takes]
    refine x_iret dX5_takes_40 rfl rfl ?_
    first | (rw [if_pos (mIn_t c1), if_pos (mIn_t c1)]; exact ⟨rfl, h⟩) | (rw [if_neg (mIn_f c1), if_neg (mIn_f c1)]; exact ⟨rfl, h.ref (-1)⟩)
  · refine x_aload_n (i := 0) dX5_takes_11 rfl rfl ?_
    refine x_iconst dX5_takes_12 ?_
    refine x_cIf0_1 lk_RX5_54 xm_X5_refuse dX5_takes_13 (s5_refuse _ (by decide) _) ?_
    refine x_iret dX5_takes_16 rfl rfl ?_
    first | (rw [if_pos (mIn_t c1), if_pos (mIn_t c1)]; exact ⟨rfl, h⟩) | (rw [if_neg (mIn_f c1), if_neg (mIn_f c1)]; exact ⟨rfl, h.ref (-1)⟩)
set_option maxRecDepth 100000 in
set_option maxHeartbeats 4000000 in
theorem s5_base (μ κ : xM) (h : CR μ κ) : X E0 shC 9 yX5_base cX5_base 1 (some .int) 0 [some (.inr (.inl 0))] [] μ (CQ (mBase (κ 2)) (κ)) := by
  have eH : hOf (x_ct [12, 13, 14, 15, 16, 17, 18] μ) 0 = κ 2 := h.hill
  have hI := h.mi
  have h1 : 0 ≤ κ 2 1 ∧ κ 2 1 ≤ 8 := hI.2.1
  have h0 : 0 ≤ κ 2 0 ∧ κ 2 0 ≤ 5 := hI.1
  refine x_aload_n (i := 0) dX5_base_0 rfl rfl ?_
  refine x_getR xf_RX5_20 dX5_base_1 rfl rfl ?_
  refine x_cIp_0 [12, 13, 14, 15, 16, 17, 18] lk_RX5_122 xm_X1_baseMinutes dX5_base_4 (s1_baseMinutes _ h.mh) ?_
  rw [eH]
  refine x_iret dX5_base_7 rfl rfl ?_
  exact ⟨rfl, h⟩
set_option maxRecDepth 100000 in
set_option maxHeartbeats 4000000 in
theorem s5_piece (t : Int) (ht : x_in t) (w : Int) (hw : x_in w) (μ κ : xM) (h : CR μ κ) : X E0 shC 9 yX5_piece cX5_piece 3 (some .int) 0 [some (.inr (.inl 0)), some (.inl t), some (.inl w)] [] μ (CQ (if inP (κ 2) t then (if 0 ≤ w ∧ w < 2 then κ 2 (13 + 2 * t + w).toNat else -2) else -1) (if inP (κ 2) t then (if 0 ≤ w ∧ w < 2 then κ else mRef κ (-2)) else mRef κ (-1))) := by
  have eH : hOf (x_ct [12, 13, 14, 15, 16, 17, 18] μ) 0 = κ 2 := h.hill
  have hI := h.mi
  have h1 : 0 ≤ κ 2 1 ∧ κ 2 1 ≤ 8 := hI.2.1
  have h0 : 0 ≤ κ 2 0 ∧ κ 2 0 ≤ 5 := hI.1
  have hm := mIn_in t (κ 2 0)
  have e0 : 0 ≤ t ∧ t < κ 2 0 → μ 13 t.toNat = κ 2 (13 + 2 * t + 0).toNat := by
    intro q
    rw [← h.hill, show (13 + 2 * t + 0).toNat = (13 + 2 * t).toNat by omega]
    exact (hOf_min μ 12 q.1 (by omega)).symm
  have e1 : 0 ≤ t ∧ t < κ 2 0 → μ 14 t.toNat = κ 2 (13 + 2 * t + 1).toNat := by
    intro q
    rw [← h.hill]
    exact (hOf_dbl μ 12 q.1 (by omega)).symm
  refine x_aload_n (i := 0) dX5_piece_0 rfl rfl ?_
  refine x_getR xf_RX5_20 dX5_piece_1 rfl rfl ?_
  refine x_iload_n (i := 1) dX5_piece_4 rfl rfl ?_
  refine x_cIp_1 [12, 13, 14, 15, 16, 17, 18] lk_RX5_78 xm_X1_hasPiece dX5_piece_5 (s1_hasPiece _ ht _ h.mh) ?_
  rw [eH]
  refine x_if_ne (tgt := 17) dX5_piece_8 (by decide) (by first | assumption | (unfold x_in; omega) | (unfold x_in; decide)) (fun c1 => ?_) (fun c1 => ?_)
  · refine x_iload_n (i := 2) dX5_piece_17 rfl rfl ?_
    refine x_lk2 (td := 64) (t0 := 44) (t1 := 54) dX5_piece_18 (by decide) (by first | assumption | (unfold x_in; omega) | (unfold x_in; decide)) (by decide) (by decide) (by decide) (fun c2 => ?_) (fun c2 => ?_) (fun c2 => ?_)
    · refine x_aload_n (i := 0) dX5_piece_44 rfl rfl ?_
      refine x_getR xf_RX5_20 dX5_piece_45 rfl rfl ?_
      refine x_getR xf_RX5_81 dX5_piece_48 rfl rfl ?_
      refine x_iload_n (i := 1) dX5_piece_51 rfl rfl ?_
      refine x_iald dX5_piece_52 rfl (by decide) (by first | omega | (have hT := mIn_t c1; omega) | decide) (by first | omega | (have hT := mIn_t c1; omega) | decide) ?_
      refine x_iret dX5_piece_53 rfl rfl ?_
      have hT := mIn_t c1
      have hw : w = 0 := (by omega)
      subst hw
      rw [if_pos hT, if_pos hT, if_pos (by omega), if_pos (by omega), e0 hT]
      exact ⟨rfl, h⟩
    · refine x_aload_n (i := 0) dX5_piece_54 rfl rfl ?_
      refine x_getR xf_RX5_20 dX5_piece_55 rfl rfl ?_
      refine x_getR xf_RX5_84 dX5_piece_58 rfl rfl ?_
      refine x_iload_n (i := 1) dX5_piece_61 rfl rfl ?_
      refine x_iald dX5_piece_62 rfl (by decide) (by first | omega | (have hT := mIn_t c1; omega) | decide) (by first | omega | (have hT := mIn_t c1; omega) | decide) ?_
      refine x_iret dX5_piece_63 rfl rfl ?_
      have hT := mIn_t c1
      have hw : w = 1 := (by omega)
      subst hw
      rw [if_pos hT, if_pos hT, if_pos (by omega), if_pos (by omega), e1 hT]
      exact ⟨rfl, h⟩
    · refine x_aload_n (i := 0) dX5_piece_64 rfl rfl ?_
      refine x_bipush dX5_piece_65 (by decide) ?_
      refine x_cIf0_1 lk_RX5_54 xm_X5_refuse dX5_piece_67 (s5_refuse _ (by decide) _) ?_
      refine x_iret dX5_piece_70 rfl rfl ?_
      have hT := mIn_t c1
      rw [if_pos hT, if_pos hT, if_neg (by omega), if_neg (by omega)]
      exact ⟨rfl, h.ref (-2)⟩
  · refine x_aload_n (i := 0) dX5_piece_11 rfl rfl ?_
    refine x_iconst dX5_piece_12 ?_
    refine x_cIf0_1 lk_RX5_54 xm_X5_refuse dX5_piece_13 (s5_refuse _ (by decide) _) ?_
    refine x_iret dX5_piece_16 rfl rfl ?_
    rw [if_neg (mIn_f c1), if_neg (mIn_f c1)]
    exact ⟨rfl, h.ref (-1)⟩
set_option maxRecDepth 100000 in
set_option maxHeartbeats 4000000 in
theorem s5_train (t : Int) (ht : x_in t) (w : Int) (hw : x_in w) (μ κ : xM) (h : CR μ κ) : X E0 shC 9 yX5_train cX5_train 3 (some .int) 0 [some (.inr (.inl 0)), some (.inl t), some (.inl w)] [] μ (CQ (if inT (κ 2) t then (if 0 ≤ w ∧ w < 2 then κ 2 (23 + 2 * t + w).toNat else -2) else -1) (if inT (κ 2) t then (if 0 ≤ w ∧ w < 2 then κ else mRef κ (-2)) else mRef κ (-1))) := by
  have eH : hOf (x_ct [12, 13, 14, 15, 16, 17, 18] μ) 0 = κ 2 := h.hill
  have hI := h.mi
  have h1 : 0 ≤ κ 2 1 ∧ κ 2 1 ≤ 8 := hI.2.1
  have h0 : 0 ≤ κ 2 0 ∧ κ 2 0 ≤ 5 := hI.1
  have hm := mIn_in t (κ 2 1)
  have e0 : 0 ≤ t ∧ t < κ 2 1 → μ 15 t.toNat = κ 2 (23 + 2 * t + 0).toNat := by
    intro q
    rw [← h.hill, show (23 + 2 * t + 0).toNat = (23 + 2 * t).toNat by omega]
    exact (hOf_com μ 12 q.1 (by omega)).symm
  have e1 : 0 ≤ t ∧ t < κ 2 1 → μ 16 t.toNat = κ 2 (23 + 2 * t + 1).toNat := by
    intro q
    rw [← h.hill]
    exact (hOf_wt μ 12 q.1 (by omega)).symm
  refine x_aload_n (i := 0) dX5_train_0 rfl rfl ?_
  refine x_getR xf_RX5_20 dX5_train_1 rfl rfl ?_
  refine x_iload_n (i := 1) dX5_train_4 rfl rfl ?_
  refine x_cIp_1 [12, 13, 14, 15, 16, 17, 18] lk_RX5_87 xm_X1_hasTrain dX5_train_5 (s1_hasTrain _ ht _ h.mh) ?_
  rw [eH]
  refine x_if_ne (tgt := 17) dX5_train_8 (by decide) (by first | assumption | (unfold x_in; omega) | (unfold x_in; decide)) (fun c1 => ?_) (fun c1 => ?_)
  · refine x_iload_n (i := 2) dX5_train_17 rfl rfl ?_
    refine x_lk2 (td := 64) (t0 := 44) (t1 := 54) dX5_train_18 (by decide) (by first | assumption | (unfold x_in; omega) | (unfold x_in; decide)) (by decide) (by decide) (by decide) (fun c2 => ?_) (fun c2 => ?_) (fun c2 => ?_)
    · refine x_aload_n (i := 0) dX5_train_44 rfl rfl ?_
      refine x_getR xf_RX5_20 dX5_train_45 rfl rfl ?_
      refine x_getR xf_RX5_90 dX5_train_48 rfl rfl ?_
      refine x_iload_n (i := 1) dX5_train_51 rfl rfl ?_
      refine x_iald dX5_train_52 rfl (by decide) (by first | omega | (have hT := mIn_t c1; omega) | decide) (by first | omega | (have hT := mIn_t c1; omega) | decide) ?_
      refine x_iret dX5_train_53 rfl rfl ?_
      have hT := mIn_t c1
      have hw : w = 0 := (by omega)
      subst hw
      rw [if_pos hT, if_pos hT, if_pos (by omega), if_pos (by omega), e0 hT]
      exact ⟨rfl, h⟩
    · refine x_aload_n (i := 0) dX5_train_54 rfl rfl ?_
      refine x_getR xf_RX5_20 dX5_train_55 rfl rfl ?_
      refine x_getR xf_RX5_93 dX5_train_58 rfl rfl ?_
      refine x_iload_n (i := 1) dX5_train_61 rfl rfl ?_
      refine x_iald dX5_train_62 rfl (by decide) (by first | omega | (have hT := mIn_t c1; omega) | decide) (by first | omega | (have hT := mIn_t c1; omega) | decide) ?_
      refine x_iret dX5_train_63 rfl rfl ?_
      have hT := mIn_t c1
      have hw : w = 1 := (by omega)
      subst hw
      rw [if_pos hT, if_pos hT, if_pos (by omega), if_pos (by omega), e1 hT]
      exact ⟨rfl, h⟩
    · refine x_aload_n (i := 0) dX5_train_64 rfl rfl ?_
      refine x_bipush dX5_train_65 (by decide) ?_
      refine x_cIf0_1 lk_RX5_54 xm_X5_refuse dX5_train_67 (s5_refuse _ (by decide) _) ?_
      refine x_iret dX5_train_70 rfl rfl ?_
      have hT := mIn_t c1
      rw [if_pos hT, if_pos hT, if_neg (by omega), if_neg (by omega)]
      exact ⟨rfl, h.ref (-2)⟩
  · refine x_aload_n (i := 0) dX5_train_11 rfl rfl ?_
    refine x_iconst dX5_train_12 ?_
    refine x_cIf0_1 lk_RX5_54 xm_X5_refuse dX5_train_13 (s5_refuse _ (by decide) _) ?_
    refine x_iret dX5_train_16 rfl rfl ?_
    rw [if_neg (mIn_f c1), if_neg (mIn_f c1)]
    exact ⟨rfl, h.ref (-1)⟩
