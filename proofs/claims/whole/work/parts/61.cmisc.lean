/-! THE CLASS: image, on, row, judge, makeDouble -/
theorem cp_kept {μ ν : xM} (e : ∀ c, 7 ≤ c → ν c = x_ct [35, 36, 37, 38, 39, 40, 41, 12, 13, 14, 15, 16, 17, 18] μ c) : ∀ k, k < 35 ∨ 41 < k → x_mrg [35, 36, 37, 38, 39, 40, 41, 12, 13, 14, 15, 16, 17, 18] μ ν k = μ k := by
  intro k hk
  by_cases q : 12 ≤ k ∧ k ≤ 18
  · have w : k = 12 ∨ k = 13 ∨ k = 14 ∨ k = 15 ∨ k = 16 ∨ k = 17 ∨ k = 18 := by omega
    rcases w with rfl | rfl | rfl | rfl | rfl | rfl | rfl
    · exact e 7 (by decide)
    · exact e 8 (by decide)
    · exact e 9 (by decide)
    · exact e 10 (by decide)
    · exact e 11 (by decide)
    · exact e 12 (by decide)
    · exact e 13 (by decide)
  · exact x_mrg_out μ ν (fun i hi => by simp at hi; omega)
theorem cp_on {μ ν : xM} (e : ∀ c, 7 ≤ c → ν c = x_ct [12, 13, 14, 15, 16, 17, 18, 35, 36, 37, 38, 39, 40, 41] μ c) : ∀ k, k < 12 ∨ 18 < k → x_mrg [12, 13, 14, 15, 16, 17, 18, 35, 36, 37, 38, 39, 40, 41] μ ν k = μ k := by
  intro k hk
  by_cases q : 35 ≤ k ∧ k ≤ 41
  · have w : k = 35 ∨ k = 36 ∨ k = 37 ∨ k = 38 ∨ k = 39 ∨ k = 40 ∨ k = 41 := by omega
    rcases w with rfl | rfl | rfl | rfl | rfl | rfl | rfl
    · exact e 7 (by decide)
    · exact e 8 (by decide)
    · exact e 9 (by decide)
    · exact e 10 (by decide)
    · exact e 11 (by decide)
    · exact e 12 (by decide)
    · exact e 13 (by decide)
  · exact x_mrg_out μ ν (fun i hi => by simp at hi; omega)
theorem GI.image {κ : xM} (g : GI κ) : GI (x_st (fun k => if k = 3 then κ 2 else κ k) 0 4 1) := by
  obtain ⟨a, b, c, d, e, f, i⟩ := g
  exact ⟨a, fun j hj => ⟨(b j hj).1, (b j hj).1, (b j hj).2.2⟩, c, d, e, f, Or.inr ⟨rfl, a⟩⟩
theorem CR.image {μ μ' κ : xM} (h : CR μ κ) (e : ∀ k, k < 35 ∨ 41 < k → μ' k = μ k) (e35 : hOf μ' 35 = κ 2) : CR (x_st μ' 0 5 1) (x_st (fun k => if k = 3 then κ 2 else κ k) 0 4 1) := by
  have e12 : hOf μ' 12 = hOf μ 12 := hOf_congr (fun k h1 h2 => e k (by omega))
  refine ⟨h.gi.image, h.o, fun _ => h.o, e12.trans h.hill, rfl, fun _ => e35, ?_, ?_, ?_, ?_, ?_⟩
  · exact (congrFun (e 42 (by decide)) 0).trans h.ts
  · exact (e 43 (by decide)).trans h.tb
  · exact (congrFun (e 44 (by decide)) 0).trans h.rs
  · exact (e 45 (by decide)).trans h.rb
  · exact (e 2 (by decide)).trans h.rf
theorem CR.on {μ μ' κ : xM} (h : CR μ κ) (q : κ 0 4 ≠ 0) (e : ∀ k, k < 12 ∨ 18 < k → μ' k = μ k) (e12 : hOf μ' 12 = hOf μ 35) : CR μ' (fun k => if k = 2 then κ 3 else κ k) := by
  have e35 : hOf μ' 35 = hOf μ 35 := hOf_congr (fun k h1 h2 => e k (by omega))
  obtain ⟨a, b, c, d, e', f, i⟩ := h.gi
  have i1 : κ 0 4 = 1 ∧ MI (κ 3) := i.resolve_left q
  have hk := h.kept i1.1
  refine ⟨⟨i1.2, fun j hj => ⟨(b j hj).2.1, (b j hj).2.1, (b j hj).2.2⟩, c, d, e', f, Or.inr i1⟩, h.ok i1.1, h.ok, e12.trans hk, ?_, fun _ => e35.trans hk, ?_, ?_, ?_, ?_, ?_⟩
  · exact (congrFun (e 0 (by decide)) 5).trans h.is
  · exact (congrFun (e 42 (by decide)) 0).trans h.ts
  · exact (e 43 (by decide)).trans h.tb
  · exact (congrFun (e 44 (by decide)) 0).trans h.rs
  · exact (e 45 (by decide)).trans h.rb
  · exact (e 2 (by decide)).trans h.rf
set_option maxRecDepth 100000 in
set_option maxHeartbeats 4000000 in
theorem s5_image (μ κ : xM) (h : CR μ κ) : X E0 shC 9 yX5_image cX5_image 1 (some .int) 0 [some (.inr (.inl 0))] [] μ (CQ (κ 2 1) (x_st (fun k => if k = 3 then κ 2 else κ k) 0 4 1)) := by
  have eH : hOf (x_ct [12, 13, 14, 15, 16, 17, 18] μ) 0 = κ 2 := h.hill
  have hI := h.mi
  have h1 : 0 ≤ κ 2 1 ∧ κ 2 1 ≤ 8 := hI.2.1
  have h0 : 0 ≤ κ 2 0 ∧ κ 2 0 ≤ 5 := hI.1
  refine x_aload_n (i := 0) dX5_image_0 rfl rfl ?_
  refine x_getR xf_RX5_30 dX5_image_1 rfl rfl ?_
  refine x_aload_n (i := 0) dX5_image_4 rfl rfl ?_
  refine x_getR xf_RX5_20 dX5_image_5 rfl rfl ?_
  refine x_cV_R [35, 36, 37, 38, 39, 40, 41, 12, 13, 14, 15, 16, 17, 18] lk_RX5_70 xm_X1_copyFrom dX5_image_8 (s1_copyFrom (x_ct [35, 36, 37, 38, 39, 40, 41, 12, 13, 14, 15, 16, 17, 18] μ)) (fun ν hq => ?_)
  have hx := cp_kept hq.2.2
  have h35 : hOf (x_mrg [35, 36, 37, 38, 39, 40, 41, 12, 13, 14, 15, 16, 17, 18] μ ν) 35 = κ 2 := hq.2.1.trans h.hill
  generalize x_mrg [35, 36, 37, 38, 39, 40, 41, 12, 13, 14, 15, 16, 17, 18] μ ν = μ1 at *
  refine x_aload_n (i := 0) dX5_image_11 rfl rfl ?_
  refine x_iconst dX5_image_12 ?_
  refine x_putZ xp_RX5_173 dX5_image_13 rfl rfl (by first | exact Or.inl rfl | exact Or.inr rfl | omega) ?_
  refine x_aload_n (i := 0) dX5_image_16 rfl rfl ?_
  refine x_getR xf_RX5_30 dX5_image_17 rfl rfl ?_
  refine x_getI xf_RX5_138 dX5_image_20 rfl rfl ?_
  try simp (decide := true) only [x_st_at, ↓reduceIte, if_true, if_false]
  refine x_iret dX5_image_23 rfl rfl ?_
  exact ⟨congrArg (fun z => some (Sum.inl z)) (congrFun h35 1), h.image hx h35⟩
set_option maxRecDepth 100000 in
set_option maxHeartbeats 4000000 in
theorem s5_on (μ κ : xM) (h : CR μ κ) : X E0 shC 9 yX5_on cX5_on 1 (some .int) 0 [some (.inr (.inl 0))] [] μ (CQ (if κ 0 4 = 0 then -3 else κ 3 1) (if κ 0 4 = 0 then mRef κ (-3) else (fun k => if k = 2 then κ 3 else κ k))) := by
  have eH : hOf (x_ct [12, 13, 14, 15, 16, 17, 18] μ) 0 = κ 2 := h.hill
  have hI := h.mi
  have h1 : 0 ≤ κ 2 1 ∧ κ 2 1 ≤ 8 := hI.2.1
  have h0 : 0 ≤ κ 2 0 ∧ κ 2 0 ≤ 5 := hI.1
  have his : μ 0 5 = 0 ∨ μ 0 5 = 1 := by
    rw [h.is]
    exact h.gi.2.2.2.2.2.2.imp_right (fun q => q.1)
  have eis := h.is
  refine x_aload_n (i := 0) dX5_on_0 rfl rfl ?_
  refine x_getI xf_RX5_173 dX5_on_1 rfl rfl ?_
  refine x_if_ne (tgt := 14) dX5_on_4 (by decide) (by first | (unfold x_in; omega) | (unfold x_in; decide)) (fun c1 => ?_) (fun c1 => ?_)
  · refine x_aload_n (i := 0) dX5_on_14 rfl rfl ?_
    refine x_getR xf_RX5_20 dX5_on_15 rfl rfl ?_
    refine x_aload_n (i := 0) dX5_on_18 rfl rfl ?_
    refine x_getR xf_RX5_30 dX5_on_19 rfl rfl ?_
    refine x_cV_R [12, 13, 14, 15, 16, 17, 18, 35, 36, 37, 38, 39, 40, 41] lk_RX5_70 xm_X1_copyFrom dX5_on_22 (s1_copyFrom (x_ct [12, 13, 14, 15, 16, 17, 18, 35, 36, 37, 38, 39, 40, 41] μ)) (fun ν hq => ?_)
    have hx := cp_on hq.2.2
    have h12 : hOf (x_mrg [12, 13, 14, 15, 16, 17, 18, 35, 36, 37, 38, 39, 40, 41] μ ν) 12 = hOf μ 35 := hq.2.1
    generalize x_mrg [12, 13, 14, 15, 16, 17, 18, 35, 36, 37, 38, 39, 40, 41] μ ν = μ1 at *
    refine x_aload_n (i := 0) dX5_on_25 rfl rfl ?_
    refine x_getR xf_RX5_20 dX5_on_26 rfl rfl ?_
    refine x_getI xf_RX5_138 dX5_on_29 rfl rfl ?_
    try simp (decide := true) only [x_st_at, ↓reduceIte, if_true, if_false]
    refine x_iret dX5_on_32 rfl rfl ?_
    rw [if_neg (by omega), if_neg (by omega)]
    exact ⟨congrArg (fun z => some (Sum.inl z)) ((congrFun h12 1).trans (congrFun (h.kept (by omega)) 1)), h.on (by omega) hx h12⟩
  · refine x_aload_n (i := 0) dX5_on_7 rfl rfl ?_
    refine x_bipush dX5_on_8 (by decide) ?_
    refine x_cIf0_1 lk_RX5_54 xm_X5_refuse dX5_on_10 (s5_refuse _ (by decide) _) ?_
    refine x_iret dX5_on_13 rfl rfl ?_
    rw [if_pos (by omega), if_pos (by omega)]
    exact ⟨rfl, h.ref (-3)⟩
theorem CR.row {μ κ : xM} (h : CR μ κ) {w : Int} (hw : 0 ≤ w ∧ w ≤ 9) (hn : κ 0 22 < 16) : CR (x_mrg [44, 45, 46, 47, 48, 49, 50] μ (x_st (x_st (x_ct [44, 45, 46, 47, 48, 49, 50] μ) 1 (μ 44 0).toNat w) 0 0 (μ 44 0 + 1))) (x_st (x_st κ 12 (κ 0 22).toNat w) 0 22 (κ 0 22 + 1)) := by
  obtain ⟨a, b, c, d, e, f, i⟩ := h.gi
  refine ⟨⟨a, b, c, d, ⟨?_, ?_⟩, fun k k0 k1 => ?_, i⟩, h.o, h.ok, h.hill, h.is, h.kept, h.ts, h.tb, ?_, ?_, h.rf⟩
  · show 0 ≤ κ 0 22 + 1
    omega
  · show κ 0 22 + 1 ≤ 16
    omega
  · show 0 ≤ (if k.toNat = (κ 0 22).toNat then w else κ 12 k.toNat) ∧ (if k.toNat = (κ 0 22).toNat then w else κ 12 k.toNat) ≤ 9
    have := f k k0 k1
    split <;> omega
  · show μ 44 0 + 1 = κ 0 22 + 1
    rw [h.rs]
  · have e1 : x_st (x_st κ 12 (κ 0 22).toNat w) 0 22 (κ 0 22 + 1) 12 = hset (κ 12) (κ 0 22).toNat w := x_st_row κ 12 _ _
    have e2 : x_mrg [44, 45, 46, 47, 48, 49, 50] μ (x_st (x_st (x_ct [44, 45, 46, 47, 48, 49, 50] μ) 1 (μ 44 0).toNat w) 0 0 (μ 44 0 + 1)) 45 = hset (μ 45) (μ 44 0).toNat w := x_st_row (x_ct [44, 45, 46, 47, 48, 49, 50] μ) 1 _ _
    rw [e1, e2, h.rb, h.rs]
theorem CR.judge {μ κ ν : xM} (h : CR μ κ) (e0 : ν 0 0 = 0) (e1 : ν 1 = μ 45) (e7 : hOf ν 7 = hOf μ 12) : CR (x_mrg [44, 45, 46, 47, 48, 49, 50, 12, 13, 14, 15, 16, 17, 18] μ ν) (x_st κ 0 22 0) := by
  obtain ⟨a, b, c, d, e, f, i⟩ := h.gi
  exact ⟨⟨a, b, c, d, ⟨show (0 : Int) ≤ 0 by decide, show (0 : Int) ≤ 16 by decide⟩, f, i⟩, h.o, h.ok, e7.trans h.hill, h.is, h.kept, h.ts, h.tb, e0, e1.trans h.rb, h.rf⟩
theorem mW_09 (w : Int) : (w < 0 → mWithin w 0 9 = -4) ∧ (¬ w < 0 → 9 < w → mWithin w 0 9 = -6) ∧ (¬ w < 0 → ¬ 9 < w → mWithin w 0 9 = 0) := ⟨fun q => if_pos q, fun q r => (if_neg q).trans (if_pos r), fun q r => (if_neg q).trans (if_neg r)⟩
set_option maxRecDepth 100000 in
set_option maxHeartbeats 4000000 in
theorem s5_row (w : Int) (hw : x_in w) (μ κ : xM) (h : CR μ κ) : X E0 shC 9 yX5_row cX5_row 2 (some .int) 0 [some (.inr (.inl 0)), some (.inl w)] [] μ (CQ (if mWithin w 0 9 = 0 then (if κ 0 22 = 16 then -6 else κ 0 22 + 1) else mWithin w 0 9) (if mWithin w 0 9 = 0 then (if κ 0 22 = 16 then mRef κ (-6) else x_st (x_st κ 12 (κ 0 22).toNat w) 0 22 (κ 0 22 + 1)) else mRef κ (mWithin w 0 9))) := by
  have eH : hOf (x_ct [12, 13, 14, 15, 16, 17, 18] μ) 0 = κ 2 := h.hill
  have hI := h.mi
  have h1 : 0 ≤ κ 2 1 ∧ κ 2 1 ≤ 8 := hI.2.1
  have h0 : 0 ≤ κ 2 0 ∧ κ 2 0 ≤ 5 := hI.1
  have hr : 0 ≤ κ 0 22 ∧ κ 0 22 ≤ 16 := h.gi.2.2.2.2.1
  have ers := h.rs
  have hm := mW_09 w
  have KA : 0 ≤ w ∧ w ≤ 9 → κ 0 22 < 16 → CR (x_mrg [44, 45, 46, 47, 48, 49, 50] μ (x_st (x_st (x_ct [44, 45, 46, 47, 48, 49, 50] μ) 1 (μ 44 0).toNat w) 0 0 (μ 44 0 + 1))) (x_st (x_st κ 12 (κ 0 22).toNat w) 0 22 (κ 0 22 + 1)) := fun q r => h.row q r
  refine x_iload_n (i := 1) dX5_row_0 rfl rfl ?_
  refine x_if_ge (tgt := 11) dX5_row_1 (by decide) (by first | assumption | (unfold x_in; omega) | (unfold x_in; decide)) (fun c1 => ?_) (fun c1 => ?_)
  · refine x_iload_n (i := 1) dX5_row_11 rfl rfl ?_
    refine x_bipush dX5_row_12 (by decide) ?_
    refine x_icmp_gt (tgt := 29) dX5_row_14 (by decide) (by first | assumption | (unfold x_in; omega) | (unfold x_in; decide)) (by first | assumption | (unfold x_in; omega) | (unfold x_in; decide)) (fun c2 => ?_) (fun c2 => ?_)
    · refine x_aload_n (i := 0) dX5_row_29 rfl rfl ?_
      refine x_bipush dX5_row_30 (by decide) ?_
      refine x_cIf0_1 lk_RX5_54 xm_X5_refuse dX5_row_32 (s5_refuse _ (by decide) _) ?_
      refine x_iret dX5_row_35 rfl rfl ?_
      first | (have q : 9 < w := (by omega); rw [hm.2.1 (by omega) q, if_neg (by decide), if_neg (by decide)]; exact ⟨rfl, h.ref (-6)⟩) | (rw [hm.2.2 (by omega) (by omega), if_pos rfl, if_pos rfl, if_pos (by omega), if_pos (by omega)]; exact ⟨rfl, h.ref (-6)⟩)
    · refine x_aload_n (i := 0) dX5_row_17 rfl rfl ?_
      refine x_getR xf_RX5_43 dX5_row_18 rfl rfl ?_
      refine x_getI xf_RX5_160 dX5_row_21 rfl rfl ?_
      refine x_bipush dX5_row_24 (by decide) ?_
      refine x_icmp_lt (tgt := 36) dX5_row_26 (by decide) (by first | assumption | (unfold x_in; omega) | (unfold x_in; decide)) (by first | assumption | (unfold x_in; omega) | (unfold x_in; decide)) (fun c3 => ?_) (fun c3 => ?_)
      · refine x_aload_n (i := 0) dX5_row_36 rfl rfl ?_
        refine x_getR xf_RX5_43 dX5_row_37 rfl rfl ?_
        refine x_iload_n (i := 1) dX5_row_40 rfl rfl ?_
        refine x_cVf_1 [44, 45, 46, 47, 48, 49, 50] lk_RX5_161 xm_X2_add dX5_row_41 (s2_add w (x_ct [44, 45, 46, 47, 48, 49, 50] μ) (by show 0 ≤ μ 44 0 ∧ μ 44 0 < 16; omega)) ?_
        refine x_aload_n (i := 0) dX5_row_44 rfl rfl ?_
        refine x_getR xf_RX5_43 dX5_row_45 rfl rfl ?_
        refine x_getI xf_RX5_160 dX5_row_48 rfl rfl ?_
        try simp (decide := true) only [x_st_at, ↓reduceIte, if_true, if_false]
        refine x_iret dX5_row_51 rfl rfl ?_
        rw [hm.2.2 (by omega) (by omega), if_pos rfl, if_pos rfl, if_neg (by omega), if_neg (by omega)]
        exact ⟨congrArg (fun z => some (Sum.inl (z + 1))) h.rs, KA (by omega) (by omega)⟩
      · refine x_aload_n (i := 0) dX5_row_29 rfl rfl ?_
        refine x_bipush dX5_row_30 (by decide) ?_
        refine x_cIf0_1 lk_RX5_54 xm_X5_refuse dX5_row_32 (s5_refuse _ (by decide) _) ?_
        refine x_iret dX5_row_35 rfl rfl ?_
        first | (have q : 9 < w := (by omega); rw [hm.2.1 (by omega) q, if_neg (by decide), if_neg (by decide)]; exact ⟨rfl, h.ref (-6)⟩) | (rw [hm.2.2 (by omega) (by omega), if_pos rfl, if_pos rfl, if_pos (by omega), if_pos (by omega)]; exact ⟨rfl, h.ref (-6)⟩)
  · refine x_aload_n (i := 0) dX5_row_4 rfl rfl ?_
    refine x_bipush dX5_row_5 (by decide) ?_
    refine x_cIf0_1 lk_RX5_54 xm_X5_refuse dX5_row_7 (s5_refuse _ (by decide) _) ?_
    refine x_iret dX5_row_10 rfl rfl ?_
    rw [hm.1 (by omega), if_neg (by decide), if_neg (by decide)]
    exact ⟨rfl, h.ref (-4)⟩
set_option maxRecDepth 100000 in
set_option maxHeartbeats 4000000 in
theorem s5_judge (w : Int) (hw : x_in w) (μ κ : xM) (h : CR μ κ) : X E0 shC 9 yX5_judge cX5_judge 2 (some .int) 0 [some (.inr (.inl 0)), some (.inl w)] [] μ (CQ (if 0 ≤ w ∧ w < 2 then (if w = 0 then (dJudge (κ 2) (κ 12) (κ 0 22)).1 else (dJudge (κ 2) (κ 12) (κ 0 22)).2) else -2) (if 0 ≤ w ∧ w < 2 then x_st κ 0 22 0 else mRef κ (-2))) := by
  have eH : hOf (x_ct [12, 13, 14, 15, 16, 17, 18] μ) 0 = κ 2 := h.hill
  have hI := h.mi
  have h1 : 0 ≤ κ 2 1 ∧ κ 2 1 ≤ 8 := hI.2.1
  have h0 : 0 ≤ κ 2 0 ∧ κ 2 0 ≤ 5 := hI.1
  have hr : 0 ≤ κ 0 22 ∧ κ 0 22 ≤ 16 := h.gi.2.2.2.2.1
  have hl := s2_lookAt (x_ct [44, 45, 46, 47, 48, 49, 50, 12, 13, 14, 15, 16, 17, 18] μ) h.mh (by show 0 ≤ μ 44 0 ∧ μ 44 0 ≤ 16; rw [h.rs]; exact hr) (by show ∀ k : Int, 0 ≤ k → k < 16 → 0 ≤ μ 45 k.toNat ∧ μ 45 k.toNat ≤ 9; rw [h.rb]; exact h.gi.2.2.2.2.2.1)
  have ej : dJudge (hOf μ 12) (μ 45) (μ 44 0) = dJudge (κ 2) (κ 12) (κ 0 22) := by rw [h.hill, h.rb, h.rs]
  refine x_iload_n (i := 1) dX5_judge_0 rfl rfl ?_
  refine x_if_lt (tgt := 9) dX5_judge_1 (by decide) (by first | assumption | (unfold x_in; omega) | (unfold x_in; decide)) (fun c1 => ?_) (fun c1 => ?_)
  · refine x_aload_n (i := 0) dX5_judge_9 rfl rfl ?_
    refine x_bipush dX5_judge_10 (by decide) ?_
    refine x_cIf0_1 lk_RX5_54 xm_X5_refuse dX5_judge_12 (s5_refuse _ (by decide) _) ?_
    refine x_iret dX5_judge_15 rfl rfl ?_
    rw [if_neg (by omega), if_neg (by omega)]
    exact ⟨rfl, h.ref (-2)⟩
  · refine x_iload_n (i := 1) dX5_judge_4 rfl rfl ?_
    refine x_iconst dX5_judge_5 ?_
    refine x_icmp_le (tgt := 16) dX5_judge_6 (by decide) (by first | assumption | (unfold x_in; omega) | (unfold x_in; decide)) (by first | assumption | (unfold x_in; omega) | (unfold x_in; decide)) (fun c2 => ?_) (fun c2 => ?_)
    · refine x_aload_n (i := 0) dX5_judge_16 rfl rfl ?_
      refine x_getR xf_RX5_43 dX5_judge_17 rfl rfl ?_
      refine x_aload_n (i := 0) dX5_judge_20 rfl rfl ?_
      refine x_getR xf_RX5_20 dX5_judge_21 rfl rfl ?_
      refine x_cV_R [44, 45, 46, 47, 48, 49, 50, 12, 13, 14, 15, 16, 17, 18] lk_RX5_164 xm_X2_lookAt dX5_judge_24 (hl) (fun ν hq => ?_)
      obtain ⟨-, g0, g1, g2, gb, gh⟩ := hq
      have hc := h.judge g0 gb gh
      have w1 : ν 0 1 = (dJudge (κ 2) (κ 12) (κ 0 22)).1 := g1.trans (congrArg Prod.fst ej)
      have w2 : ν 0 2 = (dJudge (κ 2) (κ 12) (κ 0 22)).2 := g2.trans (congrArg Prod.snd ej)
      refine x_iload_n (i := 1) dX5_judge_27 rfl rfl ?_
      refine x_if_ne (tgt := 41) dX5_judge_28 (by decide) (by first | assumption | (unfold x_in; omega) | (unfold x_in; decide)) (fun c3 => ?_) (fun c3 => ?_)
      · refine x_aload_n (i := 0) dX5_judge_41 rfl rfl ?_
        refine x_getR xf_RX5_43 dX5_judge_42 rfl rfl ?_
        refine x_getI xf_RX5_170 dX5_judge_45 rfl rfl ?_
        try simp (decide := true) only [x_st_at, ↓reduceIte, if_true, if_false]
        refine x_iret dX5_judge_48 rfl rfl ?_
        have q2 : 0 ≤ w ∧ w < 2 := (by omega)
        rw [if_pos q2, if_pos q2]
        first | (have q3 : w = 0 := (by omega); rw [if_pos q3]; exact ⟨congrArg (fun z => some (Sum.inl z)) w1, hc⟩) | (have q3 : ¬ w = 0 := (by omega); rw [if_neg q3]; exact ⟨congrArg (fun z => some (Sum.inl z)) w2, hc⟩)
      · refine x_aload_n (i := 0) dX5_judge_31 rfl rfl ?_
        refine x_getR xf_RX5_43 dX5_judge_32 rfl rfl ?_
        refine x_getI xf_RX5_167 dX5_judge_35 rfl rfl ?_
        try simp (decide := true) only [x_st_at, ↓reduceIte, if_true, if_false]
        refine x_goto (tgt := 48) dX5_judge_38 (by decide) ?_
        refine x_iret dX5_judge_48 rfl rfl ?_
        have q2 : 0 ≤ w ∧ w < 2 := (by omega)
        rw [if_pos q2, if_pos q2]
        first | (have q3 : w = 0 := (by omega); rw [if_pos q3]; exact ⟨congrArg (fun z => some (Sum.inl z)) w1, hc⟩) | (have q3 : ¬ w = 0 := (by omega); rw [if_neg q3]; exact ⟨congrArg (fun z => some (Sum.inl z)) w2, hc⟩)
    · refine x_aload_n (i := 0) dX5_judge_9 rfl rfl ?_
      refine x_bipush dX5_judge_10 (by decide) ?_
      refine x_cIf0_1 lk_RX5_54 xm_X5_refuse dX5_judge_12 (s5_refuse _ (by decide) _) ?_
      refine x_iret dX5_judge_15 rfl rfl ?_
      rw [if_neg (by omega), if_neg (by omega)]
      exact ⟨rfl, h.ref (-2)⟩
theorem CR.dbl {μ κ : xM} (h : CR μ κ) {t z : Int} (ht : 0 ≤ t ∧ t < κ 2 0) (hz : z = 0 ∨ z = 1) : CR (x_st μ 14 t.toNat z) (x_st κ 2 (13 + 2 * t + 1).toNat z) := by
  have h0 : 0 ≤ κ 2 0 ∧ κ 2 0 ≤ 5 := h.mi.1
  have e2 : x_st κ 2 (13 + 2 * t + 1).toNat z 2 = hset (κ 2) (13 + 2 * t + 1).toNat z := x_st_row κ 2 _ _
  obtain ⟨a, b, c, d, e, f, i⟩ := h.gi
  refine ⟨⟨?_, fun j hj => ⟨?_, (b j hj).2⟩, c, d, e, f, i⟩, ?_, h.ok, ?_, h.is, h.kept, h.ts, h.tb, h.rs, h.rb, h.rf⟩
  · rw [e2]
    exact MI_setP a (by omega) (by omega)
  · rw [e2, hset_ne (by omega)]
    exact (b j hj).1
  · rw [e2]
    exact DO_set h.o (by omega) (by omega)
  · rw [e2, ← h.hill]
    exact hOf_sd μ 12 ht.1 (by omega) z
theorem x_st_idv {κ : xM} {c j : Nat} {v : Int} (e : κ c j = v) : x_st κ c j v = κ := by
  funext a b
  unfold x_st
  split
  next q =>
    split
    next r => rw [q, r, e]
    next => rfl
  next => rfl
set_option maxRecDepth 100000 in
set_option maxHeartbeats 4000000 in
theorem s5_makeDouble (t z : Int) (ht : x_in t) (hz : z = 0 ∨ z = 1) (μ κ : xM) (h : CR μ κ) : X E0 shC 9 yX5_makeDouble cX5_makeDouble 4 (some .int) 0 [some (.inr (.inl 0)), some (.inl t), some (.inl z), none] [] μ (CQ (if inP (κ 2) t then (if κ 2 (13 + 2 * t + 1).toNat = z then 0 else 1) else -1) (if inP (κ 2) t then x_st κ 2 (13 + 2 * t + 1).toNat z else mRef κ (-1))) := by
  have eH : hOf (x_ct [12, 13, 14, 15, 16, 17, 18] μ) 0 = κ 2 := h.hill
  have hI := h.mi
  have h1 : 0 ≤ κ 2 1 ∧ κ 2 1 ≤ 8 := hI.2.1
  have h0 : 0 ≤ κ 2 0 ∧ κ 2 0 ≤ 5 := hI.1
  have hm := mIn_in t (κ 2 0)
  have et : 0 ≤ t ∧ t < κ 2 0 → μ 14 t.toNat = κ 2 (13 + 2 * t + 1).toNat := fun q => by
    rw [← h.hill]
    exact (hOf_dbl μ 12 q.1 (by omega)).symm
  have hd : 0 ≤ t ∧ t < κ 2 0 → 0 ≤ κ 2 (13 + 2 * t + 1).toNat ∧ κ 2 (13 + 2 * t + 1).toNat ≤ 1 := fun q => MI_dbl hI q.1 (by omega)
  have KD : 0 ≤ t ∧ t < κ 2 0 → ∀ z2, z2 = z → CR (x_st μ 14 t.toNat z2) (x_st κ 2 (13 + 2 * t + 1).toNat z) := fun q z2 e => by
    rw [e]
    exact h.dbl q hz
  have KS : 0 ≤ t ∧ t < κ 2 0 → κ 2 (13 + 2 * t + 1).toNat = z → CR μ (x_st κ 2 (13 + 2 * t + 1).toNat z) := fun q e => by
    rw [x_st_idv e]
    exact h
  refine x_aload_n (i := 0) dX5_makeDouble_0 rfl rfl ?_
  refine x_getR xf_RX5_20 dX5_makeDouble_1 rfl rfl ?_
  refine x_iload_n (i := 1) dX5_makeDouble_4 rfl rfl ?_
  refine x_cIp_1 [12, 13, 14, 15, 16, 17, 18] lk_RX5_78 xm_X1_hasPiece dX5_makeDouble_5 (s1_hasPiece _ ht _ h.mh) ?_
  rw [eH]
  refine x_if_ne (tgt := 17) dX5_makeDouble_8 (by decide) (by first | (unfold x_in; omega) | (unfold x_in; decide)) (fun c1 => ?_) (fun c1 => ?_)
  · have hT := mIn_t c1
    have e1 := et hT
    have d1 := hd hT
    refine x_iload_n (i := 2) dX5_makeDouble_17 rfl rfl ?_
    refine x_if_eq (tgt := 25) dX5_makeDouble_18 (by decide) (by first | (unfold x_in; omega) | (unfold x_in; decide)) (fun c2 => ?_) (fun c2 => ?_)
    · refine x_iconst dX5_makeDouble_25 ?_
      refine x_istore_3 dX5_makeDouble_26 (by decide) rfl ?_
      refine x_aload_n (i := 0) dX5_makeDouble_27 rfl rfl ?_
      refine x_getR xf_RX5_20 dX5_makeDouble_28 rfl rfl ?_
      refine x_getR xf_RX5_84 dX5_makeDouble_31 rfl rfl ?_
      refine x_iload_n (i := 1) dX5_makeDouble_34 rfl rfl ?_
      refine x_iald dX5_makeDouble_35 rfl (by decide) (by first | omega | (have hT := mIn_t c1; omega) | decide) (by first | omega | (have hT := mIn_t c1; omega) | decide) ?_
      refine x_iload_n (i := 3) dX5_makeDouble_36 rfl rfl ?_
      refine x_icmp_ne (tgt := 42) dX5_makeDouble_37 (by decide) (by first | (unfold x_in; omega) | (unfold x_in; decide)) (by first | (unfold x_in; omega) | (unfold x_in; decide)) (fun c3 => ?_) (fun c3 => ?_)
      · refine x_aload_n (i := 0) dX5_makeDouble_42 rfl rfl ?_
        refine x_getR xf_RX5_20 dX5_makeDouble_43 rfl rfl ?_
        refine x_getR xf_RX5_84 dX5_makeDouble_46 rfl rfl ?_
        refine x_iload_n (i := 1) dX5_makeDouble_49 rfl rfl ?_
        refine x_iload_n (i := 3) dX5_makeDouble_50 rfl rfl ?_
        refine x_iast dX5_makeDouble_51 rfl (by decide) (by first | omega | (have hT := mIn_t c1; omega) | decide) (by first | omega | (have hT := mIn_t c1; omega) | decide) ?_
        refine x_iconst dX5_makeDouble_52 ?_
        refine x_iret dX5_makeDouble_53 rfl rfl ?_
        rw [if_pos hT, if_pos hT, if_neg (by omega)]
        exact ⟨rfl, KD hT _ (by omega)⟩
      · refine x_iconst dX5_makeDouble_40 ?_
        refine x_iret dX5_makeDouble_41 rfl rfl ?_
        rw [if_pos hT, if_pos hT, if_pos (by omega)]
        exact ⟨rfl, KS hT (by omega)⟩
    · refine x_iconst dX5_makeDouble_21 ?_
      refine x_goto (tgt := 26) dX5_makeDouble_22 (by decide) ?_
      refine x_istore_3 dX5_makeDouble_26 (by decide) rfl ?_
      refine x_aload_n (i := 0) dX5_makeDouble_27 rfl rfl ?_
      refine x_getR xf_RX5_20 dX5_makeDouble_28 rfl rfl ?_
      refine x_getR xf_RX5_84 dX5_makeDouble_31 rfl rfl ?_
      refine x_iload_n (i := 1) dX5_makeDouble_34 rfl rfl ?_
      refine x_iald dX5_makeDouble_35 rfl (by decide) (by first | omega | (have hT := mIn_t c1; omega) | decide) (by first | omega | (have hT := mIn_t c1; omega) | decide) ?_
      refine x_iload_n (i := 3) dX5_makeDouble_36 rfl rfl ?_
      refine x_icmp_ne (tgt := 42) dX5_makeDouble_37 (by decide) (by first | (unfold x_in; omega) | (unfold x_in; decide)) (by first | (unfold x_in; omega) | (unfold x_in; decide)) (fun c3 => ?_) (fun c3 => ?_)
      · refine x_aload_n (i := 0) dX5_makeDouble_42 rfl rfl ?_
        refine x_getR xf_RX5_20 dX5_makeDouble_43 rfl rfl ?_
        refine x_getR xf_RX5_84 dX5_makeDouble_46 rfl rfl ?_
        refine x_iload_n (i := 1) dX5_makeDouble_49 rfl rfl ?_
        refine x_iload_n (i := 3) dX5_makeDouble_50 rfl rfl ?_
        refine x_iast dX5_makeDouble_51 rfl (by decide) (by first | omega | (have hT := mIn_t c1; omega) | decide) (by first | omega | (have hT := mIn_t c1; omega) | decide) ?_
        refine x_iconst dX5_makeDouble_52 ?_
        refine x_iret dX5_makeDouble_53 rfl rfl ?_
        rw [if_pos hT, if_pos hT, if_neg (by omega)]
        exact ⟨rfl, KD hT _ (by omega)⟩
      · refine x_iconst dX5_makeDouble_40 ?_
        refine x_iret dX5_makeDouble_41 rfl rfl ?_
        rw [if_pos hT, if_pos hT, if_pos (by omega)]
        exact ⟨rfl, KS hT (by omega)⟩
  · refine x_aload_n (i := 0) dX5_makeDouble_11 rfl rfl ?_
    refine x_iconst dX5_makeDouble_12 ?_
    refine x_cIf0_1 lk_RX5_54 xm_X5_refuse dX5_makeDouble_13 (s5_refuse _ (by decide) _) ?_
    refine x_iret dX5_makeDouble_16 rfl rfl ?_
    rw [if_neg (mIn_f c1), if_neg (mIn_f c1)]
    exact ⟨rfl, h.ref (-1)⟩
