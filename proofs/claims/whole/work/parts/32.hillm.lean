/-! THE CLASS, Hill: what changes it -/
def hPutN (h : Nat → Int) (r : Int) : Nat → (Nat → Int)
  | 0 => h
  | k + 1 => hset (hPutN h r k) (39 + (k : Int)).toNat (mDig (mRs r k))
theorem hPutN_s (h : Nat → Int) (r : Int) {p : Int} (hp : 0 ≤ p) : hPutN h r (p + 1).toNat = hset (hPutN h r p.toNat) (39 + p).toNat (mDig (mRs r p.toNat)) := by rw [nat_succ hp, hPutN, nat_back hp]
theorem mPut_2 (μ : xM) (r : Int) : ∀ k, mPut μ r k 2 = hPutN (μ 2) r k
  | 0 => rfl
  | k + 1 => by rw [mPut, x_st_2, mPut_2 μ r k, hPutN]
def hOrdN (h : Nat → Int) : Nat → (Nat → Int)
  | 0 => h
  | k + 1 => hset (hOrdN h k) (39 + (k : Int)).toNat (k : Int)
theorem hOrdN_s (h : Nat → Int) {p : Int} (hp : 0 ≤ p) : hOrdN h (p + 1).toNat = hset (hOrdN h p.toNat) (39 + p).toNat p := by rw [nat_succ hp, hOrdN, nat_back hp]
theorem hWtN_s (h : Nat → Int) (w : Int) {p : Int} (hp : 0 ≤ p) : hWtN h w (p + 1).toNat = hset (hWtN h w p.toNat) (23 + 2 * p + 1).toNat w := by rw [nat_succ hp, hWtN, nat_back hp]
set_option maxRecDepth 100000 in
set_option maxHeartbeats 4000000 in
theorem s1_addPiece (m d : Int) (hm : 0 ≤ m ∧ m ≤ 9) (hd : d = 0 ∨ d = 1) (μ : xM) (hI : MI (hOf μ 0)) : X E0 shHill 0 yX1_addPiece cX1_addPiece 3 (some .boolean) 0 [some (.inr (.inl 0)), some (.inl m), some (.inl d)] [] μ (fun r μ' => r = some (.inl (bI (pCm (hOf μ 0) 112 m d).1)) ∧ hOf μ' 0 = (pCm (hOf μ 0) 112 m d).2) := by
  have h0 : 0 ≤ μ 0 0 ∧ μ 0 0 ≤ 5 := hI.1
  have h1 : 0 ≤ μ 0 3 ∧ μ 0 3 ≤ 8 := hI.2.1
  have hp : pCm (hOf μ 0) 112 m d = if 0 < m ∧ μ 0 0 < 5 then (true, hset (hset (hset (hOf μ 0) (13 + 2 * μ 0 0).toNat m) (13 + 2 * μ 0 0 + 1).toNat d) 0 (μ 0 0 + 1)) else (false, hOf μ 0) := by
    unfold pCm
    rw [if_neg (by decide), if_pos rfl]
    rfl
  rw [hp]
  refine x_iload_n (i := 1) dX1_addPiece_0 rfl rfl ?_
  refine x_iconst dX1_addPiece_1 ?_
  refine x_icmp_lt (tgt := 19) dX1_addPiece_2 (by decide) (by first | (unfold x_in; omega) | (unfold x_in; decide)) (by first | (unfold x_in; omega) | (unfold x_in; decide)) (fun c1 => ?_) (fun c1 => ?_)
  · refine x_iconst dX1_addPiece_19 ?_
    refine x_iret dX1_addPiece_20 rfl (x_narZ (by first | exact Or.inl rfl | exact Or.inr rfl | omega)) ?_
    first | (rw [if_neg (by omega)]; exact ⟨rfl, rfl⟩) | (rw [if_pos (by omega)]; exact ⟨rfl, (hOf_st0 _ 0 _).trans (congrArg (fun g => hset g 0 (μ 0 0 + 1)) ((hOf_sd _ 0 h0.1 (by omega) _).trans (congrArg (fun g => hset g (13 + 2 * μ 0 0 + 1).toNat d) (hOf_sm _ 0 h0.1 (by omega) _))))⟩)
  · refine x_iload_n (i := 1) dX1_addPiece_5 rfl rfl ?_
    refine x_bipush dX1_addPiece_6 (by decide) ?_
    refine x_icmp_gt (tgt := 19) dX1_addPiece_8 (by decide) (by first | (unfold x_in; omega) | (unfold x_in; decide)) (by first | (unfold x_in; omega) | (unfold x_in; decide)) (fun c2 => ?_) (fun c2 => ?_)
    · refine x_iconst dX1_addPiece_19 ?_
      refine x_iret dX1_addPiece_20 rfl (x_narZ (by first | exact Or.inl rfl | exact Or.inr rfl | omega)) ?_
      first | (rw [if_neg (by omega)]; exact ⟨rfl, rfl⟩) | (rw [if_pos (by omega)]; exact ⟨rfl, (hOf_st0 _ 0 _).trans (congrArg (fun g => hset g 0 (μ 0 0 + 1)) ((hOf_sd _ 0 h0.1 (by omega) _).trans (congrArg (fun g => hset g (13 + 2 * μ 0 0 + 1).toNat d) (hOf_sm _ 0 h0.1 (by omega) _))))⟩)
    · refine x_aload_n (i := 0) dX1_addPiece_11 rfl rfl ?_
      refine x_getI xf_RX1_30 dX1_addPiece_12 rfl rfl ?_
      refine x_iconst dX1_addPiece_15 ?_
      refine x_icmp_lt (tgt := 21) dX1_addPiece_16 (by decide) (by first | (unfold x_in; omega) | (unfold x_in; decide)) (by first | (unfold x_in; omega) | (unfold x_in; decide)) (fun c3 => ?_) (fun c3 => ?_)
      · refine x_aload_n (i := 0) dX1_addPiece_21 rfl rfl ?_
        refine x_getR xf_RX1_9 dX1_addPiece_22 rfl rfl ?_
        refine x_aload_n (i := 0) dX1_addPiece_25 rfl rfl ?_
        refine x_getI xf_RX1_30 dX1_addPiece_26 rfl rfl ?_
        refine x_iload_n (i := 1) dX1_addPiece_29 rfl rfl ?_
        refine x_iast dX1_addPiece_30 rfl (by decide) (by first | omega | decide) (by first | omega | decide) ?_
        refine x_aload_n (i := 0) dX1_addPiece_31 rfl rfl ?_
        refine x_getR xf_RX1_15 dX1_addPiece_32 rfl rfl ?_
        refine x_aload_n (i := 0) dX1_addPiece_35 rfl rfl ?_
        refine x_getI xf_RX1_30 dX1_addPiece_36 rfl rfl ?_
        try simp (decide := true) only [x_st_at, ↓reduceIte, if_true, if_false]
        refine x_iload_n (i := 2) dX1_addPiece_39 rfl rfl ?_
        refine x_iast dX1_addPiece_40 rfl (by decide) (by first | omega | decide) (by first | omega | decide) ?_
        refine x_aload_n (i := 0) dX1_addPiece_41 rfl rfl ?_
        first | refine x_dupR dX1_addPiece_42 ?_ | refine x_dupI dX1_addPiece_42 ?_
        refine x_getI xf_RX1_30 dX1_addPiece_43 rfl rfl ?_
        try simp (decide := true) only [x_st_at, ↓reduceIte, if_true, if_false]
        refine x_iconst dX1_addPiece_46 ?_
        refine x_iadd dX1_addPiece_47 ?_
        refine x_putI xp_RX1_30 dX1_addPiece_48 rfl rfl ?_
        refine x_iconst dX1_addPiece_51 ?_
        refine x_iret dX1_addPiece_52 rfl (x_narZ (by first | exact Or.inl rfl | exact Or.inr rfl | omega)) ?_
        first | (rw [if_neg (by omega)]; exact ⟨rfl, rfl⟩) | (rw [if_pos (by omega)]; exact ⟨rfl, (hOf_st0 _ 0 _).trans (congrArg (fun g => hset g 0 (μ 0 0 + 1)) ((hOf_sd _ 0 h0.1 (by omega) _).trans (congrArg (fun g => hset g (13 + 2 * μ 0 0 + 1).toNat d) (hOf_sm _ 0 h0.1 (by omega) _))))⟩)
      · refine x_iconst dX1_addPiece_19 ?_
        refine x_iret dX1_addPiece_20 rfl (x_narZ (by first | exact Or.inl rfl | exact Or.inr rfl | omega)) ?_
        first | (rw [if_neg (by omega)]; exact ⟨rfl, rfl⟩) | (rw [if_pos (by omega)]; exact ⟨rfl, (hOf_st0 _ 0 _).trans (congrArg (fun g => hset g 0 (μ 0 0 + 1)) ((hOf_sd _ 0 h0.1 (by omega) _).trans (congrArg (fun g => hset g (13 + 2 * μ 0 0 + 1).toNat d) (hOf_sm _ 0 h0.1 (by omega) _))))⟩)
set_option maxRecDepth 100000 in
set_option maxHeartbeats 4000000 in
theorem s1_addTrain (c w : Int) (hc : 0 ≤ c ∧ c ≤ 999) (hw : 0 ≤ w ∧ w ≤ 999) (μ : xM) (hI : MI (hOf μ 0)) : X E0 shHill 0 yX1_addTrain cX1_addTrain 3 (some .boolean) 0 [some (.inr (.inl 0)), some (.inl c), some (.inl w)] [] μ (fun r μ' => r = some (.inl (bI (pCm (hOf μ 0) 116 c w).1)) ∧ hOf μ' 0 = (pCm (hOf μ 0) 116 c w).2) := by
  have h0 : 0 ≤ μ 0 0 ∧ μ 0 0 ≤ 5 := hI.1
  have h1 : 0 ≤ μ 0 3 ∧ μ 0 3 ≤ 8 := hI.2.1
  have hp : pCm (hOf μ 0) 116 c w = if c ≤ 600 ∧ 0 < w ∧ μ 0 3 < 8 then (true, hset (hset (hset (hOf μ 0) (23 + 2 * μ 0 3).toNat c) (23 + 2 * μ 0 3 + 1).toNat w) 1 (μ 0 3 + 1)) else (false, hOf μ 0) := by
    unfold pCm
    rw [if_neg (by decide), if_neg (by decide)]
    rfl
  rw [hp]
  refine x_iload_n (i := 1) dX1_addTrain_0 rfl rfl ?_
  refine x_if_lt (tgt := 32) dX1_addTrain_1 (by decide) (by first | (unfold x_in; omega) | (unfold x_in; decide)) (fun c1 => ?_) (fun c1 => ?_)
  · refine x_iconst dX1_addTrain_32 ?_
    refine x_iret dX1_addTrain_33 rfl (x_narZ (by first | exact Or.inl rfl | exact Or.inr rfl | omega)) ?_
    first | (rw [if_neg (by omega)]; exact ⟨rfl, rfl⟩) | (rw [if_pos (by omega)]; exact ⟨rfl, (hOf_st3 _ 0 _).trans (congrArg (fun g => hset g 1 (μ 0 3 + 1)) ((hOf_sw _ 0 h1.1 (by omega) _).trans (congrArg (fun g => hset g (23 + 2 * μ 0 3 + 1).toNat w) (hOf_sc _ 0 h1.1 (by omega) _))))⟩)
  · refine x_iload_n (i := 1) dX1_addTrain_4 rfl rfl ?_
    refine x_sipush dX1_addTrain_5 (by decide) ?_
    refine x_icmp_gt (tgt := 32) dX1_addTrain_8 (by decide) (by first | (unfold x_in; omega) | (unfold x_in; decide)) (by first | (unfold x_in; omega) | (unfold x_in; decide)) (fun c2 => ?_) (fun c2 => ?_)
    · refine x_iconst dX1_addTrain_32 ?_
      refine x_iret dX1_addTrain_33 rfl (x_narZ (by first | exact Or.inl rfl | exact Or.inr rfl | omega)) ?_
      first | (rw [if_neg (by omega)]; exact ⟨rfl, rfl⟩) | (rw [if_pos (by omega)]; exact ⟨rfl, (hOf_st3 _ 0 _).trans (congrArg (fun g => hset g 1 (μ 0 3 + 1)) ((hOf_sw _ 0 h1.1 (by omega) _).trans (congrArg (fun g => hset g (23 + 2 * μ 0 3 + 1).toNat w) (hOf_sc _ 0 h1.1 (by omega) _))))⟩)
    · refine x_iload_n (i := 2) dX1_addTrain_11 rfl rfl ?_
      refine x_iconst dX1_addTrain_12 ?_
      refine x_icmp_lt (tgt := 32) dX1_addTrain_13 (by decide) (by first | (unfold x_in; omega) | (unfold x_in; decide)) (by first | (unfold x_in; omega) | (unfold x_in; decide)) (fun c3 => ?_) (fun c3 => ?_)
      · refine x_iconst dX1_addTrain_32 ?_
        refine x_iret dX1_addTrain_33 rfl (x_narZ (by first | exact Or.inl rfl | exact Or.inr rfl | omega)) ?_
        first | (rw [if_neg (by omega)]; exact ⟨rfl, rfl⟩) | (rw [if_pos (by omega)]; exact ⟨rfl, (hOf_st3 _ 0 _).trans (congrArg (fun g => hset g 1 (μ 0 3 + 1)) ((hOf_sw _ 0 h1.1 (by omega) _).trans (congrArg (fun g => hset g (23 + 2 * μ 0 3 + 1).toNat w) (hOf_sc _ 0 h1.1 (by omega) _))))⟩)
      · refine x_iload_n (i := 2) dX1_addTrain_16 rfl rfl ?_
        refine x_sipush dX1_addTrain_17 (by decide) ?_
        refine x_icmp_gt (tgt := 32) dX1_addTrain_20 (by decide) (by first | (unfold x_in; omega) | (unfold x_in; decide)) (by first | (unfold x_in; omega) | (unfold x_in; decide)) (fun c4 => ?_) (fun c4 => ?_)
        · refine x_iconst dX1_addTrain_32 ?_
          refine x_iret dX1_addTrain_33 rfl (x_narZ (by first | exact Or.inl rfl | exact Or.inr rfl | omega)) ?_
          first | (rw [if_neg (by omega)]; exact ⟨rfl, rfl⟩) | (rw [if_pos (by omega)]; exact ⟨rfl, (hOf_st3 _ 0 _).trans (congrArg (fun g => hset g 1 (μ 0 3 + 1)) ((hOf_sw _ 0 h1.1 (by omega) _).trans (congrArg (fun g => hset g (23 + 2 * μ 0 3 + 1).toNat w) (hOf_sc _ 0 h1.1 (by omega) _))))⟩)
        · refine x_aload_n (i := 0) dX1_addTrain_23 rfl rfl ?_
          refine x_getI xf_RX1_40 dX1_addTrain_24 rfl rfl ?_
          refine x_bipush dX1_addTrain_27 (by decide) ?_
          refine x_icmp_lt (tgt := 34) dX1_addTrain_29 (by decide) (by first | (unfold x_in; omega) | (unfold x_in; decide)) (by first | (unfold x_in; omega) | (unfold x_in; decide)) (fun c5 => ?_) (fun c5 => ?_)
          · refine x_aload_n (i := 0) dX1_addTrain_34 rfl rfl ?_
            refine x_getR xf_RX1_18 dX1_addTrain_35 rfl rfl ?_
            refine x_aload_n (i := 0) dX1_addTrain_38 rfl rfl ?_
            refine x_getI xf_RX1_40 dX1_addTrain_39 rfl rfl ?_
            refine x_iload_n (i := 1) dX1_addTrain_42 rfl rfl ?_
            refine x_iast dX1_addTrain_43 rfl (by decide) (by first | omega | decide) (by first | omega | decide) ?_
            refine x_aload_n (i := 0) dX1_addTrain_44 rfl rfl ?_
            refine x_getR xf_RX1_21 dX1_addTrain_45 rfl rfl ?_
            refine x_aload_n (i := 0) dX1_addTrain_48 rfl rfl ?_
            refine x_getI xf_RX1_40 dX1_addTrain_49 rfl rfl ?_
            try simp (decide := true) only [x_st_at, ↓reduceIte, if_true, if_false]
            refine x_iload_n (i := 2) dX1_addTrain_52 rfl rfl ?_
            refine x_iast dX1_addTrain_53 rfl (by decide) (by first | omega | decide) (by first | omega | decide) ?_
            refine x_aload_n (i := 0) dX1_addTrain_54 rfl rfl ?_
            first | refine x_dupR dX1_addTrain_55 ?_ | refine x_dupI dX1_addTrain_55 ?_
            refine x_getI xf_RX1_40 dX1_addTrain_56 rfl rfl ?_
            try simp (decide := true) only [x_st_at, ↓reduceIte, if_true, if_false]
            refine x_iconst dX1_addTrain_59 ?_
            refine x_iadd dX1_addTrain_60 ?_
            refine x_putI xp_RX1_40 dX1_addTrain_61 rfl rfl ?_
            refine x_iconst dX1_addTrain_64 ?_
            refine x_iret dX1_addTrain_65 rfl (x_narZ (by first | exact Or.inl rfl | exact Or.inr rfl | omega)) ?_
            first | (rw [if_neg (by omega)]; exact ⟨rfl, rfl⟩) | (rw [if_pos (by omega)]; exact ⟨rfl, (hOf_st3 _ 0 _).trans (congrArg (fun g => hset g 1 (μ 0 3 + 1)) ((hOf_sw _ 0 h1.1 (by omega) _).trans (congrArg (fun g => hset g (23 + 2 * μ 0 3 + 1).toNat w) (hOf_sc _ 0 h1.1 (by omega) _))))⟩)
          · refine x_iconst dX1_addTrain_32 ?_
            refine x_iret dX1_addTrain_33 rfl (x_narZ (by first | exact Or.inl rfl | exact Or.inr rfl | omega)) ?_
            first | (rw [if_neg (by omega)]; exact ⟨rfl, rfl⟩) | (rw [if_pos (by omega)]; exact ⟨rfl, (hOf_st3 _ 0 _).trans (congrArg (fun g => hset g 1 (μ 0 3 + 1)) ((hOf_sw _ 0 h1.1 (by omega) _).trans (congrArg (fun g => hset g (23 + 2 * μ 0 3 + 1).toNat w) (hOf_sc _ 0 h1.1 (by omega) _))))⟩)
set_option maxRecDepth 100000 in
set_option maxHeartbeats 4000000 in
theorem s1_putEngines (n : Int) (hn : 0 ≤ n ∧ n ≤ 9) (μ : xM) (hI : MI (hOf μ 0)) : X E0 shHill 0 yX1_putEngines cX1_putEngines 2 (some .boolean) 0 [some (.inr (.inl 0)), some (.inl n)] [] μ (fun r μ' => r = some (.inl (bI (pCm (hOf μ 0) 101 n 0).1)) ∧ ((pCm (hOf μ 0) 101 n 0).1 = true → hOf μ' 0 = (pCm (hOf μ 0) 101 n 0).2)) := by
  have h0 : 0 ≤ μ 0 0 ∧ μ 0 0 ≤ 5 := hI.1
  have h1 : 0 ≤ μ 0 3 ∧ μ 0 3 ≤ 8 := hI.2.1
  have hp : pCm (hOf μ 0) 101 n 0 = (decide (n ≤ 4), hset (hOf μ 0) 2 n) := by
    unfold pCm
    rw [if_pos rfl]
  rw [hp]
  refine x_iload_n (i := 1) dX1_putEngines_0 rfl rfl ?_
  refine x_if_lt (tgt := 9) dX1_putEngines_1 (by decide) (by first | (unfold x_in; omega) | (unfold x_in; decide)) (fun c1 => ?_) (fun c1 => ?_)
  · refine x_iconst dX1_putEngines_9 ?_
    refine x_iret dX1_putEngines_10 rfl (x_narZ (by first | exact Or.inl rfl | exact Or.inr rfl | omega)) ?_
    first | (exfalso; omega) | exact ⟨by rw [decide_eq_true (by omega)]; rfl, fun _ => hOf_st6 _ 0 _⟩ | exact ⟨by rw [decide_eq_false (by omega)]; rfl, fun q => absurd (of_decide_eq_true q) (by omega)⟩
  · refine x_iload_n (i := 1) dX1_putEngines_4 rfl rfl ?_
    refine x_iconst dX1_putEngines_5 ?_
    refine x_icmp_le (tgt := 11) dX1_putEngines_6 (by decide) (by first | (unfold x_in; omega) | (unfold x_in; decide)) (by first | (unfold x_in; omega) | (unfold x_in; decide)) (fun c2 => ?_) (fun c2 => ?_)
    · refine x_aload_n (i := 0) dX1_putEngines_11 rfl rfl ?_
      refine x_iload_n (i := 1) dX1_putEngines_12 rfl rfl ?_
      refine x_putI xp_RX1_43 dX1_putEngines_13 rfl rfl ?_
      refine x_iconst dX1_putEngines_16 ?_
      refine x_iret dX1_putEngines_17 rfl (x_narZ (by first | exact Or.inl rfl | exact Or.inr rfl | omega)) ?_
      first | (exfalso; omega) | exact ⟨by rw [decide_eq_true (by omega)]; rfl, fun _ => hOf_st6 _ 0 _⟩ | exact ⟨by rw [decide_eq_false (by omega)]; rfl, fun q => absurd (of_decide_eq_true q) (by omega)⟩
    · refine x_iconst dX1_putEngines_9 ?_
      refine x_iret dX1_putEngines_10 rfl (x_narZ (by first | exact Or.inl rfl | exact Or.inr rfl | omega)) ?_
      first | (exfalso; omega) | exact ⟨by rw [decide_eq_true (by omega)]; rfl, fun _ => hOf_st6 _ 0 _⟩ | exact ⟨by rw [decide_eq_false (by omega)]; rfl, fun q => absurd (of_decide_eq_true q) (by omega)⟩
set_option maxRecDepth 100000 in
set_option maxHeartbeats 4000000 in
theorem l1_makeAllWeigh (w : Int) (μ : xM) (hI : MI (hOf μ 0)) : ∀ (n : Nat) (p : Int) (ν : xM), 0 ≤ p → p ≤ μ 0 3 → (μ 0 3 - p).toNat < n → ν 0 3 = μ 0 3 → hOf ν 0 = hWtN (hOf μ 0) w p.toNat → X E0 shHill 0 yX1_makeAllWeigh cX1_makeAllWeigh 3 none 2 [some (.inr (.inl 0)), some (.inl w), some (.inl p)] [] ν (fun r μ' => r = none ∧ hOf μ' 0 = hWtN (hOf μ 0) w (hOf μ 0 1).toNat) := by
  have h0 : 0 ≤ μ 0 0 ∧ μ 0 0 ≤ 5 := hI.1
  have h1 : 0 ≤ μ 0 3 ∧ μ 0 3 ≤ 8 := hI.2.1
  intro n
  induction n with
  | zero => intro p ν _ _ h; omega
  | succ n ih =>
    intro p ν hp hp2 hn e3 hO
    refine x_iload_n (i := 2) dX1_makeAllWeigh_2 rfl rfl ?_
    refine x_aload_n (i := 0) dX1_makeAllWeigh_3 rfl rfl ?_
    refine x_getI xf_RX1_40 dX1_makeAllWeigh_4 rfl rfl ?_
    rw [e3]
    refine x_icmp_ge (tgt := 23) dX1_makeAllWeigh_7 (by decide) (by first | (unfold x_in; omega) | (unfold x_in; decide)) (by first | (unfold x_in; omega) | (unfold x_in; decide)) (fun c1 => ?_) (fun c1 => ?_)
    · refine x_vret dX1_makeAllWeigh_23 rfl ?_
      exact ⟨rfl, by rw [hO, show p = μ 0 3 by omega]; rfl⟩
    · refine x_aload_n (i := 0) dX1_makeAllWeigh_10 rfl rfl ?_
      refine x_getR xf_RX1_21 dX1_makeAllWeigh_11 rfl rfl ?_
      refine x_iload_n (i := 2) dX1_makeAllWeigh_14 rfl rfl ?_
      refine x_iload_n (i := 1) dX1_makeAllWeigh_15 rfl rfl ?_
      refine x_iast dX1_makeAllWeigh_16 rfl (by decide) (by first | omega | decide) (by first | omega | decide) ?_
      refine x_iinc_2 dX1_makeAllWeigh_17 (by decide) rfl ?_
      refine x_goto (tgt := 2) dX1_makeAllWeigh_20 (by decide) ?_
      exact ih (p + 1) _ (by omega) (by omega) (by omega) e3 ((hOf_sw ν 0 hp (by omega) w).trans (by rw [hO, hWtN_s _ _ hp]))
set_option maxRecDepth 100000 in
set_option maxHeartbeats 4000000 in
theorem s1_makeAllWeigh (w : Int) (μ : xM) (hI : MI (hOf μ 0)) : X E0 shHill 0 yX1_makeAllWeigh cX1_makeAllWeigh 3 none 0 [some (.inr (.inl 0)), some (.inl w), none] [] μ (fun r μ' => r = none ∧ hOf μ' 0 = hWtN (hOf μ 0) w (hOf μ 0 1).toNat) := by
  have h0 : 0 ≤ μ 0 0 ∧ μ 0 0 ≤ 5 := hI.1
  have h1 : 0 ≤ μ 0 3 ∧ μ 0 3 ≤ 8 := hI.2.1
  refine x_iconst dX1_makeAllWeigh_0 ?_
  refine x_istore_2 dX1_makeAllWeigh_1 (by decide) rfl ?_
  exact l1_makeAllWeigh w μ hI _ 0 μ (by omega) (by omega) (Nat.lt_succ_self _) rfl rfl
set_option maxRecDepth 100000 in
set_option maxHeartbeats 4000000 in
theorem l1_putOrder (c r : Int) (hc : 0 ≤ c ∧ c ≤ 8) (hr : x_in r) (μ : xM) (hI : MI (hOf μ 0)) : ∀ (n : Nat) (p : Int) (ν : xM), 0 ≤ p → p ≤ c → (c - p).toNat < n → hOf ν 0 = hPutN (hOf μ 0) r p.toNat → X E0 shHill 0 yX1_putOrder cX1_putOrder 5 none 5 [some (.inr (.inl 0)), some (.inl c), some (.inl r), some (.inl (mRs r p.toNat)), some (.inl p)] [] ν (fun r' μ' => r' = none ∧ hOf μ' 0 = hset (hPutN (hOf μ 0) r c.toNat) 3 c) := by
  intro n
  induction n with
  | zero => intro p ν _ _ h; omega
  | succ n ih =>
    intro p ν hp hp2 hn hO
    have hx := tdiv10 (mRs_in hr p.toNat)
    refine x_iload dX1_putOrder_5 rfl ?_
    refine x_iload_n (i := 1) dX1_putOrder_7 rfl rfl ?_
    refine x_icmp_ge (tgt := 40) dX1_putOrder_8 (by decide) (by first | exact mRs_in hr _ | exact hx.1 | (unfold x_in; omega) | (unfold x_in; decide)) (by first | exact mRs_in hr _ | exact hx.1 | (unfold x_in; omega) | (unfold x_in; decide)) (fun c1 => ?_) (fun c1 => ?_)
    · refine x_aload_n (i := 0) dX1_putOrder_40 rfl rfl ?_
      refine x_iload_n (i := 1) dX1_putOrder_41 rfl rfl ?_
      refine x_putI xp_RX1_46 dX1_putOrder_42 rfl rfl ?_
      refine x_vret dX1_putOrder_45 rfl ?_
      first | (exfalso; omega) | exact ⟨rfl, (hOf_st8 ν 0 c).trans (by rw [hO, show p = c by omega])⟩
    · refine x_iload dX1_putOrder_11 rfl ?_
      refine x_bipush dX1_putOrder_13 (by decide) ?_
      refine x_icmp_ge (tgt := 40) dX1_putOrder_15 (by decide) (by first | exact mRs_in hr _ | exact hx.1 | (unfold x_in; omega) | (unfold x_in; decide)) (by first | exact mRs_in hr _ | exact hx.1 | (unfold x_in; omega) | (unfold x_in; decide)) (fun c2 => ?_) (fun c2 => ?_)
      · refine x_aload_n (i := 0) dX1_putOrder_40 rfl rfl ?_
        refine x_iload_n (i := 1) dX1_putOrder_41 rfl rfl ?_
        refine x_putI xp_RX1_46 dX1_putOrder_42 rfl rfl ?_
        refine x_vret dX1_putOrder_45 rfl ?_
        first | (exfalso; omega) | exact ⟨rfl, (hOf_st8 ν 0 c).trans (by rw [hO, show p = c by omega])⟩
      · refine x_aload_n (i := 0) dX1_putOrder_18 rfl rfl ?_
        refine x_getR xf_RX1_27 dX1_putOrder_19 rfl rfl ?_
        refine x_iload dX1_putOrder_22 rfl ?_
        refine x_iload_n (i := 3) dX1_putOrder_24 rfl rfl ?_
        refine x_bipush dX1_putOrder_25 (by decide) ?_
        refine x_irem dX1_putOrder_27 (by first | exact mRs_in hr _ | exact hx.1 | (unfold x_in; omega) | (unfold x_in; decide)) (by first | exact mRs_in hr _ | exact hx.1 | (unfold x_in; omega) | (unfold x_in; decide)) (by first | exact mRs_in hr _ | exact hx.1 | (unfold x_in; omega) | (unfold x_in; decide)) (by decide) ?_
        refine x_iast dX1_putOrder_28 rfl (by decide) (by first | omega | decide) (by first | omega | decide) ?_
        refine x_iload_n (i := 3) dX1_putOrder_29 rfl rfl ?_
        refine x_bipush dX1_putOrder_30 (by decide) ?_
        refine x_idiv dX1_putOrder_32 (by first | exact mRs_in hr _ | exact hx.1 | (unfold x_in; omega) | (unfold x_in; decide)) (by first | exact mRs_in hr _ | exact hx.1 | (unfold x_in; omega) | (unfold x_in; decide)) (by first | exact mRs_in hr _ | exact hx.1 | (unfold x_in; omega) | (unfold x_in; decide)) (by decide) ?_
        refine x_istore_3 dX1_putOrder_33 (by decide) rfl ?_
        refine x_iinc_4 dX1_putOrder_34 (by decide) rfl ?_
        refine x_goto (tgt := 5) dX1_putOrder_37 (by decide) ?_
        have h := ih (p + 1) _ (by omega) (by omega) (by omega) ((hOf_so ν 0 hp (by omega) (mDig (mRs r p.toNat))).trans (by rw [hO, hPutN_s _ _ hp]))
        rw [mRs_s _ hp] at h
        exact h
set_option maxRecDepth 100000 in
set_option maxHeartbeats 4000000 in
theorem s1_putOrder (c r : Int) (hc : 0 ≤ c ∧ c ≤ 8) (hr : x_in r) (μ : xM) (hI : MI (hOf μ 0)) : X E0 shHill 0 yX1_putOrder cX1_putOrder 5 none 0 [some (.inr (.inl 0)), some (.inl c), some (.inl r), none, none] [] μ (fun r' μ' => r' = none ∧ hOf μ' 0 = hset (hPutN (hOf μ 0) r c.toNat) 3 c) := by
  refine x_iload_n (i := 2) dX1_putOrder_0 rfl rfl ?_
  refine x_istore_3 dX1_putOrder_1 (by decide) rfl ?_
  refine x_iconst dX1_putOrder_2 ?_
  refine x_istore_4 dX1_putOrder_3 (by decide) rfl ?_
  exact l1_putOrder c r hc hr μ hI _ 0 μ (by omega) (by omega) (Nat.lt_succ_self _) rfl
set_option maxRecDepth 100000 in
set_option maxHeartbeats 4000000 in
theorem l1_areDifferentTrains (c r : Int) (hc : 0 ≤ c ∧ c ≤ 8) (μ : xM) (hI : MI (hOf μ 0)) : ∀ (k : Nat) (i r2 : Int) (Z : Nat) (z6 : Option xA), 0 ≤ i → i + k = c → x_in r2 → Z < 256 → X E0 shHill 1 yX1_areDifferentTrains cX1_areDifferentTrains 7 (some .boolean) 8 [some (.inr (.inl 0)), some (.inl c), some (.inl r), some (.inl (Z : Int)), some (.inl r2), some (.inl i), z6] [] μ (x_Q (bI (mOkN (hOf μ 0) k r2 Z)) μ) := by
  have h0 : 0 ≤ μ 0 0 ∧ μ 0 0 ≤ 5 := hI.1
  have h1 : 0 ≤ μ 0 3 ∧ μ 0 3 ≤ 8 := hI.2.1
  intro k
  induction k with
  | zero =>
    intro i r2 Z z6 h0 hi hr2 hS
    refine x_iload dX1_areDifferentTrains_8 rfl ?_
    refine x_iload_n (i := 1) dX1_areDifferentTrains_10 rfl rfl ?_
    refine x_icmp_ge (tgt := 62) dX1_areDifferentTrains_11 (by decide) (by first | (unfold x_in; omega) | (unfold x_in; decide)) (by first | (unfold x_in; omega) | (unfold x_in; decide)) (fun c1 => ?_) (fun c1 => ?_)
    · refine x_iconst dX1_areDifferentTrains_62 ?_
      exact x_iret dX1_areDifferentTrains_63 rfl (x_narZ (by first | exact Or.inl rfl | exact Or.inr rfl | omega)) (x_ok (by first | rfl | omega | (simp [*]; done)) (by rfl))
    · exact absurd c1 (by omega)
  | succ k ih =>
    intro i r2 Z z6 h0 hi hr2 hS
    have hx := tdiv10 hr2
    have hm := mIn_in (mDig r2) (hOf μ 0 1)
    refine x_iload dX1_areDifferentTrains_8 rfl ?_
    refine x_iload_n (i := 1) dX1_areDifferentTrains_10 rfl rfl ?_
    refine x_icmp_ge (tgt := 62) dX1_areDifferentTrains_11 (by decide) (by first | exact hr2 | exact hx.1 | (unfold x_in; omega) | (unfold x_in; decide)) (by first | exact hr2 | exact hx.1 | (unfold x_in; omega) | (unfold x_in; decide)) (fun c1 => ?_) (fun c1 => ?_)
    · exact absurd c1 (by omega)
    · refine x_iload dX1_areDifferentTrains_14 rfl ?_
      refine x_bipush dX1_areDifferentTrains_16 (by decide) ?_
      refine x_irem dX1_areDifferentTrains_18 (by first | exact hr2 | exact hx.1 | (unfold x_in; omega) | (unfold x_in; decide)) (by first | exact hr2 | exact hx.1 | (unfold x_in; omega) | (unfold x_in; decide)) (by first | exact hr2 | exact hx.1 | (unfold x_in; omega) | (unfold x_in; decide)) (by decide) ?_
      show X E0 shHill 1 yX1_areDifferentTrains cX1_areDifferentTrains 7 (some .boolean) _ _ (Sum.inl (mDig r2) :: _) _ _
      refine x_istore_6 dX1_areDifferentTrains_19 (by decide) rfl ?_
      refine x_iload dX1_areDifferentTrains_21 rfl ?_
      refine x_bipush dX1_areDifferentTrains_23 (by decide) ?_
      refine x_idiv dX1_areDifferentTrains_25 (by first | exact hr2 | exact hx.1 | (unfold x_in; omega) | (unfold x_in; decide)) (by first | exact hr2 | exact hx.1 | (unfold x_in; omega) | (unfold x_in; decide)) (by first | exact hr2 | exact hx.1 | (unfold x_in; omega) | (unfold x_in; decide)) (by decide) ?_
      refine x_istore_4 dX1_areDifferentTrains_26 (by decide) rfl ?_
      refine x_aload_n (i := 0) dX1_areDifferentTrains_28 rfl rfl ?_
      refine x_iload dX1_areDifferentTrains_29 rfl ?_
      refine x_cIp0_1 lk_RX1_57 xm_X1_hasTrain dX1_areDifferentTrains_31 (s1_hasTrain _ (by unfold x_in; omega) _ hI) ?_
      refine x_if_eq (tgt := 47) dX1_areDifferentTrains_34 (by decide) (by first | exact hr2 | exact hx.1 | (unfold x_in; omega) | (unfold x_in; decide)) (fun c2 => ?_) (fun c2 => ?_)
      · refine x_iconst dX1_areDifferentTrains_47 ?_
        refine x_iret dX1_areDifferentTrains_48 rfl (x_narZ (by first | exact Or.inl rfl | exact Or.inr rfl | omega)) ?_
        refine x_ok ?_ rfl
        first | (have hb : mOkN (hOf μ 0) (k + 1) r2 Z = false := (by rw [mOkN]; exact if_neg (fun q => mIn_f c2 q.1)); rw [hb]; rfl) | (have hb : mOkN (hOf μ 0) (k + 1) r2 Z = false := (by rw [mOkN]; exact if_neg (fun q => absurd (q.2.symm.trans (htst.2 (by omega))) (by decide))); rw [hb]; rfl)
      · have ht := mIn_t c2
        have h10 : hOf μ 0 1 ≤ 8 := h1.2
        have htn : (mDig r2).toNat < 8 := by omega
        have eb : ((mDig r2).toNat : Int) = mDig r2 := nat_back ht.1
        have hshr := bit_shr Z hS (mDig r2).toNat htn
        have hand := bit_and (Z >>> (mDig r2).toNat) (bit_lt2 Z hS _ htn)
        have hshl := bit_shl (mDig r2).toNat htn
        have hor := bit_or Z hS (mDig r2).toNat htn
        have htst := bit_tst Z hS (mDig r2).toNat htn
        have hone := bit_one (Z >>> (mDig r2).toNat) (bit_lt2 Z hS _ htn)
        rw [eb] at hshr hshl
        refine x_iload_n (i := 3) dX1_areDifferentTrains_37 rfl rfl ?_
        refine x_iload dX1_areDifferentTrains_38 rfl ?_
        refine x_ishr (r := ((Z >>> (mDig r2).toNat : Nat) : Int)) dX1_areDifferentTrains_40 (hshr) ?_
        refine x_iconst dX1_areDifferentTrains_41 ?_
        refine x_iand (r := ((Z >>> (mDig r2).toNat &&& 1 : Nat) : Int)) dX1_areDifferentTrains_42 (hand) ?_
        refine x_iconst dX1_areDifferentTrains_43 ?_
        refine x_icmp_ne (tgt := 49) dX1_areDifferentTrains_44 (by decide) (by first | exact hr2 | exact hx.1 | (unfold x_in; omega) | (unfold x_in; decide)) (by first | exact hr2 | exact hx.1 | (unfold x_in; omega) | (unfold x_in; decide)) (fun c3 => ?_) (fun c3 => ?_)
        · refine x_iload_n (i := 3) dX1_areDifferentTrains_49 rfl rfl ?_
          refine x_iconst dX1_areDifferentTrains_50 ?_
          refine x_iload dX1_areDifferentTrains_51 rfl ?_
          refine x_ishl (r := ((2 ^ (mDig r2).toNat : Nat) : Int)) dX1_areDifferentTrains_53 (hshl) ?_
          refine x_ior (r := ((Z ||| 2 ^ (mDig r2).toNat : Nat) : Int)) dX1_areDifferentTrains_54 (hor) ?_
          refine x_istore_3 dX1_areDifferentTrains_55 (by decide) rfl ?_
          refine x_iinc_5 dX1_areDifferentTrains_56 (by decide) rfl ?_
          refine x_goto (tgt := 8) dX1_areDifferentTrains_59 (by decide) ?_
          have hb : mOkN (hOf μ 0) (k + 1) r2 Z = mOkN (hOf μ 0) k (r2.tdiv 10) (Z ||| 2 ^ (mDig r2).toNat) := (by rw [mOkN]; exact if_pos ⟨ht, Bool.eq_false_iff.mpr (fun q => absurd (htst.1 q) (by omega))⟩)
          rw [hb]
          exact ih (i + 1) _ _ _ (by omega) (by omega) hx.1 (bit_lt Z hS _ htn)
        · refine x_iconst dX1_areDifferentTrains_47 ?_
          refine x_iret dX1_areDifferentTrains_48 rfl (x_narZ (by first | exact Or.inl rfl | exact Or.inr rfl | omega)) ?_
          refine x_ok ?_ rfl
          first | (have hb : mOkN (hOf μ 0) (k + 1) r2 Z = false := (by rw [mOkN]; exact if_neg (fun q => mIn_f c2 q.1)); rw [hb]; rfl) | (have hb : mOkN (hOf μ 0) (k + 1) r2 Z = false := (by rw [mOkN]; exact if_neg (fun q => absurd (q.2.symm.trans (htst.2 (by omega))) (by decide))); rw [hb]; rfl)
set_option maxRecDepth 100000 in
set_option maxHeartbeats 4000000 in
theorem s1_areDifferentTrains (c r : Int) (hc : 0 ≤ c ∧ c ≤ 8) (hr : x_in r) (μ : xM) (hI : MI (hOf μ 0)) : X E0 shHill 1 yX1_areDifferentTrains cX1_areDifferentTrains 7 (some .boolean) 0 [some (.inr (.inl 0)), some (.inl c), some (.inl r), none, none, none, none] [] μ (x_Q (bI (mOkN (hOf μ 0) c.toNat r 0)) μ) := by
  refine x_iconst dX1_areDifferentTrains_0 ?_
  refine x_istore_3 dX1_areDifferentTrains_1 (by decide) rfl ?_
  refine x_iload_n (i := 2) dX1_areDifferentTrains_2 rfl rfl ?_
  refine x_istore_4 dX1_areDifferentTrains_3 (by decide) rfl ?_
  refine x_iconst dX1_areDifferentTrains_5 ?_
  refine x_istore_5 dX1_areDifferentTrains_6 (by decide) rfl ?_
  exact l1_areDifferentTrains c r hc μ hI c.toNat 0 r 0 none (by omega) (by omega) hr (by decide)
set_option maxRecDepth 100000 in
set_option maxHeartbeats 4000000 in
theorem l1_orderByNumber (h : Nat → Int) (N : Int) (hN : 0 ≤ N ∧ N ≤ 8) : ∀ (n : Nat) (p : Int) (ν : xM), 0 ≤ p → p ≤ N → (N - p).toNat < n → ν 0 3 = N → hOf ν 0 = hOrdN h p.toNat → X E0 shHill 0 yX1_orderByNumber cX1_orderByNumber 2 none 10 [some (.inr (.inl 0)), some (.inl p)] [] ν (fun r μ' => r = none ∧ hOf μ' 0 = hOrdN h N.toNat) := by
  intro n
  induction n with
  | zero => intro p ν _ _ h; omega
  | succ n ih =>
    intro p ν hp hp2 hn e3 hO
    refine x_iload_n (i := 1) dX1_orderByNumber_10 rfl rfl ?_
    refine x_aload_n (i := 0) dX1_orderByNumber_11 rfl rfl ?_
    refine x_getI xf_RX1_40 dX1_orderByNumber_12 rfl rfl ?_
    rw [e3]
    refine x_icmp_ge (tgt := 31) dX1_orderByNumber_15 (by decide) (by first | (unfold x_in; omega) | (unfold x_in; decide)) (by first | (unfold x_in; omega) | (unfold x_in; decide)) (fun c1 => ?_) (fun c1 => ?_)
    · refine x_vret dX1_orderByNumber_31 rfl ?_
      exact ⟨rfl, by rw [hO, show p = N by omega]⟩
    · refine x_aload_n (i := 0) dX1_orderByNumber_18 rfl rfl ?_
      refine x_getR xf_RX1_27 dX1_orderByNumber_19 rfl rfl ?_
      refine x_iload_n (i := 1) dX1_orderByNumber_22 rfl rfl ?_
      refine x_iload_n (i := 1) dX1_orderByNumber_23 rfl rfl ?_
      refine x_iast dX1_orderByNumber_24 rfl (by decide) (by first | omega | decide) (by first | omega | decide) ?_
      refine x_iinc_1 dX1_orderByNumber_25 (by decide) rfl ?_
      refine x_goto (tgt := 10) dX1_orderByNumber_28 (by decide) ?_
      exact ih (p + 1) _ (by omega) (by omega) (by omega) e3 ((hOf_so ν 0 hp (by omega) p).trans (by rw [hO, hOrdN_s _ hp]))
set_option maxRecDepth 100000 in
set_option maxHeartbeats 4000000 in
theorem s1_orderByNumber (μ : xM) (hI : MI (hOf μ 0)) : X E0 shHill 0 yX1_orderByNumber cX1_orderByNumber 2 none 0 [some (.inr (.inl 0)), none] [] μ (fun r μ' => r = none ∧ hOf μ' 0 = hOrdN (hset (hOf μ 0) 3 (hOf μ 0 1)) (hOf μ 0 1).toNat) := by
  have h0 : 0 ≤ μ 0 0 ∧ μ 0 0 ≤ 5 := hI.1
  have h1 : 0 ≤ μ 0 3 ∧ μ 0 3 ≤ 8 := hI.2.1
  refine x_aload_n (i := 0) dX1_orderByNumber_0 rfl rfl ?_
  refine x_aload_n (i := 0) dX1_orderByNumber_1 rfl rfl ?_
  refine x_getI xf_RX1_40 dX1_orderByNumber_2 rfl rfl ?_
  refine x_putI xp_RX1_46 dX1_orderByNumber_5 rfl rfl ?_
  refine x_iconst dX1_orderByNumber_8 ?_
  refine x_istore_1 dX1_orderByNumber_9 (by decide) rfl ?_
  exact l1_orderByNumber _ (μ 0 3) h1 _ 0 _ (by omega) (by omega) (Nat.lt_succ_self _) rfl (hOf_st8 μ 0 _)
