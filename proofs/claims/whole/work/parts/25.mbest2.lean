/-! THE REFERENCE: what all wait is never below nothing; best -/
theorem BG_min (m : Int) {μ : xM} (hI : MI (μ 2)) (h : ∀ t : Nat, t < 8 → 0 ≤ μ 9 t → mCm (μ 2) t ≤ μ 9 t ∧ μ 9 t < m) : ∀ t : Nat, t < 8 → 0 ≤ mMin m μ 9 t → mCm (mMin m μ 2) t ≤ mMin m μ 9 t ∧ mMin m μ 9 t < m + 1 := by
  intro t ht
  have e2 := mMin_2 m μ
  rw [e2]
  have e9 := mEnds_9 m μ
  have k0 : 0 ≤ μ 9 t → mCm (μ 2) t ≤ μ 9 t ∧ μ 9 t < m + 1 := fun q => by
    have := h t ht q
    omega
  unfold mMin mMin1
  split
  · show 0 ≤ mEnds m μ 9 t → mCm (μ 2) t ≤ mEnds m μ 9 t ∧ mEnds m μ 9 t < m + 1
    rw [e9]
    exact k0
  · split
    next hb =>
      have hw := mBsN_in (mEnds m μ) m (mEnds m μ 2 1).toNat
      have hw2 : mCan (mEnds m μ) m (mBest (mEnds m μ) m) := by
        rcases hw with q | q
        · have : mBest (mEnds m μ) m = -9 := q
          omega
        · exact q.2.2
      have hc := hw2.1.2.1
      rw [mEnds_2] at hc
      show 0 ≤ (if t = (mBest (mEnds m μ) m).toNat then m else mEnds m μ 9 t) → mCm (μ 2) t ≤ (if t = (mBest (mEnds m μ) m).toNat then m else mEnds m μ 9 t) ∧ (if t = (mBest (mEnds m μ) m).toNat then m else mEnds m μ 9 t) < m + 1
      split
      next e =>
        intro _
        have : ((t : Nat) : Int) = mBest (mEnds m μ) m := by omega
        rw [this]
        omega
      next e =>
        rw [e9]
        exact k0
    next =>
      rw [e9]
      exact k0
theorem BG_run {μ : xM} (hI : MI (μ 2)) (h : ∀ t : Nat, t < 8 → μ 9 t < 0) : ∀ (k t : Nat), t < 8 → 0 ≤ mRun μ k 9 t → mCm (mRun μ k 2) t ≤ mRun μ k 9 t ∧ mRun μ k 9 t < k
  | 0, t, ht, q => by
    have := h t ht
    have q2 : 0 ≤ μ 9 t := q
    omega
  | k + 1, t, ht, q => by
    rw [mRun] at q ⊢
    have := BG_min (k : Int) (μ := mRun μ k) (by rw [mRun_2]; exact hI) (fun t ht q => BG_run hI h k t ht q) t ht q
    exact ⟨this.1, by omega⟩
theorem dBeg_ge {h : Nat → Int} (hI : MI h) {t : Int} (h0 : 0 ≤ t) (h8 : t < 8) (hb : 0 ≤ dBeg h t) : mCm h t ≤ dBeg h t ∧ dBeg h t ≤ 1440 := by
  have e2 : mOpens (canon h) 2 = h := (mOpens_c (canon h)).1
  have e9 : ∀ t : Nat, t < 8 → mOpens (canon h) 9 t < 0 := fun t ht => by rw [((mOpens_c (canon h)).2.2.1 t ht).2]; decide
  have := BG_run (μ := mOpens (canon h)) (by rw [e2]; exact hI) e9 1441 t.toNat (by omega) hb
  rw [mRun_2, e2, nat_back h0] at this
  unfold dBeg mDay
  omega
theorem dAllN_ge {h : Nat → Int} (hI : MI h) : ∀ k : Nat, k ≤ 8 → 0 ≤ dAllN h k
  | 0, _ => by simp [dAllN]
  | k + 1, hk => by
    have h1 := dAllN_ge hI k (by omega)
    have h3 := mCm_in hI (t := k) (by omega) (by omega)
    rw [dAllN]
    split
    next q =>
      have h2 := dBeg_ge hI (t := k) (by omega) (by omega) q
      omega
    next => split <;> omega
theorem dAll_ge {h : Nat → Int} (hI : MI h) : 0 ≤ dAll h := by
  have h1 := hI.2.1
  exact dAllN_ge hI _ (by omega)
def hB (h : Nat → Int) : Nat → Int := hset (hset h 11 3) 3 (h 1)
def dBest (h : Nat → Int) : Int × List Nat := (pGen (h 1).toNat (h 1).toNat [] 0).foldl (lfB (dF (h 1).toNat (hB h))) (-9, [])
theorem MI_hB {h : Nat → Int} (hI : MI h) : MI (hB h) := by
  have h10 := hI.2.1
  obtain ⟨a0, a1, a2, a3, a4, a5, a6, a7, a8, a9, a10, a11, a12, ap, at_, ao⟩ := hI
  refine ⟨a0, a1, a2, ?_, a4, a5, a6, a7, a8, a9, a10, ?_, a12, fun p p0 p5 => ?_, fun t t0 t8 => ?_, fun k k0 k8 => ?_⟩
  · show 0 ≤ h 1 ∧ h 1 ≤ 8
    omega
  · show 0 ≤ (3 : Int) ∧ (3 : Int) ≤ 3
    omega
  · unfold hB hset
    rw [if_neg (by omega), if_neg (by omega), if_neg (by omega), if_neg (by omega)]
    exact ap p p0 p5
  · unfold hB hset
    rw [if_neg (by omega), if_neg (by omega), if_neg (by omega), if_neg (by omega)]
    exact at_ t t0 t8
  · unfold hB hset
    rw [if_neg (by omega), if_neg (by omega)]
    exact ao k k0 k8
theorem MI_soN {N : Nat} {h : Nat → Int} (hI : MI h) (hN : N ≤ 5) {p : List Nat} (hp : ∀ k, p.getD k 0 ≤ 9) : MI (soN N h p) := by
  refine MI_ord hI (fun j hj => ?_) (fun k k0 k8 => ?_)
  · unfold soN
    rw [if_neg (by omega)]
  · unfold soN
    obtain ⟨-, -, -, -, -, -, -, -, -, -, -, -, -, -, -, ao⟩ := hI
    split
    · have := hp ((39 + k).toNat - 39)
      omega
    · exact ao k k0 k8
theorem lfB_ge {F : List Nat → Int} : ∀ (l : List (List Nat)) (B : Int × List Nat), (∀ p, p ∈ l → 0 ≤ F p) → (0 ≤ B.1 ∨ l ≠ []) → 0 ≤ (l.foldl (lfB F) B).1
  | [], B, _, h => by
    rcases h with h | h
    · exact h
    · exact absurd rfl h
  | p :: l, B, hF, _ => by
    rw [List.foldl_cons]
    refine lfB_ge l _ (fun q hq => hF q (List.mem_cons_of_mem _ hq)) (Or.inl ?_)
    unfold lfB
    split
    next q => exact q.1
    next => exact hF p List.mem_cons_self
theorem pGen_small : ∀ N, N < 6 → ((pGen N N [] 0).all (fun p => p.all (fun x => decide (x < N)) && decide (p.length = N)) = true ∧ pGen N N [] 0 ≠ []) := by decide +kernel
theorem getD_all {N : Nat} : ∀ (p : List Nat), p.all (fun x => decide (x < N)) = true → ∀ k, p.getD k 0 ≤ N
  | [], _, k => by simp
  | a :: l, h, 0 => by
    simp at h
    simp
    omega
  | a :: l, h, k + 1 => by
    simp only [List.all_cons, Bool.and_eq_true] at h
    have := getD_all l h.2 k
    simpa using this
theorem pGen_digit {N : Nat} (hN : N < 6) {p : List Nat} (hp : p ∈ pGen N N [] 0) : ∀ k, p.getD k 0 ≤ 9 := by
  have h := (pGen_small N hN).1
  have h2 := List.all_eq_true.mp h p hp
  simp only [Bool.and_eq_true] at h2
  intro k
  have := getD_all p h2.1 k
  omega
theorem dBest_ge {h : Nat → Int} (hI : MI h) (h5 : h 1 ≤ 5) : 0 ≤ (dBest h).1 := by
  have h10 := hI.2.1
  refine lfB_ge _ _ (fun p hp => ?_) (Or.inr (pGen_small _ (by omega)).2)
  exact dAll_ge (MI_soN (MI_hB hI) (by omega) (pGen_digit (by omega) hp))
set_option maxRecDepth 100000 in
set_option maxHeartbeats 4000000 in
theorem s6_best (i : Int) (hi : x_in i) (μ : xM) (hG : GI μ) : X E0 shM 14 yX6_best cX6_best 3 (some .int) 0 [some (.inr (.inl 0)), some (.inl i), none] [] μ (PQ (if i < -1 then -4 else if 5 < μ 2 1 then -6 else if i < 0 then (dBest (μ 2)).1 else if i < μ 2 1 then (((dBest (μ 2)).2.getD i.toNat 0 : Nat) : Int) else -9) (if i < -1 then mRef μ (-4) else if 5 < μ 2 1 then mRef μ (-6) else μ)) := by
  have hI := hG.1
  have h10 := hI.2.1
  have hi2 := hi
  unfold x_in at hi2
  have e2 : mCp μ 10 2 47 2 = μ 2 := mCp_ne _ _ _ (by decide) _
  have e10 : mCp μ 10 2 47 10 = μ 2 := mCp_all (fun j hj => ⟨(hG.2.1 j hj).1, (hG.2.1 j hj).2.2.2⟩)
  have hn1 : ((μ 2 1).toNat : Int) = μ 2 1 := nat_back h10.1
  have hB0 : BR (mCp μ 10 2 47) (μ 2 1).toNat (hB (μ 2)) (x_st (x_st (x_st (mCp μ 10 2 47) 2 11 3) 2 3 (μ 2 1)) 0 20 (-9)) [] (-9, []) := by
    have eh : (x_st (x_st (x_st (mCp μ 10 2 47) 2 11 3) 2 3 (μ 2 1)) 0 20 (-9)) 2 = hB (μ 2) := by
      show (x_st (x_st (mCp μ 10 2 47) 2 11 3) 2 3 (μ 2 1)) 2 = _
      rw [x_st_2, x_st_2, e2]
      rfl
    refine ⟨fun k hk => absurd hk (Nat.not_lt_zero _), fun j _ => by rw [eh], rfl, fun q => absurd q (by decide), fun j hj h20 => ?_, fun k k0 k2 _ _ _ _ => ?_, by rw [eh]; exact (MI_hB hI).2.2.2.2.2.2.2.2.2.2.2.2.2.2.2, by decide⟩
    · simp [x_st, h20]
    · funext x
      simp [x_st, k0, k2]
  by_cases h5 : μ 2 1 ≤ 5
  · have hdb := dBest_ge hI h5
    refine x_iload_n (i := 1) dX6_best_0 rfl rfl ?_
    refine x_iconst dX6_best_1 ?_
    refine x_icmp_ge (tgt := 10) dX6_best_2 (by decide) (by first | (unfold x_in; omega) | (unfold x_in; decide)) (by first | (unfold x_in; omega) | (unfold x_in; decide)) (fun c1 => ?_) (fun c1 => ?_)
    · refine x_aload_n (i := 0) dX6_best_10 rfl rfl ?_
      refine x_getR xf_RX6_13 dX6_best_11 rfl rfl ?_
      refine x_iconst dX6_best_14 ?_
      refine x_ialdK (K := 1) dX6_best_15 rfl rfl (by decide) (by decide) ?_
      refine x_iconst dX6_best_16 ?_
      refine x_icmp_le (tgt := 25) dX6_best_17 (by decide) (by first | (unfold x_in; omega) | (unfold x_in; decide)) (by first | (unfold x_in; omega) | (unfold x_in; decide)) (fun c2 => ?_) (fun c2 => ?_)
      · refine x_iconst dX6_best_25 ?_
        refine x_istore_2 dX6_best_26 (by decide) rfl ?_
        refine x_iload_n (i := 2) dX6_best_27 rfl rfl ?_
        refine x_if_eq (tgt := 37) dX6_best_28 (by decide) (by first | (unfold x_in; omega) | (unfold x_in; decide)) (fun c3 => ?_) (fun c3 => ?_)
        · refine x_aload_n (i := 0) dX6_best_37 rfl rfl ?_
          refine x_cVf0_0 lk_RX6_198 xm_X6_keeps dX6_best_38 (s6_keeps _) ?_
          refine x_aload_n (i := 0) dX6_best_41 rfl rfl ?_
          refine x_getR xf_RX6_13 dX6_best_42 rfl rfl ?_
          refine x_bipush dX6_best_45 (by decide) ?_
          refine x_iconst dX6_best_47 ?_
          skip
          refine x_iastK (K := 11) dX6_best_48 rfl rfl (by decide) (by decide) ?_
          refine x_aload_n (i := 0) dX6_best_49 rfl rfl ?_
          refine x_getR xf_RX6_13 dX6_best_50 rfl rfl ?_
          refine x_iconst dX6_best_53 ?_
          refine x_aload_n (i := 0) dX6_best_54 rfl rfl ?_
          refine x_getR xf_RX6_13 dX6_best_55 rfl rfl ?_
          refine x_iconst dX6_best_58 ?_
          refine x_ialdK (K := 1) dX6_best_59 rfl rfl (by decide) (by decide) ?_
          try simp (decide := true) only [x_st_at, ↓reduceIte, if_true, if_false]
          have e21 : (mCp μ 10 2 47) 2 1 = μ 2 1 := by rw [e2]
          rw [e21]
          refine x_iastK (K := 3) dX6_best_60 rfl rfl (by decide) (by decide) ?_
          refine x_aload_n (i := 0) dX6_best_61 rfl rfl ?_
          refine x_bipush dX6_best_62 (by decide) ?_
          refine x_putI xp_RX6_192 dX6_best_64 rfl rfl ?_
          refine x_aload_n (i := 0) dX6_best_67 rfl rfl ?_
          refine x_iconst dX6_best_68 ?_
          refine x_iconst dX6_best_69 ?_
          refine x_cV0_2 lk_RX6_195 xm_X6_goesOn dX6_best_70 ((s6_goesOn (mCp μ 10 2 47) (μ 2 1).toNat (by omega) (hB (μ 2)) (MI_hB hI) (by rw [hn1]; rfl) (μ 2 1).toNat [] 0 _ (-9, []) 0 rfl (by simp) (by decide) hB0).deep (d' := 13) (by omega)) (fun μ' hq => ?_)
          obtain ⟨-, hB1⟩ := hq
          have hBd : (pGen (μ 2 1).toNat (μ 2 1).toNat [] 0).foldl (lfB (dF (μ 2 1).toNat (hB (μ 2)))) (-9, []) = dBest (μ 2) := rfl
          rw [hBd] at hB1
          have hf := hB1.2.2.2.2.2.1
          have f10 : μ' 10 = μ 2 := by rw [hf 10 (by decide) (by decide) (by decide) (by decide) (by decide) (by decide), e10]
          have z2 : ∀ j, 47 ≤ j → μ' 10 j = 0 ∧ μ' 2 j = 0 := fun j hj => ⟨by rw [f10]; exact (hG.2.1 j hj).1, by rw [hB1.2.1 j (Or.inr (by omega))]; unfold hB hset; rw [if_neg (by omega), if_neg (by omega)]; exact (hG.2.1 j hj).1⟩
          have fk : ∀ k, k ≠ 0 → k ≠ 2 → k ≠ 7 → k ≠ 8 → k ≠ 9 → k ≠ 10 → k ≠ 11 → mCp μ' 2 10 47 k = μ k := fun k k0 k2 k7 k8 k9 k10 k11 => by rw [mCp_ne _ _ _ k2, hf k k0 k2 k7 k8 k9 k11, mCp_ne _ _ _ k10]
          have f0 : ∀ j, (j < 12 ∨ 17 < j) → j ≠ 20 → mCp μ' 2 10 47 0 j = μ 0 j := fun j hj h20 => by rw [mCp_ne _ _ _ (by decide), hB1.2.2.2.2.1 j hj h20, mCp_ne _ _ _ (by decide)]
          have f2 : mCp μ' 2 10 47 2 = μ 2 := by rw [mCp_all z2, f10]
          have hA : Abs μ (mCp μ' 2 10 47) := ⟨fk 1 (by decide) (by decide) (by decide) (by decide) (by decide) (by decide) (by decide), f2, fk 3 (by decide) (by decide) (by decide) (by decide) (by decide) (by decide) (by decide), fk 5 (by decide) (by decide) (by decide) (by decide) (by decide) (by decide) (by decide), fk 12 (by decide) (by decide) (by decide) (by decide) (by decide) (by decide) (by decide), f0 4 (by decide) (by decide), f0 7 (by decide) (by decide), f0 22 (by decide) (by decide), fun j hj => ⟨by rw [fk 4 (by decide) (by decide) (by decide) (by decide) (by decide) (by decide) (by decide)]; exact (hG.2.1 j hj).2.2.1, by rw [mCp_ne _ _ _ (by decide), f10]; exact (hG.2.1 j hj).1⟩⟩
          have f20 : mCp μ' 2 10 47 0 20 = (dBest (μ 2)).1 := by rw [mCp_ne _ _ _ (by decide)]; exact hB1.2.2.1
          have f11 : ∀ k, k < (μ 2 1).toNat → mCp μ' 2 10 47 11 k = (((dBest (μ 2)).2.getD k 0 : Nat) : Int) := fun k hk => by rw [mCp_ne _ _ _ (by decide)]; exact hB1.2.2.2.1 hdb k hk
          refine x_aload_n (i := 0) dX6_best_73 rfl rfl ?_
          refine x_cVf0_0 lk_RX6_201 xm_X6_putsBack dX6_best_74 (s6_putsBack _) ?_
          refine x_iload_n (i := 1) dX6_best_77 rfl rfl ?_
          refine x_if_ge (tgt := 88) dX6_best_78 (by decide) (by first | (unfold x_in; omega) | (unfold x_in; decide)) (fun c4 => ?_) (fun c4 => ?_)
          · refine x_iload_n (i := 1) dX6_best_88 rfl rfl ?_
            refine x_aload_n (i := 0) dX6_best_89 rfl rfl ?_
            refine x_getR xf_RX6_13 dX6_best_90 rfl rfl ?_
            refine x_iconst dX6_best_93 ?_
            refine x_ialdK (K := 1) dX6_best_94 rfl rfl (by decide) (by decide) ?_
            try simp (decide := true) only [x_st_at, ↓reduceIte, if_true, if_false]
            rw [f2]
            refine x_icmp_ge (tgt := 107) dX6_best_95 (by decide) (by first | (unfold x_in; omega) | (unfold x_in; decide)) (by first | (unfold x_in; omega) | (unfold x_in; decide)) (fun c5 => ?_) (fun c5 => ?_)
            · refine x_bipush dX6_best_107 (by decide) ?_
              refine x_iret dX6_best_109 rfl rfl ?_
              first | (exfalso; omega) | (refine ⟨?_, by rw [if_pos c1]; exact Abs.ref hG _⟩; rw [if_pos c1]) | (rw [if_neg (show ¬ i < -1 by omega), if_neg (show ¬ i < -1 by omega), if_neg (show ¬ 5 < μ 2 1 by omega), if_neg (show ¬ 5 < μ 2 1 by omega)]; refine ⟨?_, hA⟩; first | (rw [if_pos (by omega), f20]) | (rw [if_neg (by omega), if_pos (by omega), f11 _ (by omega)]) | (rw [if_neg (by omega), if_neg (by omega)]))
            · refine x_aload_n (i := 0) dX6_best_98 rfl rfl ?_
              refine x_getR xf_RX6_40 dX6_best_99 rfl rfl ?_
              refine x_iload_n (i := 1) dX6_best_102 rfl rfl ?_
              refine x_iald dX6_best_103 rfl (by decide) (by first | omega | decide) (by first | omega | decide) ?_
              try simp (decide := true) only [x_st_at, ↓reduceIte, if_true, if_false]
              refine x_goto (tgt := 109) dX6_best_104 (by decide) ?_
              refine x_iret dX6_best_109 rfl rfl ?_
              first | (exfalso; omega) | (refine ⟨?_, by rw [if_pos c1]; exact Abs.ref hG _⟩; rw [if_pos c1]) | (rw [if_neg (show ¬ i < -1 by omega), if_neg (show ¬ i < -1 by omega), if_neg (show ¬ 5 < μ 2 1 by omega), if_neg (show ¬ 5 < μ 2 1 by omega)]; refine ⟨?_, hA⟩; first | (rw [if_pos (by omega), f20]) | (rw [if_neg (by omega), if_pos (by omega), f11 _ (by omega)]) | (rw [if_neg (by omega), if_neg (by omega)]))
          · refine x_aload_n (i := 0) dX6_best_81 rfl rfl ?_
            refine x_getI xf_RX6_192 dX6_best_82 rfl rfl ?_
            try simp (decide := true) only [x_st_at, ↓reduceIte, if_true, if_false]
            refine x_goto (tgt := 109) dX6_best_85 (by decide) ?_
            refine x_iret dX6_best_109 rfl rfl ?_
            first | (exfalso; omega) | (refine ⟨?_, by rw [if_pos c1]; exact Abs.ref hG _⟩; rw [if_pos c1]) | (rw [if_neg (show ¬ i < -1 by omega), if_neg (show ¬ i < -1 by omega), if_neg (show ¬ 5 < μ 2 1 by omega), if_neg (show ¬ 5 < μ 2 1 by omega)]; refine ⟨?_, hA⟩; first | (rw [if_pos (by omega), f20]) | (rw [if_neg (by omega), if_pos (by omega), f11 _ (by omega)]) | (rw [if_neg (by omega), if_neg (by omega)]))
        · refine x_aload_n (i := 0) dX6_best_31 rfl rfl ?_
          refine x_iload_n (i := 2) dX6_best_32 rfl rfl ?_
          refine x_cIf0_1 lk_RX6_50 xm_X6_refuse dX6_best_33 (s6_refuse _ (by omega) _) ?_
          refine x_iret dX6_best_36 rfl rfl ?_
          first | (exfalso; omega) | (refine ⟨?_, by rw [if_pos c1]; exact Abs.ref hG _⟩; rw [if_pos c1]) | (rw [if_neg (show ¬ i < -1 by omega), if_neg (show ¬ i < -1 by omega), if_neg (show ¬ 5 < μ 2 1 by omega), if_neg (show ¬ 5 < μ 2 1 by omega)]; refine ⟨?_, hA⟩; first | (rw [if_pos (by omega), f20]) | (rw [if_neg (by omega), if_pos (by omega), f11 _ (by omega)]) | (rw [if_neg (by omega), if_neg (by omega)]))
      · exact absurd c2 (by omega)
    · refine x_bipush dX6_best_5 (by decide) ?_
      refine x_goto (tgt := 26) dX6_best_7 (by decide) ?_
      refine x_istore_2 dX6_best_26 (by decide) rfl ?_
      refine x_iload_n (i := 2) dX6_best_27 rfl rfl ?_
      refine x_if_eq (tgt := 37) dX6_best_28 (by decide) (by first | (unfold x_in; omega) | (unfold x_in; decide)) (fun c2 => ?_) (fun c2 => ?_)
      · refine x_aload_n (i := 0) dX6_best_37 rfl rfl ?_
        refine x_cVf0_0 lk_RX6_198 xm_X6_keeps dX6_best_38 (s6_keeps _) ?_
        refine x_aload_n (i := 0) dX6_best_41 rfl rfl ?_
        refine x_getR xf_RX6_13 dX6_best_42 rfl rfl ?_
        refine x_bipush dX6_best_45 (by decide) ?_
        refine x_iconst dX6_best_47 ?_
        skip
        refine x_iastK (K := 11) dX6_best_48 rfl rfl (by decide) (by decide) ?_
        refine x_aload_n (i := 0) dX6_best_49 rfl rfl ?_
        refine x_getR xf_RX6_13 dX6_best_50 rfl rfl ?_
        refine x_iconst dX6_best_53 ?_
        refine x_aload_n (i := 0) dX6_best_54 rfl rfl ?_
        refine x_getR xf_RX6_13 dX6_best_55 rfl rfl ?_
        refine x_iconst dX6_best_58 ?_
        refine x_ialdK (K := 1) dX6_best_59 rfl rfl (by decide) (by decide) ?_
        try simp (decide := true) only [x_st_at, ↓reduceIte, if_true, if_false]
        have e21 : (mCp μ 10 2 47) 2 1 = μ 2 1 := by rw [e2]
        rw [e21]
        refine x_iastK (K := 3) dX6_best_60 rfl rfl (by decide) (by decide) ?_
        refine x_aload_n (i := 0) dX6_best_61 rfl rfl ?_
        refine x_bipush dX6_best_62 (by decide) ?_
        refine x_putI xp_RX6_192 dX6_best_64 rfl rfl ?_
        refine x_aload_n (i := 0) dX6_best_67 rfl rfl ?_
        refine x_iconst dX6_best_68 ?_
        refine x_iconst dX6_best_69 ?_
        refine x_cV0_2 lk_RX6_195 xm_X6_goesOn dX6_best_70 ((s6_goesOn (mCp μ 10 2 47) (μ 2 1).toNat (by omega) (hB (μ 2)) (MI_hB hI) (by rw [hn1]; rfl) (μ 2 1).toNat [] 0 _ (-9, []) 0 rfl (by simp) (by decide) hB0).deep (d' := 13) (by omega)) (fun μ' hq => ?_)
        obtain ⟨-, hB1⟩ := hq
        have hBd : (pGen (μ 2 1).toNat (μ 2 1).toNat [] 0).foldl (lfB (dF (μ 2 1).toNat (hB (μ 2)))) (-9, []) = dBest (μ 2) := rfl
        rw [hBd] at hB1
        have hf := hB1.2.2.2.2.2.1
        have f10 : μ' 10 = μ 2 := by rw [hf 10 (by decide) (by decide) (by decide) (by decide) (by decide) (by decide), e10]
        have z2 : ∀ j, 47 ≤ j → μ' 10 j = 0 ∧ μ' 2 j = 0 := fun j hj => ⟨by rw [f10]; exact (hG.2.1 j hj).1, by rw [hB1.2.1 j (Or.inr (by omega))]; unfold hB hset; rw [if_neg (by omega), if_neg (by omega)]; exact (hG.2.1 j hj).1⟩
        have fk : ∀ k, k ≠ 0 → k ≠ 2 → k ≠ 7 → k ≠ 8 → k ≠ 9 → k ≠ 10 → k ≠ 11 → mCp μ' 2 10 47 k = μ k := fun k k0 k2 k7 k8 k9 k10 k11 => by rw [mCp_ne _ _ _ k2, hf k k0 k2 k7 k8 k9 k11, mCp_ne _ _ _ k10]
        have f0 : ∀ j, (j < 12 ∨ 17 < j) → j ≠ 20 → mCp μ' 2 10 47 0 j = μ 0 j := fun j hj h20 => by rw [mCp_ne _ _ _ (by decide), hB1.2.2.2.2.1 j hj h20, mCp_ne _ _ _ (by decide)]
        have f2 : mCp μ' 2 10 47 2 = μ 2 := by rw [mCp_all z2, f10]
        have hA : Abs μ (mCp μ' 2 10 47) := ⟨fk 1 (by decide) (by decide) (by decide) (by decide) (by decide) (by decide) (by decide), f2, fk 3 (by decide) (by decide) (by decide) (by decide) (by decide) (by decide) (by decide), fk 5 (by decide) (by decide) (by decide) (by decide) (by decide) (by decide) (by decide), fk 12 (by decide) (by decide) (by decide) (by decide) (by decide) (by decide) (by decide), f0 4 (by decide) (by decide), f0 7 (by decide) (by decide), f0 22 (by decide) (by decide), fun j hj => ⟨by rw [fk 4 (by decide) (by decide) (by decide) (by decide) (by decide) (by decide) (by decide)]; exact (hG.2.1 j hj).2.2.1, by rw [mCp_ne _ _ _ (by decide), f10]; exact (hG.2.1 j hj).1⟩⟩
        have f20 : mCp μ' 2 10 47 0 20 = (dBest (μ 2)).1 := by rw [mCp_ne _ _ _ (by decide)]; exact hB1.2.2.1
        have f11 : ∀ k, k < (μ 2 1).toNat → mCp μ' 2 10 47 11 k = (((dBest (μ 2)).2.getD k 0 : Nat) : Int) := fun k hk => by rw [mCp_ne _ _ _ (by decide)]; exact hB1.2.2.2.1 hdb k hk
        refine x_aload_n (i := 0) dX6_best_73 rfl rfl ?_
        refine x_cVf0_0 lk_RX6_201 xm_X6_putsBack dX6_best_74 (s6_putsBack _) ?_
        refine x_iload_n (i := 1) dX6_best_77 rfl rfl ?_
        refine x_if_ge (tgt := 88) dX6_best_78 (by decide) (by first | (unfold x_in; omega) | (unfold x_in; decide)) (fun c3 => ?_) (fun c3 => ?_)
        · refine x_iload_n (i := 1) dX6_best_88 rfl rfl ?_
          refine x_aload_n (i := 0) dX6_best_89 rfl rfl ?_
          refine x_getR xf_RX6_13 dX6_best_90 rfl rfl ?_
          refine x_iconst dX6_best_93 ?_
          refine x_ialdK (K := 1) dX6_best_94 rfl rfl (by decide) (by decide) ?_
          try simp (decide := true) only [x_st_at, ↓reduceIte, if_true, if_false]
          rw [f2]
          refine x_icmp_ge (tgt := 107) dX6_best_95 (by decide) (by first | (unfold x_in; omega) | (unfold x_in; decide)) (by first | (unfold x_in; omega) | (unfold x_in; decide)) (fun c4 => ?_) (fun c4 => ?_)
          · refine x_bipush dX6_best_107 (by decide) ?_
            refine x_iret dX6_best_109 rfl rfl ?_
            first | (exfalso; omega) | (refine ⟨?_, by rw [if_pos c1]; exact Abs.ref hG _⟩; rw [if_pos c1]) | (rw [if_neg (show ¬ i < -1 by omega), if_neg (show ¬ i < -1 by omega), if_neg (show ¬ 5 < μ 2 1 by omega), if_neg (show ¬ 5 < μ 2 1 by omega)]; refine ⟨?_, hA⟩; first | (rw [if_pos (by omega), f20]) | (rw [if_neg (by omega), if_pos (by omega), f11 _ (by omega)]) | (rw [if_neg (by omega), if_neg (by omega)]))
          · refine x_aload_n (i := 0) dX6_best_98 rfl rfl ?_
            refine x_getR xf_RX6_40 dX6_best_99 rfl rfl ?_
            refine x_iload_n (i := 1) dX6_best_102 rfl rfl ?_
            refine x_iald dX6_best_103 rfl (by decide) (by first | omega | decide) (by first | omega | decide) ?_
            try simp (decide := true) only [x_st_at, ↓reduceIte, if_true, if_false]
            refine x_goto (tgt := 109) dX6_best_104 (by decide) ?_
            refine x_iret dX6_best_109 rfl rfl ?_
            first | (exfalso; omega) | (refine ⟨?_, by rw [if_pos c1]; exact Abs.ref hG _⟩; rw [if_pos c1]) | (rw [if_neg (show ¬ i < -1 by omega), if_neg (show ¬ i < -1 by omega), if_neg (show ¬ 5 < μ 2 1 by omega), if_neg (show ¬ 5 < μ 2 1 by omega)]; refine ⟨?_, hA⟩; first | (rw [if_pos (by omega), f20]) | (rw [if_neg (by omega), if_pos (by omega), f11 _ (by omega)]) | (rw [if_neg (by omega), if_neg (by omega)]))
        · refine x_aload_n (i := 0) dX6_best_81 rfl rfl ?_
          refine x_getI xf_RX6_192 dX6_best_82 rfl rfl ?_
          try simp (decide := true) only [x_st_at, ↓reduceIte, if_true, if_false]
          refine x_goto (tgt := 109) dX6_best_85 (by decide) ?_
          refine x_iret dX6_best_109 rfl rfl ?_
          first | (exfalso; omega) | (refine ⟨?_, by rw [if_pos c1]; exact Abs.ref hG _⟩; rw [if_pos c1]) | (rw [if_neg (show ¬ i < -1 by omega), if_neg (show ¬ i < -1 by omega), if_neg (show ¬ 5 < μ 2 1 by omega), if_neg (show ¬ 5 < μ 2 1 by omega)]; refine ⟨?_, hA⟩; first | (rw [if_pos (by omega), f20]) | (rw [if_neg (by omega), if_pos (by omega), f11 _ (by omega)]) | (rw [if_neg (by omega), if_neg (by omega)]))
      · refine x_aload_n (i := 0) dX6_best_31 rfl rfl ?_
        refine x_iload_n (i := 2) dX6_best_32 rfl rfl ?_
        refine x_cIf0_1 lk_RX6_50 xm_X6_refuse dX6_best_33 (s6_refuse _ (by omega) _) ?_
        refine x_iret dX6_best_36 rfl rfl ?_
        first | (exfalso; omega) | (refine ⟨?_, by rw [if_pos c1]; exact Abs.ref hG _⟩; rw [if_pos c1]) | (rw [if_neg (show ¬ i < -1 by omega), if_neg (show ¬ i < -1 by omega), if_neg (show ¬ 5 < μ 2 1 by omega), if_neg (show ¬ 5 < μ 2 1 by omega)]; refine ⟨?_, hA⟩; first | (rw [if_pos (by omega), f20]) | (rw [if_neg (by omega), if_pos (by omega), f11 _ (by omega)]) | (rw [if_neg (by omega), if_neg (by omega)]))
  · skip
    refine x_iload_n (i := 1) dX6_best_0 rfl rfl ?_
    refine x_iconst dX6_best_1 ?_
    refine x_icmp_ge (tgt := 10) dX6_best_2 (by decide) (by first | (unfold x_in; omega) | (unfold x_in; decide)) (by first | (unfold x_in; omega) | (unfold x_in; decide)) (fun c1 => ?_) (fun c1 => ?_)
    · refine x_aload_n (i := 0) dX6_best_10 rfl rfl ?_
      refine x_getR xf_RX6_13 dX6_best_11 rfl rfl ?_
      refine x_iconst dX6_best_14 ?_
      refine x_ialdK (K := 1) dX6_best_15 rfl rfl (by decide) (by decide) ?_
      refine x_iconst dX6_best_16 ?_
      refine x_icmp_le (tgt := 25) dX6_best_17 (by decide) (by first | (unfold x_in; omega) | (unfold x_in; decide)) (by first | (unfold x_in; omega) | (unfold x_in; decide)) (fun c2 => ?_) (fun c2 => ?_)
      · exact absurd c2 (by omega)
      · refine x_bipush dX6_best_20 (by decide) ?_
        refine x_goto (tgt := 26) dX6_best_22 (by decide) ?_
        refine x_istore_2 dX6_best_26 (by decide) rfl ?_
        refine x_iload_n (i := 2) dX6_best_27 rfl rfl ?_
        refine x_if_eq (tgt := 37) dX6_best_28 (by decide) (by first | (unfold x_in; omega) | (unfold x_in; decide)) (fun c3 => ?_) (fun c3 => ?_)
        · exact absurd c3 (by omega)
        · refine x_aload_n (i := 0) dX6_best_31 rfl rfl ?_
          refine x_iload_n (i := 2) dX6_best_32 rfl rfl ?_
          refine x_cIf0_1 lk_RX6_50 xm_X6_refuse dX6_best_33 (s6_refuse _ (by omega) _) ?_
          refine x_iret dX6_best_36 rfl rfl ?_
          first | (exfalso; omega) | (refine ⟨?_, by rw [if_pos c1]; exact Abs.ref hG _⟩; rw [if_pos c1]) | (refine ⟨?_, by rw [if_neg (by omega), if_pos (by omega)]; exact Abs.ref hG _⟩; rw [if_neg (by omega), if_pos (by omega)])
    · refine x_bipush dX6_best_5 (by decide) ?_
      refine x_goto (tgt := 26) dX6_best_7 (by decide) ?_
      refine x_istore_2 dX6_best_26 (by decide) rfl ?_
      refine x_iload_n (i := 2) dX6_best_27 rfl rfl ?_
      refine x_if_eq (tgt := 37) dX6_best_28 (by decide) (by first | (unfold x_in; omega) | (unfold x_in; decide)) (fun c2 => ?_) (fun c2 => ?_)
      · exact absurd c2 (by omega)
      · refine x_aload_n (i := 0) dX6_best_31 rfl rfl ?_
        refine x_iload_n (i := 2) dX6_best_32 rfl rfl ?_
        refine x_cIf0_1 lk_RX6_50 xm_X6_refuse dX6_best_33 (s6_refuse _ (by omega) _) ?_
        refine x_iret dX6_best_36 rfl rfl ?_
        first | (exfalso; omega) | (refine ⟨?_, by rw [if_pos c1]; exact Abs.ref hG _⟩; rw [if_pos c1]) | (refine ⟨?_, by rw [if_neg (by omega), if_pos (by omega)]; exact Abs.ref hG _⟩; rw [if_neg (by omega), if_pos (by omega)])
