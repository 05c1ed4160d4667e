/-! THE CLASS, Traffic: start -/
theorem hOf_congr {μ ν : xM} {o : Nat} (h : ∀ k, o ≤ k → k ≤ o + 6 → ν k = μ k) : hOf ν o = hOf μ o := by
  funext k
  unfold hOf
  rw [h o (by omega) (by omega), h (o + 1) (by omega) (by omega), h (o + 2) (by omega) (by omega), h (o + 3) (by omega) (by omega), h (o + 4) (by omega) (by omega), h (o + 5) (by omega) (by omega), h (o + 6) (by omega) (by omega)]
def stA (μ : xM) (h : Nat → Int) : Nat → xM
  | 0 => μ
  | k + 1 => x_st (stA μ h k) 2 k (cMin h k)
theorem stA_s (μ : xM) (h : Nat → Int) {p : Int} (hp : 0 ≤ p) : stA μ h (p + 1).toNat = x_st (stA μ h p.toNat) 2 p.toNat (cMin h p) := by rw [nat_succ hp, stA, nat_back hp]
theorem stA_ne (μ : xM) (h : Nat → Int) {k : Nat} (hk : k ≠ 2) : ∀ n, stA μ h n k = μ k
  | 0 => rfl
  | n + 1 => by
    rw [stA, ← stA_ne μ h hk n]
    exact funext fun x => x_st_ne (Or.inl hk)
theorem stA_at (μ : xM) (h : Nat → Int) : ∀ n i, i < n → stA μ h n 2 i = cMin h i
  | 0, i, q => by omega
  | n + 1, i, q => by
    rw [stA]
    by_cases e : i = n
    · rw [e, x_st_eq]
    · rw [x_st_ne (Or.inr e)]
      exact stA_at μ h n i (by omega)
def stC (μ : xM) (h : Nat → Int) : xM := x_st (x_st (x_st (x_st (x_st (x_st (x_st (x_st (x_st μ 0 4 (mBase h)) 0 5 (h 9)) 0 6 (if 0 < mSing h then 1 else 0)) 0 7 (h 2)) 0 10 0) 0 11 0) 0 12 0) 0 13 0) 0 14 0
def stB (μ : xM) : Nat → xM
  | 0 => μ
  | k + 1 => x_st (x_st (stB μ k) 3 k 0) 4 k 0
theorem stB_s (μ : xM) {p : Int} (hp : 0 ≤ p) : stB μ (p + 1).toNat = x_st (x_st (stB μ p.toNat) 3 p.toNat 0) 4 p.toNat 0 := by rw [nat_succ hp, stB]
theorem stB_ne (μ : xM) {k : Nat} (h3 : k ≠ 3) (h4 : k ≠ 4) : ∀ n, stB μ n k = μ k
  | 0 => rfl
  | n + 1 => by
    rw [stB, ← stB_ne μ h3 h4 n]
    exact funext fun x => (x_st_ne (Or.inl h4)).trans (x_st_ne (Or.inl h3))
theorem stB_at (μ : xM) : ∀ n i, i < n → stB μ n 3 i = 0 ∧ stB μ n 4 i = 0
  | 0, i, q => by omega
  | n + 1, i, q => by
    rw [stB]
    by_cases e : i = n
    · rw [e]
      exact ⟨(x_st_ne (Or.inl (by decide))).trans x_st_eq, x_st_eq⟩
    · have := stB_at μ n i (by omega)
      exact ⟨((x_st_ne (Or.inl (by decide))).trans (x_st_ne (Or.inr e))).trans this.1, ((x_st_ne (Or.inr e)).trans (x_st_ne (Or.inl (by decide)))).trans this.2⟩
def stT (μ : xM) (h : Nat → Int) : xM := stB (stC (stA μ h 3) h) 4
theorem stT_0 (μ : xM) (h : Nat → Int) : stT μ h 0 = stC μ h 0 := by
  unfold stT
  rw [stB_ne _ (by decide) (by decide)]
  unfold stC
  have := stA_ne μ h (k := 0) (by decide) 3
  funext j
  simp only [x_st, this]
theorem stT_2 (μ : xM) (h : Nat → Int) : ∀ k : Nat, k < 3 → stT μ h 2 k = cMin h k := by
  intro k hk
  unfold stT
  rw [stB_ne _ (by decide) (by decide)]
  exact stA_at μ h 3 k hk
theorem stT_34 (μ : xM) (h : Nat → Int) : ∀ i : Nat, i < 4 → stT μ h 3 i = 0 ∧ stT μ h 4 i = 0 := stB_at _ 4
theorem stT_hi (μ : xM) (h : Nat → Int) {k : Nat} (hk : 5 ≤ k) : stT μ h k = μ k := by
  unfold stT
  rw [stB_ne _ (by omega) (by omega)]
  have e : stC (stA μ h 3) h k = stA μ h 3 k := by
    funext x
    unfold stC
    simp only [x_st, show k ≠ 0 by omega, if_false]
  rw [e, stA_ne _ _ (by omega)]
theorem cMin_in {h : Nat → Int} (hI : MI h) {k : Int} (hk : 0 ≤ k ∧ k < 3) : 0 ≤ cMin h k ∧ cMin h k ≤ 300 := by
  have hb := mBase_in hI
  have h7 : 0 ≤ h 7 ∧ h 7 ≤ 20 := hI.2.2.2.2.2.2.2.1
  have h8 : 0 ≤ h 8 ∧ h 8 ≤ 20 := hI.2.2.2.2.2.2.2.2.1
  unfold cMin
  split
  · omega
  · split
    · omega
    · split <;> omega
theorem TB4_stT (μ : xM) {h : Nat → Int} (hI : MI h) : TB4 (stT μ h) := by
  have hb := mBase_in hI
  have h9 : 1 ≤ h 9 ∧ h 9 ≤ 60 := hI.2.2.2.2.2.2.2.2.2.1
  have h2 : 0 ≤ h 2 ∧ h 2 ≤ 4 := hI.2.2.1
  unfold TB4
  rw [stT_0]
  refine ⟨h2, ?_, fun i hi => ?_, fun j h10 h14 => ?_, fun k hk => ?_, hb, h9⟩
  · show (if 0 < mSing h then (1 : Int) else 0) = 0 ∨ (if 0 < mSing h then (1 : Int) else 0) = 1
    split
    · exact Or.inr rfl
    · exact Or.inl rfl
  · have := stT_34 μ h i hi
    rw [this.1, this.2]
    exact ⟨Or.inl rfl, by decide⟩
  · have e : j = 10 ∨ j = 11 ∨ j = 12 ∨ j = 13 ∨ j = 14 := by omega
    have e0 : stC μ h 0 j = 0 := by
      rcases e with rfl | rfl | rfl | rfl | rfl <;> rfl
    rw [e0]
    decide
  · rw [stT_2 _ _ k hk]
    exact cMin_in hI (by omega)
set_option maxRecDepth 100000 in
set_option maxHeartbeats 4000000 in
theorem la_start (μ : xM) (hI : MI (hOf μ 5)) (Q : Option xA → xM → Prop) (K : X E0 shTrH 2 yX4_start cX4_start 3 none 24 [some (.inr (.inl 0)), some (.inr (.inl 5)), some (.inl 3)] [] (stA μ (hOf μ 5) 3) (Q)) : ∀ (n : Nat) (p : Int), 0 ≤ p → p ≤ 3 → (3 - p).toNat < n → X E0 shTrH 2 yX4_start cX4_start 3 none 2 [some (.inr (.inl 0)), some (.inr (.inl 5)), some (.inl p)] [] (stA μ (hOf μ 5) p.toNat) (Q) := by
  intro n
  induction n with
  | zero => intro p _ _ h; omega
  | succ n ih =>
    intro p hp hp2 hn
    have e5 : hOf (stA μ (hOf μ 5) p.toNat) 5 = hOf μ 5 := hOf_congr (fun k h5 _ => stA_ne _ _ (by omega) _)
    have e6 : hOf (x_ct [5, 6, 7, 8, 9, 10, 11] (stA μ (hOf μ 5) p.toNat)) 0 = hOf μ 5 := e5
    refine x_iload_n (i := 2) dX4_start_2 rfl rfl ?_
    refine x_iconst dX4_start_3 ?_
    refine x_icmp_gt (tgt := 24) dX4_start_4 (by decide) (by first | (unfold x_in; omega) | (unfold x_in; decide)) (by first | (unfold x_in; omega) | (unfold x_in; decide)) (fun c1 => ?_) (fun c1 => ?_)
    · rw [show p = 3 by omega]
      exact K
    · refine x_aload_n (i := 0) dX4_start_7 rfl rfl ?_
      refine x_getR xf_RX4_15 dX4_start_8 rfl rfl ?_
      refine x_iload_n (i := 2) dX4_start_11 rfl rfl ?_
      refine x_aload_n (i := 1) dX4_start_12 rfl rfl ?_
      refine x_iload_n (i := 2) dX4_start_13 rfl rfl ?_
      refine x_cIp_1 [5, 6, 7, 8, 9, 10, 11] lk_RX4_25 xm_X1_climbMinutes dX4_start_14 (s1_climbMinutes _ (by omega) _ (by rw [e6]; exact hI)) ?_
      rw [e6]
      refine x_iast dX4_start_17 rfl (by decide) (by first | omega | decide) (by first | omega | decide) ?_
      refine x_iinc_2 dX4_start_18 (by decide) rfl ?_
      refine x_goto (tgt := 2) dX4_start_21 (by decide) ?_
      have h := ih (p + 1) (by omega) (by omega) (by omega)
      rw [stA_s _ _ hp] at h
      exact h
set_option maxRecDepth 100000 in
set_option maxHeartbeats 4000000 in
theorem lb_start (μ ν : xM) (Q : Option xA → xM → Prop) (K : X E0 shTrH 2 yX4_start cX4_start 3 none 118 [some (.inr (.inl 0)), some (.inr (.inl 5)), some (.inl 4)] [] (stB ν 4) (Q)) : ∀ (n : Nat) (p : Int), 0 ≤ p → p ≤ 4 → (4 - p).toNat < n → X E0 shTrH 2 yX4_start cX4_start 3 none 93 [some (.inr (.inl 0)), some (.inr (.inl 5)), some (.inl p)] [] (stB ν p.toNat) (Q) := by
  intro n
  induction n with
  | zero => intro p _ _ h; omega
  | succ n ih =>
    intro p hp hp2 hn
    refine x_iload_n (i := 2) dX4_start_93 rfl rfl ?_
    refine x_iconst dX4_start_94 ?_
    refine x_icmp_ge (tgt := 118) dX4_start_95 (by decide) (by first | (unfold x_in; omega) | (unfold x_in; decide)) (by first | (unfold x_in; omega) | (unfold x_in; decide)) (fun c1 => ?_) (fun c1 => ?_)
    · rw [show p = 4 by omega]
      exact K
    · refine x_aload_n (i := 0) dX4_start_98 rfl rfl ?_
      refine x_getR xf_RX4_18 dX4_start_99 rfl rfl ?_
      refine x_iload_n (i := 2) dX4_start_102 rfl rfl ?_
      refine x_iconst dX4_start_103 ?_
      refine x_iast dX4_start_104 rfl (by decide) (by first | omega | decide) (by first | omega | decide) ?_
      refine x_aload_n (i := 0) dX4_start_105 rfl rfl ?_
      refine x_getR xf_RX4_21 dX4_start_106 rfl rfl ?_
      refine x_iload_n (i := 2) dX4_start_109 rfl rfl ?_
      refine x_iconst dX4_start_110 ?_
      refine x_zast dX4_start_111 rfl (by decide) (by first | omega | decide) (by first | omega | decide) (by first | exact Or.inl rfl | exact Or.inr rfl | omega) ?_
      refine x_iinc_2 dX4_start_112 (by decide) rfl ?_
      refine x_goto (tgt := 93) dX4_start_115 (by decide) ?_
      have h := ih (p + 1) (by omega) (by omega) (by omega)
      rw [stB_s _ hp] at h
      exact h
set_option maxRecDepth 100000 in
set_option maxHeartbeats 4000000 in
theorem s4_start (μ : xM) (hI : MI (hOf μ 5)) : X E0 shTrH 2 yX4_start cX4_start 3 none 0 [some (.inr (.inl 0)), some (.inr (.inl 5)), none] [] μ (x_Qn (x_mrg [0, 1, 2, 3, 4] (stT μ (hOf μ 5)) (lkA (stT μ (hOf μ 5))))) := by
  have hsg := mSing_in hI
  have e5 : hOf (stA μ (hOf μ 5) 3) 5 = hOf μ 5 := hOf_congr (fun k h5 _ => stA_ne _ _ (by omega) _)
  have e6 : ∀ v, hOf (x_ct [5, 6, 7, 8, 9, 10, 11] (x_st (stA μ (hOf μ 5) 3) 0 4 v)) 0 = hOf μ 5 := fun _ => e5
  have e7 : ∀ v w, hOf (x_ct [5, 6, 7, 8, 9, 10, 11] (x_st (x_st (stA μ (hOf μ 5) 3) 0 4 v) 0 5 w)) 0 = hOf μ 5 := fun _ _ => e5
  have e8 : hOf (x_ct [5, 6, 7, 8, 9, 10, 11] (stA μ (hOf μ 5) 3)) 0 = hOf μ 5 := e5
  have K118 : X E0 shTrH 2 yX4_start cX4_start 3 none 118 [some (.inr (.inl 0)), some (.inr (.inl 5)), some (.inl 4)] [] (stT μ (hOf μ 5)) (x_Qn (x_mrg [0, 1, 2, 3, 4] (stT μ (hOf μ 5)) (lkA (stT μ (hOf μ 5))))) := by
    refine x_aload_n (i := 0) dX4_start_118 rfl rfl ?_
    refine x_cVf_0 [0, 1, 2, 3, 4] lk_RX4_70 xm_X4_lookAhead dX4_start_119 (s4_lookAhead (x_ct [0, 1, 2, 3, 4] (stT μ (hOf μ 5))) (TB4_stT μ hI)) ?_
    exact x_vret dX4_start_122 rfl ⟨rfl, by rw [show x_ct [0, 1, 2, 3, 4] (stT μ (hOf μ 5)) = stT μ (hOf μ 5) from x_ct_range 5 _]⟩
  have K93 : ∀ ν, ν = stC (stA μ (hOf μ 5) 3) (hOf μ 5) → X E0 shTrH 2 yX4_start cX4_start 3 none 93 [some (.inr (.inl 0)), some (.inr (.inl 5)), some (.inl 0)] [] ν (x_Qn (x_mrg [0, 1, 2, 3, 4] (stT μ (hOf μ 5)) (lkA (stT μ (hOf μ 5))))) := by
    intro ν hν
    subst hν
    exact lb_start μ _ _ K118 _ 0 (by omega) (by omega) (Nat.lt_succ_self _)
  have g9 : stA μ (hOf μ 5) 3 10 5 = hOf μ 5 9 := congrFun (stA_ne μ (hOf μ 5) (k := 10) (by decide) 3) 5
  have g2 : stA μ (hOf μ 5) 3 5 6 = hOf μ 5 2 := congrFun (stA_ne μ (hOf μ 5) (k := 5) (by decide) 3) 6
  have K24 : X E0 shTrH 2 yX4_start cX4_start 3 none 24 [some (.inr (.inl 0)), some (.inr (.inl 5)), some (.inl 3)] [] (stA μ (hOf μ 5) 3) (x_Qn (x_mrg [0, 1, 2, 3, 4] (stT μ (hOf μ 5)) (lkA (stT μ (hOf μ 5))))) := by
    refine x_aload_n (i := 0) dX4_start_24 rfl rfl ?_
    refine x_aload_n (i := 1) dX4_start_25 rfl rfl ?_
    refine x_cIp_0 [5, 6, 7, 8, 9, 10, 11] lk_RX4_30 xm_X1_baseMinutes dX4_start_26 (s1_baseMinutes _ (by rw [e8]; exact hI)) ?_
    rw [e8]
    refine x_putI xp_RX4_34 dX4_start_29 rfl rfl ?_
    refine x_aload_n (i := 0) dX4_start_32 rfl rfl ?_
    refine x_aload_n (i := 1) dX4_start_33 rfl rfl ?_
    refine x_getR xf_RX4_38 dX4_start_34 rfl rfl ?_
    refine x_iconst dX4_start_37 ?_
    refine x_ialdK (K := 5) dX4_start_38 rfl rfl (by decide) (by decide) ?_
    try simp (decide := true) only [x_st_at, ↓reduceIte, if_true, if_false]
    rw [g9]
    refine x_putI xp_RX4_41 dX4_start_39 rfl rfl ?_
    refine x_aload_n (i := 0) dX4_start_42 rfl rfl ?_
    refine x_aload_n (i := 1) dX4_start_43 rfl rfl ?_
    refine x_cIp_0 [5, 6, 7, 8, 9, 10, 11] lk_RX4_44 xm_X1_singles dX4_start_44 (s1_singles _ (by rw [e7]; exact hI)) ?_
    rw [e7]
    refine x_if_le (tgt := 54) dX4_start_47 (by decide) (by first | (unfold x_in; omega) | (unfold x_in; decide)) (fun c1 => ?_) (fun c1 => ?_)
    · refine x_iconst dX4_start_54 ?_
      refine x_putZ xp_RX4_47 dX4_start_55 rfl rfl (by first | exact Or.inl rfl | exact Or.inr rfl | omega) ?_
      refine x_aload_n (i := 0) dX4_start_58 rfl rfl ?_
      refine x_aload_n (i := 1) dX4_start_59 rfl rfl ?_
      refine x_getI xf_RX4_51 dX4_start_60 rfl rfl ?_
      try simp (decide := true) only [x_st_at, ↓reduceIte, if_true, if_false]
      rw [g2]
      refine x_putI xp_RX4_54 dX4_start_63 rfl rfl ?_
      refine x_aload_n (i := 0) dX4_start_66 rfl rfl ?_
      refine x_iconst dX4_start_67 ?_
      refine x_putI xp_RX4_55 dX4_start_68 rfl rfl ?_
      refine x_aload_n (i := 0) dX4_start_71 rfl rfl ?_
      refine x_iconst dX4_start_72 ?_
      refine x_putI xp_RX4_58 dX4_start_73 rfl rfl ?_
      refine x_aload_n (i := 0) dX4_start_76 rfl rfl ?_
      refine x_iconst dX4_start_77 ?_
      refine x_putI xp_RX4_61 dX4_start_78 rfl rfl ?_
      refine x_aload_n (i := 0) dX4_start_81 rfl rfl ?_
      refine x_iconst dX4_start_82 ?_
      refine x_putI xp_RX4_64 dX4_start_83 rfl rfl ?_
      refine x_aload_n (i := 0) dX4_start_86 rfl rfl ?_
      refine x_iconst dX4_start_87 ?_
      refine x_putI xp_RX4_67 dX4_start_88 rfl rfl ?_
      refine x_iconst dX4_start_91 ?_
      refine x_istore_2 dX4_start_92 (by decide) rfl ?_
      refine K93 _ ?_
      unfold stC
      first | rw [if_pos (by omega)] | rw [if_neg (by omega)]
    · refine x_iconst dX4_start_50 ?_
      refine x_goto (tgt := 55) dX4_start_51 (by decide) ?_
      refine x_putZ xp_RX4_47 dX4_start_55 rfl rfl (by first | exact Or.inl rfl | exact Or.inr rfl | omega) ?_
      refine x_aload_n (i := 0) dX4_start_58 rfl rfl ?_
      refine x_aload_n (i := 1) dX4_start_59 rfl rfl ?_
      refine x_getI xf_RX4_51 dX4_start_60 rfl rfl ?_
      try simp (decide := true) only [x_st_at, ↓reduceIte, if_true, if_false]
      rw [g2]
      refine x_putI xp_RX4_54 dX4_start_63 rfl rfl ?_
      refine x_aload_n (i := 0) dX4_start_66 rfl rfl ?_
      refine x_iconst dX4_start_67 ?_
      refine x_putI xp_RX4_55 dX4_start_68 rfl rfl ?_
      refine x_aload_n (i := 0) dX4_start_71 rfl rfl ?_
      refine x_iconst dX4_start_72 ?_
      refine x_putI xp_RX4_58 dX4_start_73 rfl rfl ?_
      refine x_aload_n (i := 0) dX4_start_76 rfl rfl ?_
      refine x_iconst dX4_start_77 ?_
      refine x_putI xp_RX4_61 dX4_start_78 rfl rfl ?_
      refine x_aload_n (i := 0) dX4_start_81 rfl rfl ?_
      refine x_iconst dX4_start_82 ?_
      refine x_putI xp_RX4_64 dX4_start_83 rfl rfl ?_
      refine x_aload_n (i := 0) dX4_start_86 rfl rfl ?_
      refine x_iconst dX4_start_87 ?_
      refine x_putI xp_RX4_67 dX4_start_88 rfl rfl ?_
      refine x_iconst dX4_start_91 ?_
      refine x_istore_2 dX4_start_92 (by decide) rfl ?_
      refine K93 _ ?_
      unfold stC
      first | rw [if_pos (by omega)] | rw [if_neg (by omega)]
  refine x_iconst dX4_start_0 ?_
  refine x_istore_2 dX4_start_1 (by decide) rfl ?_
  exact la_start μ hI _ K24 _ 0 (by omega) (by omega) (Nat.lt_succ_self _)
