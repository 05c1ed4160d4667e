/-! THE CLASS, Day: start, run -/
def stD (μ : xM) : xM := x_mrg [4, 5, 6, 7, 8, 9, 10, 11, 12, 13, 14, 15] μ (x_mrg [0, 1, 2, 3, 4] (stT (x_ct [4, 5, 6, 7, 8, 9, 10, 11, 12, 13, 14, 15] μ) (hOf μ 9)) (lkA (stT (x_ct [4, 5, 6, 7, 8, 9, 10, 11, 12, 13, 14, 15] μ) (hOf μ 9))))
theorem stD_hill (μ : xM) : hOf (stD μ) 9 = hOf μ 9 := hOf_congr (fun k h1 h2 => by
  have e : k = 9 ∨ k = 10 ∨ k = 11 ∨ k = 12 ∨ k = 13 ∨ k = 14 ∨ k = 15 := by omega
  rcases e with rfl | rfl | rfl | rfl | rfl | rfl | rfl
  · exact stT_hi (k := 5) (x_ct [4, 5, 6, 7, 8, 9, 10, 11, 12, 13, 14, 15] μ) (hOf μ 9) (by decide)
  · exact stT_hi (k := 6) (x_ct [4, 5, 6, 7, 8, 9, 10, 11, 12, 13, 14, 15] μ) (hOf μ 9) (by decide)
  · exact stT_hi (k := 7) (x_ct [4, 5, 6, 7, 8, 9, 10, 11, 12, 13, 14, 15] μ) (hOf μ 9) (by decide)
  · exact stT_hi (k := 8) (x_ct [4, 5, 6, 7, 8, 9, 10, 11, 12, 13, 14, 15] μ) (hOf μ 9) (by decide)
  · exact stT_hi (k := 9) (x_ct [4, 5, 6, 7, 8, 9, 10, 11, 12, 13, 14, 15] μ) (hOf μ 9) (by decide)
  · exact stT_hi (k := 10) (x_ct [4, 5, 6, 7, 8, 9, 10, 11, 12, 13, 14, 15] μ) (hOf μ 9) (by decide)
  · exact stT_hi (k := 11) (x_ct [4, 5, 6, 7, 8, 9, 10, 11, 12, 13, 14, 15] μ) (hOf μ 9) (by decide))
theorem mOpens_9 (μ : xM) {t : Int} (t0 : 0 ≤ t) (t8 : t < 8) : mOpens μ 9 t.toNat = -9 := (op_7 μ (by omega)).2
/-- the cells of a day before it begins -/
theorem DR_start {μ ν : xM} (hI : MI (hOf μ 9)) (hk : ∀ k, k ≠ 0 → k ≠ 1 → k ≠ 2 → k ≠ 3 → ν k = stD μ k) (h02 : ν 0 2 = 0) (ht : ∀ t, 0 ≤ t → t < μ 9 3 → ν 1 t.toNat = -9 ∧ ν 2 t.toNat = mKind (hOf μ 9) t ∧ ν 3 t.toNat = mKey (hOf μ 9) t) : hOf ν 9 = hOf μ 9 ∧ DR ν (mOpens (canon (hOf μ 9))) 0 := by
  have h8 : 0 ≤ μ 9 3 ∧ μ 9 3 ≤ 8 := hI.2.1
  have eH : hOf ν 9 = hOf μ 9 := (hOf_congr (fun k h1 h2 => hk k (by omega) (by omega) (by omega) (by omega))).trans (stD_hill μ)
  have e93 : ν 9 3 = μ 9 3 := congrFun eH 1
  have o := op_0 (canon (hOf μ 9))
  have hT := TR_lkA (TR_start (x_ct [4, 5, 6, 7, 8, 9, 10, 11, 12, 13, 14, 15] μ) (canon (hOf μ 9)) hI rfl)
  have hL := LA_lkA (stT (x_ct [4, 5, 6, 7, 8, 9, 10, 11, 12, 13, 14, 15] μ) (hOf μ 9))
  generalize hσ : lkA (stT (x_ct [4, 5, 6, 7, 8, 9, 10, 11, 12, 13, 14, 15] μ) (hOf μ 9)) = σ at *
  have d : ∀ k, 4 ≤ k → k < 9 → ν k = stD μ k := fun k q1 q2 => hk k (by omega) (by omega) (by omega) (by omega)
  have d0 : dT ν 0 = σ 0 := by rw [← hσ]; exact d 4 (by decide) (by decide)
  have d1 : dT ν 1 = σ 1 := by rw [← hσ]; exact d 5 (by decide) (by decide)
  have d2 : dT ν 2 = σ 2 := by rw [← hσ]; exact d 6 (by decide) (by decide)
  have d3 : dT ν 3 = σ 3 := by rw [← hσ]; exact d 7 (by decide) (by decide)
  have d4 : dT ν 4 = σ 4 := by rw [← hσ]; exact d 8 (by decide) (by decide)
  have hin := (LA_in hT.b hL).1
  refine ⟨eH, ⟨by rw [eH]; exact hI, by rw [eH]; exact o.2.2.2.2.2.2, fun k q => ?_, fun t t0 t1 => ?_⟩, TR_congr d0 d2 d3 d4 hT, LA_congr d0 d1 d3 d4 hL, DI_opens hI, ?_⟩
  · have := hin k q
    rw [← d1] at this
    exact this
  · rw [e93] at t1
    have := ht t t0 t1
    rw [eH, mOpens_9 _ t0 (by omega)]
    exact ⟨this.1, this.2.1, this.2.2, Or.inl rfl, by decide⟩
  · rw [h02, o.2.2.1]
set_option maxRecDepth 100000 in
set_option maxHeartbeats 4000000 in
theorem l0_start (μ : xM) (hI : MI (hOf μ 9)) (hO : DO (hOf μ 9)) : ∀ (n : Nat) (p : Int) (ν : xM), 0 ≤ p → p ≤ μ 9 3 → (μ 9 3 - p).toNat < n → (∀ k, k ≠ 1 → k ≠ 2 → ν k = (x_st (stD μ) 0 2 0) k) → (∀ t, 0 ≤ t → t < p → ν 1 t.toNat = -9 ∧ ν 2 t.toNat = mKind (hOf μ 9) t) → X E0 shDay 3 yX0_start cX0_start 2 none 18 [some (.inr (.inl 0)), some (.inl p)] [] ν (fun r μ' => r = none ∧ hOf μ' 9 = hOf μ 9 ∧ DR μ' (mOpens (canon (hOf μ 9))) 0) := by
  have h8 : 0 ≤ μ 9 3 ∧ μ 9 3 ≤ 8 := hI.2.1
  intro n
  induction n with
  | zero => intro p ν _ _ h; omega
  | succ n ih =>
    intro p ν hp hp2 hn hk ht
    have eO : hOf ν 9 = hOf μ 9 := (hOf_congr (fun k q _ => (hk k (by omega) (by omega)).trans (funext fun x => x_st_ne (Or.inl (by omega))))).trans (stD_hill μ)
    have n9 : ν 9 3 = μ 9 3 := congrFun eO 1
    have n13 : p < μ 9 3 → ν 13 p.toNat = mWt (hOf μ 9) p := by
      intro q
      rw [← eO]
      exact (hOf_wt ν 9 hp (by omega)).symm
    have b13 : p < μ 9 3 → 0 ≤ ν 13 p.toNat ∧ ν 13 p.toNat ≤ 999 := by
      intro q
      rw [n13 q]
      exact mWt_in hI hp (by omega)
    have KK : ∀ w, p < μ 9 3 → w = mKindBy (hOf μ 9) (ν 13 p.toNat) → X E0 shDay 3 yX0_start cX0_start 2 none 18 [some (.inr (.inl 0)), some (.inl (p + 1))] [] (x_st (x_st ν 1 p.toNat (-9)) 2 p.toNat w) (fun r μ' => r = none ∧ hOf μ' 9 = hOf μ 9 ∧ DR μ' (mOpens (canon (hOf μ 9))) 0) := by
      intro w hl hw
      refine ih (p + 1) _ (by omega) (by omega) (by omega) (fun k q1 q2 => ?_) (fun t t0 t1 => ?_)
      · rw [← hk k q1 q2]
        exact funext fun x => (x_st_ne (Or.inl q2)).trans (x_st_ne (Or.inl q1))
      · by_cases e : t = p
        · rw [e]
          refine ⟨(x_st_ne (Or.inl (by decide))).trans x_st_eq, ?_⟩
          rw [x_st_eq, hw, n13 hl]
          rfl
        · have := ht t t0 (by omega)
          exact ⟨(x_st_ne (Or.inl (by decide))).trans ((x_st_ne (Or.inr (by omega))).trans this.1), (x_st_ne (Or.inr (by omega))).trans ((x_st_ne (Or.inl (by decide))).trans this.2)⟩
    have eJ : ∀ w, hOf (x_ct [9, 10, 11, 12, 13, 14, 15] (x_st ν 1 p.toNat w)) 0 = hOf μ 9 := fun _ => eO
    have KE : p = μ 9 3 → X E0 shDay 3 yX0_start cX0_start 2 none 65 [some (.inr (.inl 0)), some (.inl p)] [] ν (fun r μ' => r = none ∧ hOf μ' 9 = hOf μ 9 ∧ DR μ' (mOpens (canon (hOf μ 9))) 0) := by
      intro e
      have hf := s0_findTurns ν (by rw [eO]; exact hI) (by rw [eO]; exact hO)
      have KR : ∀ ν2 : xM, (∀ k, k ≠ 3 → ν2 k = ν k) → (∀ t, 0 ≤ t → t < ν 9 3 → ν2 3 t.toNat = mKey (hOf ν 9) t) → hOf ν2 9 = hOf μ 9 ∧ DR ν2 (mOpens (canon (hOf μ 9))) 0 := by
        intro ν2 q1 q2
        refine DR_start hI (fun k k0 k1 k2 k3 => ?_) ?_ (fun t t0 t1 => ?_)
        · rw [q1 k k3, hk k k1 k2]
          exact funext fun x => x_st_ne (Or.inl k0)
        · rw [q1 0 (by decide), hk 0 (by decide) (by decide)]
          exact x_st_eq
        · have w := ht t t0 (by omega)
          have w3 := q2 t t0 (by omega)
          rw [eO] at w3
          rw [q1 1 (by decide), q1 2 (by decide)]
          exact ⟨w.1, w.2, w3⟩
      clear ih ht hk n13 eO eJ KK
      refine x_aload_n (i := 0) dX0_start_65 rfl rfl ?_
      refine x_cV0_0 lk_RX0_65 xm_X0_findTurns dX0_start_66 (hf) (fun ν2 hq => ?_)
      refine x_vret dX0_start_69 rfl ?_
      exact ⟨rfl, KR ν2 hq.2.1 hq.2.2⟩
    clear ih ht hk n13 eO
    refine x_iload_n (i := 1) dX0_start_18 rfl rfl ?_
    refine x_aload_n (i := 0) dX0_start_19 rfl rfl ?_
    refine x_getR xf_RX0_12 dX0_start_20 rfl rfl ?_
    refine x_getI xf_RX0_46 dX0_start_23 rfl rfl ?_
    refine x_icmp_ge (tgt := 65) dX0_start_26 (by decide) (by first | (unfold x_in; omega) | (unfold x_in; decide)) (by first | (unfold x_in; omega) | (unfold x_in; decide)) (fun c1 => ?_) (fun c1 => ?_)
    · exact KE (by omega)
    · refine x_aload_n (i := 0) dX0_start_29 rfl rfl ?_
      refine x_getR xf_RX0_18 dX0_start_30 rfl rfl ?_
      refine x_iload_n (i := 1) dX0_start_33 rfl rfl ?_
      refine x_bipush dX0_start_34 (by decide) ?_
      refine x_iast dX0_start_36 rfl (by decide) (by first | omega | decide) (by first | omega | decide) ?_
      refine x_aload_n (i := 0) dX0_start_37 rfl rfl ?_
      refine x_getR xf_RX0_29 dX0_start_38 rfl rfl ?_
      refine x_iload_n (i := 1) dX0_start_41 rfl rfl ?_
      refine x_aload_n (i := 0) dX0_start_42 rfl rfl ?_
      refine x_getR xf_RX0_12 dX0_start_43 rfl rfl ?_
      refine x_aload_n (i := 0) dX0_start_46 rfl rfl ?_
      refine x_getR xf_RX0_12 dX0_start_47 rfl rfl ?_
      refine x_getR xf_RX0_53 dX0_start_50 rfl rfl ?_
      refine x_iload_n (i := 1) dX0_start_53 rfl rfl ?_
      refine x_iald dX0_start_54 rfl (by decide) (by first | omega | decide) (by first | omega | decide) ?_
      try simp (decide := true) only [x_st_at, ↓reduceIte, if_true, if_false]
      refine x_cIp_1 [9, 10, 11, 12, 13, 14, 15] lk_RX0_62 xm_X1_kindOf dX0_start_55 (s1_kindOf _ (by have g := b13 (by omega); exact ⟨g.1, Int.le_trans g.2 (by decide)⟩) _ (by rw [eJ]; exact hI)) ?_
      rw [eJ]
      refine x_iast dX0_start_58 rfl (by decide) (by first | omega | decide) (by first | omega | decide) ?_
      refine x_iinc_1 dX0_start_59 (by decide) rfl ?_
      refine x_goto (tgt := 18) dX0_start_62 (by decide) ?_
      exact KK _ (by omega) rfl
set_option maxRecDepth 100000 in
set_option maxHeartbeats 4000000 in
theorem s0_start (μ : xM) (hI : MI (hOf μ 9)) (hO : DO (hOf μ 9)) : X E0 shDay 3 yX0_start cX0_start 2 none 0 [some (.inr (.inl 0)), none] [] μ (fun r μ' => r = none ∧ hOf μ' 9 = hOf μ 9 ∧ DR μ' (mOpens (canon (hOf μ 9))) 0) := by
  have h8 : 0 ≤ μ 9 3 ∧ μ 9 3 ≤ 8 := hI.2.1
  have hS := s4_start (x_ct [4, 5, 6, 7, 8, 9, 10, 11, 12, 13, 14, 15] μ) hI
  have hL := l0_start μ hI hO _ 0 (x_st (stD μ) 0 2 0) (by omega) (by omega) (Nat.lt_succ_self _) (fun _ _ _ => rfl) (fun t t0 t1 => absurd t1 (Int.not_lt.mpr t0))
  refine x_aload_n (i := 0) dX0_start_0 rfl rfl ?_
  refine x_getR xf_RX0_25 dX0_start_1 rfl rfl ?_
  refine x_aload_n (i := 0) dX0_start_4 rfl rfl ?_
  refine x_getR xf_RX0_12 dX0_start_5 rfl rfl ?_
  refine x_cVf_R [4, 5, 6, 7, 8, 9, 10, 11, 12, 13, 14, 15] lk_RX0_56 xm_X4_start dX0_start_8 (hS) ?_
  refine x_aload_n (i := 0) dX0_start_11 rfl rfl ?_
  refine x_iconst dX0_start_12 ?_
  refine x_putI xp_RX0_59 dX0_start_13 rfl rfl ?_
  refine x_iconst dX0_start_16 ?_
  refine x_istore_1 dX0_start_17 (by decide) rfl ?_
  exact hL
/-- what a day's cells show when it is over -/
def DE (μ : xM) (h : Nat → Int) : Prop := hOf μ 9 = h ∧ μ 0 2 = dDowns h ∧ ∀ t : Int, 0 ≤ t → t < h 1 → μ 1 t.toNat = dBeg h t ∧ μ 2 t.toNat = mKind h t ∧ (dBeg h t = -9 ∨ 0 ≤ dBeg h t)
set_option maxRecDepth 100000 in
set_option maxHeartbeats 4000000 in
theorem s0_run (μ : xM) (h : Nat → Int) (hh : hOf μ 9 = h) (hI : MI h) (hO : DO h) : X E0 shDay 4 yX0_run cX0_run 3 none 0 [some (.inr (.inl 0)), none, none] [] μ (fun r μ' => r = none ∧ DE μ' h) := by
  subst hh
  have hst := s0_start μ hI hO
  have KL : ∀ ν, hOf ν 9 = hOf μ 9 → DR ν (mOpens (canon (hOf μ 9))) 0 → X E0 shDay 4 yX0_run cX0_run 3 none 8 [some (.inr (.inl 0)), some (.inl 0), some (.inl 0)] [] ν (fun r μ' => r = none ∧ DE μ' (hOf μ 9)) := by
    intro ν e d
    refine (l0_run (mOpens (canon (hOf μ 9))) (hOf μ 9) 1443 0 0 ν (by decide) (by decide) (by decide) (by decide) e (fun _ => d) (fun q => absurd q (by decide))).mono ?_
    rintro r μ' ⟨h1, h2, h3⟩
    refine ⟨h1, h2, h3.2.2.2.2, fun t t0 t1 => ?_⟩
    have e93 : μ' 9 3 = hOf μ 9 1 := congrFun h2 1
    have w := h3.1.2.2.2 t t0 (by rw [e93]; exact t1)
    rw [h2] at w
    exact ⟨w.1, w.2.1, w.2.2.2.1⟩
  clear hI hO
  refine x_aload_n (i := 0) dX0_run_0 rfl rfl ?_
  refine x_cV0_0 lk_RX0_35 xm_X0_start dX0_run_1 (hst) (fun ν hq => ?_)
  refine x_iconst dX0_run_4 ?_
  refine x_istore_1 dX0_run_5 (by decide) rfl ?_
  refine x_iconst dX0_run_6 ?_
  refine x_istore_2 dX0_run_7 (by decide) rfl ?_
  exact KL ν hq.2.1 hq.2.2
