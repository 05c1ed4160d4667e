/-! THE CLASS, Tape: a statement -/
theorem pStZ_v {tp : Nat → Int} {n a v0 v1 : Int} (h : (pStZ tp n a v0 v1).1 = true) : (pStZ tp n a v0 v1).2.2.1 = v0 ∧ (pStZ tp n a v0 v1).2.2.2 = v1 := by
  unfold pStZ at h ⊢
  split
  · exact ⟨rfl, rfl⟩
  next q => rw [if_neg q] at h; cases h
theorem if01 (p : Prop) [Decidable p] : (if p then (0 : Int) else 1) = 0 ∨ (if p then (0 : Int) else 1) = 1 := by
  split
  · exact Or.inl rfl
  · exact Or.inr rfl
set_option maxRecDepth 100000 in
set_option maxHeartbeats 4000000 in
theorem s3_takeB (f : Int) (hf : f = 0 ∨ f = 1) (tp : Nat → Int) (n a b : Int) (hn : n ≤ 48) (hn0 : 0 ≤ n) (ha : 0 ≤ a ∧ a ≤ 49) (hb : b = 0 ∨ b = 1) (ht : TB tp) (μ : xM) (hP : PT μ tp n a b) : X E0 shTape 0 yX3_take cX3_take 2 none 0 [some (.inr (.inl 0)), some (.inl f)] [] μ (fun r μ' => r = none ∧ PT μ' tp n (if f = 1 ∧ b = 0 then a + 1 else a) (if f = 1 ∧ b = 0 then 0 else 1) ∧ TS μ μ') := by
  rcases hf with rfl | rfl
  · rw [if_neg (by omega), if_neg (by omega)]
    exact s3_take0 tp n a b hn ha ht μ hP
  · rcases hb with rfl | rfl
    · rw [if_pos (by omega), if_pos (by omega)]
      exact s3_take tp n a hn ha ht μ hP
    · rw [if_neg (by omega), if_neg (by omega)]
      exact s3_take1 tp n a hn ha ht μ hP
set_option maxRecDepth 100000 in
set_option maxHeartbeats 4000000 in
theorem s3_readNumberB (most : Int) (hm : 0 < most ∧ most ≤ 3) (tp : Nat → Int) (n a b : Int) (hn : n ≤ 48) (hn0 : 0 ≤ n) (ha : 0 ≤ a ∧ a ≤ 49) (hb : b = 0 ∨ b = 1) (ht : TB tp) (μ : xM) (hP : PT μ tp n a b) (ha8 : a ≤ 48) : X E0 shTape 1 yX3_readNumber cX3_readNumber 5 (some .int) 0 [some (.inr (.inl 0)), some (.inl most), none, none, none] [] μ (fun r μ' => r = some (.inl (if b = 0 then (pNm tp n most.toNat a 0).2 else 0)) ∧ PT μ' tp n (if b = 0 then (pNm tp n most.toNat a 0).1 else a) (if b = 0 ∧ pDg tp n a = true then 0 else 1) ∧ TS μ μ') := by
  rcases hb with rfl | rfl
  · rw [if_pos rfl, if_pos rfl]
    have h := s3_readNumber tp n a hn0 hn ⟨ha.1, ha8⟩ ht μ hP most hm
    refine h.mono (fun r m z => ⟨z.1, ?_, z.2.2⟩)
    have z2 := z.2.1
    by_cases hd : pDg tp n a = true
    · rw [if_pos hd] at z2
      rw [if_pos ⟨rfl, hd⟩]
      exact z2
    · rw [if_neg hd] at z2
      rw [if_neg (fun q => hd q.2)]
      exact z2
  · rw [if_neg (by decide), if_neg (by decide), if_neg (by omega)]
    exact s3_readNumber1 tp n a hn0 hn ha ht μ hP most hm
set_option maxRecDepth 100000 in
set_option maxHeartbeats 4000000 in
theorem z3_readStatement (v0 v1 : Int) (tp : Nat → Int) (n a b : Int) (hn : n ≤ 48) (hn0 : 0 ≤ n) (ha : 0 ≤ a ∧ a ≤ 49) (hb : b = 0 ∨ b = 1) (ht : TB tp) (μ : xM) (hP : PT μ tp n a b) : X E0 shTape 2 yX3_readStatement cX3_readStatement 1 none 181 [some (.inr (.inl 0))] [] μ (fun r μ' => r = none ∧ (b = 0 → PT μ' tp n (pStZ tp n a v0 v1).2.1 (if (pStZ tp n a v0 v1).1 = true then 0 else 1)) ∧ (b = 1 → PT μ' tp n a 1) ∧ TS μ μ') := by
  have hs := pSg_in ht hn ha.1
  have KA : pSg tp n a = 59 → ∀ m, PT m tp n (if (1 : Int) = 1 ∧ b = 0 then a + 1 else a) (if (1 : Int) = 1 ∧ b = 0 then 0 else 1) → TS μ m → (b = 0 → PT m tp n (pStZ tp n a v0 v1).2.1 (if (pStZ tp n a v0 v1).1 = true then 0 else 1)) ∧ (b = 1 → PT m tp n a 1) ∧ TS μ m := by
    intro h9 m w1 w2
    refine ⟨fun q => ?_, fun q => ?_, w2⟩
    · have hz : pStZ tp n a v0 v1 = (true, a + 1, v0, v1) := if_pos h9
      rw [hz, if_pos rfl]
      rw [if_pos (by omega), if_pos (by omega)] at w1
      exact w1
    · rw [if_neg (by omega), if_neg (by omega)] at w1
      exact w1
  have KB : pSg tp n a ≠ 59 → ∀ m, PT m tp n (if (0 : Int) = 1 ∧ b = 0 then a + 1 else a) (if (0 : Int) = 1 ∧ b = 0 then 0 else 1) → TS μ m → (b = 0 → PT m tp n (pStZ tp n a v0 v1).2.1 (if (pStZ tp n a v0 v1).1 = true then 0 else 1)) ∧ (b = 1 → PT m tp n a 1) ∧ TS μ m := by
    intro h9 m w1 w2
    rw [if_neg (by omega), if_neg (by omega)] at w1
    refine ⟨fun q => ?_, fun q => w1, w2⟩
    have hz : pStZ tp n a v0 v1 = (false, a, 0, 0) := if_neg h9
    rw [hz, if_neg Bool.false_ne_true]
    exact w1
  refine x_aload_n (i := 0) dX3_readStatement_181 rfl rfl ?_
  refine x_aload_n (i := 0) dX3_readStatement_182 rfl rfl ?_
  refine x_cIp0_0 lk_RX3_63 xm_X3_look dX3_readStatement_183 (s3_look tp n a b hn ha ht _ hP hn0) ?_
  refine x_bipush dX3_readStatement_186 (by decide) ?_
  refine x_icmp_ne (tgt := 195) dX3_readStatement_188 (by decide) (by first | (unfold x_in; omega) | (unfold x_in; decide)) (by first | (unfold x_in; omega) | (unfold x_in; decide)) (fun c1 => ?_) (fun c1 => ?_)
  · refine x_iconst dX3_readStatement_195 ?_
    refine x_cV0_1 lk_RX3_70 xm_X3_take dX3_readStatement_196 (s3_takeB _ (by first | exact Or.inl rfl | exact Or.inr rfl) tp n a b hn hn0 ha hb ht _ hP) (fun μ2 hq => ?_)
    obtain ⟨-, w1, w2⟩ := hq
    refine x_vret dX3_readStatement_199 rfl ?_
    first | exact ⟨rfl, KB c1 _ w1 w2⟩ | exact ⟨rfl, KA c1 _ w1 w2⟩ | exact ⟨rfl, KA (by omega) _ w1 w2⟩
  · refine x_iconst dX3_readStatement_191 ?_
    refine x_goto (tgt := 196) dX3_readStatement_192 (by decide) ?_
    refine x_cV0_1 lk_RX3_70 xm_X3_take dX3_readStatement_196 (s3_takeB _ (by first | exact Or.inl rfl | exact Or.inr rfl) tp n a b hn hn0 ha hb ht _ hP) (fun μ2 hq => ?_)
    obtain ⟨-, w1, w2⟩ := hq
    refine x_vret dX3_readStatement_199 rfl ?_
    first | exact ⟨rfl, KB c1 _ w1 w2⟩ | exact ⟨rfl, KA c1 _ w1 w2⟩ | exact ⟨rfl, KA (by omega) _ w1 w2⟩
set_option maxRecDepth 100000 in
set_option maxHeartbeats 4000000 in
theorem e3_readStatement (tp : Nat → Int) (n a : Int) (hn : n ≤ 48) (hn0 : 0 ≤ n) (ha : 0 ≤ a) (ht : TB tp) (μ : xM) (hP : PT μ tp n a 0) (hc : pSg tp n a = 101) : X E0 shTape 2 yX3_readStatement cX3_readStatement 1 none 154 [some (.inr (.inl 0))] [] μ (fun r μ' => r = none ∧ PT μ' tp n (pStE tp n (a + 1)).2.1 (if (pStE tp n (a + 1)).1 = true then 0 else 1) ∧ TS2 μ μ' ∧ ((pStE tp n (a + 1)).1 = true → μ' 0 5 = (pStE tp n (a + 1)).2.2.1 ∧ True)) := by
  have hl := pSg_lt (tp := tp) (n := n) (a := a) (by omega)
  have e2 := hP.2.2.1
  have hm := pNm_in ht hn 1 (a + 1) 0 (by omega) (by omega) (by omega)
  have K : ∀ (b1 A1 : Int) (μ1 : xM), b1 = (if (0 : Int) = 0 ∧ pDg tp n (a + 1) = true then 0 else 1) → PT μ1 tp n (pNm tp n 1 (a + 1) 0).1 b1 → TS (x_st μ 0 2 (a + 1)) μ1 → X E0 shTape 2 yX3_readStatement cX3_readStatement 1 none 181 [some (.inr (.inl 0))] [] (x_st μ1 0 5 (pNm tp n 1 (a + 1) 0).2) (fun r μ' => r = none ∧ PT μ' tp n (pStE tp n (a + 1)).2.1 (if (pStE tp n (a + 1)).1 = true then 0 else 1) ∧ TS2 μ μ' ∧ ((pStE tp n (a + 1)).1 = true → μ' 0 5 = (pStE tp n (a + 1)).2.2.1 ∧ True)) := by
    intro b1 A1 μ1 hb1 p1 t1
    have hb : b1 = 0 ∨ b1 = 1 := by rw [hb1]; exact if01 _
    refine (z3_readStatement (pNm tp n 1 (a + 1) 0).2 0 tp n _ b1 hn hn0 ⟨by omega, by omega⟩ hb ht _ (p1.st5 _)).mono (fun r m z => ⟨z.1, ?_, (((TS2.rfl' μ).st (Or.inl rfl) _).trans (t1.to2.st (Or.inr (Or.inr (Or.inl rfl))) _)).trans z.2.2.2.to2, fun q => ⟨?_, trivial⟩⟩)
    · by_cases hd : pDg tp n (a + 1) = true
      · rw [if_pos ⟨rfl, hd⟩] at hb1
        have hp : pStE tp n (a + 1) = pStZ tp n (pNm tp n 1 (a + 1) 0).1 (pNm tp n 1 (a + 1) 0).2 0 := if_pos hd
        rw [hp]
        exact z.2.1 hb1
      · rw [if_neg (fun q => hd q.2)] at hb1
        have hp : pStE tp n (a + 1) = (false, a + 1, 0, 0) := if_neg hd
        have hq : pNm tp n 1 (a + 1) 0 = (a + 1, 0) := by rw [pNm, if_neg hd]
        rw [hp, if_neg Bool.false_ne_true]
        have := z.2.2.1 hb1
        rw [hq] at this
        exact this
    · by_cases hd : pDg tp n (a + 1) = true
      · have hp : pStE tp n (a + 1) = pStZ tp n (pNm tp n 1 (a + 1) 0).1 (pNm tp n 1 (a + 1) 0).2 0 := if_pos hd
        rw [hp] at q ⊢
        rw [(pStZ_v q).1, z.2.2.2.1 5 (by decide) (by decide)]
        rfl
      · have hp : pStE tp n (a + 1) = (false, a + 1, 0, 0) := if_neg hd
        rw [hp] at q
        cases q
  refine x_aload_n (i := 0) dX3_readStatement_154 rfl rfl ?_
  first | refine x_dupR dX3_readStatement_155 ?_ | refine x_dupI dX3_readStatement_155 ?_
  refine x_getI xf_RX3_27 dX3_readStatement_156 rfl rfl ?_
  refine x_iconst dX3_readStatement_159 ?_
  refine x_iadd dX3_readStatement_160 ?_
  rw [e2]
  refine x_putI xp_RX3_27 dX3_readStatement_161 rfl rfl ?_
  refine x_aload_n (i := 0) dX3_readStatement_164 rfl rfl ?_
  refine x_aload_n (i := 0) dX3_readStatement_165 rfl rfl ?_
  refine x_iconst dX3_readStatement_166 ?_
  refine x_cI0_1 lk_RX3_66 xm_X3_readNumber dX3_readStatement_167 (s3_readNumberB 1 (by decide) tp n (a + 1) 0 hn hn0 (by omega) (Or.inl rfl) ht _ (hP.st2 _) (by omega)) (fun a1 μ1 hq => ?_)
  obtain ⟨e1, q1, q2⟩ := hq
  cases e1
  refine x_putI xp_RX3_44 dX3_readStatement_170 rfl rfl ?_
  refine x_goto (tgt := 181) dX3_readStatement_173 (by decide) ?_
  exact K _ 0 μ1 rfl q1 q2
set_option maxRecDepth 100000 in
set_option maxHeartbeats 4000000 in
theorem p3_readStatement (tp : Nat → Int) (n a : Int) (hn : n ≤ 48) (hn0 : 0 ≤ n) (ha : 0 ≤ a) (ht : TB tp) (μ : xM) (hP : PT μ tp n a 0) (hc : pSg tp n a = 112) : X E0 shTape 2 yX3_readStatement cX3_readStatement 1 none 48 [some (.inr (.inl 0))] [] μ (fun r μ' => r = none ∧ PT μ' tp n (pStP tp n (a + 1)).2.1 (if (pStP tp n (a + 1)).1 = true then 0 else 1) ∧ TS2 μ μ' ∧ ((pStP tp n (a + 1)).1 = true → μ' 0 5 = (pStP tp n (a + 1)).2.2.1 ∧ ((if μ' 0 6 = 100 then (1 : Int) else 0) = (pStP tp n (a + 1)).2.2.2 ∧ x_in (μ' 0 6)))) := by
  have hl := pSg_lt (tp := tp) (n := n) (a := a) (by omega)
  have e2 := hP.2.2.1
  have hm := pNm_in ht hn 1 (a + 1) 0 (by omega) (by omega) (by omega)
  have hsg := pSg_in ht hn (show 0 ≤ (pNm tp n 1 (a + 1) 0).1 by omega)
  have hsl : 0 ≤ pSg tp n (pNm tp n 1 (a + 1) 0).1 → (pNm tp n 1 (a + 1) 0).1 < n := pSg_lt
  have K : ∀ (f b1 A2 B2 : Int) (μ1 μ2 : xM), (f = 1 ∧ (pSg tp n (pNm tp n 1 (a + 1) 0).1 = 115 ∨ pSg tp n (pNm tp n 1 (a + 1) 0).1 = 100) ∨ f = 0 ∧ ¬ (pSg tp n (pNm tp n 1 (a + 1) 0).1 = 115 ∨ pSg tp n (pNm tp n 1 (a + 1) 0).1 = 100)) → b1 = (if (0 : Int) = 0 ∧ pDg tp n (a + 1) = true then 0 else 1) → TS (x_st μ 0 2 (a + 1)) μ1 → A2 = (if f = 1 ∧ b1 = 0 then (pNm tp n 1 (a + 1) 0).1 + 1 else (pNm tp n 1 (a + 1) 0).1) → B2 = (if f = 1 ∧ b1 = 0 then 0 else 1) → PT μ2 tp n A2 B2 → TS (x_st (x_st μ1 0 5 (pNm tp n 1 (a + 1) 0).2) 0 6 (pSg tp n (pNm tp n 1 (a + 1) 0).1)) μ2 → X E0 shTape 2 yX3_readStatement cX3_readStatement 1 none 181 [some (.inr (.inl 0))] [] μ2 (fun r μ' => r = none ∧ PT μ' tp n (pStP tp n (a + 1)).2.1 (if (pStP tp n (a + 1)).1 = true then 0 else 1) ∧ TS2 μ μ' ∧ ((pStP tp n (a + 1)).1 = true → μ' 0 5 = (pStP tp n (a + 1)).2.2.1 ∧ ((if μ' 0 6 = 100 then (1 : Int) else 0) = (pStP tp n (a + 1)).2.2.2 ∧ x_in (μ' 0 6)))) := by
    intro f b1 A2 B2 μ1 μ2 hf hb1 t1 hA hB p2 t2
    have hB2 : B2 = 0 ∨ B2 = 1 := by rw [hB]; exact if01 _
    refine (z3_readStatement (pNm tp n 1 (a + 1) 0).2 (if pSg tp n (pNm tp n 1 (a + 1) 0).1 = 100 then 1 else 0) tp n A2 B2 hn hn0 (by rw [hA]; split <;> omega) hB2 ht _ p2).mono (fun r m z => ⟨z.1, ?_, ((((TS2.rfl' μ).st (Or.inl rfl) _).trans ((t1.to2.st (Or.inr (Or.inr (Or.inl rfl))) _).st (Or.inr (Or.inr (Or.inr rfl))) _)).trans t2.to2).trans z.2.2.2.to2, fun q => ?_⟩)
    · by_cases hd : pDg tp n (a + 1) = true
      · rw [if_pos ⟨rfl, hd⟩] at hb1
        rcases hf with ⟨f1, g⟩ | ⟨f0, g⟩
        · rw [if_pos ⟨f1, hb1⟩] at hA hB
          have hp : pStP tp n (a + 1) = pStZ tp n ((pNm tp n 1 (a + 1) 0).1 + 1) (pNm tp n 1 (a + 1) 0).2 (if pSg tp n (pNm tp n 1 (a + 1) 0).1 = 100 then 1 else 0) := (if_pos hd).trans (if_pos g)
          rw [hp, ← hA]
          exact z.2.1 hB
        · rw [if_neg (by omega)] at hA hB
          have hp : pStP tp n (a + 1) = (false, (pNm tp n 1 (a + 1) 0).1, 0, 0) := (if_pos hd).trans (if_neg g)
          rw [hp, if_neg Bool.false_ne_true]
          have := z.2.2.1 hB
          rw [hA] at this
          exact this
      · rw [if_neg (fun q => hd q.2)] at hb1
        rw [if_neg (by omega)] at hA hB
        have hp : pStP tp n (a + 1) = (false, a + 1, 0, 0) := if_neg hd
        have hq : pNm tp n 1 (a + 1) 0 = (a + 1, 0) := by rw [pNm, if_neg hd]
        rw [hp, if_neg Bool.false_ne_true]
        have := z.2.2.1 hB
        rw [hA, hq] at this
        exact this
    · by_cases hd : pDg tp n (a + 1) = true
      · rcases hf with ⟨f1, g⟩ | ⟨f0, g⟩
        · have hp : pStP tp n (a + 1) = pStZ tp n ((pNm tp n 1 (a + 1) 0).1 + 1) (pNm tp n 1 (a + 1) 0).2 (if pSg tp n (pNm tp n 1 (a + 1) 0).1 = 100 then 1 else 0) := (if_pos hd).trans (if_pos g)
          rw [hp] at q ⊢
          rw [(pStZ_v q).1, (pStZ_v q).2, z.2.2.2.1 5 (by decide) (by decide), z.2.2.2.1 6 (by decide) (by decide), t2.1 5 (by decide) (by decide), t2.1 6 (by decide) (by decide)]
          refine ⟨rfl, rfl, ?_⟩
          show x_in (pSg tp n (pNm tp n 1 (a + 1) 0).1)
          unfold x_in
          omega
        · have hp : pStP tp n (a + 1) = (false, (pNm tp n 1 (a + 1) 0).1, 0, 0) := (if_pos hd).trans (if_neg g)
          rw [hp] at q
          cases q
      · have hp : pStP tp n (a + 1) = (false, a + 1, 0, 0) := if_neg hd
        rw [hp] at q
        cases q
  refine x_aload_n (i := 0) dX3_readStatement_48 rfl rfl ?_
  first | refine x_dupR dX3_readStatement_49 ?_ | refine x_dupI dX3_readStatement_49 ?_
  refine x_getI xf_RX3_27 dX3_readStatement_50 rfl rfl ?_
  refine x_iconst dX3_readStatement_53 ?_
  refine x_iadd dX3_readStatement_54 ?_
  rw [e2]
  refine x_putI xp_RX3_27 dX3_readStatement_55 rfl rfl ?_
  refine x_aload_n (i := 0) dX3_readStatement_58 rfl rfl ?_
  refine x_aload_n (i := 0) dX3_readStatement_59 rfl rfl ?_
  refine x_iconst dX3_readStatement_60 ?_
  refine x_cI0_1 lk_RX3_66 xm_X3_readNumber dX3_readStatement_61 (s3_readNumberB 1 (by decide) tp n (a + 1) 0 hn hn0 (by omega) (Or.inl rfl) ht _ (hP.st2 _) (by omega)) (fun a1 μ1 hq => ?_)
  obtain ⟨e1, q1, q2⟩ := hq
  cases e1
  refine x_putI xp_RX3_44 dX3_readStatement_64 rfl rfl ?_
  refine x_aload_n (i := 0) dX3_readStatement_67 rfl rfl ?_
  refine x_aload_n (i := 0) dX3_readStatement_68 rfl rfl ?_
  refine x_cIp0_0 lk_RX3_63 xm_X3_look dX3_readStatement_69 (s3_look tp n (pNm tp n 1 (a + 1) 0).1 _ hn (by omega) ht _ (q1.st5 _) hn0) ?_
  refine x_putI xp_RX3_47 dX3_readStatement_72 rfl rfl ?_
  refine x_aload_n (i := 0) dX3_readStatement_75 rfl rfl ?_
  refine x_aload_n (i := 0) dX3_readStatement_76 rfl rfl ?_
  refine x_getI xf_RX3_47 dX3_readStatement_77 rfl rfl ?_
  try simp (decide := true) only [x_st_at, ↓reduceIte, if_true, if_false]
  refine x_bipush dX3_readStatement_80 (by decide) ?_
  refine x_icmp_eq (tgt := 94) dX3_readStatement_82 (by decide) (by first | (unfold x_in; omega) | (unfold x_in; decide)) (by first | (unfold x_in; omega) | (unfold x_in; decide)) (fun c1 => ?_) (fun c1 => ?_)
  · refine x_iconst dX3_readStatement_94 ?_
    refine x_goto (tgt := 99) dX3_readStatement_95 (by decide) ?_
    refine x_cV0_1 lk_RX3_70 xm_X3_take dX3_readStatement_99 (s3_takeB _ (by first | exact Or.inl rfl | exact Or.inr rfl) tp n (pNm tp n 1 (a + 1) 0).1 _ hn hn0 (by omega) (if01 _) ht _ ((q1.st5 _).st6 _)) (fun μ2 hq2 => ?_)
    obtain ⟨-, w1, w2⟩ := hq2
    refine x_goto (tgt := 181) dX3_readStatement_102 (by decide) ?_
    exact K _ _ _ _ μ1 μ2 (by omega) rfl q2 rfl rfl w1 w2
  · refine x_aload_n (i := 0) dX3_readStatement_85 rfl rfl ?_
    refine x_getI xf_RX3_47 dX3_readStatement_86 rfl rfl ?_
    try simp (decide := true) only [x_st_at, ↓reduceIte, if_true, if_false]
    refine x_bipush dX3_readStatement_89 (by decide) ?_
    refine x_icmp_ne (tgt := 98) dX3_readStatement_91 (by decide) (by first | (unfold x_in; omega) | (unfold x_in; decide)) (by first | (unfold x_in; omega) | (unfold x_in; decide)) (fun c2 => ?_) (fun c2 => ?_)
    · refine x_iconst dX3_readStatement_98 ?_
      refine x_cV0_1 lk_RX3_70 xm_X3_take dX3_readStatement_99 (s3_takeB _ (by first | exact Or.inl rfl | exact Or.inr rfl) tp n (pNm tp n 1 (a + 1) 0).1 _ hn hn0 (by omega) (if01 _) ht _ ((q1.st5 _).st6 _)) (fun μ2 hq2 => ?_)
      obtain ⟨-, w1, w2⟩ := hq2
      refine x_goto (tgt := 181) dX3_readStatement_102 (by decide) ?_
      exact K _ _ _ _ μ1 μ2 (by omega) rfl q2 rfl rfl w1 w2
    · refine x_iconst dX3_readStatement_94 ?_
      refine x_goto (tgt := 99) dX3_readStatement_95 (by decide) ?_
      refine x_cV0_1 lk_RX3_70 xm_X3_take dX3_readStatement_99 (s3_takeB _ (by first | exact Or.inl rfl | exact Or.inr rfl) tp n (pNm tp n 1 (a + 1) 0).1 _ hn hn0 (by omega) (if01 _) ht _ ((q1.st5 _).st6 _)) (fun μ2 hq2 => ?_)
      obtain ⟨-, w1, w2⟩ := hq2
      refine x_goto (tgt := 181) dX3_readStatement_102 (by decide) ?_
      exact K _ _ _ _ μ1 μ2 (by omega) rfl q2 rfl rfl w1 w2
set_option maxRecDepth 100000 in
set_option maxHeartbeats 4000000 in
theorem t3_readStatement (tp : Nat → Int) (n a : Int) (hn : n ≤ 48) (hn0 : 0 ≤ n) (ha : 0 ≤ a) (ht : TB tp) (μ : xM) (hP : PT μ tp n a 0) (hc : pSg tp n a = 116) : X E0 shTape 2 yX3_readStatement cX3_readStatement 1 none 105 [some (.inr (.inl 0))] [] μ (fun r μ' => r = none ∧ PT μ' tp n (pStT tp n (a + 1)).2.1 (if (pStT tp n (a + 1)).1 = true then 0 else 1) ∧ TS2 μ μ' ∧ ((pStT tp n (a + 1)).1 = true → μ' 0 5 = (pStT tp n (a + 1)).2.2.1 ∧ μ' 0 6 = (pStT tp n (a + 1)).2.2.2)) := by
  have hl := pSg_lt (tp := tp) (n := n) (a := a) (by omega)
  have e2 := hP.2.2.1
  have hm := pNm_in ht hn 3 (a + 1) 0 (by omega) (by omega) (by omega)
  have hsg := pSg_in ht hn (show 0 ≤ (pNm tp n 3 (a + 1) 0).1 by omega)
  have hsl : 0 ≤ pSg tp n (pNm tp n 3 (a + 1) 0).1 → (pNm tp n 3 (a + 1) 0).1 < n := pSg_lt
  have K : ∀ (f b1 A2 B2 : Int) (μ1 μ2 μ3 : xM), (f = 1 ∧ pSg tp n (pNm tp n 3 (a + 1) 0).1 = 44 ∨ f = 0 ∧ ¬ pSg tp n (pNm tp n 3 (a + 1) 0).1 = 44) → b1 = (if (0 : Int) = 0 ∧ pDg tp n (a + 1) = true then 0 else 1) → TS (x_st μ 0 2 (a + 1)) μ1 → A2 = (if f = 1 ∧ b1 = 0 then (pNm tp n 3 (a + 1) 0).1 + 1 else (pNm tp n 3 (a + 1) 0).1) → B2 = (if f = 1 ∧ b1 = 0 then 0 else 1) → TS (x_st μ1 0 5 (pNm tp n 3 (a + 1) 0).2) μ2 → PT μ3 tp n (if B2 = 0 then (pNm tp n 3 A2 0).1 else A2) (if B2 = 0 ∧ pDg tp n A2 = true then 0 else 1) → TS μ2 μ3 → X E0 shTape 2 yX3_readStatement cX3_readStatement 1 none 181 [some (.inr (.inl 0))] [] (x_st μ3 0 6 (if B2 = 0 then (pNm tp n 3 A2 0).2 else 0)) (fun r μ' => r = none ∧ PT μ' tp n (pStT tp n (a + 1)).2.1 (if (pStT tp n (a + 1)).1 = true then 0 else 1) ∧ TS2 μ μ' ∧ ((pStT tp n (a + 1)).1 = true → μ' 0 5 = (pStT tp n (a + 1)).2.2.1 ∧ μ' 0 6 = (pStT tp n (a + 1)).2.2.2)) := by
    intro f b1 A2 B2 μ1 μ2 μ3 hf hb1 t1 hA hB t2 p3 t3
    have hA2 : 0 ≤ A2 ∧ A2 ≤ n := by rw [hA]; split <;> omega
    have hm2 := pNm_in ht hn 3 A2 0 hA2.1 hA2.2 (by omega)
    refine (z3_readStatement (pNm tp n 3 (a + 1) 0).2 (pNm tp n 3 A2 0).2 tp n _ _ hn hn0 (by split <;> omega) (if01 _) ht _ (p3.st6 _)).mono (fun r m z => ⟨z.1, ?_, (((((TS2.rfl' μ).st (Or.inl rfl) _).trans (t1.to2.st (Or.inr (Or.inr (Or.inl rfl))) _)).trans t2.to2).trans (t3.to2.st (Or.inr (Or.inr (Or.inr rfl))) _)).trans z.2.2.2.to2, fun q => ?_⟩)
    · by_cases hd : pDg tp n (a + 1) = true
      · rw [if_pos ⟨rfl, hd⟩] at hb1
        rcases hf with ⟨f1, g⟩ | ⟨f0, g⟩
        · rw [if_pos ⟨f1, hb1⟩] at hA hB
          by_cases hd2 : pDg tp n ((pNm tp n 3 (a + 1) 0).1 + 1) = true
          · have hp : pStT tp n (a + 1) = pStZ tp n (pNm tp n 3 ((pNm tp n 3 (a + 1) 0).1 + 1) 0).1 (pNm tp n 3 (a + 1) 0).2 (pNm tp n 3 ((pNm tp n 3 (a + 1) 0).1 + 1) 0).2 := (if_pos hd).trans ((if_pos g).trans (if_pos hd2))
            rw [hp, ← hA]
            have := z.2.1 (if_pos ⟨hB, by rw [hA]; exact hd2⟩)
            rw [if_pos hB] at this
            exact this
          · have hp : pStT tp n (a + 1) = (false, (pNm tp n 3 (a + 1) 0).1 + 1, 0, 0) := (if_pos hd).trans ((if_pos g).trans (if_neg hd2))
            have hq : pNm tp n 3 ((pNm tp n 3 (a + 1) 0).1 + 1) 0 = ((pNm tp n 3 (a + 1) 0).1 + 1, 0) := by rw [pNm, if_neg hd2]
            have := z.2.2.1 (if_neg (fun q => by rw [hA] at q; exact hd2 q.2))
            rw [if_pos hB, hA, hq] at this
            rw [hp, if_neg Bool.false_ne_true]
            exact this
        · rw [if_neg (by omega)] at hA hB
          have hp : pStT tp n (a + 1) = (false, (pNm tp n 3 (a + 1) 0).1, 0, 0) := (if_pos hd).trans (if_neg g)
          have := z.2.2.1 (if_neg (by omega))
          rw [if_neg (by omega), hA] at this
          rw [hp, if_neg Bool.false_ne_true]
          exact this
      · rw [if_neg (fun q => hd q.2)] at hb1
        rw [if_neg (by omega)] at hA hB
        have hp : pStT tp n (a + 1) = (false, a + 1, 0, 0) := if_neg hd
        have hq : pNm tp n 3 (a + 1) 0 = (a + 1, 0) := by rw [pNm, if_neg hd]
        have := z.2.2.1 (if_neg (by omega))
        rw [if_neg (by omega), hA, hq] at this
        rw [hp, if_neg Bool.false_ne_true]
        exact this
    · by_cases hd : pDg tp n (a + 1) = true
      · rw [if_pos ⟨rfl, hd⟩] at hb1
        rcases hf with ⟨f1, g⟩ | ⟨f0, g⟩
        · rw [if_pos ⟨f1, hb1⟩] at hA hB
          by_cases hd2 : pDg tp n ((pNm tp n 3 (a + 1) 0).1 + 1) = true
          · have hp : pStT tp n (a + 1) = pStZ tp n (pNm tp n 3 ((pNm tp n 3 (a + 1) 0).1 + 1) 0).1 (pNm tp n 3 (a + 1) 0).2 (pNm tp n 3 ((pNm tp n 3 (a + 1) 0).1 + 1) 0).2 := (if_pos hd).trans ((if_pos g).trans (if_pos hd2))
            rw [hp] at q ⊢
            rw [(pStZ_v q).1, (pStZ_v q).2, z.2.2.2.1 5 (by decide) (by decide), z.2.2.2.1 6 (by decide) (by decide), ← hA, if_pos hB]
            refine ⟨?_, rfl⟩
            show μ3 0 5 = _
            rw [t3.1 5 (by decide) (by decide), t2.1 5 (by decide) (by decide)]
            rfl
          · have hp : pStT tp n (a + 1) = (false, (pNm tp n 3 (a + 1) 0).1 + 1, 0, 0) := (if_pos hd).trans ((if_pos g).trans (if_neg hd2))
            rw [hp] at q
            cases q
        · have hp : pStT tp n (a + 1) = (false, (pNm tp n 3 (a + 1) 0).1, 0, 0) := (if_pos hd).trans (if_neg g)
          rw [hp] at q
          cases q
      · have hp : pStT tp n (a + 1) = (false, a + 1, 0, 0) := if_neg hd
        rw [hp] at q
        cases q
  refine x_aload_n (i := 0) dX3_readStatement_105 rfl rfl ?_
  first | refine x_dupR dX3_readStatement_106 ?_ | refine x_dupI dX3_readStatement_106 ?_
  refine x_getI xf_RX3_27 dX3_readStatement_107 rfl rfl ?_
  refine x_iconst dX3_readStatement_110 ?_
  refine x_iadd dX3_readStatement_111 ?_
  rw [e2]
  refine x_putI xp_RX3_27 dX3_readStatement_112 rfl rfl ?_
  refine x_aload_n (i := 0) dX3_readStatement_115 rfl rfl ?_
  refine x_aload_n (i := 0) dX3_readStatement_116 rfl rfl ?_
  refine x_iconst dX3_readStatement_117 ?_
  refine x_cI0_1 lk_RX3_66 xm_X3_readNumber dX3_readStatement_118 (s3_readNumberB 3 (by decide) tp n (a + 1) 0 hn hn0 (by omega) (Or.inl rfl) ht _ (hP.st2 _) (by omega)) (fun a1 μ1 hq => ?_)
  obtain ⟨e1, q1, q2⟩ := hq
  cases e1
  refine x_putI xp_RX3_44 dX3_readStatement_121 rfl rfl ?_
  refine x_aload_n (i := 0) dX3_readStatement_124 rfl rfl ?_
  refine x_aload_n (i := 0) dX3_readStatement_125 rfl rfl ?_
  refine x_cIp0_0 lk_RX3_63 xm_X3_look dX3_readStatement_126 (s3_look tp n (pNm tp n 3 (a + 1) 0).1 _ hn (by omega) ht _ (q1.st5 _) hn0) ?_
  refine x_bipush dX3_readStatement_129 (by decide) ?_
  refine x_icmp_ne (tgt := 138) dX3_readStatement_131 (by decide) (by first | (unfold x_in; omega) | (unfold x_in; decide)) (by first | (unfold x_in; omega) | (unfold x_in; decide)) (fun c1 => ?_) (fun c1 => ?_)
  · refine x_iconst dX3_readStatement_138 ?_
    refine x_cV0_1 lk_RX3_70 xm_X3_take dX3_readStatement_139 (s3_takeB _ (by first | exact Or.inl rfl | exact Or.inr rfl) tp n (pNm tp n 3 (a + 1) 0).1 _ hn hn0 (by omega) (if01 _) ht _ (q1.st5 _)) (fun μ2 hq2 => ?_)
    obtain ⟨-, w1, w2⟩ := hq2
    refine x_aload_n (i := 0) dX3_readStatement_142 rfl rfl ?_
    refine x_aload_n (i := 0) dX3_readStatement_143 rfl rfl ?_
    refine x_iconst dX3_readStatement_144 ?_
    refine x_cI0_1 lk_RX3_66 xm_X3_readNumber dX3_readStatement_145 (s3_readNumberB 3 (by decide) tp n _ _ hn hn0 (by split <;> omega) (if01 _) ht _ w1 (by split <;> omega)) (fun a3 μ3 hq3 => ?_)
    obtain ⟨e3, q3, q4⟩ := hq3
    cases e3
    refine x_putI xp_RX3_47 dX3_readStatement_148 rfl rfl ?_
    refine x_goto (tgt := 181) dX3_readStatement_151 (by decide) ?_
    exact K _ _ _ _ μ1 μ2 μ3 (by omega) rfl q2 rfl rfl w2 q3 q4
  · refine x_iconst dX3_readStatement_134 ?_
    refine x_goto (tgt := 139) dX3_readStatement_135 (by decide) ?_
    refine x_cV0_1 lk_RX3_70 xm_X3_take dX3_readStatement_139 (s3_takeB _ (by first | exact Or.inl rfl | exact Or.inr rfl) tp n (pNm tp n 3 (a + 1) 0).1 _ hn hn0 (by omega) (if01 _) ht _ (q1.st5 _)) (fun μ2 hq2 => ?_)
    obtain ⟨-, w1, w2⟩ := hq2
    refine x_aload_n (i := 0) dX3_readStatement_142 rfl rfl ?_
    refine x_aload_n (i := 0) dX3_readStatement_143 rfl rfl ?_
    refine x_iconst dX3_readStatement_144 ?_
    refine x_cI0_1 lk_RX3_66 xm_X3_readNumber dX3_readStatement_145 (s3_readNumberB 3 (by decide) tp n _ _ hn hn0 (by split <;> omega) (if01 _) ht _ w1 (by split <;> omega)) (fun a3 μ3 hq3 => ?_)
    obtain ⟨e3, q3, q4⟩ := hq3
    cases e3
    refine x_putI xp_RX3_47 dX3_readStatement_148 rfl rfl ?_
    refine x_goto (tgt := 181) dX3_readStatement_151 (by decide) ?_
    exact K _ _ _ _ μ1 μ2 μ3 (by omega) rfl q2 rfl rfl w2 q3 q4
set_option maxRecDepth 100000 in
set_option maxHeartbeats 4000000 in
theorem s3_readStatement (tp : Nat → Int) (n a : Int) (hn : n ≤ 48) (hn0 : 0 ≤ n) (ha : 0 ≤ a) (ht : TB tp) (μ : xM) (hP : PT μ tp n a 0) (han : a ≤ 48) : X E0 shTape 2 yX3_readStatement cX3_readStatement 1 none 0 [some (.inr (.inl 0))] [] μ (fun r μ' => r = none ∧ PT μ' tp n (pSt tp n a).2.1 (if (pSt tp n a).1 = true then 0 else 1) ∧ μ' 0 4 = pSg tp n a ∧ (∀ k, k ≠ 0 → μ' k = μ k) ∧ ((pSt tp n a).1 = true → μ' 0 5 = (pSt tp n a).2.2.1 ∧ (pSg tp n a = 112 → (if μ' 0 6 = 100 then (1 : Int) else 0) = (pSt tp n a).2.2.2 ∧ x_in (μ' 0 6)) ∧ (pSg tp n a = 116 → μ' 0 6 = (pSt tp n a).2.2.2))) := by
  have hs := pSg_in ht hn ha
  have k4 : ∀ m, TS2 (x_st μ 0 4 (pSg tp n a)) m → m 0 4 = pSg tp n a ∧ ∀ k, k ≠ 0 → m k = μ k := fun m t => ⟨(t.1 4 (by decide)).trans rfl, fun k hk => (t.2 k hk).trans (funext fun x => x_st_ne (Or.inl hk))⟩
  refine x_aload_n (i := 0) dX3_readStatement_0 rfl rfl ?_
  refine x_aload_n (i := 0) dX3_readStatement_1 rfl rfl ?_
  refine x_cIp0_0 lk_RX3_63 xm_X3_look dX3_readStatement_2 (s3_look tp n a 0 hn (by omega) ht _ hP hn0) ?_
  refine x_putI xp_RX3_41 dX3_readStatement_5 rfl rfl ?_
  refine x_aload_n (i := 0) dX3_readStatement_8 rfl rfl ?_
  refine x_getI xf_RX3_41 dX3_readStatement_9 rfl rfl ?_
  try simp (decide := true) only [x_st_at, ↓reduceIte, if_true, if_false]
  refine x_lk3 (td := 176) (t0 := 154) (t1 := 48) (t2 := 105) dX3_readStatement_12 (by decide) (by first | (unfold x_in; omega) | (unfold x_in; decide)) (by decide) (by decide) (by decide) (by decide) (fun c1 => ?_) (fun c1 => ?_) (fun c1 => ?_) (fun c1 => ?_)
  · have hp : pSt tp n a = pStE tp n (a + 1) := ((if_neg (by omega)).trans ((if_neg (by omega)).trans (if_pos c1)))
    rw [hp]
    exact (e3_readStatement tp n a hn hn0 ha ht _ (hP.st4 _) c1).mono (fun r m z => ⟨z.1, z.2.1, (k4 m z.2.2.1).1, (k4 m z.2.2.1).2, fun q => ⟨(z.2.2.2 q).1, fun g => by omega, fun g => by omega⟩⟩)
  · have hp : pSt tp n a = pStP tp n (a + 1) := (if_pos c1)
    rw [hp]
    exact (p3_readStatement tp n a hn hn0 ha ht _ (hP.st4 _) c1).mono (fun r m z => ⟨z.1, z.2.1, (k4 m z.2.2.1).1, (k4 m z.2.2.1).2, fun q => ⟨(z.2.2.2 q).1, fun _ => (z.2.2.2 q).2, fun g => by omega⟩⟩)
  · have hp : pSt tp n a = pStT tp n (a + 1) := ((if_neg (by omega)).trans (if_pos c1))
    rw [hp]
    exact (t3_readStatement tp n a hn hn0 ha ht _ (hP.st4 _) c1).mono (fun r m z => ⟨z.1, z.2.1, (k4 m z.2.2.1).1, (k4 m z.2.2.1).2, fun q => ⟨(z.2.2.2 q).1, fun g => by omega, fun _ => (z.2.2.2 q).2⟩⟩)
  · refine x_aload_n (i := 0) dX3_readStatement_176 rfl rfl ?_
    refine x_iconst dX3_readStatement_177 ?_
    refine x_putZ xp_RX3_30 dX3_readStatement_178 rfl rfl (by first | exact Or.inl rfl | exact Or.inr rfl | omega) ?_
    have hp : pSt tp n a = (false, a, 0, 0) := ((if_neg (by omega)).trans ((if_neg (by omega)).trans (if_neg (by omega))))
    rw [hp]
    exact (z3_readStatement 0 0 tp n a 1 hn hn0 (by omega) (Or.inr rfl) ht _ ((hP.st4 _).st3 1)).mono (fun r m z => ⟨z.1, z.2.2.1 rfl, (z.2.2.2.1 4 (by decide) (by decide)).trans rfl, fun k hk => (z.2.2.2.2 k hk).trans (funext fun x => (x_st_ne (Or.inl hk)).trans (x_st_ne (Or.inl hk))), fun q => by cases q⟩)
