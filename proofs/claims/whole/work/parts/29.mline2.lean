/-! THE REFERENCE: reads, line -/
def pFm (tp : Nat → Int) (n : Int) : Nat → Int → Int → Int
  | 0, _, c => c
  | k + 1, a, c => if (pSt tp n a).1 = true then (if (pSt tp n a).2.1 < n then pFm tp n k (pSt tp n a).2.1 (c + 1) else c + 1) else -1000 - (pSt tp n a).2.1
def pBr (tp : Nat → Int) (n : Int) : Nat → Int → (Nat → Int) → Int × (Nat → Int)
  | 0, _, h => (0, h)
  | k + 1, a, h => if a < n then (if (pCm h (pSg tp n a) (pSt tp n a).2.2.1 (pSt tp n a).2.2.2).1 = true then pBr tp n k (pSt tp n a).2.1 (pCm h (pSg tp n a) (pSt tp n a).2.2.1 (pSt tp n a).2.2.2).2 else (-2000 - a, h)) else (0, h)
def dLine (tp : Nat → Int) (n : Int) (h : Nat → Int) : Int × (Nat → Int) := if pFm tp n 50 0 0 < 0 then (pFm tp n 50 0 0, h) else if (pBr tp n 50 0 h).1 < 0 then ((pBr tp n 50 0 h).1, h) else (pFm tp n 50 0 0, (pBr tp n 50 0 h).2)
theorem pSt_at {tp : Nat → Int} (ht : TB tp) {n a : Int} (hn : n ≤ 48) (ha : 0 ≤ a) (han : a ≤ n) : 0 ≤ (pSt tp n a).2.1 ∧ (pSt tp n a).2.1 ≤ 49 := by
  have Z : ∀ b v0 v1, 0 ≤ b → b ≤ n → 0 ≤ (pStZ tp n b v0 v1).2.1 ∧ (pStZ tp n b v0 v1).2.1 ≤ 49 := by
    intro b v0 v1 hb hbn
    unfold pStZ
    split
    · exact ⟨by show 0 ≤ b + 1; omega, by show b + 1 ≤ 49; omega⟩
    · exact ⟨hb, by show b ≤ 49; omega⟩
  unfold pSt
  split
  next k1 =>
    have hl := pSg_lt (tp := tp) (n := n) (a := a) (by omega)
    have hm := pNm_in ht hn 1 (a + 1) 0 (by omega) (by omega) (by omega)
    unfold pStP
    split
    · split
      next k2 =>
        have hl2 := pSg_lt (tp := tp) (n := n) (a := (pNm tp n 1 (a + 1) 0).1) (by omega)
        exact Z _ _ _ (by omega) (by omega)
      next => exact ⟨by show 0 ≤ (pNm tp n 1 (a + 1) 0).1; omega, by show (pNm tp n 1 (a + 1) 0).1 ≤ 49; omega⟩
    · exact ⟨by show 0 ≤ a + 1; omega, by show a + 1 ≤ 49; omega⟩
  next k1 =>
    split
    next k2 =>
      have hl := pSg_lt (tp := tp) (n := n) (a := a) (by omega)
      have hm := pNm_in ht hn 3 (a + 1) 0 (by omega) (by omega) (by omega)
      unfold pStT
      split
      · split
        next k3 =>
          have hl2 := pSg_lt (tp := tp) (n := n) (a := (pNm tp n 3 (a + 1) 0).1) (by omega)
          have hm2 := pNm_in ht hn 3 ((pNm tp n 3 (a + 1) 0).1 + 1) 0 (by omega) (by omega) (by omega)
          split
          · exact Z _ _ _ (by omega) (by omega)
          · exact ⟨by show 0 ≤ (pNm tp n 3 (a + 1) 0).1 + 1; omega, by show (pNm tp n 3 (a + 1) 0).1 + 1 ≤ 49; omega⟩
        next => exact ⟨by show 0 ≤ (pNm tp n 3 (a + 1) 0).1; omega, by show (pNm tp n 3 (a + 1) 0).1 ≤ 49; omega⟩
      · exact ⟨by show 0 ≤ a + 1; omega, by show a + 1 ≤ 49; omega⟩
    next k2 =>
      split
      next k3 =>
        have hl := pSg_lt (tp := tp) (n := n) (a := a) (by omega)
        have hm := pNm_in ht hn 1 (a + 1) 0 (by omega) (by omega) (by omega)
        unfold pStE
        split
        · exact Z _ _ _ (by omega) (by omega)
        · exact ⟨by show 0 ≤ a + 1; omega, by show a + 1 ≤ 49; omega⟩
      next => exact ⟨ha, by show a ≤ 49; omega⟩
/-- what reading the line leaves -/
def LQ (μ : xM) (e : Int) (h : Nat → Int) (r : Option xA) (μ' : xM) : Prop := r = some (.inl e) ∧ (∀ j, j ≠ 8 → μ' 0 j = μ 0 j) ∧ (∀ k, k ≠ 0 → k ≠ 2 → k ≠ 4 → k ≠ 6 → μ' k = μ k) ∧ μ' 2 = h ∧ ∀ j : Nat, 47 ≤ j → μ' 4 j = 0
/-- cells that reading leaves alone -/
def LSm (μ ν : xM) : Prop := (∀ j, j ≠ 8 → ν 0 j = μ 0 j) ∧ ∀ k, k ≠ 0 → k ≠ 4 → k ≠ 6 → ν k = μ k
theorem LSm.rs {a b c : xM} (h : LSm a b) (g : RS b c) : LSm a c := ⟨fun j hj => (g.1 j hj).trans (h.1 j hj), fun k a b c => (g.2 k a c).trans (h.2 k a b c)⟩
theorem LSm.st4 {a b : xM} (h : LSm a b) (i : Nat) (v : Int) : LSm a (x_st b 4 i v) := ⟨h.1, fun k k0 k4 k6 => by rw [← h.2 k k0 k4 k6]; funext x; simp [x_st, k4]⟩
theorem LSm.only4 {a b c : xM} (h : LSm a b) (g : ∀ k, k ≠ 4 → c k = b k) : LSm a c := ⟨fun j hj => by rw [g 0 (by decide)]; exact h.1 j hj, fun k k0 k4 k6 => by rw [g k k4]; exact h.2 k k0 k4 k6⟩
set_option maxRecDepth 100000 in
set_option maxHeartbeats 4000000 in
theorem c6_reads (tp : Nat → Int) (n : Int) (hn : 0 ≤ n ∧ n ≤ 48) (ht : TB tp) (μ : xM) (hG : GI μ) (h5 : μ 5 = tp) (h7 : μ 0 7 = n) (c : Int) (z3 z4 : Option xA) (ν : xM) (hL : LSm μ ν) (h : Nat → Int) (h4 : ν 4 = h) (hz : ∀ j, 47 ≤ j → h j = 0) : ∀ (k : Nat) (p : Int), 0 ≤ p → p ≤ 47 → (47 - p).toNat < k → X E0 shM 4 yX6_reads cX6_reads 5 (some .int) 114 [some (.inr (.inl 0)), some (.inl c), some (.inl p), z3, z4] [] (mCp ν 2 4 p.toNat) (LQ μ c h) := by
  intro k
  induction k with
  | zero => intro p _ _ h; omega
  | succ k ih =>
    intro p hp hp2 hk
    have e := mCp_ne ν 2 4 (j := 4) (by decide) p.toNat
    have e2 : ν 2 = μ 2 := hL.2 2 (by decide) (by decide) (by decide)
    refine x_iload_n (i := 2) dX6_reads_114 rfl rfl ?_
    refine x_bipush dX6_reads_115 (by decide) ?_
    refine x_icmp_ge (tgt := 138) dX6_reads_117 (by decide) (by first | (unfold x_in; omega) | (unfold x_in; decide)) (by first | (unfold x_in; omega) | (unfold x_in; decide)) (fun c1 => ?_) (fun c1 => ?_)
    · refine x_iload_n (i := 1) dX6_reads_138 rfl rfl ?_
      refine x_iret dX6_reads_139 rfl rfl ?_
      have ep : p = 47 := by omega
      subst ep
      refine ⟨rfl, fun j hj => ?_, fun k k0 k2 k4 k6 => ?_, ?_, fun j hj => ?_⟩
      · rw [mCp_ne _ _ _ (by decide)]
        exact hL.1 j hj
      · rw [mCp_ne _ _ _ k2]
        exact hL.2 k k0 k4 k6
      · rw [← h4]
        exact mCp_all (fun j hj => ⟨by rw [h4]; exact hz j hj, by rw [e2]; exact (hG.2.1 j hj).1⟩)
      · rw [mCp_ne _ _ _ (by decide), h4]
        exact hz j hj
    · refine x_aload_n (i := 0) dX6_reads_120 rfl rfl ?_
      refine x_getR xf_RX6_13 dX6_reads_121 rfl rfl ?_
      refine x_iload_n (i := 2) dX6_reads_124 rfl rfl ?_
      refine x_aload_n (i := 0) dX6_reads_125 rfl rfl ?_
      refine x_getR xf_RX6_19 dX6_reads_126 rfl rfl ?_
      refine x_iload_n (i := 2) dX6_reads_129 rfl rfl ?_
      refine x_iald dX6_reads_130 rfl (by decide) (by first | omega | decide) (by first | omega | decide) ?_
      rw [e]
      refine x_iast dX6_reads_131 rfl (by decide) (by first | omega | decide) (by first | omega | decide) ?_
      refine x_iinc_2 dX6_reads_132 (by decide) rfl ?_
      refine x_goto (tgt := 114) dX6_reads_135 (by decide) ?_
      have h := ih (p + 1) (by omega) (by omega) (by omega)
      rw [mCp_s _ _ _ hp] at h
      exact h
set_option maxRecDepth 100000 in
set_option maxHeartbeats 4000000 in
theorem b6_reads (tp : Nat → Int) (n : Int) (hn : 0 ≤ n ∧ n ≤ 48) (ht : TB tp) (μ : xM) (hG : GI μ) (h5 : μ 5 = tp) (h7 : μ 0 7 = n) (c : Int) (hc : 0 ≤ c) : ∀ (k : Nat) (a : Int) (h : Nat → Int) (ν : xM) (z2 z3 z4 : Option xA), 0 ≤ a → a ≤ n → n - a < k → x_nl z2 = true → x_nl z3 = true → (a < n → ∃ q d, 0 ≤ d ∧ 0 ≤ pFm tp n (q + 1) a d ∧ n - a < q + 1) → LSm μ ν → PF ν tp n a → ν 4 = h → MI h → (∀ j, 47 ≤ j → h j = 0) → X E0 shM 4 yX6_reads cX6_reads 5 (some .int) 68 [some (.inr (.inl 0)), some (.inl c), z2, z3, z4] [] ν (LQ μ (if (pBr tp n k a h).1 < 0 then (pBr tp n k a h).1 else c) (if (pBr tp n k a h).1 < 0 then μ 2 else (pBr tp n k a h).2)) := by
  intro k
  induction k with
  | zero => intro a h ν z2 z3 z4 h0 h1 h2; omega
  | succ k ih =>
    intro a h ν z2 z3 z4 ha han hk hz2 hz3 hf hL hP h4 hI hz
    have e8 := hP.2.2
    have e7 := hP.2.1
    have e2 : ν 2 = μ 2 := hL.2 2 (by decide) (by decide) (by decide)
    by_cases hlt : a < n
    · obtain ⟨q, d, hd, hfm, hq⟩ := hf hlt
      rw [pFm] at hfm
      have hat := pSt_at ht hn.2 ha han
      have hok : (pSt tp n a).1 = true := by
        cases hb : (pSt tp n a).1 with
        | true => rfl
        | false =>
          rw [hb, if_neg (by decide)] at hfm
          omega
      rw [if_pos hok] at hfm
      have hs := pSt_ok ht hn.2 ha han hok
      have hf2 : (pSt tp n a).2.1 < n → ∃ q d, 0 ≤ d ∧ 0 ≤ pFm tp n (q + 1) (pSt tp n a).2.1 d ∧ n - (pSt tp n a).2.1 < q + 1 := by
        intro hl2
        rw [if_pos hl2] at hfm
        cases q with
        | zero => omega
        | succ q => exact ⟨q, d + 1, by omega, hfm, by omega⟩
      have hsg := pSg_in ht hn.2 ha
      have KC : ∀ ν2 : xM, SQ (pSt tp n a) (pSg tp n a) ν tp n (some (.inl (bI (pSt tp n a).1))) ν2 → X E0 shM 0 yX6_comes cX6_comes 5 (some .boolean) 0 [some (.inr (.inl 0)), some (.inl (pSg tp n a)), none, none, none] [] ν2 (fun r μ' => r = some (.inl (bI (pCm h (pSg tp n a) (pSt tp n a).2.2.1 (pSt tp n a).2.2.2).1)) ∧ (∀ k, k ≠ 4 → μ' k = ν2 k) ∧ μ' 4 = (pCm h (pSg tp n a) (pSt tp n a).2.2.1 (pSt tp n a).2.2.2).2) := by
        intro ν2 hq
        obtain ⟨-, q1, q2, q3⟩ := hq
        obtain ⟨w0, w1⟩ := q3 hok
        have e4 : ν2 4 = h := by rw [q2.2 4 (by decide) (by decide), h4]
        rcases hs.2.2.2.2 with ⟨hc, -⟩ | ⟨hc, -⟩ | hc
        · rw [hc] at w1 ⊢
          have h := p6_comes _ _ hs.2.2.1 hs.2.2.2.1 ν2 (by rw [e4]; exact hI) w0 w1
          rw [e4] at h
          exact h
        · rw [hc] at w1 ⊢
          have h := e6_comes _ _ hs.2.2.1 hs.2.2.2.1 ν2 (by rw [e4]; exact hI) w0 w1
          rw [e4] at h
          exact h
        · rw [hc] at w1 ⊢
          have h := t6_comes _ _ hs.2.2.1 hs.2.2.2.1 ν2 (by rw [e4]; exact hI) w0 w1
          rw [e4] at h
          exact h
      refine x_aload_n (i := 0) dX6_reads_68 rfl rfl ?_
      refine x_getI xf_RX6_60 dX6_reads_69 rfl rfl ?_
      rw [e8]
      refine x_aload_n (i := 0) dX6_reads_72 rfl rfl ?_
      refine x_getI xf_RX6_54 dX6_reads_73 rfl rfl ?_
      rw [e7]
      refine x_icmp_ge (tgt := 112) dX6_reads_76 (by decide) (by first | exact bIx _ | (unfold x_in; omega) | (unfold x_in; decide)) (by first | exact bIx _ | (unfold x_in; omega) | (unfold x_in; decide)) (fun c1 => ?_) (fun c1 => ?_)
      · exact absurd c1 (by omega)
      · refine x_aload_n (i := 0) dX6_reads_79 rfl rfl ?_
        refine x_getI xf_RX6_60 dX6_reads_80 rfl rfl ?_
        rw [e8]
        refine x_istore_2 dX6_reads_83 (by decide) rfl ?_
        refine x_aload_n (i := 0) dX6_reads_84 rfl rfl ?_
        refine x_cIp0_0 lk_RX6_63 xm_X6_sign dX6_reads_85 (s6_sign tp n a hn.2 ha ht _ hP han) ?_
        refine x_istore_3 dX6_reads_88 (by decide) rfl ?_
        refine x_aload_n (i := 0) dX6_reads_89 rfl rfl ?_
        refine x_cI0_0 lk_RX6_78 xm_X6_readsStatement dX6_reads_90 (s6_readsStatement tp n a hn.2 ha ht _ hP han) (fun a1 μ1 hq => ?_)
        have hq0 := hq
        obtain ⟨e1, q1, q2, q3⟩ := hq0
        cases e1
        refine x_istore_4 dX6_reads_93 (by decide) rfl ?_
        refine x_aload_n (i := 0) dX6_reads_95 rfl rfl ?_
        refine x_iload_n (i := 3) dX6_reads_96 rfl rfl ?_
        refine x_cI0_1 lk_RX6_81 xm_X6_comes dX6_reads_97 (KC _ hq) (fun a5 μ5 hq5 => ?_)
        obtain ⟨g1, g2, g3⟩ := hq5
        cases g1
        refine x_if_ne (tgt := 109) dX6_reads_100 (by decide) (by first | exact bIx _ | (unfold x_in; omega) | (unfold x_in; decide)) (fun c2 => ?_) (fun c2 => ?_)
        · refine x_goto (tgt := 68) dX6_reads_109 (by decide) ?_
          rw [pBr, if_pos hlt, if_pos (bI_t c2)]
          have hx4 : ∀ j, 47 ≤ j → (pCm h (pSg tp n a) (pSt tp n a).2.2.1 (pSt tp n a).2.2.2).2 j = 0 := by
            intro j hj
            have hb0 := hI.1
            have hb1 := hI.2.1
            unfold pCm hset
            repeat' split
            all_goals first | exact hz j hj | skip
            all_goals (simp only []; repeat' split)
            all_goals first | exact hz j hj | omega
          exact ih _ _ μ5 _ _ _ (by omega) hs.2.1 (by omega) rfl rfl hf2 ((hL.rs q2).only4 g2) ⟨by rw [g2 5 (by decide)]; exact q1.1, by rw [g2 0 (by decide)]; exact q1.2.1, by rw [g2 0 (by decide)]; exact q1.2.2⟩ g3 (MI_pCm hI hs.2.2.1 hs.2.2.2.1 (by rcases hs.2.2.2.2 with q | q | q; exact Or.inl q; exact Or.inr (Or.inl q); exact Or.inr (Or.inr q)) (bI_t c2)) hx4
        · refine x_sipush dX6_reads_103 (by decide) ?_
          refine x_iload_n (i := 2) dX6_reads_106 rfl rfl ?_
          refine x_isub dX6_reads_107 ?_
          refine x_iret dX6_reads_108 rfl rfl ?_
          have hpb : pBr tp n (k + 1) a h = (-2000 - a, h) := by
            rw [pBr, if_pos hlt]
            exact if_neg (by rw [bI_f c2]; decide)
          rw [hpb, if_pos (by show -2000 - a < 0; omega), if_pos (by show -2000 - a < 0; omega)]
          have hL5 := (hL.rs q2).only4 g2
          refine ⟨rfl, hL5.1, fun k k0 k2 k4 k6 => hL5.2 k k0 k4 k6, hL5.2 2 (by decide) (by decide) (by decide), fun j hj => ?_⟩
          rw [g3]
          have hb0 := hI.1
          have hb1 := hI.2.1
          unfold pCm hset
          repeat' split
          all_goals first | exact hz j hj | skip
          all_goals (simp only []; repeat' split)
          all_goals first | exact hz j hj | omega
    · have hpb : pBr tp n (k + 1) a h = (0, h) := by
        rw [pBr, if_neg hlt]
      rw [hpb, if_neg (by show ¬ (0 : Int) < 0; decide), if_neg (by show ¬ (0 : Int) < 0; decide)]
      refine x_aload_n (i := 0) dX6_reads_68 rfl rfl ?_
      refine x_getI xf_RX6_60 dX6_reads_69 rfl rfl ?_
      rw [e8]
      refine x_aload_n (i := 0) dX6_reads_72 rfl rfl ?_
      refine x_getI xf_RX6_54 dX6_reads_73 rfl rfl ?_
      rw [e7]
      refine x_icmp_ge (tgt := 112) dX6_reads_76 (by decide) (by first | (unfold x_in; omega) | (unfold x_in; decide)) (by first | (unfold x_in; omega) | (unfold x_in; decide)) (fun c1 => ?_) (fun c1 => ?_)
      · refine x_iconst dX6_reads_112 ?_
        refine x_istore_2 dX6_reads_113 (by decide) rfl ?_
        exact c6_reads tp n hn ht μ hG h5 h7 c z3 z4 ν hL h h4 hz _ 0 (by omega) (by omega) (Nat.lt_succ_self _)
      · exact absurd c1 (by omega)
set_option maxRecDepth 100000 in
set_option maxHeartbeats 4000000 in
theorem k6_reads (tp : Nat → Int) (n : Int) (hn : 0 ≤ n ∧ n ≤ 48) (ht : TB tp) (μ : xM) (hG : GI μ) (h5 : μ 5 = tp) (h7 : μ 0 7 = n) (c : Int) (hc : 0 ≤ c) (z3 z4 : Option xA) (hz3 : x_nl z3 = true) (hf : 0 < n → ∃ q d, 0 ≤ d ∧ 0 ≤ pFm tp n (q + 1) 0 d ∧ n - 0 < q + 1) (ν : xM) (hR : RS μ ν) : ∀ (k : Nat) (p : Int), 0 ≤ p → p ≤ 47 → (47 - p).toNat < k → X E0 shM 4 yX6_reads cX6_reads 5 (some .int) 39 [some (.inr (.inl 0)), some (.inl c), some (.inl p), z3, z4] [] (mCp ν 4 2 p.toNat) (LQ μ (if (pBr tp n 50 0 (μ 2)).1 < 0 then (pBr tp n 50 0 (μ 2)).1 else c) (if (pBr tp n 50 0 (μ 2)).1 < 0 then μ 2 else (pBr tp n 50 0 (μ 2)).2)) := by
  intro k
  induction k with
  | zero => intro p _ _ h; omega
  | succ k ih =>
    intro p hp hp2 hk
    have e := mCp_ne ν 4 2 (j := 2) (by decide) p.toNat
    have e2 : ν 2 = μ 2 := hR.2 2 (by decide) (by decide)
    have e4 : mCp ν 4 2 47 4 = μ 2 := by
      rw [← e2]
      exact mCp_all (fun j hj => ⟨by rw [e2]; exact (hG.2.1 j hj).1, by rw [hR.2 4 (by decide) (by decide)]; exact (hG.2.1 j hj).2.2.1⟩)
    have en : ∀ j, j ≠ 4 → mCp ν 4 2 47 j = ν j := fun j hj => mCp_ne ν 4 2 hj 47
    have K := b6_reads tp n hn ht μ hG h5 h7 c hc 50 0 (μ 2) (x_st (mCp ν 4 2 47) 0 8 0) (some (.inl 47)) z3 z4 (by omega) hn.1 (by omega) rfl hz3 hf ⟨fun j hj => by show (if j = 8 then (0 : Int) else mCp ν 4 2 47 0 j) = μ 0 j; rw [if_neg hj, en 0 (by decide)]; exact hR.1 j hj, fun k k0 k4 k6 => by rw [show (x_st (mCp ν 4 2 47) 0 8 0) k = mCp ν 4 2 47 k from by funext x; simp [x_st, k0], en k k4]; exact hR.2 k k0 k6⟩ ⟨by show mCp ν 4 2 47 5 = tp; rw [en 5 (by decide), hR.2 5 (by decide) (by decide), h5], by show mCp ν 4 2 47 0 7 = n; rw [en 0 (by decide), hR.1 7 (by decide), h7], rfl⟩ e4 hG.1 (fun j hj => (hG.2.1 j hj).1)
    refine x_iload_n (i := 2) dX6_reads_39 rfl rfl ?_
    refine x_bipush dX6_reads_40 (by decide) ?_
    refine x_icmp_ge (tgt := 63) dX6_reads_42 (by decide) (by first | (unfold x_in; omega) | (unfold x_in; decide)) (by first | (unfold x_in; omega) | (unfold x_in; decide)) (fun c1 => ?_) (fun c1 => ?_)
    · refine x_aload_n (i := 0) dX6_reads_63 rfl rfl ?_
      refine x_iconst dX6_reads_64 ?_
      refine x_putI xp_RX6_60 dX6_reads_65 rfl rfl ?_
      have ep : p = 47 := by omega
      subst ep
      exact K
    · refine x_aload_n (i := 0) dX6_reads_45 rfl rfl ?_
      refine x_getR xf_RX6_19 dX6_reads_46 rfl rfl ?_
      refine x_iload_n (i := 2) dX6_reads_49 rfl rfl ?_
      refine x_aload_n (i := 0) dX6_reads_50 rfl rfl ?_
      refine x_getR xf_RX6_13 dX6_reads_51 rfl rfl ?_
      refine x_iload_n (i := 2) dX6_reads_54 rfl rfl ?_
      refine x_iald dX6_reads_55 rfl (by decide) (by first | omega | decide) (by first | omega | decide) ?_
      rw [e]
      refine x_iast dX6_reads_56 rfl (by decide) (by first | omega | decide) (by first | omega | decide) ?_
      refine x_iinc_2 dX6_reads_57 (by decide) rfl ?_
      refine x_goto (tgt := 39) dX6_reads_60 (by decide) ?_
      have h := ih (p + 1) (by omega) (by omega) (by omega)
      rw [mCp_s _ _ _ hp] at h
      exact h
set_option maxRecDepth 100000 in
set_option maxHeartbeats 4000000 in
theorem a6_reads (tp : Nat → Int) (n : Int) (hn : 0 ≤ n ∧ n ≤ 48) (ht : TB tp) (μ : xM) (hG : GI μ) (h5 : μ 5 = tp) (h7 : μ 0 7 = n) : ∀ (k : Nat) (a c : Int) (ν : xM) (z2 z3 z4 : Option xA), 0 ≤ a → a ≤ n → n - a < k → 0 ≤ c → x_nl z3 = true → pFm tp n 50 0 0 = pFm tp n k a c → RS μ ν → PF ν tp n a → X E0 shM 4 yX6_reads cX6_reads 5 (some .int) 7 [some (.inr (.inl 0)), some (.inl c), z2, z3, z4] [] ν (LQ μ (dLine tp n (μ 2)).1 (dLine tp n (μ 2)).2) := by
  intro k
  induction k with
  | zero => intro a c ν z2 z3 z4 h0 h1 h2; omega
  | succ k ih =>
    intro a c ν z2 z3 z4 ha han hk hc hz3 hinv hR hP
    have hat := pSt_at ht hn.2 ha han
    rw [show pFm tp n (k + 1) a c = (if (pSt tp n a).1 = true then (if (pSt tp n a).2.1 < n then pFm tp n k (pSt tp n a).2.1 (c + 1) else c + 1) else -1000 - (pSt tp n a).2.1) from rfl] at hinv
    have KF : (pSt tp n a).1 = false → ∀ ν2, RS ν ν2 → LQ μ (dLine tp n (μ 2)).1 (dLine tp n (μ 2)).2 (some (.inl (-1000 - (pSt tp n a).2.1))) ν2 := by
      intro hb ν2 hR2
      rw [hb, if_neg (by decide)] at hinv
      have hR3 := hR.trans hR2
      have hd : dLine tp n (μ 2) = (pFm tp n 50 0 0, μ 2) := by
        unfold dLine
        rw [if_pos (by omega)]
      rw [hd, hinv]
      exact ⟨rfl, hR3.1, fun k k0 k2 k4 k6 => hR3.2 k k0 k6, hR3.2 2 (by decide) (by decide), fun j hj => by rw [hR3.2 4 (by decide) (by decide)]; exact (hG.2.1 j hj).2.2.1⟩
    have KE : (pSt tp n a).1 = true → n ≤ (pSt tp n a).2.1 → ∀ ν2, RS μ ν2 → X E0 shM 4 yX6_reads cX6_reads 5 (some .int) 39 [some (.inr (.inl 0)), some (.inl (c + 1)), some (.inl 0), z3, z4] [] ν2 (LQ μ (dLine tp n (μ 2)).1 (dLine tp n (μ 2)).2) := by
      intro hb hge ν2 hR2
      rw [hb, if_pos rfl, if_neg (by omega)] at hinv
      have h := k6_reads tp n hn ht μ hG h5 h7 (c + 1) (by omega) z3 z4 hz3 (fun _ => ⟨49, 0, by omega, by rw [hinv]; omega, by omega⟩) ν2 hR2 48 0 (by omega) (by omega) (by omega)
      have hd : dLine tp n (μ 2) = ((if (pBr tp n 50 0 (μ 2)).1 < 0 then (pBr tp n 50 0 (μ 2)).1 else c + 1), (if (pBr tp n 50 0 (μ 2)).1 < 0 then μ 2 else (pBr tp n 50 0 (μ 2)).2)) := by
        unfold dLine
        rw [if_neg (by omega), hinv]
        split <;> rfl
      rw [hd]
      exact h
    have KN : (pSt tp n a).1 = true → (pSt tp n a).2.1 < n → ∀ ν2 w2, RS μ ν2 → PF ν2 tp n (pSt tp n a).2.1 → X E0 shM 4 yX6_reads cX6_reads 5 (some .int) 7 [some (.inr (.inl 0)), some (.inl (c + 1)), w2, z3, z4] [] ν2 (LQ μ (dLine tp n (μ 2)).1 (dLine tp n (μ 2)).2) := by
      intro hb hlt ν2 w2 hR2 hP2
      rw [hb, if_pos rfl, if_pos hlt] at hinv
      have hs := pSt_ok ht hn.2 ha han hb
      exact ih _ _ ν2 w2 z3 z4 (by omega) (by omega) (by omega) (by omega) hz3 hinv hR2 hP2
    refine x_aload_n (i := 0) dX6_reads_7 rfl rfl ?_
    refine x_cI0_0 lk_RX6_78 xm_X6_readsStatement dX6_reads_8 (s6_readsStatement tp n a hn.2 ha ht _ hP han) (fun a1 μ1 hq => ?_)
    obtain ⟨e1, q1, q2, q3⟩ := hq
    cases e1
    refine x_if_ne (tgt := 23) dX6_reads_11 (by decide) (by first | exact bIx _ | (unfold x_in; omega) | (unfold x_in; decide)) (fun c1 => ?_) (fun c1 => ?_)
    · refine x_iinc_1 dX6_reads_23 (by decide) rfl ?_
      refine x_aload_n (i := 0) dX6_reads_26 rfl rfl ?_
      refine x_getI xf_RX6_60 dX6_reads_27 rfl rfl ?_
      try simp (decide := true) only [x_st_at, ↓reduceIte, if_true, if_false]
      rw [q1.2.2]
      refine x_aload_n (i := 0) dX6_reads_30 rfl rfl ?_
      refine x_getI xf_RX6_54 dX6_reads_31 rfl rfl ?_
      try simp (decide := true) only [x_st_at, ↓reduceIte, if_true, if_false]
      rw [q1.2.1]
      refine x_icmp_lt (tgt := 7) dX6_reads_34 (by decide) (by first | exact bIx _ | (unfold x_in; omega) | (unfold x_in; decide)) (by first | exact bIx _ | (unfold x_in; omega) | (unfold x_in; decide)) (fun c2 => ?_) (fun c2 => ?_)
      · exact KN (bI_t c1) c2 _ _ (hR.trans q2) q1
      · refine x_iconst dX6_reads_37 ?_
        refine x_istore_2 dX6_reads_38 (by decide) rfl ?_
        exact KE (bI_t c1) c2 _ (hR.trans q2)
    · refine x_sipush dX6_reads_14 (by decide) ?_
      refine x_aload_n (i := 0) dX6_reads_17 rfl rfl ?_
      refine x_getI xf_RX6_60 dX6_reads_18 rfl rfl ?_
      try simp (decide := true) only [x_st_at, ↓reduceIte, if_true, if_false]
      rw [q1.2.2]
      refine x_isub dX6_reads_21 ?_
      refine x_iret dX6_reads_22 rfl rfl ?_
      exact KF (bI_f c1) _ q2
set_option maxRecDepth 100000 in
set_option maxHeartbeats 4000000 in
theorem s6_reads (tp : Nat → Int) (n : Int) (hn : 0 ≤ n ∧ n ≤ 48) (ht : TB tp) (μ : xM) (hG : GI μ) (h5 : μ 5 = tp) (h7 : μ 0 7 = n) : X E0 shM 4 yX6_reads cX6_reads 5 (some .int) 0 [some (.inr (.inl 0)), none, none, none, none] [] μ (LQ μ (dLine tp n (μ 2)).1 (dLine tp n (μ 2)).2) := by
  refine x_aload_n (i := 0) dX6_reads_0 rfl rfl ?_
  refine x_iconst dX6_reads_1 ?_
  refine x_putI xp_RX6_60 dX6_reads_2 rfl rfl ?_
  refine x_iconst dX6_reads_5 ?_
  refine x_istore_1 dX6_reads_6 (by decide) rfl ?_
  exact a6_reads tp n hn ht μ hG h5 h7 50 0 0 _ none none none (by omega) hn.1 (by omega) (by omega) rfl rfl ((RS.rfl' μ).at_ 0) ⟨h5, h7, rfl⟩
set_option maxRecDepth 100000 in
set_option maxHeartbeats 4000000 in
theorem s6_line (μ : xM) (hG : GI μ) : X E0 shM 5 yX6_line cX6_line 2 (some .int) 0 [some (.inr (.inl 0)), none] [] μ (PQ (dLine (μ 5) (μ 0 7) (μ 2)).1 (x_st (fun k => if k = 2 then (dLine (μ 5) (μ 0 7) (μ 2)).2 else μ k) 0 7 0)) := by
  refine x_aload_n (i := 0) dX6_line_0 rfl rfl ?_
  refine x_cI0_0 lk_RX6_84 xm_X6_reads dX6_line_1 (s6_reads (μ 5) (μ 0 7) hG.2.2.1 hG.2.2.2.1 μ hG rfl rfl) (fun a μ' hq => ?_)
  obtain ⟨e1, g1, g2, g3, g4⟩ := hq
  cases e1
  refine x_istore_1 dX6_line_4 (by decide) rfl ?_
  refine x_aload_n (i := 0) dX6_line_5 rfl rfl ?_
  refine x_iconst dX6_line_6 ?_
  refine x_putI xp_RX6_54 dX6_line_7 rfl rfl ?_
  refine x_iload_n (i := 1) dX6_line_10 rfl rfl ?_
  refine x_iret dX6_line_11 rfl rfl ?_
  refine ⟨rfl, g2 1 (by decide) (by decide) (by decide) (by decide), g3, g2 3 (by decide) (by decide) (by decide) (by decide), g2 5 (by decide) (by decide) (by decide) (by decide), g2 12 (by decide) (by decide) (by decide) (by decide), g1 4 (by decide), rfl, g1 22 (by decide), fun j hj => ⟨g4 j hj, ?_⟩⟩
  rw [show (x_st μ' 0 7 0) 10 = μ' 10 from rfl, g2 10 (by decide) (by decide) (by decide) (by decide)]
  exact (hG.2.1 j hj).2.2.2
