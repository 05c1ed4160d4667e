/-! THE REFERENCE: the line is read -/
def pSg (tp : Nat → Int) (n a : Int) : Int := if n ≤ a then -1 else tp a.toNat
def pDg (tp : Nat → Int) (n a : Int) : Bool := decide (48 ≤ pSg tp n a ∧ pSg tp n a ≤ 57)
def pNm (tp : Nat → Int) (n : Int) : Nat → Int → Int → Int × Int
  | 0, a, v => (a, v)
  | k + 1, a, v => if pDg tp n a = true then pNm tp n k (a + 1) (10 * v + pSg tp n a - 48) else (a, v)
def pStZ (tp : Nat → Int) (n a v0 v1 : Int) : Bool × Int × Int × Int := if pSg tp n a = 59 then (true, a + 1, v0, v1) else (false, a, 0, 0)
def pStP (tp : Nat → Int) (n b : Int) : Bool × Int × Int × Int := if pDg tp n b = true then (if pSg tp n (pNm tp n 1 b 0).1 = 115 ∨ pSg tp n (pNm tp n 1 b 0).1 = 100 then pStZ tp n ((pNm tp n 1 b 0).1 + 1) (pNm tp n 1 b 0).2 (if pSg tp n (pNm tp n 1 b 0).1 = 100 then 1 else 0) else (false, (pNm tp n 1 b 0).1, 0, 0)) else (false, b, 0, 0)
def pStT (tp : Nat → Int) (n b : Int) : Bool × Int × Int × Int := if pDg tp n b = true then (if pSg tp n (pNm tp n 3 b 0).1 = 44 then (if pDg tp n ((pNm tp n 3 b 0).1 + 1) = true then pStZ tp n (pNm tp n 3 ((pNm tp n 3 b 0).1 + 1) 0).1 (pNm tp n 3 b 0).2 (pNm tp n 3 ((pNm tp n 3 b 0).1 + 1) 0).2 else (false, (pNm tp n 3 b 0).1 + 1, 0, 0)) else (false, (pNm tp n 3 b 0).1, 0, 0)) else (false, b, 0, 0)
def pStE (tp : Nat → Int) (n b : Int) : Bool × Int × Int × Int := if pDg tp n b = true then pStZ tp n (pNm tp n 1 b 0).1 (pNm tp n 1 b 0).2 0 else (false, b, 0, 0)
def pSt (tp : Nat → Int) (n a : Int) : Bool × Int × Int × Int := if pSg tp n a = 112 then pStP tp n (a + 1) else if pSg tp n a = 116 then pStT tp n (a + 1) else if pSg tp n a = 101 then pStE tp n (a + 1) else (false, a, 0, 0)
def TB (tp : Nat → Int) : Prop := ∀ k : Int, 0 ≤ k → k < 48 → 0 ≤ tp k.toNat ∧ tp k.toNat ≤ 255
theorem pSg_in {tp : Nat → Int} (ht : TB tp) {n a : Int} (hn : n ≤ 48) (ha : 0 ≤ a) : -1 ≤ pSg tp n a ∧ pSg tp n a ≤ 255 := by
  unfold pSg
  split
  · omega
  · have := ht a ha (by omega)
    omega
theorem pSg_lt {tp : Nat → Int} {n a : Int} (h : 0 ≤ pSg tp n a) : a < n := by
  unfold pSg at h
  split at h
  · omega
  · omega
theorem pDg_sg {tp : Nat → Int} {n a : Int} (h : pDg tp n a = true) : 48 ≤ pSg tp n a ∧ pSg tp n a ≤ 57 := of_decide_eq_true h
theorem pNm_in {tp : Nat → Int} (ht : TB tp) {n : Int} (hn : n ≤ 48) : ∀ (k : Nat) (a v : Int), 0 ≤ a → a ≤ n → 0 ≤ v → (a ≤ (pNm tp n k a v).1 ∧ (pNm tp n k a v).1 ≤ n) ∧ 0 ≤ (pNm tp n k a v).2 ∧ (pNm tp n k a v).2 + 1 ≤ (v + 1) * 10 ^ k
  | 0, a, v, h0, h1, h2 => by
    refine ⟨⟨Int.le_refl _, h1⟩, h2, ?_⟩
    show v + 1 ≤ (v + 1) * 10 ^ 0
    omega
  | k + 1, a, v, h0, h1, h2 => by
    rw [pNm]
    split
    next hd =>
      have hs := pDg_sg hd
      have hl := pSg_lt (tp := tp) (n := n) (a := a) (by omega)
      obtain ⟨i1, i2, i3⟩ := pNm_in ht hn k (a + 1) (10 * v + pSg tp n a - 48) (by omega) (by omega) (by omega)
      refine ⟨by omega, i2, Int.le_trans i3 ?_⟩
      have e : (v + 1) * 10 ^ (k + 1) = (10 * (v + 1)) * 10 ^ k := by rw [Int.pow_succ]; ac_rfl
      rw [e]
      exact Int.mul_le_mul_of_nonneg_right (by omega) (Int.pow_nonneg (by decide))
    next =>
      refine ⟨⟨Int.le_refl _, h1⟩, h2, ?_⟩
      have h3 : (1 : Int) ≤ 10 ^ (k + 1) := Int.pow_pos (by decide)
      have := Int.mul_le_mul_of_nonneg_left h3 (show 0 ≤ v + 1 by omega)
      omega
def PF (μ : xM) (tp : Nat → Int) (n a : Int) : Prop := μ 5 = tp ∧ μ 0 7 = n ∧ μ 0 8 = a
def RS (μ ν : xM) : Prop := (∀ j, j ≠ 8 → ν 0 j = μ 0 j) ∧ ∀ k, k ≠ 0 → k ≠ 6 → ν k = μ k
theorem RS.rfl' (μ : xM) : RS μ μ := ⟨fun _ _ => rfl, fun _ _ _ => rfl⟩
theorem RS.trans {a b c : xM} (h : RS a b) (g : RS b c) : RS a c := ⟨fun j hj => (g.1 j hj).trans (h.1 j hj), fun k a b => (g.2 k a b).trans (h.2 k a b)⟩
theorem RS.at_ {a b : xM} (h : RS a b) (v : Int) : RS a (x_st b 0 8 v) := ⟨fun j hj => by rw [← h.1 j hj]; simp [x_st, hj], fun k k0 k6 => by rw [← h.2 k k0 k6]; funext x; simp [x_st, k0]⟩
theorem RS.told {a b : xM} (h : RS a b) (i : Nat) (v : Int) : RS a (x_st b 6 i v) := ⟨h.1, fun k k0 k6 => by rw [← h.2 k k0 k6]; funext x; simp [x_st, k6]⟩
theorem PF.at_ {μ : xM} {tp : Nat → Int} {n a : Int} (h : PF μ tp n a) (v : Int) : PF (x_st μ 0 8 v) tp n v := ⟨h.1, h.2.1, rfl⟩
theorem PF.told {μ : xM} {tp : Nat → Int} {n a : Int} (h : PF μ tp n a) (i : Nat) (v : Int) : PF (x_st μ 6 i v) tp n a := h
set_option maxRecDepth 100000 in
set_option maxHeartbeats 4000000 in
theorem s6_sign (tp : Nat → Int) (n a : Int) (hn : n ≤ 48) (ha : 0 ≤ a) (ht : TB tp) (μ : xM) (hP : PF μ tp n a) (han : a ≤ n) : X E0 shM 0 yX6_sign cX6_sign 1 (some .int) 0 [some (.inr (.inl 0))] [] μ (x_Q (pSg tp n a) μ) := by
  obtain ⟨rfl, rfl, rfl⟩ := hP
  refine x_aload_n (i := 0) dX6_sign_0 rfl rfl ?_
  refine x_getI xf_RX6_60 dX6_sign_1 rfl rfl ?_
  refine x_aload_n (i := 0) dX6_sign_4 rfl rfl ?_
  refine x_getI xf_RX6_54 dX6_sign_5 rfl rfl ?_
  refine x_icmp_lt (tgt := 15) dX6_sign_8 (by decide) (by first | (unfold x_in; omega) | (unfold x_in; decide)) (by first | (unfold x_in; omega) | (unfold x_in; decide)) (fun c1 => ?_) (fun c1 => ?_)
  · refine x_aload_n (i := 0) dX6_sign_15 rfl rfl ?_
    refine x_getR xf_RX6_22 dX6_sign_16 rfl rfl ?_
    refine x_aload_n (i := 0) dX6_sign_19 rfl rfl ?_
    refine x_getI xf_RX6_60 dX6_sign_20 rfl rfl ?_
    refine x_iald dX6_sign_23 rfl (by decide) (by first | omega | decide) (by first | omega | decide) ?_
    exact x_iret dX6_sign_24 rfl rfl (x_ok (by unfold pSg; first | rw [if_pos (by omega)] | rw [if_neg (by omega)]) (by rfl))
  · refine x_iconst dX6_sign_11 ?_
    refine x_goto (tgt := 24) dX6_sign_12 (by decide) ?_
    exact x_iret dX6_sign_24 rfl rfl (x_ok (by unfold pSg; first | rw [if_pos (by omega)] | rw [if_neg (by omega)]) (by rfl))
set_option maxRecDepth 100000 in
set_option maxHeartbeats 4000000 in
theorem s6_isDigit (tp : Nat → Int) (n a : Int) (hn : n ≤ 48) (ha : 0 ≤ a) (ht : TB tp) (μ : xM) (hP : PF μ tp n a) (han : a ≤ n) : X E0 shM 1 yX6_isDigit cX6_isDigit 1 (some .boolean) 0 [some (.inr (.inl 0))] [] μ (x_Q (bI (pDg tp n a)) μ) := by
  have hs := pSg_in ht hn ha
  refine x_aload_n (i := 0) dX6_isDigit_0 rfl rfl ?_
  refine x_cIp0_0 lk_RX6_63 xm_X6_sign dX6_isDigit_1 (s6_sign tp n a hn ha ht _ hP han) ?_
  refine x_bipush dX6_isDigit_4 (by decide) ?_
  refine x_icmp_lt (tgt := 22) dX6_isDigit_6 (by decide) (by first | (unfold x_in; omega) | (unfold x_in; decide)) (by first | (unfold x_in; omega) | (unfold x_in; decide)) (fun c1 => ?_) (fun c1 => ?_)
  · refine x_iconst dX6_isDigit_22 ?_
    exact x_iret dX6_isDigit_23 rfl (x_narZ (by first | exact Or.inl rfl | exact Or.inr rfl | omega)) (x_ok (by first | exact bd_t (by omega) | exact bd_f (by omega)) (by rfl))
  · refine x_aload_n (i := 0) dX6_isDigit_9 rfl rfl ?_
    refine x_cIp0_0 lk_RX6_63 xm_X6_sign dX6_isDigit_10 (s6_sign tp n a hn ha ht _ hP han) ?_
    refine x_bipush dX6_isDigit_13 (by decide) ?_
    refine x_icmp_gt (tgt := 22) dX6_isDigit_15 (by decide) (by first | (unfold x_in; omega) | (unfold x_in; decide)) (by first | (unfold x_in; omega) | (unfold x_in; decide)) (fun c2 => ?_) (fun c2 => ?_)
    · refine x_iconst dX6_isDigit_22 ?_
      exact x_iret dX6_isDigit_23 rfl (x_narZ (by first | exact Or.inl rfl | exact Or.inr rfl | omega)) (x_ok (by first | exact bd_t (by omega) | exact bd_f (by omega)) (by rfl))
    · refine x_iconst dX6_isDigit_18 ?_
      refine x_goto (tgt := 23) dX6_isDigit_19 (by decide) ?_
      exact x_iret dX6_isDigit_23 rfl (x_narZ (by first | exact Or.inl rfl | exact Or.inr rfl | omega)) (x_ok (by first | exact bd_t (by omega) | exact bd_f (by omega)) (by rfl))
set_option maxRecDepth 100000 in
set_option maxHeartbeats 4000000 in
theorem s6_takesSign (tp : Nat → Int) (n a : Int) (hn : n ≤ 48) (ha : 0 ≤ a) (ht : TB tp) (μ : xM) (hP : PF μ tp n a) (han : a ≤ n) (c : Int) (hc : 0 ≤ c ∧ c ≤ 255) : X E0 shM 1 yX6_takesSign cX6_takesSign 2 (some .boolean) 0 [some (.inr (.inl 0)), some (.inl c)] [] μ (x_Q (bI (decide (pSg tp n a = c))) (if pSg tp n a = c then x_st μ 0 8 (a + 1) else μ)) := by
  have hs := pSg_in ht hn ha
  have h8 := hP.2.2
  refine x_aload_n (i := 0) dX6_takesSign_0 rfl rfl ?_
  refine x_cIp0_0 lk_RX6_63 xm_X6_sign dX6_takesSign_1 (s6_sign tp n a hn ha ht _ hP han) ?_
  refine x_iload_n (i := 1) dX6_takesSign_4 rfl rfl ?_
  refine x_icmp_eq (tgt := 10) dX6_takesSign_5 (by decide) (by first | (unfold x_in; omega) | (unfold x_in; decide)) (by first | (unfold x_in; omega) | (unfold x_in; decide)) (fun c1 => ?_) (fun c1 => ?_)
  · refine x_aload_n (i := 0) dX6_takesSign_10 rfl rfl ?_
    first | refine x_dupR dX6_takesSign_11 ?_ | refine x_dupI dX6_takesSign_11 ?_
    refine x_getI xf_RX6_60 dX6_takesSign_12 rfl rfl ?_
    rw [h8]
    refine x_iconst dX6_takesSign_15 ?_
    refine x_iadd dX6_takesSign_16 ?_
    refine x_putI xp_RX6_60 dX6_takesSign_17 rfl rfl ?_
    refine x_iconst dX6_takesSign_20 ?_
    exact x_iret dX6_takesSign_21 rfl (x_narZ (by first | exact Or.inl rfl | exact Or.inr rfl | omega)) (x_ok (by first | exact bd_t c1 | exact bd_f c1) (by first | rw [if_pos c1] | rw [if_neg c1]))
  · refine x_iconst dX6_takesSign_8 ?_
    exact x_iret dX6_takesSign_9 rfl (x_narZ (by first | exact Or.inl rfl | exact Or.inr rfl | omega)) (x_ok (by first | exact bd_t c1 | exact bd_f c1) (by first | rw [if_pos c1] | rw [if_neg c1]))
set_option maxRecDepth 100000 in
set_option maxHeartbeats 4000000 in
theorem l6_readsNumber (tp : Nat → Int) (n : Int) (hn : n ≤ 48) (ht : TB tp) (k most : Int) (hk : 0 ≤ k ∧ k < 2) (hm : 0 ≤ most ∧ most ≤ 3) : ∀ (q : Nat) (a v i : Int) (μ : xM), 0 ≤ a → a ≤ n → 0 ≤ i → i + q = most → PF μ tp n a → μ 6 k.toNat = v → X E0 shM 2 yX6_readsNumber cX6_readsNumber 4 (some .boolean) 18 [some (.inr (.inl 0)), some (.inl k), some (.inl most), some (.inl i)] [] μ (fun r μ' => r = some (.inl 1) ∧ PF μ' tp n (pNm tp n q a v).1 ∧ μ' 6 k.toNat = (pNm tp n q a v).2 ∧ (∀ j, j ≠ k.toNat → μ' 6 j = μ 6 j) ∧ RS μ μ') := by
  intro q
  induction q with
  | zero =>
    intro a v i μ ha han h0 hi hP hv
    refine x_iload_n (i := 3) dX6_readsNumber_18 rfl rfl ?_
    refine x_iload_n (i := 2) dX6_readsNumber_19 rfl rfl ?_
    refine x_icmp_ge (tgt := 69) dX6_readsNumber_20 (by decide) (by first | (unfold x_in; omega) | (unfold x_in; decide)) (by first | (unfold x_in; omega) | (unfold x_in; decide)) (fun c1 => ?_) (fun c1 => ?_)
    · refine x_iconst dX6_readsNumber_69 ?_
      refine x_iret dX6_readsNumber_70 rfl (x_narZ (by first | exact Or.inl rfl | exact Or.inr rfl | omega)) ?_
      exact ⟨rfl, hP, hv, fun _ _ => rfl, RS.rfl' μ⟩
    · exact absurd c1 (by omega)
  | succ q ih =>
    intro a v i μ ha han h0 hi hP hv
    have h8 := hP.2.2
    have K : pDg tp n a = true → X E0 shM 2 yX6_readsNumber cX6_readsNumber 4 (some .boolean) 18 [some (.inr (.inl 0)), some (.inl k), some (.inl most), some (.inl (i + 1))] [] (x_st (x_st μ 6 k.toNat (10 * v + pSg tp n a - 48)) 0 8 (a + 1)) (fun r μ' => r = some (.inl 1) ∧ PF μ' tp n (pNm tp n (q + 1) a v).1 ∧ μ' 6 k.toNat = (pNm tp n (q + 1) a v).2 ∧ (∀ j, j ≠ k.toNat → μ' 6 j = μ 6 j) ∧ RS μ μ') := by
      intro hd
      have hs := pDg_sg hd
      have hl := pSg_lt (tp := tp) (n := n) (a := a) (by omega)
      have h := ih (a + 1) (10 * v + pSg tp n a - 48) (i + 1) (x_st (x_st μ 6 k.toNat (10 * v + pSg tp n a - 48)) 0 8 (a + 1)) (by omega) (by omega) (by omega) (by omega) ((hP.told _ _).at_ _) (by simp [x_st])
      rw [pNm, if_pos hd]
      refine h.mono (fun r m z => ⟨z.1, z.2.1, z.2.2.1, fun j hj => ?_, (((RS.rfl' μ).told _ _).at_ _).trans z.2.2.2.2⟩)
      rw [z.2.2.2.1 j hj]
      simp [x_st, hj]
    refine x_iload_n (i := 3) dX6_readsNumber_18 rfl rfl ?_
    refine x_iload_n (i := 2) dX6_readsNumber_19 rfl rfl ?_
    refine x_icmp_ge (tgt := 69) dX6_readsNumber_20 (by decide) (by first | exact bIx _ | (unfold x_in; omega) | (unfold x_in; decide)) (by first | exact bIx _ | (unfold x_in; omega) | (unfold x_in; decide)) (fun c1 => ?_) (fun c1 => ?_)
    · exact absurd c1 (by omega)
    · refine x_aload_n (i := 0) dX6_readsNumber_23 rfl rfl ?_
      refine x_cIp0_0 lk_RX6_67 xm_X6_isDigit dX6_readsNumber_24 (s6_isDigit tp n a hn ha ht _ hP han) ?_
      refine x_if_eq (tgt := 69) dX6_readsNumber_27 (by decide) (by first | exact bIx _ | (unfold x_in; omega) | (unfold x_in; decide)) (fun c2 => ?_) (fun c2 => ?_)
      · refine x_iconst dX6_readsNumber_69 ?_
        refine x_iret dX6_readsNumber_70 rfl (x_narZ (by first | exact Or.inl rfl | exact Or.inr rfl | omega)) ?_
        rw [pNm, if_neg (by rw [bI_f c2]; decide)]
        exact ⟨rfl, hP, hv, fun _ _ => rfl, RS.rfl' μ⟩
      · refine x_aload_n (i := 0) dX6_readsNumber_30 rfl rfl ?_
        refine x_getR xf_RX6_25 dX6_readsNumber_31 rfl rfl ?_
        refine x_iload_n (i := 1) dX6_readsNumber_34 rfl rfl ?_
        refine x_bipush dX6_readsNumber_35 (by decide) ?_
        refine x_aload_n (i := 0) dX6_readsNumber_37 rfl rfl ?_
        refine x_getR xf_RX6_25 dX6_readsNumber_38 rfl rfl ?_
        refine x_iload_n (i := 1) dX6_readsNumber_41 rfl rfl ?_
        refine x_iald dX6_readsNumber_42 rfl (by decide) (by first | omega | decide) (by first | omega | decide) ?_
        rw [hv]
        refine x_imul dX6_readsNumber_43 ?_
        refine x_aload_n (i := 0) dX6_readsNumber_44 rfl rfl ?_
        refine x_cIp0_0 lk_RX6_63 xm_X6_sign dX6_readsNumber_45 (s6_sign tp n a hn ha ht _ hP han) ?_
        refine x_iadd dX6_readsNumber_48 ?_
        refine x_bipush dX6_readsNumber_49 (by decide) ?_
        refine x_isub dX6_readsNumber_51 ?_
        refine x_iast dX6_readsNumber_52 rfl (by decide) (by first | omega | decide) (by first | omega | decide) ?_
        refine x_aload_n (i := 0) dX6_readsNumber_53 rfl rfl ?_
        first | refine x_dupR dX6_readsNumber_54 ?_ | refine x_dupI dX6_readsNumber_54 ?_
        refine x_getI xf_RX6_60 dX6_readsNumber_55 rfl rfl ?_
        try simp (decide := true) only [x_st_at, ↓reduceIte, if_true, if_false]
        rw [h8]
        refine x_iconst dX6_readsNumber_58 ?_
        refine x_iadd dX6_readsNumber_59 ?_
        refine x_putI xp_RX6_60 dX6_readsNumber_60 rfl rfl ?_
        refine x_iinc_3 dX6_readsNumber_63 (by decide) rfl ?_
        refine x_goto (tgt := 18) dX6_readsNumber_66 (by decide) ?_
        exact K (bI_t c2)
set_option maxRecDepth 100000 in
set_option maxHeartbeats 4000000 in
theorem s6_readsNumber (tp : Nat → Int) (n a : Int) (hn : n ≤ 48) (ha : 0 ≤ a) (ht : TB tp) (μ : xM) (hP : PF μ tp n a) (han : a ≤ n) (k most : Int) (hk : 0 ≤ k ∧ k < 2) (hm : 0 ≤ most ∧ most ≤ 3) : X E0 shM 2 yX6_readsNumber cX6_readsNumber 4 (some .boolean) 0 [some (.inr (.inl 0)), some (.inl k), some (.inl most), none] [] μ (fun r μ' => r = some (.inl (bI (pDg tp n a))) ∧ (pDg tp n a = true → PF μ' tp n (pNm tp n most.toNat a 0).1 ∧ μ' 6 k.toNat = (pNm tp n most.toNat a 0).2 ∧ (∀ j, j ≠ k.toNat → μ' 6 j = μ 6 j) ∧ RS μ μ') ∧ (pDg tp n a = false → μ' = μ)) := by
  refine x_aload_n (i := 0) dX6_readsNumber_0 rfl rfl ?_
  refine x_cIp0_0 lk_RX6_67 xm_X6_isDigit dX6_readsNumber_1 (s6_isDigit tp n a hn ha ht _ hP han) ?_
  refine x_if_ne (tgt := 9) dX6_readsNumber_4 (by decide) (by first | exact bIx _ | (unfold x_in; omega) | (unfold x_in; decide)) (fun c1 => ?_) (fun c1 => ?_)
  · refine x_aload_n (i := 0) dX6_readsNumber_9 rfl rfl ?_
    refine x_getR xf_RX6_25 dX6_readsNumber_10 rfl rfl ?_
    refine x_iload_n (i := 1) dX6_readsNumber_13 rfl rfl ?_
    refine x_iconst dX6_readsNumber_14 ?_
    refine x_iast dX6_readsNumber_15 rfl (by decide) (by first | omega | decide) (by first | omega | decide) ?_
    refine x_iconst dX6_readsNumber_16 ?_
    refine x_istore_3 dX6_readsNumber_17 (by decide) rfl ?_
    refine (l6_readsNumber tp n hn ht k most hk hm most.toNat a 0 0 (x_st μ 6 k.toNat 0) ha han (by omega) (by omega) (hP.told _ _) (by simp [x_st])).mono (fun r m z => ⟨by rw [z.1, bI_t c1]; rfl, fun _ => ⟨z.2.1, z.2.2.1, fun j hj => ?_, ((RS.rfl' μ).told _ _).trans z.2.2.2.2⟩, fun q => absurd (q.symm.trans (bI_t c1)) (by decide)⟩)
    rw [z.2.2.2.1 j hj]
    simp [x_st, hj]
  · refine x_iconst dX6_readsNumber_7 ?_
    refine x_iret dX6_readsNumber_8 rfl (x_narZ (by first | exact Or.inl rfl | exact Or.inr rfl | omega)) ?_
    exact ⟨by rw [bI_f c1]; rfl, fun q => absurd (q.symm.trans (bI_f c1)) (by decide), fun _ => rfl⟩
