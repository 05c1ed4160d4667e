/-! THE CLASS, Tape -/
theorem bit_255 : ∀ j, j < 32 → 8 ≤ j → (255#32 : BitVec 32).getLsbD j = false := by decide
theorem bit_put (b : Int64) : ∀ i : Nat, i < 8 → ((b.toUInt64 >>> ((Int64.ofNat (8 * i)).toUInt64 &&& Int64.toUInt64 63)).toInt64).toInt32 &&& (255 : Int32) = ((b >>> ((Int64.ofNat (8 * i)) &&& 63)) &&& 255).toInt32 := by
  intro i hi
  have h : i = 0 ∨ i = 1 ∨ i = 2 ∨ i = 3 ∨ i = 4 ∨ i = 5 ∨ i = 6 ∨ i = 7 := by omega
  apply Int32.toBitVec_inj.1
  rcases h with rfl | rfl | rfl | rfl | rfl | rfl | rfl | rfl
  all_goals simp
  all_goals
    apply BitVec.eq_of_getLsbD_eq
    intro j hj
    simp only [BitVec.getLsbD_and]
    by_cases q : j < 8
    · congr 1
      simp only [BitVec.getLsbD_signExtend, BitVec.getLsbD_ushiftRight, BitVec.getLsbD_sshiftRight]
      rw [if_pos (by omega), if_pos (by omega), if_pos (by omega)]
      simp (disch := omega)
      rw [decide_eq_false (show ¬ 64 ≤ j by omega)]
      simp
    · rw [bit_255 j hj (by omega)]
      simp
theorem bit_byte (b : Int64) {p : Int} (h0 : 0 ≤ p) (h8 : p < 8) : x_I (((b.toUInt64 >>> ((x_I (8 * p)).toInt64.toUInt64 &&& Int64.toUInt64 63)).toInt64).toInt32.toInt) &&& x_I 255 = x_I (mByte b p) := by
  have h : p = 0 ∨ p = 1 ∨ p = 2 ∨ p = 3 ∨ p = 4 ∨ p = 5 ∨ p = 6 ∨ p = 7 := by omega
  have K : ∀ i : Nat, i < 8 → p = (i : Int) → (x_I (8 * p)).toInt64 = Int64.ofNat (8 * i) → x_I (((b.toUInt64 >>> ((x_I (8 * p)).toInt64.toUInt64 &&& Int64.toUInt64 63)).toInt64).toInt32.toInt) &&& x_I 255 = x_I (mByte b p) := by
    intro i hi hp hs
    unfold mByte
    rw [hs, x_ofInt, x_ofInt]
    exact bit_put b i hi
  rcases h with rfl | rfl | rfl | rfl | rfl | rfl | rfl | rfl
  · exact K 0 (by decide) rfl (by decide)
  · exact K 1 (by decide) rfl (by decide)
  · exact K 2 (by decide) rfl (by decide)
  · exact K 3 (by decide) rfl (by decide)
  · exact K 4 (by decide) rfl (by decide)
  · exact K 5 (by decide) rfl (by decide)
  · exact K 6 (by decide) rfl (by decide)
  · exact K 7 (by decide) rfl (by decide)
def tFeedN (μ : xM) (b : Int64) : Nat → xM
  | 0 => μ
  | k + 1 => x_st (x_st (tFeedN μ b k) 1 (μ 0 0 + (k : Int)).toNat (mByte b k)) 0 0 (μ 0 0 + (k : Int) + 1)
theorem tFeedN_s (μ : xM) (b : Int64) {p : Int} (hp : 0 ≤ p) : tFeedN μ b (p + 1).toNat = x_st (x_st (tFeedN μ b p.toNat) 1 (μ 0 0 + p).toNat (mByte b p)) 0 0 (μ 0 0 + p + 1) := by rw [nat_succ hp, tFeedN, nat_back hp]
theorem tFeedN_0 (μ : xM) (b : Int64) : ∀ k : Nat, tFeedN μ b k 0 0 = μ 0 0 + k
  | 0 => by simp [tFeedN]
  | k + 1 => by
    rw [tFeedN]
    show μ 0 0 + (k : Int) + 1 = _
    omega
def PT (μ : xM) (tp : Nat → Int) (n a b : Int) : Prop := μ 1 = tp ∧ μ 0 0 = n ∧ μ 0 2 = a ∧ μ 0 3 = b
def TS (μ ν : xM) : Prop := (∀ j, j ≠ 2 → j ≠ 3 → ν 0 j = μ 0 j) ∧ ∀ k, k ≠ 0 → ν k = μ k
def TS2 (μ ν : xM) : Prop := (∀ j, (j < 2 ∨ j = 4 ∨ 6 < j) → ν 0 j = μ 0 j) ∧ ∀ k, k ≠ 0 → ν k = μ k
theorem TS.rfl' (μ : xM) : TS μ μ := ⟨fun _ _ _ => rfl, fun _ _ => rfl⟩
theorem TS2.rfl' (μ : xM) : TS2 μ μ := ⟨fun _ _ => rfl, fun _ _ => rfl⟩
theorem TS.trans {a b c : xM} (h : TS a b) (g : TS b c) : TS a c := ⟨fun j h2 h3 => (g.1 j h2 h3).trans (h.1 j h2 h3), fun k hk => (g.2 k hk).trans (h.2 k hk)⟩
theorem TS2.trans {a b c : xM} (h : TS2 a b) (g : TS2 b c) : TS2 a c := ⟨fun j hj => (g.1 j hj).trans (h.1 j hj), fun k hk => (g.2 k hk).trans (h.2 k hk)⟩
theorem TS.to2 {a b : xM} (h : TS a b) : TS2 a b := ⟨fun j hj => h.1 j (by omega) (by omega), h.2⟩
theorem TS.st {a b : xM} (h : TS a b) {j : Nat} (hj : j = 2 ∨ j = 3) (v : Int) : TS a (x_st b 0 j v) := ⟨fun i h2 h3 => (x_st_ne (Or.inr (by omega))).trans (h.1 i h2 h3), fun k hk => (funext fun x => x_st_ne (Or.inl hk)).trans (h.2 k hk)⟩
theorem TS2.st {a b : xM} (h : TS2 a b) {j : Nat} (hj : j = 2 ∨ j = 3 ∨ j = 5 ∨ j = 6) (v : Int) : TS2 a (x_st b 0 j v) := ⟨fun i hi => (x_st_ne (Or.inr (by omega))).trans (h.1 i hi), fun k hk => (funext fun x => x_st_ne (Or.inl hk)).trans (h.2 k hk)⟩
theorem PT.st2 {μ : xM} {tp : Nat → Int} {n a b : Int} (h : PT μ tp n a b) (v : Int) : PT (x_st μ 0 2 v) tp n v b := h.imp id (fun h => ⟨h.1, rfl, h.2.2⟩)
theorem PT.st3 {μ : xM} {tp : Nat → Int} {n a b : Int} (h : PT μ tp n a b) (v : Int) : PT (x_st μ 0 3 v) tp n a v := h.imp id (fun h => ⟨h.1, h.2.1, rfl⟩)
theorem PT.st4 {μ : xM} {tp : Nat → Int} {n a b : Int} (h : PT μ tp n a b) (v : Int) : PT (x_st μ 0 4 v) tp n a b := h
theorem PT.st5 {μ : xM} {tp : Nat → Int} {n a b : Int} (h : PT μ tp n a b) (v : Int) : PT (x_st μ 0 5 v) tp n a b := h
theorem PT.st6 {μ : xM} {tp : Nat → Int} {n a b : Int} (h : PT μ tp n a b) (v : Int) : PT (x_st μ 0 6 v) tp n a b := h
set_option maxRecDepth 100000 in
set_option maxHeartbeats 4000000 in
theorem s3_hasRoom (k : Int) (hk : 0 ≤ k ∧ k ≤ 8) (μ : xM) (hn : 0 ≤ μ 0 0 ∧ μ 0 0 ≤ 48) : X E0 shTape 0 yX3_hasRoom cX3_hasRoom 2 (some .boolean) 0 [some (.inr (.inl 0)), some (.inl k)] [] μ (x_Q (bI (decide (k ≤ 48 - μ 0 0))) μ) := by
  refine x_iload_n (i := 1) dX3_hasRoom_0 rfl rfl ?_
  refine x_bipush dX3_hasRoom_1 (by decide) ?_
  refine x_aload_n (i := 0) dX3_hasRoom_3 rfl rfl ?_
  refine x_getI xf_RX3_15 dX3_hasRoom_4 rfl rfl ?_
  refine x_isub dX3_hasRoom_7 ?_
  refine x_icmp_gt (tgt := 15) dX3_hasRoom_8 (by decide) (by first | (unfold x_in; omega) | (unfold x_in; decide)) (by first | (unfold x_in; omega) | (unfold x_in; decide)) (fun c1 => ?_) (fun c1 => ?_)
  · refine x_iconst dX3_hasRoom_15 ?_
    exact x_iret dX3_hasRoom_16 rfl (x_narZ (by first | exact Or.inl rfl | exact Or.inr rfl | omega)) (x_ok (by first | exact bd_t (by omega) | exact bd_f (by omega)) (by rfl))
  · refine x_iconst dX3_hasRoom_11 ?_
    refine x_goto (tgt := 16) dX3_hasRoom_12 (by decide) ?_
    exact x_iret dX3_hasRoom_16 rfl (x_narZ (by first | exact Or.inl rfl | exact Or.inr rfl | omega)) (x_ok (by first | exact bd_t (by omega) | exact bd_f (by omega)) (by rfl))
set_option maxRecDepth 100000 in
set_option maxHeartbeats 4000000 in
theorem l3_put (b : Int64) (k : Int) (hk : 0 ≤ k ∧ k ≤ 8) (μ : xM) (hn : 0 ≤ μ 0 0 ∧ μ 0 0 + k ≤ 48) : ∀ (q : Nat) (p : Int), 0 ≤ p → p ≤ k → (k - p).toNat < q → X E0 shTape 0 yX3_put cX3_put 5 none 3 [some (.inr (.inl 0)), some (.inl k), some (.inr (.inr b)), none, some (.inl p)] [] (tFeedN μ b p.toNat) (x_Qn (tFeedN μ b k.toNat)) := by
  intro q
  induction q with
  | zero => intro p _ _ h; omega
  | succ q ih =>
    intro p hp hp2 hq
    have e0 := tFeedN_0 μ b p.toNat
    have e1 : ((p.toNat : Nat) : Int) = p := nat_back hp
    rw [e1] at e0
    refine x_iload dX3_put_3 rfl ?_
    refine x_iload_n (i := 1) dX3_put_5 rfl rfl ?_
    refine x_icmp_ge (tgt := 55) dX3_put_6 (by decide) (by first | (unfold x_in; omega) | (unfold x_in; decide)) (by first | (unfold x_in; omega) | (unfold x_in; decide)) (fun c1 => ?_) (fun c1 => ?_)
    · exact x_vret dX3_put_55 rfl ⟨rfl, by rw [show p = k by omega]⟩
    · refine x_aload_n (i := 0) dX3_put_9 rfl rfl ?_
      refine x_getI xf_RX3_15 dX3_put_10 rfl rfl ?_
      refine x_bipush dX3_put_13 (by decide) ?_
      refine x_icmp_ge (tgt := 55) dX3_put_15 (by decide) (by first | (unfold x_in; omega) | (unfold x_in; decide)) (by first | (unfold x_in; omega) | (unfold x_in; decide)) (fun c2 => ?_) (fun c2 => ?_)
      · exact absurd c2 (by omega)
      · refine x_aload_n (i := 0) dX3_put_18 rfl rfl ?_
        refine x_getR xf_RX3_9 dX3_put_19 rfl rfl ?_
        refine x_aload_n (i := 0) dX3_put_22 rfl rfl ?_
        refine x_getI xf_RX3_15 dX3_put_23 rfl rfl ?_
        refine x_lload_n (i := 2) dX3_put_26 rfl rfl ?_
        refine x_bipush dX3_put_27 (by decide) ?_
        refine x_iload dX3_put_29 rfl ?_
        refine x_imul dX3_put_31 ?_
        refine x_lushr dX3_put_32 ?_
        refine x_l2i dX3_put_33 ?_
        refine x_sipush dX3_put_34 (by decide) ?_
        refine x_iand (r := mByte b p) dX3_put_37 (bit_byte b hp (by omega)) ?_
        rw [e0]
        refine x_iast dX3_put_38 rfl (by decide) (by first | omega | decide) (by first | omega | decide) ?_
        refine x_aload_n (i := 0) dX3_put_39 rfl rfl ?_
        first | refine x_dupR dX3_put_40 ?_ | refine x_dupI dX3_put_40 ?_
        refine x_getI xf_RX3_15 dX3_put_41 rfl rfl ?_
        try simp (decide := true) only [x_st_at, ↓reduceIte, if_true, if_false]
        refine x_iconst dX3_put_44 ?_
        refine x_iadd dX3_put_45 ?_
        rw [e0]
        refine x_putI xp_RX3_15 dX3_put_46 rfl rfl ?_
        refine x_iinc_4 dX3_put_49 (by decide) rfl ?_
        refine x_goto (tgt := 3) dX3_put_52 (by decide) ?_
        have h := ih (p + 1) (by omega) (by omega) (by omega)
        rw [tFeedN_s _ _ hp] at h
        exact h
set_option maxRecDepth 100000 in
set_option maxHeartbeats 4000000 in
theorem s3_put (b : Int64) (k : Int) (hk : 0 ≤ k ∧ k ≤ 8) (μ : xM) (hn : 0 ≤ μ 0 0 ∧ μ 0 0 + k ≤ 48) : X E0 shTape 0 yX3_put cX3_put 5 none 0 [some (.inr (.inl 0)), some (.inl k), some (.inr (.inr b)), none, none] [] μ (x_Qn (tFeedN μ b k.toNat)) := by
  refine x_iconst dX3_put_0 ?_
  refine x_istore_4 dX3_put_1 (by decide) rfl ?_
  exact l3_put b k hk μ hn _ 0 (by omega) (by omega) (Nat.lt_succ_self _)
set_option maxRecDepth 100000 in
set_option maxHeartbeats 4000000 in
theorem s3_look (tp : Nat → Int) (n a b : Int) (hn : n ≤ 48) (ha : 0 ≤ a ∧ a ≤ 49) (ht : TB tp) (μ : xM) (hP : PT μ tp n a b) (hn0 : 0 ≤ n) : X E0 shTape 0 yX3_look cX3_look 1 (some .int) 0 [some (.inr (.inl 0))] [] μ (x_Q (pSg tp n a) μ) := by
  obtain ⟨rfl, rfl, rfl, rfl⟩ := hP
  refine x_aload_n (i := 0) dX3_look_0 rfl rfl ?_
  refine x_getI xf_RX3_27 dX3_look_1 rfl rfl ?_
  refine x_aload_n (i := 0) dX3_look_4 rfl rfl ?_
  refine x_getI xf_RX3_15 dX3_look_5 rfl rfl ?_
  refine x_icmp_ge (tgt := 32) dX3_look_8 (by decide) (by first | (unfold x_in; omega) | (unfold x_in; decide)) (by first | (unfold x_in; omega) | (unfold x_in; decide)) (fun c1 => ?_) (fun c1 => ?_)
  · refine x_iconst dX3_look_32 ?_
    exact x_iret dX3_look_33 rfl rfl (x_ok (by unfold pSg; first | (rw [if_pos (by omega)]; done) | (rw [if_neg (by omega)]; done)) (by rfl))
  · refine x_aload_n (i := 0) dX3_look_11 rfl rfl ?_
    refine x_getI xf_RX3_27 dX3_look_12 rfl rfl ?_
    refine x_bipush dX3_look_15 (by decide) ?_
    refine x_icmp_ge (tgt := 32) dX3_look_17 (by decide) (by first | (unfold x_in; omega) | (unfold x_in; decide)) (by first | (unfold x_in; omega) | (unfold x_in; decide)) (fun c2 => ?_) (fun c2 => ?_)
    · exact absurd c2 (by omega)
    · refine x_aload_n (i := 0) dX3_look_20 rfl rfl ?_
      refine x_getR xf_RX3_9 dX3_look_21 rfl rfl ?_
      refine x_aload_n (i := 0) dX3_look_24 rfl rfl ?_
      refine x_getI xf_RX3_27 dX3_look_25 rfl rfl ?_
      refine x_iald dX3_look_28 rfl (by decide) (by first | omega | decide) (by first | omega | decide) ?_
      refine x_goto (tgt := 33) dX3_look_29 (by decide) ?_
      exact x_iret dX3_look_33 rfl rfl (x_ok (by unfold pSg; first | (rw [if_pos (by omega)]; done) | (rw [if_neg (by omega)]; done)) (by rfl))
set_option maxRecDepth 100000 in
set_option maxHeartbeats 4000000 in
theorem s3_take (tp : Nat → Int) (n a : Int) (hn : n ≤ 48) (ha : 0 ≤ a ∧ a ≤ 49) (ht : TB tp) (μ : xM) (hP : PT μ tp n a 0) : X E0 shTape 0 yX3_take cX3_take 2 none 0 [some (.inr (.inl 0)), some (.inl 1)] [] μ (fun r μ' => r = none ∧ PT μ' tp n (a + 1) 0 ∧ TS μ μ') := by
  have e2 := hP.2.2.1
  have e3 := hP.2.2.2
  refine x_iload_n (i := 1) dX3_take_0 rfl rfl ?_
  refine x_if_ne (tgt := 9) dX3_take_1 (by decide) (by first | (unfold x_in; omega) | (unfold x_in; decide)) (fun c1 => ?_) (fun c1 => ?_)
  · refine x_aload_n (i := 0) dX3_take_9 rfl rfl ?_
    refine x_getI xf_RX3_30 dX3_take_10 rfl rfl ?_
    refine x_if_ne (tgt := 26) dX3_take_13 (by decide) (by first | (unfold x_in; omega) | (unfold x_in; decide)) (fun c2 => ?_) (fun c2 => ?_)
    · exact absurd c2 (by omega)
    · refine x_aload_n (i := 0) dX3_take_16 rfl rfl ?_
      first | refine x_dupR dX3_take_17 ?_ | refine x_dupI dX3_take_17 ?_
      refine x_getI xf_RX3_27 dX3_take_18 rfl rfl ?_
      refine x_iconst dX3_take_21 ?_
      refine x_iadd dX3_take_22 ?_
      rw [e2]
      refine x_putI xp_RX3_27 dX3_take_23 rfl rfl ?_
      refine x_vret dX3_take_26 rfl ?_
      exact ⟨rfl, hP.st2 _, (TS.rfl' μ).st (Or.inl rfl) _⟩
  · exact absurd c1 (by omega)
set_option maxRecDepth 100000 in
set_option maxHeartbeats 4000000 in
theorem s3_take0 (tp : Nat → Int) (n a b : Int) (hn : n ≤ 48) (ha : 0 ≤ a ∧ a ≤ 49) (ht : TB tp) (μ : xM) (hP : PT μ tp n a b) : X E0 shTape 0 yX3_take cX3_take 2 none 0 [some (.inr (.inl 0)), some (.inl 0)] [] μ (fun r μ' => r = none ∧ PT μ' tp n a 1 ∧ TS μ μ') := by
  refine x_iload_n (i := 1) dX3_take_0 rfl rfl ?_
  refine x_if_ne (tgt := 9) dX3_take_1 (by decide) (by first | (unfold x_in; omega) | (unfold x_in; decide)) (fun c1 => ?_) (fun c1 => ?_)
  · exact absurd c1 (by omega)
  · refine x_aload_n (i := 0) dX3_take_4 rfl rfl ?_
    refine x_iconst dX3_take_5 ?_
    refine x_putZ xp_RX3_30 dX3_take_6 rfl rfl (by first | exact Or.inl rfl | exact Or.inr rfl | omega) ?_
    refine x_aload_n (i := 0) dX3_take_9 rfl rfl ?_
    refine x_getI xf_RX3_30 dX3_take_10 rfl rfl ?_
    try simp (decide := true) only [x_st_at, ↓reduceIte, if_true, if_false]
    refine x_if_ne (tgt := 26) dX3_take_13 (by decide) (by first | (unfold x_in; omega) | (unfold x_in; decide)) (fun c2 => ?_) (fun c2 => ?_)
    · refine x_vret dX3_take_26 rfl ?_
      exact ⟨rfl, hP.st3 _, (TS.rfl' μ).st (Or.inr rfl) _⟩
    · exact absurd c2 (by omega)
set_option maxRecDepth 100000 in
set_option maxHeartbeats 4000000 in
theorem s3_take1 (tp : Nat → Int) (n a : Int) (hn : n ≤ 48) (ha : 0 ≤ a ∧ a ≤ 49) (ht : TB tp) (μ : xM) (hP : PT μ tp n a 1) : X E0 shTape 0 yX3_take cX3_take 2 none 0 [some (.inr (.inl 0)), some (.inl 1)] [] μ (fun r μ' => r = none ∧ PT μ' tp n a 1 ∧ TS μ μ') := by
  have e3 := hP.2.2.2
  refine x_iload_n (i := 1) dX3_take_0 rfl rfl ?_
  refine x_if_ne (tgt := 9) dX3_take_1 (by decide) (by first | (unfold x_in; omega) | (unfold x_in; decide)) (fun c1 => ?_) (fun c1 => ?_)
  · refine x_aload_n (i := 0) dX3_take_9 rfl rfl ?_
    refine x_getI xf_RX3_30 dX3_take_10 rfl rfl ?_
    refine x_if_ne (tgt := 26) dX3_take_13 (by decide) (by first | (unfold x_in; omega) | (unfold x_in; decide)) (fun c2 => ?_) (fun c2 => ?_)
    · refine x_vret dX3_take_26 rfl ?_
      exact ⟨rfl, hP, TS.rfl' μ⟩
    · exact absurd c2 (by omega)
  · exact absurd c1 (by omega)
set_option maxRecDepth 100000 in
set_option maxHeartbeats 4000000 in
theorem l3_readNumber (tp : Nat → Int) (n : Int) (hn : n ≤ 48) (hn0 : 0 ≤ n) (ht : TB tp) (most : Int) (hm : 0 ≤ most ∧ most ≤ 3) : ∀ (q : Nat) (a v i : Int) (μ : xM), 0 ≤ a ∧ a ≤ 48 → 0 ≤ i → i + q = most → (0 < i ∨ 0 < q) → PT μ tp n a 0 → X E0 shTape 1 yX3_readNumber cX3_readNumber 5 (some .int) 10 [some (.inr (.inl 0)), some (.inl most), some (.inl v), some (.inl i), some (.inl (pSg tp n a))] [] μ (fun r μ' => r = some (.inl (pNm tp n q a v).2) ∧ PT μ' tp n (pNm tp n q a v).1 (if 0 < i then 0 else if pDg tp n a = true then 0 else 1) ∧ TS μ μ') := by
  intro q
  induction q with
  | zero =>
    intro a v i μ ha h0 hi hz hP
    have e3 := hP.2.2.2
    have hs := pSg_in ht hn ha.1
    refine x_aload_n (i := 0) dX3_readNumber_10 rfl rfl ?_
    refine x_getI xf_RX3_30 dX3_readNumber_11 rfl rfl ?_
    refine x_if_ne (tgt := 69) dX3_readNumber_14 (by decide) (by first | (unfold x_in; omega) | (unfold x_in; decide)) (fun c1 => ?_) (fun c1 => ?_)
    · exact absurd c1 (by omega)
    · refine x_iload_n (i := 3) dX3_readNumber_17 rfl rfl ?_
      refine x_iload_n (i := 1) dX3_readNumber_18 rfl rfl ?_
      refine x_icmp_ge (tgt := 69) dX3_readNumber_19 (by decide) (by first | (unfold x_in; omega) | (unfold x_in; decide)) (by first | (unfold x_in; omega) | (unfold x_in; decide)) (fun c2 => ?_) (fun c2 => ?_)
      · refine x_iload_n (i := 3) dX3_readNumber_69 rfl rfl ?_
        refine x_if_ne (tgt := 78) dX3_readNumber_70 (by decide) (by first | (unfold x_in; omega) | (unfold x_in; decide)) (fun c3 => ?_) (fun c3 => ?_)
        · refine x_iload_n (i := 2) dX3_readNumber_78 rfl rfl ?_
          refine x_iret dX3_readNumber_79 rfl rfl ?_
          exact ⟨rfl, by rw [if_pos (by omega)]; exact hP, TS.rfl' μ⟩
        · exact absurd c3 (by omega)
      · exact absurd c2 (by omega)
  | succ q ih =>
    intro a v i μ ha h0 hi hz hP
    have e2 := hP.2.2.1
    have e3 := hP.2.2.2
    have hs := pSg_in ht hn ha.1
    have KN : pDg tp n a = false → pNm tp n (q + 1) a v = (a, v) := fun hd => by rw [pNm, if_neg (by rw [hd]; decide)]
    have K : 48 ≤ pSg tp n a → pSg tp n a ≤ 57 → ∀ w, w = 10 * v + pSg tp n a - 48 → X E0 shTape 1 yX3_readNumber cX3_readNumber 5 (some .int) 10 [some (.inr (.inl 0)), some (.inl most), some (.inl w), some (.inl (i + 1)), some (.inl (pSg tp n (a + 1)))] [] (x_st μ 0 2 (a + 1)) (fun r μ' => r = some (.inl (pNm tp n (q + 1) a v).2) ∧ PT μ' tp n (pNm tp n (q + 1) a v).1 (if 0 < i then 0 else if pDg tp n a = true then 0 else 1) ∧ TS μ μ') := by
      intro g1 g2 w hw
      have hd : pDg tp n a = true := decide_eq_true ⟨g1, g2⟩
      have hl := pSg_lt (tp := tp) (n := n) (a := a) (by omega)
      have h := ih (a + 1) w (i + 1) (x_st μ 0 2 (a + 1)) (by omega) (by omega) (by omega) (Or.inl (by omega)) (hP.st2 _)
      rw [pNm, if_pos hd, ← hw]
      refine h.mono (fun r m z => ⟨z.1, ?_, ((TS.rfl' μ).st (Or.inl rfl) _).trans z.2.2⟩)
      have z2 := z.2.1
      rw [if_pos (by omega)] at z2
      rw [show (if 0 < i then (0 : Int) else if pDg tp n a = true then 0 else 1) = 0 by rw [hd]; split <;> rfl]
      exact z2
    have hll : 48 ≤ pSg tp n a → a < n := fun g => pSg_lt (tp := tp) (n := n) (a := a) (by omega)
    have KE : pDg tp n a = false → 0 < i → ((some (.inl v) : Option xA) = some (.inl (pNm tp n (q + 1) a v).2) ∧ PT μ tp n (pNm tp n (q + 1) a v).1 (if 0 < i then 0 else if pDg tp n a = true then 0 else 1) ∧ TS μ μ) := fun hd h0 => ⟨by rw [KN hd], by rw [KN hd, if_pos h0]; exact hP, TS.rfl' μ⟩
    have KE0 : pDg tp n a = false → i = 0 → ((some (.inl v) : Option xA) = some (.inl (pNm tp n (q + 1) a v).2) ∧ PT (x_st μ 0 3 1) tp n (pNm tp n (q + 1) a v).1 (if 0 < i then 0 else if pDg tp n a = true then 0 else 1) ∧ TS μ (x_st μ 0 3 1)) := fun hd h0 => ⟨by rw [KN hd], by rw [KN hd, if_neg (by omega), if_neg (by rw [hd]; decide)]; exact hP.st3 1, (TS.rfl' μ).st (Or.inr rfl) _⟩
    refine x_aload_n (i := 0) dX3_readNumber_10 rfl rfl ?_
    refine x_getI xf_RX3_30 dX3_readNumber_11 rfl rfl ?_
    refine x_if_ne (tgt := 69) dX3_readNumber_14 (by decide) (by first | (unfold x_in; omega) | (unfold x_in; decide)) (fun c1 => ?_) (fun c1 => ?_)
    · exact absurd c1 (by omega)
    · refine x_iload_n (i := 3) dX3_readNumber_17 rfl rfl ?_
      refine x_iload_n (i := 1) dX3_readNumber_18 rfl rfl ?_
      refine x_icmp_ge (tgt := 69) dX3_readNumber_19 (by decide) (by first | (unfold x_in; omega) | (unfold x_in; decide)) (by first | (unfold x_in; omega) | (unfold x_in; decide)) (fun c2 => ?_) (fun c2 => ?_)
      · exact absurd c2 (by omega)
      · refine x_iload dX3_readNumber_22 rfl ?_
        refine x_bipush dX3_readNumber_24 (by decide) ?_
        refine x_icmp_lt (tgt := 69) dX3_readNumber_26 (by decide) (by first | (unfold x_in; omega) | (unfold x_in; decide)) (by first | (unfold x_in; omega) | (unfold x_in; decide)) (fun c3 => ?_) (fun c3 => ?_)
        · refine x_iload_n (i := 3) dX3_readNumber_69 rfl rfl ?_
          refine x_if_ne (tgt := 78) dX3_readNumber_70 (by decide) (by first | (unfold x_in; omega) | (unfold x_in; decide)) (fun c4 => ?_) (fun c4 => ?_)
          · refine x_iload_n (i := 2) dX3_readNumber_78 rfl rfl ?_
            refine x_iret dX3_readNumber_79 rfl rfl ?_
            first | exact KE (decide_eq_false (by omega)) (by omega) | exact KE0 (decide_eq_false (by omega)) (by omega)
          · refine x_aload_n (i := 0) dX3_readNumber_73 rfl rfl ?_
            refine x_iconst dX3_readNumber_74 ?_
            refine x_putZ xp_RX3_30 dX3_readNumber_75 rfl rfl (by first | exact Or.inl rfl | exact Or.inr rfl | omega) ?_
            refine x_iload_n (i := 2) dX3_readNumber_78 rfl rfl ?_
            refine x_iret dX3_readNumber_79 rfl rfl ?_
            first | exact KE (decide_eq_false (by omega)) (by omega) | exact KE0 (decide_eq_false (by omega)) (by omega)
        · refine x_iload dX3_readNumber_29 rfl ?_
          refine x_bipush dX3_readNumber_31 (by decide) ?_
          refine x_icmp_gt (tgt := 69) dX3_readNumber_33 (by decide) (by first | (unfold x_in; omega) | (unfold x_in; decide)) (by first | (unfold x_in; omega) | (unfold x_in; decide)) (fun c4 => ?_) (fun c4 => ?_)
          · refine x_iload_n (i := 3) dX3_readNumber_69 rfl rfl ?_
            refine x_if_ne (tgt := 78) dX3_readNumber_70 (by decide) (by first | (unfold x_in; omega) | (unfold x_in; decide)) (fun c5 => ?_) (fun c5 => ?_)
            · refine x_iload_n (i := 2) dX3_readNumber_78 rfl rfl ?_
              refine x_iret dX3_readNumber_79 rfl rfl ?_
              first | exact KE (decide_eq_false (by omega)) (by omega) | exact KE0 (decide_eq_false (by omega)) (by omega)
            · refine x_aload_n (i := 0) dX3_readNumber_73 rfl rfl ?_
              refine x_iconst dX3_readNumber_74 ?_
              refine x_putZ xp_RX3_30 dX3_readNumber_75 rfl rfl (by first | exact Or.inl rfl | exact Or.inr rfl | omega) ?_
              refine x_iload_n (i := 2) dX3_readNumber_78 rfl rfl ?_
              refine x_iret dX3_readNumber_79 rfl rfl ?_
              first | exact KE (decide_eq_false (by omega)) (by omega) | exact KE0 (decide_eq_false (by omega)) (by omega)
          · refine x_iload_n (i := 2) dX3_readNumber_36 rfl rfl ?_
            refine x_bipush dX3_readNumber_37 (by decide) ?_
            refine x_imul dX3_readNumber_39 ?_
            refine x_iload dX3_readNumber_40 rfl ?_
            refine x_iadd dX3_readNumber_42 ?_
            refine x_bipush dX3_readNumber_43 (by decide) ?_
            refine x_isub dX3_readNumber_45 ?_
            refine x_istore_2 dX3_readNumber_46 (by decide) rfl ?_
            refine x_iinc_3 dX3_readNumber_47 (by decide) rfl ?_
            refine x_aload_n (i := 0) dX3_readNumber_50 rfl rfl ?_
            first | refine x_dupR dX3_readNumber_51 ?_ | refine x_dupI dX3_readNumber_51 ?_
            refine x_getI xf_RX3_27 dX3_readNumber_52 rfl rfl ?_
            refine x_iconst dX3_readNumber_55 ?_
            refine x_iadd dX3_readNumber_56 ?_
            rw [e2]
            refine x_putI xp_RX3_27 dX3_readNumber_57 rfl rfl ?_
            refine x_aload_n (i := 0) dX3_readNumber_60 rfl rfl ?_
            refine x_cIp0_0 lk_RX3_63 xm_X3_look dX3_readNumber_61 (s3_look tp n (a + 1) 0 hn (by omega) ht _ (hP.st2 _) hn0) ?_
            refine x_istore_4 dX3_readNumber_64 (by decide) rfl ?_
            refine x_goto (tgt := 10) dX3_readNumber_66 (by decide) ?_
            exact K (by omega) (by omega) _ (by omega)
set_option maxRecDepth 100000 in
set_option maxHeartbeats 4000000 in
theorem s3_readNumber (tp : Nat → Int) (n a : Int) (hn0 : 0 ≤ n)  (hn : n ≤ 48) (ha : 0 ≤ a ∧ a ≤ 48) (ht : TB tp) (μ : xM) (hP : PT μ tp n a 0) (most : Int) (hm : 0 < most ∧ most ≤ 3) : X E0 shTape 1 yX3_readNumber cX3_readNumber 5 (some .int) 0 [some (.inr (.inl 0)), some (.inl most), none, none, none] [] μ (fun r μ' => r = some (.inl (pNm tp n most.toNat a 0).2) ∧ PT μ' tp n (pNm tp n most.toNat a 0).1 (if pDg tp n a = true then 0 else 1) ∧ TS μ μ') := by
  refine x_iconst dX3_readNumber_0 ?_
  refine x_istore_2 dX3_readNumber_1 (by decide) rfl ?_
  refine x_iconst dX3_readNumber_2 ?_
  refine x_istore_3 dX3_readNumber_3 (by decide) rfl ?_
  refine x_aload_n (i := 0) dX3_readNumber_4 rfl rfl ?_
  refine x_cIp0_0 lk_RX3_63 xm_X3_look dX3_readNumber_5 (s3_look tp n a 0 hn (by omega) ht _ hP hn0) ?_
  refine x_istore_4 dX3_readNumber_8 (by decide) rfl ?_
  exact l3_readNumber tp n hn hn0 ht most (by omega) most.toNat a 0 0 μ ha (by omega) (by omega) (Or.inr (by omega)) hP
set_option maxRecDepth 100000 in
set_option maxHeartbeats 4000000 in
theorem s3_readNumber1 (tp : Nat → Int) (n a : Int) (hn0 : 0 ≤ n)  (hn : n ≤ 48) (ha : 0 ≤ a ∧ a ≤ 49) (ht : TB tp) (μ : xM) (hP : PT μ tp n a 1) (most : Int) (hm : 0 < most ∧ most ≤ 3) : X E0 shTape 1 yX3_readNumber cX3_readNumber 5 (some .int) 0 [some (.inr (.inl 0)), some (.inl most), none, none, none] [] μ (fun r μ' => r = some (.inl 0) ∧ PT μ' tp n a 1 ∧ TS μ μ') := by
  have e3 := hP.2.2.2
  refine x_iconst dX3_readNumber_0 ?_
  refine x_istore_2 dX3_readNumber_1 (by decide) rfl ?_
  refine x_iconst dX3_readNumber_2 ?_
  refine x_istore_3 dX3_readNumber_3 (by decide) rfl ?_
  refine x_aload_n (i := 0) dX3_readNumber_4 rfl rfl ?_
  refine x_cIp0_0 lk_RX3_63 xm_X3_look dX3_readNumber_5 (s3_look tp n a 1 hn (by omega) ht _ hP hn0) ?_
  refine x_istore_4 dX3_readNumber_8 (by decide) rfl ?_
  refine x_aload_n (i := 0) dX3_readNumber_10 rfl rfl ?_
  refine x_getI xf_RX3_30 dX3_readNumber_11 rfl rfl ?_
  refine x_if_ne (tgt := 69) dX3_readNumber_14 (by decide) (by first | (unfold x_in; omega) | (unfold x_in; decide)) (fun c1 => ?_) (fun c1 => ?_)
  · refine x_iload_n (i := 3) dX3_readNumber_69 rfl rfl ?_
    refine x_if_ne (tgt := 78) dX3_readNumber_70 (by decide) (by first | (unfold x_in; omega) | (unfold x_in; decide)) (fun c2 => ?_) (fun c2 => ?_)
    · exact absurd c2 (by omega)
    · refine x_aload_n (i := 0) dX3_readNumber_73 rfl rfl ?_
      refine x_iconst dX3_readNumber_74 ?_
      refine x_putZ xp_RX3_30 dX3_readNumber_75 rfl rfl (by first | exact Or.inl rfl | exact Or.inr rfl | omega) ?_
      refine x_iload_n (i := 2) dX3_readNumber_78 rfl rfl ?_
      refine x_iret dX3_readNumber_79 rfl rfl ?_
      exact ⟨rfl, hP.st3 1, (TS.rfl' μ).st (Or.inr rfl) _⟩
  · exact absurd c1 (by omega)
