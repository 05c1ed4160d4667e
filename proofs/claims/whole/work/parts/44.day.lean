/-! THE CLASS, Day: what looks -/
def DW (μ ρ : xM) : Prop := MI (hOf μ 9) ∧ ρ 2 = hOf μ 9 ∧ (∀ k : Nat, k < 3 → 0 ≤ μ 5 k ∧ μ 5 k ≤ 1000000) ∧ ∀ t : Int, 0 ≤ t → t < μ 9 3 → μ 1 t.toNat = ρ 9 t.toNat ∧ μ 2 t.toNat = mKind (hOf μ 9) t ∧ μ 3 t.toNat = mKey (hOf μ 9) t ∧ (ρ 9 t.toNat = -9 ∨ 0 ≤ ρ 9 t.toNat) ∧ ρ 9 t.toNat ≤ 10000
abbrev dTo (μ ρ : xM) (t : Int) : Prop := ρ 9 t.toNat < 0 ∧ mKind (hOf μ 9) t ≠ 3
def dCF (μ ρ : xM) (t : Int) : Int := if dTo μ ρ t then max (mCm (hOf μ 9) t) (μ 5 (mKind (hOf μ 9) t).toNat) else 1000000
theorem DW.cm {μ : xM} {t : Int} (h0 : 0 ≤ t) (h8 : t < 8) : μ 12 t.toNat = mCm (hOf μ 9) t := (hOf_com μ 9 h0 h8).symm
theorem DW.wt {μ : xM} {t : Int} (h0 : 0 ≤ t) (h8 : t < 8) : μ 13 t.toNat = mWt (hOf μ 9) t := (hOf_wt μ 9 h0 h8).symm
theorem dCF_in {μ ρ : xM} (h : DW μ ρ) {t : Int} (h0 : 0 ≤ t) (h1 : t < μ 9 3) : 0 ≤ dCF μ ρ t ∧ dCF μ ρ t ≤ 1000000 := by
  have h8 : μ 9 3 ≤ 8 := h.1.2.1.2
  have hc := mCm_in h.1 h0 (by omega)
  have hk := mKind_in (hOf μ 9) t
  unfold dCF
  split
  next q =>
    have := h.2.2.1 (mKind (hOf μ 9) t).toNat (by omega)
    omega
  next => omega
set_option maxRecDepth 100000 in
set_option maxHeartbeats 4000000 in
theorem s0_isToCome (μ ρ : xM) (hW : DW μ ρ) (t : Int) (ht : 0 ≤ t ∧ t < μ 9 3) : X E0 shDay 0 yX0_isToCome cX0_isToCome 2 (some .boolean) 0 [some (.inr (.inl 0)), some (.inl t)] [] μ (x_Q (bI (decide (dTo μ ρ t))) μ) := by
  have h8 : 0 ≤ μ 9 3 ∧ μ 9 3 ≤ 8 := hW.1.2.1
  obtain ⟨e1, e2, e3, e4, e5⟩ := hW.2.2.2 t ht.1 ht.2
  have hk := mKind_in (hOf μ 9) t
  refine x_aload_n (i := 0) dX0_isToCome_0 rfl rfl ?_
  refine x_getR xf_RX0_18 dX0_isToCome_1 rfl rfl ?_
  refine x_iload_n (i := 1) dX0_isToCome_4 rfl rfl ?_
  refine x_iald dX0_isToCome_5 rfl (by decide) (by first | omega | decide) (by first | omega | decide) ?_
  refine x_bipush dX0_isToCome_6 (by decide) ?_
  rw [e1]
  refine x_icmp_ne (tgt := 25) dX0_isToCome_8 (by decide) (by first | (unfold x_in; omega) | (unfold x_in; decide)) (by first | (unfold x_in; omega) | (unfold x_in; decide)) (fun c1 => ?_) (fun c1 => ?_)
  · refine x_iconst dX0_isToCome_25 ?_
    exact x_iret dX0_isToCome_26 rfl (x_narZ (by first | exact Or.inl rfl | exact Or.inr rfl | omega)) (x_ok (by first | exact bd_t ⟨by omega, by omega⟩ | exact bd_f (fun q => by have := q.1; have := q.2; omega)) (by rfl))
  · refine x_aload_n (i := 0) dX0_isToCome_11 rfl rfl ?_
    refine x_getR xf_RX0_29 dX0_isToCome_12 rfl rfl ?_
    refine x_iload_n (i := 1) dX0_isToCome_15 rfl rfl ?_
    refine x_iald dX0_isToCome_16 rfl (by decide) (by first | omega | decide) (by first | omega | decide) ?_
    refine x_iconst dX0_isToCome_17 ?_
    rw [e2]
    refine x_icmp_eq (tgt := 25) dX0_isToCome_18 (by decide) (by first | (unfold x_in; omega) | (unfold x_in; decide)) (by first | (unfold x_in; omega) | (unfold x_in; decide)) (fun c2 => ?_) (fun c2 => ?_)
    · refine x_iconst dX0_isToCome_25 ?_
      exact x_iret dX0_isToCome_26 rfl (x_narZ (by first | exact Or.inl rfl | exact Or.inr rfl | omega)) (x_ok (by first | exact bd_t ⟨by omega, by omega⟩ | exact bd_f (fun q => by have := q.1; have := q.2; omega)) (by rfl))
    · refine x_iconst dX0_isToCome_21 ?_
      refine x_goto (tgt := 26) dX0_isToCome_22 (by decide) ?_
      exact x_iret dX0_isToCome_26 rfl (x_narZ (by first | exact Or.inl rfl | exact Or.inr rfl | omega)) (x_ok (by first | exact bd_t ⟨by omega, by omega⟩ | exact bd_f (fun q => by have := q.1; have := q.2; omega)) (by rfl))
set_option maxRecDepth 100000 in
set_option maxHeartbeats 4000000 in
theorem s0_canFrom (μ ρ : xM) (hW : DW μ ρ) (t : Int) (ht : 0 ≤ t ∧ t < μ 9 3) : X E0 shDay 1 yX0_canFrom cX0_canFrom 2 (some .int) 0 [some (.inr (.inl 0)), some (.inl t)] [] μ (x_Q (dCF μ ρ t) μ) := by
  have h8 : 0 ≤ μ 9 3 ∧ μ 9 3 ≤ 8 := hW.1.2.1
  obtain ⟨e1, e2, e3, e4, e5⟩ := hW.2.2.2 t ht.1 ht.2
  have hk := mKind_in (hOf μ 9) t
  have hc := mCm_in hW.1 ht.1 (show t < 8 by omega)
  have ec := DW.cm (μ := μ) ht.1 (show t < 8 by omega)
  have hu := hW.2.2.1
  refine x_aload_n (i := 0) dX0_canFrom_0 rfl rfl ?_
  refine x_iload_n (i := 1) dX0_canFrom_1 rfl rfl ?_
  refine x_cIp0_1 lk_RX0_103 xm_X0_isToCome dX0_canFrom_2 (s0_isToCome _ _ hW _ ht) ?_
  refine x_if_eq (tgt := 37) dX0_canFrom_5 (by decide) (by first | exact bIx _ | (unfold x_in; omega) | (have g := hu (mKind (hOf μ 9) t).toNat (by omega); unfold x_in; omega)) (fun c1 => ?_) (fun c1 => ?_)
  · refine x_ldc (n := 1000000) dX0_canFrom_37 ck_RX0_122 rfl ?_
    exact x_iret dX0_canFrom_39 rfl rfl (x_ok (by unfold dCF; first | exact (if_pos hd).symm | exact (if_neg (bd_of_f c1)).symm) (by rfl))
  · have hd := bd_of_t c1
    have hd2 := hd.2
    refine x_aload_n (i := 0) dX0_canFrom_8 rfl rfl ?_
    refine x_getR xf_RX0_12 dX0_canFrom_9 rfl rfl ?_
    refine x_getR xf_RX0_50 dX0_canFrom_12 rfl rfl ?_
    refine x_iload_n (i := 1) dX0_canFrom_15 rfl rfl ?_
    refine x_iald dX0_canFrom_16 rfl (by decide) (by first | omega | decide) (by first | omega | decide) ?_
    refine x_aload_n (i := 0) dX0_canFrom_17 rfl rfl ?_
    refine x_getR xf_RX0_25 dX0_canFrom_18 rfl rfl ?_
    refine x_getR xf_RX0_113 dX0_canFrom_21 rfl rfl ?_
    refine x_aload_n (i := 0) dX0_canFrom_24 rfl rfl ?_
    refine x_getR xf_RX0_29 dX0_canFrom_25 rfl rfl ?_
    refine x_iload_n (i := 1) dX0_canFrom_28 rfl rfl ?_
    refine x_iald dX0_canFrom_29 rfl (by decide) (by first | omega | decide) (by first | omega | decide) ?_
    rw [e2, ec]
    refine x_iald dX0_canFrom_30 rfl (by decide) (by first | omega | decide) (by first | omega | decide) ?_
    refine x_mmax lk_RX0_116 dX0_canFrom_31 (by decide) (by exact Nat.le_of_ble_eq_true rfl) (by first | exact bIx _ | (unfold x_in; omega) | (have g := hu (mKind (hOf μ 9) t).toNat (by omega); unfold x_in; omega)) (by first | exact bIx _ | (unfold x_in; omega) | (have g := hu (mKind (hOf μ 9) t).toNat (by omega); unfold x_in; omega)) ?_
    refine x_goto (tgt := 39) dX0_canFrom_34 (by decide) ?_
    exact x_iret dX0_canFrom_39 rfl rfl (x_ok (by unfold dCF; first | exact (if_pos hd).symm | exact (if_neg (bd_of_f c1)).symm) (by rfl))
set_option maxRecDepth 100000 in
set_option maxHeartbeats 4000000 in
theorem s0_isBefore (μ ρ : xM) (hW : DW μ ρ) (a b : Int) (ha : 0 ≤ a ∧ a < μ 9 3) (hb : 0 ≤ b ∧ b < μ 9 3) : X E0 shDay 0 yX0_isBefore cX0_isBefore 3 (some .boolean) 0 [some (.inr (.inl 0)), some (.inl a), some (.inl b)] [] μ (x_Q (bI (decide (mAh (hOf μ 9) a b))) μ) := by
  have h8 : 0 ≤ μ 9 3 ∧ μ 9 3 ≤ 8 := hW.1.2.1
  have a3 := (hW.2.2.2 a ha.1 ha.2).2.2.1
  have b3 := (hW.2.2.2 b hb.1 hb.2).2.2.1
  have ka := mKey_in hW.1 ha.1 (show a < 8 by omega)
  have kb := mKey_in hW.1 hb.1 (show b < 8 by omega)
  have ca := mCm_in hW.1 ha.1 (show a < 8 by omega)
  have cb := mCm_in hW.1 hb.1 (show b < 8 by omega)
  have ea := DW.cm (μ := μ) ha.1 (show a < 8 by omega)
  have eb := DW.cm (μ := μ) hb.1 (show b < 8 by omega)
  refine x_aload_n (i := 0) dX0_isBefore_0 rfl rfl ?_
  refine x_getR xf_RX0_32 dX0_isBefore_1 rfl rfl ?_
  refine x_iload_n (i := 1) dX0_isBefore_4 rfl rfl ?_
  refine x_iald dX0_isBefore_5 rfl (by decide) (by first | omega | decide) (by first | omega | decide) ?_
  refine x_aload_n (i := 0) dX0_isBefore_6 rfl rfl ?_
  refine x_getR xf_RX0_32 dX0_isBefore_7 rfl rfl ?_
  refine x_iload_n (i := 2) dX0_isBefore_10 rfl rfl ?_
  refine x_iald dX0_isBefore_11 rfl (by decide) (by first | omega | decide) (by first | omega | decide) ?_
  rw [a3, b3]
  refine x_icmp_eq (tgt := 36) dX0_isBefore_12 (by decide) (by first | (unfold x_in; omega) | (unfold x_in; decide)) (by first | (unfold x_in; omega) | (unfold x_in; decide)) (fun c1 => ?_) (fun c1 => ?_)
  · refine x_aload_n (i := 0) dX0_isBefore_36 rfl rfl ?_
    refine x_getR xf_RX0_12 dX0_isBefore_37 rfl rfl ?_
    refine x_getR xf_RX0_50 dX0_isBefore_40 rfl rfl ?_
    refine x_iload_n (i := 1) dX0_isBefore_43 rfl rfl ?_
    refine x_iald dX0_isBefore_44 rfl (by decide) (by first | omega | decide) (by first | omega | decide) ?_
    refine x_aload_n (i := 0) dX0_isBefore_45 rfl rfl ?_
    refine x_getR xf_RX0_12 dX0_isBefore_46 rfl rfl ?_
    refine x_getR xf_RX0_50 dX0_isBefore_49 rfl rfl ?_
    refine x_iload_n (i := 2) dX0_isBefore_52 rfl rfl ?_
    refine x_iald dX0_isBefore_53 rfl (by decide) (by first | omega | decide) (by first | omega | decide) ?_
    rw [ea, eb]
    refine x_icmp_eq (tgt := 84) dX0_isBefore_54 (by decide) (by first | (unfold x_in; omega) | (unfold x_in; decide)) (by first | (unfold x_in; omega) | (unfold x_in; decide)) (fun c2 => ?_) (fun c2 => ?_)
    · refine x_iload_n (i := 1) dX0_isBefore_84 rfl rfl ?_
      refine x_iload_n (i := 2) dX0_isBefore_85 rfl rfl ?_
      refine x_icmp_ge (tgt := 93) dX0_isBefore_86 (by decide) (by first | (unfold x_in; omega) | (unfold x_in; decide)) (by first | (unfold x_in; omega) | (unfold x_in; decide)) (fun c3 => ?_) (fun c3 => ?_)
      · refine x_iconst dX0_isBefore_93 ?_
        exact x_iret dX0_isBefore_94 rfl (x_narZ (by first | exact Or.inl rfl | exact Or.inr rfl | omega)) (x_ok (by first | exact bd_t (by unfold mAh; omega) | exact bd_f (by unfold mAh; omega)) (by rfl))
      · refine x_iconst dX0_isBefore_89 ?_
        refine x_goto (tgt := 94) dX0_isBefore_90 (by decide) ?_
        exact x_iret dX0_isBefore_94 rfl (x_narZ (by first | exact Or.inl rfl | exact Or.inr rfl | omega)) (x_ok (by first | exact bd_t (by unfold mAh; omega) | exact bd_f (by unfold mAh; omega)) (by rfl))
    · refine x_aload_n (i := 0) dX0_isBefore_57 rfl rfl ?_
      refine x_getR xf_RX0_12 dX0_isBefore_58 rfl rfl ?_
      refine x_getR xf_RX0_50 dX0_isBefore_61 rfl rfl ?_
      refine x_iload_n (i := 1) dX0_isBefore_64 rfl rfl ?_
      refine x_iald dX0_isBefore_65 rfl (by decide) (by first | omega | decide) (by first | omega | decide) ?_
      refine x_aload_n (i := 0) dX0_isBefore_66 rfl rfl ?_
      refine x_getR xf_RX0_12 dX0_isBefore_67 rfl rfl ?_
      refine x_getR xf_RX0_50 dX0_isBefore_70 rfl rfl ?_
      refine x_iload_n (i := 2) dX0_isBefore_73 rfl rfl ?_
      refine x_iald dX0_isBefore_74 rfl (by decide) (by first | omega | decide) (by first | omega | decide) ?_
      rw [ea, eb]
      refine x_icmp_ge (tgt := 82) dX0_isBefore_75 (by decide) (by first | (unfold x_in; omega) | (unfold x_in; decide)) (by first | (unfold x_in; omega) | (unfold x_in; decide)) (fun c3 => ?_) (fun c3 => ?_)
      · refine x_iconst dX0_isBefore_82 ?_
        exact x_iret dX0_isBefore_83 rfl (x_narZ (by first | exact Or.inl rfl | exact Or.inr rfl | omega)) (x_ok (by first | exact bd_t (by unfold mAh; omega) | exact bd_f (by unfold mAh; omega)) (by rfl))
      · refine x_iconst dX0_isBefore_78 ?_
        refine x_goto (tgt := 83) dX0_isBefore_79 (by decide) ?_
        exact x_iret dX0_isBefore_83 rfl (x_narZ (by first | exact Or.inl rfl | exact Or.inr rfl | omega)) (x_ok (by first | exact bd_t (by unfold mAh; omega) | exact bd_f (by unfold mAh; omega)) (by rfl))
  · refine x_aload_n (i := 0) dX0_isBefore_15 rfl rfl ?_
    refine x_getR xf_RX0_32 dX0_isBefore_16 rfl rfl ?_
    refine x_iload_n (i := 1) dX0_isBefore_19 rfl rfl ?_
    refine x_iald dX0_isBefore_20 rfl (by decide) (by first | omega | decide) (by first | omega | decide) ?_
    refine x_aload_n (i := 0) dX0_isBefore_21 rfl rfl ?_
    refine x_getR xf_RX0_32 dX0_isBefore_22 rfl rfl ?_
    refine x_iload_n (i := 2) dX0_isBefore_25 rfl rfl ?_
    refine x_iald dX0_isBefore_26 rfl (by decide) (by first | omega | decide) (by first | omega | decide) ?_
    rw [a3, b3]
    refine x_icmp_ge (tgt := 34) dX0_isBefore_27 (by decide) (by first | (unfold x_in; omega) | (unfold x_in; decide)) (by first | (unfold x_in; omega) | (unfold x_in; decide)) (fun c2 => ?_) (fun c2 => ?_)
    · refine x_iconst dX0_isBefore_34 ?_
      exact x_iret dX0_isBefore_35 rfl (x_narZ (by first | exact Or.inl rfl | exact Or.inr rfl | omega)) (x_ok (by first | exact bd_t (by unfold mAh; omega) | exact bd_f (by unfold mAh; omega)) (by rfl))
    · refine x_iconst dX0_isBefore_30 ?_
      refine x_goto (tgt := 35) dX0_isBefore_31 (by decide) ?_
      exact x_iret dX0_isBefore_35 rfl (x_narZ (by first | exact Or.inl rfl | exact Or.inr rfl | omega)) (x_ok (by first | exact bd_t (by unfold mAh; omega) | exact bd_f (by unfold mAh; omega)) (by rfl))
set_option maxRecDepth 100000 in
set_option maxHeartbeats 4000000 in
theorem l0_someWaits (μ ρ : xM) (hW : DW μ ρ) (m : Int) (hm : 0 ≤ m ∧ m ≤ 10000) : ∀ (n : Nat) (p : Int), 0 ≤ p → p ≤ μ 9 3 → (μ 9 3 - p).toNat < n → mWtN (mEnds m ρ) m p.toNat = false → X E0 shDay 1 yX0_someWaits cX0_someWaits 3 (some .boolean) 2 [some (.inr (.inl 0)), some (.inl m), some (.inl p)] [] μ (x_Q (bI (mWaiting (mEnds m ρ) m)) μ) := by
  have h8 : 0 ≤ μ 9 3 ∧ μ 9 3 ≤ 8 := hW.1.2.1
  have e2 : mEnds m ρ 2 = hOf μ 9 := by rw [mEnds_2]; exact hW.2.1
  have eT : (mEnds m ρ 2 1).toNat = (μ 9 3).toNat := by rw [e2]; rfl
  intro n
  induction n with
  | zero => intro p _ _ h; omega
  | succ n ih =>
    intro p hp hp2 hn hF
    have hs := mWtN_s (mEnds m ρ) m hp
    have hwa : mWA (mEnds m ρ) m p ↔ (ρ 9 p.toNat < 0 ∧ mCm (hOf μ 9) p ≤ m ∧ mKind (hOf μ 9) p ≠ 3) := by
      show (mEnds m ρ 9 p.toNat < 0 ∧ mCm (mEnds m ρ 2) p ≤ m ∧ mKind (mEnds m ρ 2) p ≠ 3) ↔ _
      rw [mEnds_9, e2]
    have KN : ¬ mWA (mEnds m ρ) m p → p < μ 9 3 → X E0 shDay 1 yX0_someWaits cX0_someWaits 3 (some .boolean) 2 [some (.inr (.inl 0)), some (.inl m), some (.inl (p + 1))] [] μ (x_Q (bI (mWaiting (mEnds m ρ) m)) μ) := by
      intro q hl
      exact ih (p + 1) (by omega) (by omega) (by omega) (by rw [hs, hF, decide_eq_false q]; rfl)
    have KY : mWA (mEnds m ρ) m p → p < μ 9 3 → (1 : Int) = bI (mWaiting (mEnds m ρ) m) := by
      intro q hl
      have mono : ∀ j k : Nat, mWtN (mEnds m ρ) m j = true → mWtN (mEnds m ρ) m (j + k) = true := by
        intro j k hj
        induction k with
        | zero => exact hj
        | succ k ih2 => rw [← Nat.add_assoc, mWtN, ih2]; rfl
      have h1 : mWtN (mEnds m ρ) m (p + 1).toNat = true := by rw [hs, decide_eq_true q, Bool.or_true]
      have h2 := mono (p + 1).toNat ((μ 9 3).toNat - (p + 1).toNat) h1
      rw [show (p + 1).toNat + ((μ 9 3).toNat - (p + 1).toNat) = (μ 9 3).toNat by omega, ← eT] at h2
      show (1 : Int) = bI (mWtN (mEnds m ρ) m (mEnds m ρ 2 1).toNat)
      rw [h2]
      rfl
    have ec : p < μ 9 3 → μ 12 p.toNat = mCm (hOf μ 9) p := fun q => DW.cm hp (by omega)
    have hc : p < μ 9 3 → 0 ≤ mCm (hOf μ 9) p ∧ mCm (hOf μ 9) p ≤ 600 := fun q => mCm_in hW.1 hp (by omega)
    refine x_iload_n (i := 2) dX0_someWaits_2 rfl rfl ?_
    refine x_aload_n (i := 0) dX0_someWaits_3 rfl rfl ?_
    refine x_getR xf_RX0_12 dX0_someWaits_4 rfl rfl ?_
    refine x_getI xf_RX0_46 dX0_someWaits_7 rfl rfl ?_
    refine x_icmp_ge (tgt := 42) dX0_someWaits_10 (by decide) (by first | exact bIx _ | (unfold x_in; omega) | (have g := hc (by omega); unfold x_in; omega)) (by first | exact bIx _ | (unfold x_in; omega) | (have g := hc (by omega); unfold x_in; omega)) (fun c1 => ?_) (fun c1 => ?_)
    · refine x_iconst dX0_someWaits_42 ?_
      exact x_iret dX0_someWaits_43 rfl (x_narZ (by first | exact Or.inl rfl | exact Or.inr rfl | omega)) (x_ok (by first | exact KY (hwa.2 ⟨hd.1, by omega, hd.2⟩) (by omega) | (show (0 : Int) = bI (mWtN (mEnds m ρ) m (mEnds m ρ 2 1).toNat); rw [eT, show μ 9 3 = p by omega, hF]; rfl)) (by rfl))
    · refine x_aload_n (i := 0) dX0_someWaits_13 rfl rfl ?_
      refine x_iload_n (i := 2) dX0_someWaits_14 rfl rfl ?_
      refine x_cIp0_1 lk_RX0_103 xm_X0_isToCome dX0_someWaits_15 (s0_isToCome _ _ hW p ⟨hp, by omega⟩) ?_
      refine x_if_eq (tgt := 36) dX0_someWaits_18 (by decide) (by first | exact bIx _ | (unfold x_in; omega) | (have g := hc (by omega); unfold x_in; omega)) (fun c2 => ?_) (fun c2 => ?_)
      · refine x_iinc_2 dX0_someWaits_36 (by decide) rfl ?_
        refine x_goto (tgt := 2) dX0_someWaits_39 (by decide) ?_
        first | exact KN (fun q => bd_of_f c2 ⟨(hwa.1 q).1, (hwa.1 q).2.2⟩) (by omega) | exact KN (fun q => absurd (hwa.1 q).2.1 (by omega)) (by omega)
      · have hd := bd_of_t c2
        refine x_aload_n (i := 0) dX0_someWaits_21 rfl rfl ?_
        refine x_getR xf_RX0_12 dX0_someWaits_22 rfl rfl ?_
        refine x_getR xf_RX0_50 dX0_someWaits_25 rfl rfl ?_
        refine x_iload_n (i := 2) dX0_someWaits_28 rfl rfl ?_
        refine x_iald dX0_someWaits_29 rfl (by decide) (by first | omega | decide) (by first | omega | decide) ?_
        refine x_iload_n (i := 1) dX0_someWaits_30 rfl rfl ?_
        rw [ec (by omega)]
        refine x_icmp_gt (tgt := 36) dX0_someWaits_31 (by decide) (by first | exact bIx _ | (unfold x_in; omega) | (have g := hc (by omega); unfold x_in; omega)) (by first | exact bIx _ | (unfold x_in; omega) | (have g := hc (by omega); unfold x_in; omega)) (fun c3 => ?_) (fun c3 => ?_)
        · refine x_iinc_2 dX0_someWaits_36 (by decide) rfl ?_
          refine x_goto (tgt := 2) dX0_someWaits_39 (by decide) ?_
          first | exact KN (fun q => bd_of_f c2 ⟨(hwa.1 q).1, (hwa.1 q).2.2⟩) (by omega) | exact KN (fun q => absurd (hwa.1 q).2.1 (by omega)) (by omega)
        · refine x_iconst dX0_someWaits_34 ?_
          exact x_iret dX0_someWaits_35 rfl (x_narZ (by first | exact Or.inl rfl | exact Or.inr rfl | omega)) (x_ok (by first | exact KY (hwa.2 ⟨hd.1, by omega, hd.2⟩) (by omega) | (show (0 : Int) = bI (mWtN (mEnds m ρ) m (mEnds m ρ 2 1).toNat); rw [eT, show μ 9 3 = p by omega, hF]; rfl)) (by rfl))
set_option maxRecDepth 100000 in
set_option maxHeartbeats 4000000 in
theorem s0_someWaits (μ ρ : xM) (hW : DW μ ρ) (m : Int) (hm : 0 ≤ m ∧ m ≤ 10000) : X E0 shDay 1 yX0_someWaits cX0_someWaits 3 (some .boolean) 0 [some (.inr (.inl 0)), some (.inl m), none] [] μ (x_Q (bI (mWaiting (mEnds m ρ) m)) μ) := by
  have h8 : 0 ≤ μ 9 3 ∧ μ 9 3 ≤ 8 := hW.1.2.1
  refine x_iconst dX0_someWaits_0 ?_
  refine x_istore_2 dX0_someWaits_1 (by decide) rfl ?_
  exact l0_someWaits μ ρ hW m hm _ 0 (by omega) (by omega) (Nat.lt_succ_self _) rfl
set_option maxRecDepth 100000 in
set_option maxHeartbeats 4000000 in
theorem s0_hangs (μ ρ : xM) (hW : DW μ ρ) (m : Int) (hm : 0 ≤ m ∧ m ≤ 10000) (hft : 0 ≤ μ 4 2 ∧ μ 4 2 ≤ 1000000) : X E0 shDay 2 yX0_hangs cX0_hangs 2 (some .boolean) 0 [some (.inr (.inl 0)), some (.inl m)] [] μ (x_Q (bI (decide (hOf μ 9 12 = 1 ∧ μ 4 2 ≤ m ∧ bI (mWaiting (mEnds m ρ) m) ≠ 0))) μ) := by
  have h8 : 0 ≤ μ 9 3 ∧ μ 9 3 ≤ 8 := hW.1.2.1
  have h12 : 0 ≤ μ 14 8 ∧ μ 14 8 ≤ 1 := hW.1.2.2.2.2.2.2.2.2.2.2.2.2.1
  have e12 : hOf μ 9 12 = μ 14 8 := rfl
  rw [e12]
  refine x_aload_n (i := 0) dX0_hangs_0 rfl rfl ?_
  refine x_getR xf_RX0_12 dX0_hangs_1 rfl rfl ?_
  refine x_getR xf_RX0_68 dX0_hangs_4 rfl rfl ?_
  refine x_bipush dX0_hangs_7 (by decide) ?_
  refine x_ialdK (K := 8) dX0_hangs_9 rfl rfl (by decide) (by decide) ?_
  refine x_iconst dX0_hangs_10 ?_
  refine x_icmp_ne (tgt := 37) dX0_hangs_11 (by decide) (by first | exact bIx _ | (unfold x_in; omega) | (unfold x_in; decide)) (by first | exact bIx _ | (unfold x_in; omega) | (unfold x_in; decide)) (fun c1 => ?_) (fun c1 => ?_)
  · refine x_iconst dX0_hangs_37 ?_
    exact x_iret dX0_hangs_38 rfl (x_narZ (by first | exact Or.inl rfl | exact Or.inr rfl | omega)) (x_ok (by first | exact bd_t ⟨by omega, by omega, c3⟩ | exact bd_f (fun q => q.2.2 c3) | exact bd_f (fun q => by have := q.1; have := q.2.1; omega)) (by rfl))
  · refine x_aload_n (i := 0) dX0_hangs_14 rfl rfl ?_
    refine x_getR xf_RX0_25 dX0_hangs_15 rfl rfl ?_
    refine x_getI xf_RX0_97 dX0_hangs_18 rfl rfl ?_
    refine x_iload_n (i := 1) dX0_hangs_21 rfl rfl ?_
    refine x_icmp_gt (tgt := 37) dX0_hangs_22 (by decide) (by first | exact bIx _ | (unfold x_in; omega) | (unfold x_in; decide)) (by first | exact bIx _ | (unfold x_in; omega) | (unfold x_in; decide)) (fun c2 => ?_) (fun c2 => ?_)
    · refine x_iconst dX0_hangs_37 ?_
      exact x_iret dX0_hangs_38 rfl (x_narZ (by first | exact Or.inl rfl | exact Or.inr rfl | omega)) (x_ok (by first | exact bd_t ⟨by omega, by omega, c3⟩ | exact bd_f (fun q => q.2.2 c3) | exact bd_f (fun q => by have := q.1; have := q.2.1; omega)) (by rfl))
    · refine x_aload_n (i := 0) dX0_hangs_25 rfl rfl ?_
      refine x_iload_n (i := 1) dX0_hangs_26 rfl rfl ?_
      refine x_cIp0_1 lk_RX0_100 xm_X0_someWaits dX0_hangs_27 (s0_someWaits _ _ hW _ hm) ?_
      refine x_if_eq (tgt := 37) dX0_hangs_30 (by decide) (by first | exact bIx _ | (unfold x_in; omega) | (unfold x_in; decide)) (fun c3 => ?_) (fun c3 => ?_)
      · refine x_iconst dX0_hangs_37 ?_
        exact x_iret dX0_hangs_38 rfl (x_narZ (by first | exact Or.inl rfl | exact Or.inr rfl | omega)) (x_ok (by first | exact bd_t ⟨by omega, by omega, c3⟩ | exact bd_f (fun q => q.2.2 c3) | exact bd_f (fun q => by have := q.1; have := q.2.1; omega)) (by rfl))
      · refine x_iconst dX0_hangs_33 ?_
        refine x_goto (tgt := 38) dX0_hangs_34 (by decide) ?_
        exact x_iret dX0_hangs_38 rfl (x_narZ (by first | exact Or.inl rfl | exact Or.inr rfl | omega)) (x_ok (by first | exact bd_t ⟨by omega, by omega, c3⟩ | exact bd_f (fun q => q.2.2 c3) | exact bd_f (fun q => by have := q.1; have := q.2.1; omega)) (by rfl))
