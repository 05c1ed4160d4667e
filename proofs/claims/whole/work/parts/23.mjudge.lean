/-! THE REFERENCE: judge -/
abbrev jBad (μ : xM) (v : Int) : Prop := v ≠ 9 ∧ (¬ inT (μ 2) v ∨ 0 ≤ μ 9 v.toNat ∨ mKind (μ 2) v = 3)
abbrev jCan (ν : xM) (v m : Int) : Prop := (v = 9 ∧ 0 < ν 0 13 ∧ mLD ν m) ∨ (v ≠ 9 ∧ mCm (ν 2) v ≤ m ∧ mHE ν v ∧ mLU ν m v)
def jFr (v : Int) : Nat → Int → xM → Int × xM
  | 0, _, μ => (-9, μ)
  | k + 1, m, μ => if jCan (mEnds m μ) v m then (m, mEnds m μ) else jFr v k (m + 1) (mEnds m μ)
def jCanF (μ : xM) (f v : Int) : Int × xM := if jBad μ v then (-9, μ) else jFr v (10000 - f).toNat f μ
theorem mEndU1_9 (m t : Int) (μ : xM) : mEndU1 m t μ 9 = μ 9 := by unfold mEndU1; split <;> rfl
theorem mEndD1_9 (m t : Int) (μ : xM) : mEndD1 m t μ 9 = μ 9 := by unfold mEndD1; split <;> rfl
theorem mEndU_9 (m : Int) (μ : xM) : ∀ k, mEndU m μ k 9 = μ 9
  | 0 => rfl
  | k + 1 => by rw [mEndU, mEndU1_9, mEndU_9 m μ k]
theorem mEndD_9 (m : Int) (μ : xM) : ∀ k, mEndD m μ k 9 = μ 9
  | 0 => rfl
  | k + 1 => by rw [mEndD, mEndD1_9, mEndD_9 m μ k]
theorem mEnds_9 (m : Int) (μ : xM) : mEnds m μ 9 = μ 9 := by rw [mEnds, mEndD_9, mEndU_9]
theorem jFr_in (v : Int) : ∀ (k : Nat) (m : Int) (μ : xM), DI μ → 0 ≤ m → m + k = 10000 → DI (jFr v k m μ).2 ∧ (jFr v k m μ).2 2 = μ 2 ∧ (jFr v k m μ).2 9 = μ 9 ∧ Same μ (jFr v k m μ).2 ∧ ((jFr v k m μ).1 = -9 ∨ (m ≤ (jFr v k m μ).1 ∧ (jFr v k m μ).1 ≤ 9999 ∧ jCan (jFr v k m μ).2 v (jFr v k m μ).1))
  | 0, m, μ, hD, _, _ => ⟨hD, rfl, rfl, Same.rfl' μ, Or.inl rfl⟩
  | k + 1, m, μ, hD, hm, hk => by
    rw [jFr]
    split
    next h => exact ⟨DI_ends hD m, mEnds_2 m μ, mEnds_9 m μ, mEnds_S m μ, Or.inr ⟨Int.le_refl _, by show m ≤ 9999; omega, h⟩⟩
    next h =>
      obtain ⟨a, b, c, d, e⟩ := jFr_in v k (m + 1) (mEnds m μ) (DI_ends hD m) (by omega) (by omega)
      refine ⟨a, by rw [b, mEnds_2], by rw [c, mEnds_9], (mEnds_S m μ).trans d, e.imp_right (fun q => ⟨by omega, q.2⟩)⟩
theorem jCanF_in {μ : xM} (hD : DI μ) {f : Int} (hf : 0 ≤ f ∧ f ≤ 10000) (v : Int) : DI (jCanF μ f v).2 ∧ (jCanF μ f v).2 2 = μ 2 ∧ Same μ (jCanF μ f v).2 ∧ ((jCanF μ f v).1 = -9 ∨ (f ≤ (jCanF μ f v).1 ∧ (jCanF μ f v).1 ≤ 9999 ∧ jCan (jCanF μ f v).2 v (jCanF μ f v).1 ∧ ¬ jBad (jCanF μ f v).2 v)) := by
  unfold jCanF
  split
  next => exact ⟨hD, rfl, Same.rfl' μ, Or.inl rfl⟩
  next h =>
    obtain ⟨a, b, c, d, e⟩ := jFr_in v (10000 - f).toNat f μ hD hf.1 (by omega)
    refine ⟨a, b, d, e.imp_right (fun q => ⟨q.1, q.2.1, q.2.2, ?_⟩)⟩
    unfold jBad
    rw [b, c]
    exact h
def jGo (rw : Nat → Int) (i : Int) (c : Int × xM) : xM := if rw i.toNat = 9 then mGD c.2 (mFree c.2) c.1 else mGU c.2 c.1 (rw i.toNat)
def jJ (rw : Nat → Int) : Nat → Int → Int → xM → Int × Int
  | 0, _, last, _ => (-9, last)
  | k + 1, i, last, μ => if (jCanF μ (if last < 0 then 0 else last + 1) (rw i.toNat)).1 < 0 then (i, last) else jJ rw k (i + 1) (jCanF μ (if last < 0 then 0 else last + 1) (rw i.toNat)).1 (jGo rw i (jCanF μ (if last < 0 then 0 else last + 1) (rw i.toNat)))
theorem DI_jGo {μ : xM} {rw_ : Nat → Int} {i : Int} (hD : DI μ) {f : Int} (hf : 0 ≤ f ∧ f ≤ 10000) (hc : ¬ (jCanF μ f (rw_ i.toNat)).1 < 0) : DI (jGo rw_ i (jCanF μ f (rw_ i.toNat))) := by
  obtain ⟨a, b, c, d⟩ := jCanF_in hD hf (rw_ i.toNat)
  rcases d with d | ⟨d1, d2, d3, d4⟩
  · omega
  · unfold jGo
    split
    next e =>
      have := mFrN_ok 6 0 rfl (mFree_ex a)
      have ht : 0 < (jCanF μ f (rw_ i.toNat)).2 0 13 := by
        rcases d3 with q | q
        · exact q.2.1
        · exact absurd e q.1
      exact DI_GD a (by omega) this.1 this.2 ht
    next e =>
      have hq : ¬ (¬ inT ((jCanF μ f (rw_ i.toNat)).2 2) (rw_ i.toNat) ∨ 0 ≤ (jCanF μ f (rw_ i.toNat)).2 9 (rw_ i.toNat).toNat ∨ mKind ((jCanF μ f (rw_ i.toNat)).2 2) (rw_ i.toNat) = 3) := fun q => d4 ⟨e, q⟩
      have hin : inT ((jCanF μ f (rw_ i.toNat)).2 2) (rw_ i.toNat) := Decidable.byContradiction (fun q => hq (Or.inl q))
      have hb : (jCanF μ f (rw_ i.toNat)).2 9 (rw_ i.toNat).toNat < 0 := Int.not_le.mp (fun q => hq (Or.inr (Or.inl q)))
      have hk : mKind ((jCanF μ f (rw_ i.toNat)).2 2) (rw_ i.toNat) ≠ 3 := fun q => hq (Or.inr (Or.inr q))
      have he : mHE (jCanF μ f (rw_ i.toNat)).2 (rw_ i.toNat) := by
        rcases d3 with q | q
        · exact absurd q.1 e
        · exact q.2.2.1
      exact DI_GU a (by omega) hin ⟨hb, hk⟩ he
theorem jGo_S {μ : xM} (rw_ : Nat → Int) (i : Int) (c : Int × xM) (h : Same μ c.2) : Same μ (jGo rw_ i c) := by
  unfold jGo
  split
  · exact h.trans (mGD_S _ _ _)
  · exact h.trans (mGU_S _ _ _)
set_option maxRecDepth 100000 in
set_option maxHeartbeats 4000000 in
theorem l6_canFrom (f v : Int) (hv : 0 ≤ v ∧ v ≤ 9) : ∀ (k : Nat) (m : Int) (μ : xM), DI μ → 0 ≤ m → m + k = 10000 → (v ≠ 9 → v < μ 2 1) → X E0 shM 4 yX6_canFrom cX6_canFrom 4 (some .int) 37 [some (.inr (.inl 0)), some (.inl f), some (.inl v), some (.inl m)] [] μ (x_Q (jFr v k m μ).1 (jFr v k m μ).2) := by
  intro k
  induction k with
  | zero =>
    intro m μ hD hm hk hb
    refine x_iload_n (i := 3) dX6_canFrom_37 rfl rfl ?_
    refine x_sipush dX6_canFrom_38 (by decide) ?_
    refine x_icmp_gt (tgt := 107) dX6_canFrom_41 (by decide) (by first | (unfold x_in; omega) | (unfold x_in; decide)) (by first | (unfold x_in; omega) | (unfold x_in; decide)) (fun c1 => ?_) (fun c1 => ?_)
    · refine x_bipush dX6_canFrom_107 (by decide) ?_
      refine x_iret dX6_canFrom_109 rfl rfl ?_
      exact ⟨rfl, rfl⟩
    · exact absurd c1 (by omega)
  | succ k ih =>
    intro m μ hD hm hk hb
    have hD2 := DI_ends hD m
    have hI := hD2.1
    have hB := DB_of hD2
    have h10 := hI.2.1
    have e2 := mEnds_2 m μ
    have h21 : mEnds m μ 2 1 = μ 2 1 := by rw [e2]
    have hb2 : v ≠ 9 → 0 ≤ v ∧ v < 8 := fun q => by have := hb q; omega
    have K : ¬ jCan (mEnds m μ) v m → X E0 shM 4 yX6_canFrom cX6_canFrom 4 (some .int) 37 [some (.inr (.inl 0)), some (.inl f), some (.inl v), some (.inl (m + 1))] [] (mEnds m μ) (x_Q (jFr v (k + 1) m μ).1 (jFr v (k + 1) m μ).2) := by
      intro hn
      rw [jFr, if_neg hn]
      exact ih (m + 1) (mEnds m μ) hD2 (by omega) (by omega) (fun q => by rw [h21]; exact hb q)
    have hB2 := hB
    obtain ⟨b12, b13, -⟩ := hB2
    refine x_iload_n (i := 3) dX6_canFrom_37 rfl rfl ?_
    refine x_sipush dX6_canFrom_38 (by decide) ?_
    refine x_icmp_gt (tgt := 107) dX6_canFrom_41 (by decide) (by first | exact bIx _ | (unfold x_in; omega) | (unfold x_in; decide)) (by first | exact bIx _ | (unfold x_in; omega) | (unfold x_in; decide)) (fun c1 => ?_) (fun c1 => ?_)
    · exact absurd c1 (by omega)
    · refine x_aload_n (i := 0) dX6_canFrom_44 rfl rfl ?_
      refine x_iload_n (i := 3) dX6_canFrom_45 rfl rfl ?_
      refine x_cVf0_1 lk_RX6_154 xm_X6_ends dX6_canFrom_46 (s6_ends _ (by omega) _ hD) ?_
      refine x_iload_n (i := 2) dX6_canFrom_49 rfl rfl ?_
      refine x_bipush dX6_canFrom_50 (by decide) ?_
      refine x_icmp_ne (tgt := 73) dX6_canFrom_52 (by decide) (by first | exact bIx _ | (unfold x_in; omega) | (unfold x_in; decide)) (by first | exact bIx _ | (unfold x_in; omega) | (unfold x_in; decide)) (fun c2 => ?_) (fun c2 => ?_)
      · refine x_aload_n (i := 0) dX6_canFrom_73 rfl rfl ?_
        refine x_iload_n (i := 2) dX6_canFrom_74 rfl rfl ?_
        refine x_cIp0_1 lk_RX6_148 xm_X6_comesAt dX6_canFrom_75 (s6_comesAt _ (by exact hb2 (by assumption)) _) ?_
        have hcm := mCm_in hI (hb2 (by assumption)).1 (hb2 (by assumption)).2
        refine x_iload_n (i := 3) dX6_canFrom_78 rfl rfl ?_
        refine x_icmp_gt (tgt := 101) dX6_canFrom_79 (by decide) (by first | exact bIx _ | (unfold x_in; omega) | (unfold x_in; decide)) (by first | exact bIx _ | (unfold x_in; omega) | (unfold x_in; decide)) (fun c3 => ?_) (fun c3 => ?_)
        · refine x_iinc_3 dX6_canFrom_101 (by decide) rfl ?_
          refine x_goto (tgt := 37) dX6_canFrom_104 (by decide) ?_
          refine K ?_
          rintro (q | q)
          · first | exact absurd q.1 (by omega) | exact absurd q.2.1 (by omega) | exact bd_of_f c4 q.2.2
          · first | exact absurd c2 q.1 | exact absurd q.2.1 (by omega) | exact bd_of_f c4 q.2.2.1 | exact bd_of_f c5 q.2.2.2
        · refine x_aload_n (i := 0) dX6_canFrom_82 rfl rfl ?_
          refine x_iload_n (i := 2) dX6_canFrom_83 rfl rfl ?_
          refine x_cIp0_1 lk_RX6_167 xm_X6_hasEngine dX6_canFrom_84 (s6_hasEngine _ (by exact hb2 (by assumption)) _ hI hB) ?_
          refine x_if_eq (tgt := 101) dX6_canFrom_87 (by decide) (by first | exact bIx _ | (unfold x_in; omega) | (unfold x_in; decide)) (fun c4 => ?_) (fun c4 => ?_)
          · refine x_iinc_3 dX6_canFrom_101 (by decide) rfl ?_
            refine x_goto (tgt := 37) dX6_canFrom_104 (by decide) ?_
            refine K ?_
            rintro (q | q)
            · first | exact absurd q.1 (by omega) | exact absurd q.2.1 (by omega) | exact bd_of_f c4 q.2.2
            · first | exact absurd c2 q.1 | exact absurd q.2.1 (by omega) | exact bd_of_f c4 q.2.2.1 | exact bd_of_f c5 q.2.2.2
          · refine x_aload_n (i := 0) dX6_canFrom_90 rfl rfl ?_
            refine x_iload_n (i := 3) dX6_canFrom_91 rfl rfl ?_
            refine x_iload_n (i := 2) dX6_canFrom_92 rfl rfl ?_
            refine x_cIp0_2 lk_RX6_170 xm_X6_letsUp dX6_canFrom_93 (s6_letsUp _ _ (by omega) (by exact hb2 (by assumption)) _ hI hB) ?_
            refine x_if_eq (tgt := 101) dX6_canFrom_96 (by decide) (by first | exact bIx _ | (unfold x_in; omega) | (unfold x_in; decide)) (fun c5 => ?_) (fun c5 => ?_)
            · refine x_iinc_3 dX6_canFrom_101 (by decide) rfl ?_
              refine x_goto (tgt := 37) dX6_canFrom_104 (by decide) ?_
              refine K ?_
              rintro (q | q)
              · first | exact absurd q.1 (by omega) | exact absurd q.2.1 (by omega) | exact bd_of_f c4 q.2.2
              · first | exact absurd c2 q.1 | exact absurd q.2.1 (by omega) | exact bd_of_f c4 q.2.2.1 | exact bd_of_f c5 q.2.2.2
            · refine x_iload_n (i := 3) dX6_canFrom_99 rfl rfl ?_
              refine x_iret dX6_canFrom_100 rfl rfl ?_
              have hc : jCan (mEnds m μ) v m := by first | exact Or.inl ⟨c2, c3, bd_of_t c4⟩ | exact Or.inr ⟨c2, c3, bd_of_t c4, bd_of_t c5⟩
              rw [jFr, if_pos hc]
              exact ⟨rfl, rfl⟩
      · refine x_aload_n (i := 0) dX6_canFrom_55 rfl rfl ?_
        refine x_getI xf_RX6_124 dX6_canFrom_56 rfl rfl ?_
        try simp (decide := true) only [x_st_at, ↓reduceIte, if_true, if_false]
        refine x_if_le (tgt := 101) dX6_canFrom_59 (by decide) (by first | exact bIx _ | (unfold x_in; omega) | (unfold x_in; decide)) (fun c3 => ?_) (fun c3 => ?_)
        · refine x_iinc_3 dX6_canFrom_101 (by decide) rfl ?_
          refine x_goto (tgt := 37) dX6_canFrom_104 (by decide) ?_
          refine K ?_
          rintro (q | q)
          · first | exact absurd q.1 (by omega) | exact absurd q.2.1 (by omega) | exact bd_of_f c4 q.2.2
          · first | exact absurd c2 q.1 | exact absurd q.2.1 (by omega) | exact bd_of_f c4 q.2.2.1 | exact bd_of_f c5 q.2.2.2
        · refine x_aload_n (i := 0) dX6_canFrom_62 rfl rfl ?_
          refine x_iload_n (i := 3) dX6_canFrom_63 rfl rfl ?_
          refine x_cIp0_1 lk_RX6_161 xm_X6_letsDown dX6_canFrom_64 (s6_letsDown _ (by omega) _ hI hB) ?_
          refine x_if_eq (tgt := 101) dX6_canFrom_67 (by decide) (by first | exact bIx _ | (unfold x_in; omega) | (unfold x_in; decide)) (fun c4 => ?_) (fun c4 => ?_)
          · refine x_iinc_3 dX6_canFrom_101 (by decide) rfl ?_
            refine x_goto (tgt := 37) dX6_canFrom_104 (by decide) ?_
            refine K ?_
            rintro (q | q)
            · first | exact absurd q.1 (by omega) | exact absurd q.2.1 (by omega) | exact bd_of_f c4 q.2.2
            · first | exact absurd c2 q.1 | exact absurd q.2.1 (by omega) | exact bd_of_f c4 q.2.2.1 | exact bd_of_f c5 q.2.2.2
          · refine x_goto (tgt := 99) dX6_canFrom_70 (by decide) ?_
            refine x_iload_n (i := 3) dX6_canFrom_99 rfl rfl ?_
            refine x_iret dX6_canFrom_100 rfl rfl ?_
            have hc : jCan (mEnds m μ) v m := by first | exact Or.inl ⟨c2, c3, bd_of_t c4⟩ | exact Or.inr ⟨c2, c3, bd_of_t c4, bd_of_t c5⟩
            rw [jFr, if_pos hc]
            exact ⟨rfl, rfl⟩
set_option maxRecDepth 100000 in
set_option maxHeartbeats 4000000 in
theorem s6_canFrom (f v : Int) (hf : 0 ≤ f ∧ f ≤ 10000) (hv : 0 ≤ v ∧ v ≤ 9) (μ : xM) (hD : DI μ) : X E0 shM 4 yX6_canFrom cX6_canFrom 4 (some .int) 0 [some (.inr (.inl 0)), some (.inl f), some (.inl v), none] [] μ (x_Q (jCanF μ f v).1 (jCanF μ f v).2) := by
  have hI := hD.1
  have hB := DB_of hD
  have h10 := hI.2.1
  have hm := mIn_in v (μ 2 1)
  have hB2 := hB
  obtain ⟨-, -, -, -, -, b7, -⟩ := hB2
  have K : ¬ jBad μ v → X E0 shM 4 yX6_canFrom cX6_canFrom 4 (some .int) 37 [some (.inr (.inl 0)), some (.inl f), some (.inl v), some (.inl f)] [] μ (x_Q (jCanF μ f v).1 (jCanF μ f v).2) := by
    intro hn
    rw [jCanF, if_neg hn]
    exact l6_canFrom f v hv _ f μ hD hf.1 (by omega) (fun q => by
      have : inT (μ 2) v := Decidable.byContradiction (fun r => hn ⟨q, Or.inl r⟩)
      exact this.2)
  have hk := mKind_in (μ 2) v
  refine x_iload_n (i := 2) dX6_canFrom_0 rfl rfl ?_
  refine x_bipush dX6_canFrom_1 (by decide) ?_
  refine x_icmp_eq (tgt := 35) dX6_canFrom_3 (by decide) (by first | (unfold x_in; omega) | (unfold x_in; decide)) (by first | (unfold x_in; omega) | (unfold x_in; decide)) (fun c1 => ?_) (fun c1 => ?_)
  · refine x_iload_n (i := 1) dX6_canFrom_35 rfl rfl ?_
    refine x_istore_3 dX6_canFrom_36 (by decide) rfl ?_
    refine K ?_
    rintro ⟨q1, q2⟩
    first | exact q1 c1 | exact q2.elim (fun q => q (mIn_t c2)) (fun q => q.elim (fun r => absurd r (by omega)) c4)
  · refine x_aload_n (i := 0) dX6_canFrom_6 rfl rfl ?_
    refine x_iload_n (i := 2) dX6_canFrom_7 rfl rfl ?_
    refine x_cIp0_1 lk_RX6_90 xm_X6_isTrain dX6_canFrom_8 (s6_isTrain _ (by unfold x_in; omega) _ hI) ?_
    refine x_if_eq (tgt := 32) dX6_canFrom_11 (by decide) (by first | (unfold x_in; omega) | (unfold x_in; decide)) (fun c2 => ?_) (fun c2 => ?_)
    · refine x_bipush dX6_canFrom_32 (by decide) ?_
      refine x_iret dX6_canFrom_34 rfl rfl ?_
      have hc : jBad μ v := by first | exact ⟨c1, Or.inl (mIn_f c2)⟩ | exact ⟨c1, Or.inr (Or.inl c3)⟩ | exact ⟨c1, Or.inr (Or.inr c4)⟩
      rw [jCanF, if_pos hc]
      exact ⟨rfl, rfl⟩
    · have hr := mIn_t c2
      have hy := (b7 v hr.1 (by omega)).2
      refine x_aload_n (i := 0) dX6_canFrom_14 rfl rfl ?_
      refine x_getR xf_RX6_34 dX6_canFrom_15 rfl rfl ?_
      refine x_iload_n (i := 2) dX6_canFrom_18 rfl rfl ?_
      refine x_iald dX6_canFrom_19 rfl (by decide) (by first | omega | decide) (by first | omega | decide) ?_
      refine x_if_ge (tgt := 32) dX6_canFrom_20 (by decide) (by first | (unfold x_in; omega) | (unfold x_in; decide)) (fun c3 => ?_) (fun c3 => ?_)
      · refine x_bipush dX6_canFrom_32 (by decide) ?_
        refine x_iret dX6_canFrom_34 rfl rfl ?_
        have hc : jBad μ v := by first | exact ⟨c1, Or.inl (mIn_f c2)⟩ | exact ⟨c1, Or.inr (Or.inl c3)⟩ | exact ⟨c1, Or.inr (Or.inr c4)⟩
        rw [jCanF, if_pos hc]
        exact ⟨rfl, rfl⟩
      · refine x_aload_n (i := 0) dX6_canFrom_23 rfl rfl ?_
        refine x_iload_n (i := 2) dX6_canFrom_24 rfl rfl ?_
        refine x_cIp0_1 lk_RX6_112 xm_X6_kindOf dX6_canFrom_25 (s6_kindOf _ (by have := mIn_t c2; omega) _ hI) ?_
        refine x_iconst dX6_canFrom_28 ?_
        refine x_icmp_ne (tgt := 35) dX6_canFrom_29 (by decide) (by first | (unfold x_in; omega) | (unfold x_in; decide)) (by first | (unfold x_in; omega) | (unfold x_in; decide)) (fun c4 => ?_) (fun c4 => ?_)
        · refine x_iload_n (i := 1) dX6_canFrom_35 rfl rfl ?_
          refine x_istore_3 dX6_canFrom_36 (by decide) rfl ?_
          refine K ?_
          rintro ⟨q1, q2⟩
          first | exact q1 c1 | exact q2.elim (fun q => q (mIn_t c2)) (fun q => q.elim (fun r => absurd r (by omega)) c4)
        · refine x_bipush dX6_canFrom_32 (by decide) ?_
          refine x_iret dX6_canFrom_34 rfl rfl ?_
          have hc : jBad μ v := by first | exact ⟨c1, Or.inl (mIn_f c2)⟩ | exact ⟨c1, Or.inr (Or.inl c3)⟩ | exact ⟨c1, Or.inr (Or.inr c4)⟩
          rw [jCanF, if_pos hc]
          exact ⟨rfl, rfl⟩
set_option maxRecDepth 100000 in
set_option maxHeartbeats 4000000 in
theorem l6_judge (w n : Int) (hw : w = 0 ∨ w = 1) (hn : 0 ≤ n ∧ n ≤ 16) (μ : xM) (hr : ∀ k : Int, 0 ≤ k → k < 16 → 0 ≤ μ 12 k.toNat ∧ μ 12 k.toNat ≤ 9) : ∀ (k : Nat) (i last : Int) (ν : xM) (z5 : Option xA), 0 ≤ i → i + k = n → -9 ≤ last ∧ last ≤ 9999 → DI ν → Same μ ν → X E0 shM 5 yX6_judge cX6_judge 6 (some .int) 35 [some (.inr (.inl 0)), some (.inl w), some (.inl n), some (.inl last), some (.inl i), z5] [] ν (fun r μ' => r = some (.inl (if w = 0 then (jJ (μ 12) k i last ν).1 else (jJ (μ 12) k i last ν).2)) ∧ Same μ μ') := by
  intro k
  induction k with
  | zero =>
    intro i last ν z5 h0 hi hl hD hS
    refine x_iload dX6_judge_35 rfl ?_
    refine x_iload_n (i := 2) dX6_judge_37 rfl rfl ?_
    refine x_icmp_ge (tgt := 124) dX6_judge_38 (by decide) (by first | (unfold x_in; omega) | (unfold x_in; decide)) (by first | (unfold x_in; omega) | (unfold x_in; decide)) (fun c1 => ?_) (fun c1 => ?_)
    · refine x_iload_n (i := 1) dX6_judge_124 rfl rfl ?_
      refine x_if_ne (tgt := 133) dX6_judge_125 (by decide) (by first | (unfold x_in; omega) | (unfold x_in; decide)) (fun c2 => ?_) (fun c2 => ?_)
      · refine x_iload_n (i := 3) dX6_judge_133 rfl rfl ?_
        refine x_iret dX6_judge_134 rfl rfl ?_
        first | exact ⟨by rw [if_pos c2]; rfl, hS⟩ | exact ⟨by rw [if_neg c2]; rfl, hS⟩
      · refine x_bipush dX6_judge_128 (by decide) ?_
        refine x_goto (tgt := 134) dX6_judge_130 (by decide) ?_
        refine x_iret dX6_judge_134 rfl rfl ?_
        first | exact ⟨by rw [if_pos c2]; rfl, hS⟩ | exact ⟨by rw [if_neg c2]; rfl, hS⟩
    · exact absurd c1 (by omega)
  | succ k ih =>
    intro i last ν z5 h0 hi hl hD hS
    have e12 : ν 12 = μ 12 := hS.2 12 (by decide) (by decide) (by decide) (by decide)
    have hv := hr i h0 (by omega)
    have hI := hD.1
    have K : ∀ f, f = (if last < 0 then 0 else last + 1) → ¬ (jCanF ν f (μ 12 i.toNat)).1 < 0 → ∀ z, X E0 shM 5 yX6_judge cX6_judge 6 (some .int) 35 [some (.inr (.inl 0)), some (.inl w), some (.inl n), some (.inl ((jCanF ν f (μ 12 i.toNat)).1)), some (.inl (i + 1)), z] [] (jGo (μ 12) i (jCanF ν f (μ 12 i.toNat))) (fun r μ' => r = some (.inl (if w = 0 then (jJ (μ 12) (k + 1) i last ν).1 else (jJ (μ 12) (k + 1) i last ν).2)) ∧ Same μ μ') := by
      intro f hf hc z
      have hf2 : 0 ≤ f ∧ f ≤ 10000 := by
        rw [hf]
        split <;> omega
      have hj := jCanF_in hD hf2 (μ 12 i.toNat)
      have h := ih (i + 1) (jCanF ν f (μ 12 i.toNat)).1 (jGo (μ 12) i (jCanF ν f (μ 12 i.toNat))) z (by omega) (by omega) (by omega) (DI_jGo hD hf2 hc) (hS.trans (jGo_S _ _ _ hj.2.2.1))
      rw [jJ, ← hf, if_neg hc]
      exact h
    have K2 : ∀ f, f = (if last < 0 then 0 else last + 1) → 0 ≤ f ∧ f ≤ 10000 → X E0 shM 5 yX6_judge cX6_judge 6 (some .int) 53 [some (.inr (.inl 0)), some (.inl w), some (.inl n), some (.inl last), some (.inl i), z5] [.inl f, .inr (.inl 0)] ν (fun r μ' => r = some (.inl (if w = 0 then (jJ (μ 12) (k + 1) i last ν).1 else (jJ (μ 12) (k + 1) i last ν).2)) ∧ Same μ μ') := by
      intro f hf hf2
      have hj := jCanF_in hD hf2 (μ 12 i.toNat)
      obtain ⟨j1, j2, j3, j4⟩ := hj
      have e12b : (jCanF ν f (μ 12 i.toNat)).2 12 = μ 12 := by rw [j3.2 12 (by decide) (by decide) (by decide) (by decide), e12]
      have KG : ¬ (jCanF ν f (μ 12 i.toNat)).1 < 0 → μ 12 i.toNat ≠ 9 → 0 ≤ μ 12 i.toNat ∧ μ 12 i.toNat < (jCanF ν f (μ 12 i.toNat)).2 2 1 := by
        intro q1 q2
        rcases j4 with q | ⟨-, -, -, q⟩
        · omega
        · have : inT ((jCanF ν f (μ 12 i.toNat)).2 2) (μ 12 i.toNat) := Decidable.byContradiction (fun r => q ⟨q2, Or.inl r⟩)
          exact this
      have KU : ¬ (jCanF ν f (μ 12 i.toNat)).1 < 0 → μ 12 i.toNat ≠ 9 → ∀ z, X E0 shM 5 yX6_judge cX6_judge 6 (some .int) 35 [some (.inr (.inl 0)), some (.inl w), some (.inl n), some (.inl ((jCanF ν f (μ 12 i.toNat)).1)), some (.inl (i + 1)), z] [] (mGU (jCanF ν f (μ 12 i.toNat)).2 (jCanF ν f (μ 12 i.toNat)).1 (μ 12 i.toNat)) (fun r μ' => r = some (.inl (if w = 0 then (jJ (μ 12) (k + 1) i last ν).1 else (jJ (μ 12) (k + 1) i last ν).2)) ∧ Same μ μ') := by
        intro q1 q2 z
        have h := K f hf q1 z
        unfold jGo at h
        rw [if_neg q2] at h
        exact h
      have K9 : ¬ (jCanF ν f (μ 12 i.toNat)).1 < 0 → μ 12 i.toNat = 9 → ∀ z, X E0 shM 5 yX6_judge cX6_judge 6 (some .int) 35 [some (.inr (.inl 0)), some (.inl w), some (.inl n), some (.inl ((jCanF ν f (μ 12 i.toNat)).1)), some (.inl (i + 1)), z] [] (mGD (jCanF ν f (μ 12 i.toNat)).2 (mFree (jCanF ν f (μ 12 i.toNat)).2) (jCanF ν f (μ 12 i.toNat)).1) (fun r μ' => r = some (.inl (if w = 0 then (jJ (μ 12) (k + 1) i last ν).1 else (jJ (μ 12) (k + 1) i last ν).2)) ∧ Same μ μ') := by
        intro q1 q2 z
        have h := K f hf q1 z
        unfold jGo at h
        rw [if_pos q2] at h
        exact h
      refine x_aload_n (i := 0) dX6_judge_53 rfl rfl ?_
      refine x_getR xf_RX6_43 dX6_judge_54 rfl rfl ?_
      refine x_iload dX6_judge_57 rfl ?_
      refine x_iald dX6_judge_59 rfl (by decide) (by first | omega | decide) (by first | omega | decide) ?_
      rw [e12]
      refine x_cIf0_2 lk_RX6_210 xm_X6_canFrom dX6_judge_60 (s6_canFrom _ _ hf2 hv _ hD) ?_
      refine x_istore_5 dX6_judge_63 (by decide) rfl ?_
      refine x_iload dX6_judge_65 rfl ?_
      refine x_if_ge (tgt := 81) dX6_judge_67 (by decide) (by first | (unfold x_in; omega) | (unfold x_in; decide)) (fun c1 => ?_) (fun c1 => ?_)
      · refine x_aload_n (i := 0) dX6_judge_81 rfl rfl ?_
        refine x_getR xf_RX6_43 dX6_judge_82 rfl rfl ?_
        refine x_iload dX6_judge_85 rfl ?_
        refine x_iald dX6_judge_87 rfl (by decide) (by first | omega | decide) (by first | omega | decide) ?_
        try simp (decide := true) only [x_st_at, ↓reduceIte, if_true, if_false]
        rw [e12b]
        refine x_bipush dX6_judge_88 (by decide) ?_
        refine x_icmp_ne (tgt := 102) dX6_judge_90 (by decide) (by first | (unfold x_in; omega) | (unfold x_in; decide)) (by first | (unfold x_in; omega) | (unfold x_in; decide)) (fun c2 => ?_) (fun c2 => ?_)
        · have KX := KU (by omega) c2
          refine x_aload_n (i := 0) dX6_judge_102 rfl rfl ?_
          refine x_iload dX6_judge_103 rfl ?_
          refine x_aload_n (i := 0) dX6_judge_105 rfl rfl ?_
          refine x_getR xf_RX6_43 dX6_judge_106 rfl rfl ?_
          refine x_iload dX6_judge_109 rfl ?_
          refine x_iald dX6_judge_111 rfl (by decide) (by first | omega | decide) (by first | omega | decide) ?_
          try simp (decide := true) only [x_st_at, ↓reduceIte, if_true, if_false]
          rw [e12b]
          refine x_cVf0_2 lk_RX6_176 xm_X6_goesUp dX6_judge_112 (s6_goesUp _ _ (by omega) _ (by exact KG (by omega) (by assumption)) j1) ?_
          refine x_iload dX6_judge_115 rfl ?_
          refine x_istore_3 dX6_judge_117 (by decide) rfl ?_
          refine x_iinc_4 dX6_judge_118 (by decide) rfl ?_
          refine x_goto (tgt := 35) dX6_judge_121 (by decide) ?_
          exact KX _
        · have KX := K9 (by omega) c2
          refine x_aload_n (i := 0) dX6_judge_93 rfl rfl ?_
          refine x_iload dX6_judge_94 rfl ?_
          refine x_cVf0_1 lk_RX6_164 xm_X6_goesDown dX6_judge_96 (s6_goesDown _ (by omega) _ j1) ?_
          refine x_goto (tgt := 115) dX6_judge_99 (by decide) ?_
          refine x_iload dX6_judge_115 rfl ?_
          refine x_istore_3 dX6_judge_117 (by decide) rfl ?_
          refine x_iinc_4 dX6_judge_118 (by decide) rfl ?_
          refine x_goto (tgt := 35) dX6_judge_121 (by decide) ?_
          exact KX _
      · refine x_iload_n (i := 1) dX6_judge_70 rfl rfl ?_
        refine x_if_ne (tgt := 79) dX6_judge_71 (by decide) (by first | (unfold x_in; omega) | (unfold x_in; decide)) (fun c2 => ?_) (fun c2 => ?_)
        · refine x_iload_n (i := 3) dX6_judge_79 rfl rfl ?_
          refine x_iret dX6_judge_80 rfl rfl ?_
          rw [jJ, ← hf, if_pos c1]
          first | exact ⟨by rw [if_pos c2], hS.trans j3⟩ | exact ⟨by rw [if_neg c2], hS.trans j3⟩
        · refine x_iload dX6_judge_74 rfl ?_
          refine x_goto (tgt := 80) dX6_judge_76 (by decide) ?_
          refine x_iret dX6_judge_80 rfl rfl ?_
          rw [jJ, ← hf, if_pos c1]
          first | exact ⟨by rw [if_pos c2], hS.trans j3⟩ | exact ⟨by rw [if_neg c2], hS.trans j3⟩
    refine x_iload dX6_judge_35 rfl ?_
    refine x_iload_n (i := 2) dX6_judge_37 rfl rfl ?_
    refine x_icmp_ge (tgt := 124) dX6_judge_38 (by decide) (by first | (unfold x_in; omega) | (unfold x_in; decide)) (by first | (unfold x_in; omega) | (unfold x_in; decide)) (fun c1 => ?_) (fun c1 => ?_)
    · exact absurd c1 (by omega)
    · refine x_aload_n (i := 0) dX6_judge_41 rfl rfl ?_
      refine x_iload_n (i := 3) dX6_judge_42 rfl rfl ?_
      refine x_if_ge (tgt := 50) dX6_judge_43 (by decide) (by first | (unfold x_in; omega) | (unfold x_in; decide)) (fun c2 => ?_) (fun c2 => ?_)
      · refine x_iload_n (i := 3) dX6_judge_50 rfl rfl ?_
        refine x_iconst dX6_judge_51 ?_
        refine x_iadd dX6_judge_52 ?_
        refine K2 _ ?_ (by omega)
        first | rw [if_pos (by omega)] | rw [if_neg (by omega)]
      · refine x_iconst dX6_judge_46 ?_
        refine x_goto (tgt := 53) dX6_judge_47 (by decide) ?_
        refine K2 _ ?_ (by omega)
        first | rw [if_pos (by omega)] | rw [if_neg (by omega)]
theorem Eqd.gd {μ ν : xM} (h : Eqd μ ν) (k : Nat) (m : Int) : Eqd (mGD μ k m) (mGD ν k m) := by
  unfold mGD
  rw [h.1]
  exact (((h.st0 13 (by rw [h.2.1 13 (by decide) (by decide)])).st8 _ rfl).st0 16 rfl).st0 14 (by rw [h.2.1 14 (by decide) (by decide)])
theorem Eqd.gu {μ ν : xM} (h : Eqd μ ν) (m t : Int) : Eqd (mGU μ m t) (mGU ν m t) := by
  unfold mGU
  rw [h.1]
  exact ((((h.st0 12 (by rw [h.2.1 12 (by decide) (by decide)])).st7 _ rfl).st0 17 (by rw [h.2.1 17 (by decide) (by decide)])).st9 _ rfl).st0 15 rfl
theorem Eqd.jcan {μ ν : xM} (h : Eqd μ ν) (hI : MI (μ 2)) (v m : Int) : jCan μ v m ↔ jCan ν v m := by
  unfold jCan mLD mHE mLU
  rw [h.up hI, h.dn, h.2.1 12 (by decide) (by decide), h.2.1 13 (by decide) (by decide), h.2.1 15 (by decide) (by decide), h.2.1 16 (by decide) (by decide), h.2.1 17 (by decide) (by decide), h.1]
theorem Eqd.jfr (v : Int) : ∀ (k : Nat) (m : Int) {μ ν : xM}, Eqd μ ν → MI (μ 2) → (jFr v k m μ).1 = (jFr v k m ν).1 ∧ Eqd (jFr v k m μ).2 (jFr v k m ν).2
  | 0, m, μ, ν, h, _ => ⟨rfl, h⟩
  | k + 1, m, μ, ν, h, hI => by
    have h2 := h.ends hI m
    have hI2 : MI (mEnds m μ 2) := by rw [mEnds_2]; exact hI
    have e := h2.jcan hI2 v m
    rw [jFr, jFr]
    by_cases c : jCan (mEnds m ν) v m
    · rw [if_pos c, if_pos (e.2 c)]
      exact ⟨rfl, h2⟩
    · rw [if_neg c, if_neg (fun q => c (e.1 q))]
      exact Eqd.jfr v k (m + 1) h2 hI2
theorem Eqd.jcf {μ ν : xM} (h : Eqd μ ν) (hI : MI (μ 2)) (f v : Int) : (jCanF μ f v).1 = (jCanF ν f v).1 ∧ Eqd (jCanF μ f v).2 (jCanF ν f v).2 := by
  have h10 := hI.2.1
  have e : jBad μ v ↔ jBad ν v := by
    unfold jBad
    by_cases hin : inT (ν 2) v
    · have hin2 : inT (μ 2) v := by rw [h.1]; exact hin
      have h9 : μ 9 v.toNat = ν 9 v.toNat := (h.2.2.1 v.toNat (by omega)).2
      rw [h9, h.1]
    · have hin2 : ¬ inT (μ 2) v := by rw [h.1]; exact hin
      constructor
      · exact fun q => ⟨q.1, Or.inl hin⟩
      · exact fun q => ⟨q.1, Or.inl hin2⟩
  unfold jCanF
  by_cases c : jBad ν v
  · rw [if_pos c, if_pos (e.2 c)]
    exact ⟨rfl, h⟩
  · rw [if_neg c, if_neg (fun q => c (e.1 q))]
    exact Eqd.jfr v _ f h hI
theorem Eqd.jj (rw_ : Nat → Int) : ∀ (k : Nat) (i last : Int) {μ ν : xM}, Eqd μ ν → DI μ → -9 ≤ last ∧ last ≤ 9999 → jJ rw_ k i last μ = jJ rw_ k i last ν
  | 0, i, last, μ, ν, h, _, _ => rfl
  | k + 1, i, last, μ, ν, h, hD, hl => by
    have hI := hD.1
    have hf : 0 ≤ (if last < 0 then 0 else last + 1) ∧ (if last < 0 then 0 else last + 1) ≤ 10000 := by split <;> omega
    generalize hfe : (if last < 0 then 0 else last + 1) = f at hf
    obtain ⟨e1, e2⟩ := h.jcf hI f (rw_ i.toNat)
    rw [jJ, jJ, hfe, ← e1]
    by_cases c : (jCanF μ f (rw_ i.toNat)).1 < 0
    · rw [if_pos c, if_pos c]
    · rw [if_neg c, if_neg c]
      have hj := jCanF_in hD hf (rw_ i.toNat)
      refine Eqd.jj rw_ k (i + 1) _ ?_ (DI_jGo hD hf c) (by omega)
      unfold jGo
      rw [← e1]
      split
      · rw [show mFree (jCanF μ f (rw_ i.toNat)).2 = mFree (jCanF ν f (rw_ i.toNat)).2 from e2.frN 6 0 rfl]
        exact e2.gd _ _
      · exact e2.gu _ _
def dJudge (h rw_ : Nat → Int) (n : Int) : Int × Int := jJ rw_ n.toNat 0 (-9) (mOpens (canon h))
set_option maxRecDepth 100000 in
set_option maxHeartbeats 4000000 in
theorem s6_judge (w : Int) (hw : x_in w) (μ : xM) (hG : GI μ) : X E0 shM 6 yX6_judge cX6_judge 6 (some .int) 0 [some (.inr (.inl 0)), some (.inl w), none, none, none, none] [] μ (PQ (if 0 ≤ w ∧ w < 2 then (if w = 0 then (dJudge (μ 2) (μ 12) (μ 0 22)).1 else (dJudge (μ 2) (μ 12) (μ 0 22)).2) else -2) (if 0 ≤ w ∧ w < 2 then x_st μ 0 22 0 else mRef μ (-2))) := by
  have hI := hG.1
  have hm := mIn_in w 2
  have h22 := hG.2.2.2.2.1
  have hG1 : GI (x_st μ 0 22 0) := by
    obtain ⟨g1, g2, g3, g4, g5, g6, g7⟩ := hG
    exact ⟨g1, g2, g3, g4, by show 0 ≤ (0 : Int) ∧ (0 : Int) ≤ 16; omega, g6, g7⟩
  have hD : DI (mOpens (x_st μ 0 22 0)) := DI_opens (show MI ((x_st μ 0 22 0) 2) from hI)
  have hS := mOpens_S (x_st μ 0 22 0)
  have he : jJ (μ 12) (μ 0 22).toNat 0 (-9) (mOpens (x_st μ 0 22 0)) = dJudge (μ 2) (μ 12) (μ 0 22) := Eqd.jj (μ 12) _ 0 (-9) (Eqd.opens (show (x_st μ 0 22 0) 2 = canon (μ 2) 2 from rfl)) hD (by omega)
  refine x_iload_n (i := 1) dX6_judge_0 rfl rfl ?_
  refine x_iconst dX6_judge_1 ?_
  refine x_cS_2 lk_RX6_46 xm_X6_isIn dX6_judge_2 (s6_isIn _ _ hw (by unfold x_in; decide) _) ?_
  refine x_if_ne (tgt := 15) dX6_judge_5 (by decide) (by first | (unfold x_in; omega) | (unfold x_in; decide)) (fun c1 => ?_) (fun c1 => ?_)
  · refine x_aload_n (i := 0) dX6_judge_15 rfl rfl ?_
    refine x_getI xf_RX6_207 dX6_judge_16 rfl rfl ?_
    refine x_istore_2 dX6_judge_19 (by decide) rfl ?_
    refine x_aload_n (i := 0) dX6_judge_20 rfl rfl ?_
    refine x_iconst dX6_judge_21 ?_
    refine x_putI xp_RX6_207 dX6_judge_22 rfl rfl ?_
    refine x_aload_n (i := 0) dX6_judge_25 rfl rfl ?_
    refine x_cVf0_0 lk_RX6_180 xm_X6_opens dX6_judge_26 (s6_opens _) ?_
    refine x_bipush dX6_judge_29 (by decide) ?_
    refine x_istore_3 dX6_judge_31 (by decide) rfl ?_
    refine x_iconst dX6_judge_32 ?_
    refine x_istore_4 dX6_judge_33 (by decide) rfl ?_
    have hr := mIn_t c1
    refine ((l6_judge w (μ 0 22) (by omega) h22 (x_st μ 0 22 0) (fun k k0 k16 => hG.2.2.2.2.2.1 k k0 k16) (μ 0 22).toNat 0 (-9) _ none (by omega) (by omega) (by omega) hD hS).deep (by decide)).mono (fun r m q => ⟨?_, ?_⟩)
    · rw [q.1, if_pos hr]
      show some (Sum.inl (if w = 0 then (jJ (μ 12) (μ 0 22).toNat 0 (-9) (mOpens (x_st μ 0 22 0))).1 else (jJ (μ 12) (μ 0 22).toNat 0 (-9) (mOpens (x_st μ 0 22 0))).2)) = _
      rw [he]
    · rw [if_pos hr]
      exact q.2.abs hG1
  · refine x_aload_n (i := 0) dX6_judge_8 rfl rfl ?_
    refine x_bipush dX6_judge_9 (by decide) ?_
    refine x_cIf0_1 lk_RX6_50 xm_X6_refuse dX6_judge_11 (s6_refuse _ (by decide) _) ?_
    refine x_iret dX6_judge_14 rfl rfl ?_
    exact ⟨by rw [if_neg (mIn_f c1)], by rw [if_neg (mIn_f c1)]; exact Abs.ref hG _⟩
