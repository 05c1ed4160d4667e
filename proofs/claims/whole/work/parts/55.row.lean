/-! THE CLASS, Row: what a row of beginnings shows -/
theorem bit_set : ∀ S, S < 256 → ∀ t, t < 8 → ∀ u, u < 8 → (S ||| 2 ^ t).testBit u = (S.testBit u || decide (u = t)) := by decide +kernel
abbrev rT (μ : xM) : xM := x_ct [2, 3, 4, 5, 6] μ
def RR (μ ρ : xM) (m : Int) : Prop := MI (hOf μ 7) ∧ ρ 2 = hOf μ 7 ∧ TR (rT μ) ρ m ∧ LA (rT μ) ∧ DI ρ ∧ ∃ Z : Nat, μ 0 5 = (Z : Int) ∧ Z < 256 ∧ ∀ t : Nat, t < 8 → (Z.testBit t = true ↔ 0 ≤ ρ 9 t)
def rC (μ ρ : xM) (v : Int) : Int := if v = 9 then μ 2 1 else if jBad ρ v then 1000000 else max (mCm (hOf μ 7) v) (μ 3 (mKind (hOf μ 7) v).toNat)
theorem jGood {ρ : xM} {v : Int} (h9 : v ≠ 9) (h : ¬ jBad ρ v) : inT (ρ 2) v ∧ ρ 9 v.toNat < 0 ∧ mKind (ρ 2) v ≠ 3 := by
  refine ⟨Decidable.byContradiction (fun q => h ⟨h9, Or.inl q⟩), Int.not_le.mp (fun q => h ⟨h9, Or.inr (Or.inl q)⟩), fun q => h ⟨h9, Or.inr (Or.inr q)⟩⟩
theorem RR.lo {μ ρ : xM} {m : Int} (h : RR μ ρ m) : (∀ k : Nat, k < 3 → 0 ≤ μ 3 k ∧ μ 3 k ≤ 1000000) ∧ (0 ≤ μ 2 1 ∧ μ 2 1 ≤ 1000000) := by
  have := LA_in h.2.2.1.b h.2.2.2.1
  exact ⟨this.1, this.2.1⟩
theorem rC_in {μ ρ : xM} {m : Int} (h : RR μ ρ m) {v : Int} (hv : 0 ≤ v) : 0 ≤ rC μ ρ v ∧ rC μ ρ v ≤ 1000000 := by
  have hl := h.lo
  unfold rC
  split
  · exact hl.2
  · split
    · decide
    next q9 q =>
      have g := jGood q9 q
      rw [h.2.1] at g
      have h1 : hOf μ 7 1 ≤ 8 := h.1.2.1.2
      have hv8 : v < 8 := by
        have := g.1.2
        clear g hl
        omega
      have hc := mCm_in h.1 hv hv8
      have hk := mKind_in (hOf μ 7) v
      have hu := hl.1 (mKind (hOf μ 7) v).toNat (by
        have := g.2.2
        clear g hl
        omega)
      clear g hl
      omega
theorem RR.ends {μ ρ : xM} {m : Int} (h : RR μ ρ m) : RR μ (mEnds m ρ) m := by
  obtain ⟨a, b, c, d, e, Z, f, g, i⟩ := h
  refine ⟨a, (mEnds_2 m ρ).trans b, c.ends, d, DI_ends e m, Z, f, g, ?_⟩
  rw [mEnds_9]
  exact i
theorem RR.mono {μ ρ : xM} {m n : Int} (h : RR μ ρ m) (hn : m ≤ n) : RR μ ρ n := by
  obtain ⟨a, b, c, d, e, f⟩ := h
  exact ⟨a, b, c.mono hn, d, e, f⟩
theorem jBad_ends (m : Int) (ρ : xM) (v : Int) : jBad (mEnds m ρ) v ↔ jBad ρ v := by
  unfold jBad
  rw [mEnds_2, mEnds_9]
theorem rC_ends (m : Int) (μ ρ : xM) (v : Int) : rC μ (mEnds m ρ) v = rC μ ρ v := by
  unfold rC jBad
  rw [mEnds_2, mEnds_9]
theorem rC_can {μ σ : xM} {m x : Int} (h : RR μ σ m) (hx : m ≤ x) (hx2 : x < 1000000) {v : Int} (hb : ¬ jBad σ v) : rC μ σ v ≤ x ↔ jCan (mEnds x σ) v x := by
  obtain ⟨a, b, c, d, e, -⟩ := h
  unfold rC
  by_cases h9 : v = 9
  · rw [if_pos h9]
    have hd := c.down d e.1 hx hx2
    have hd2 : (0 < mEnds x σ 0 13 ∧ mLD (mEnds x σ) x) ↔ μ 2 1 ≤ x := hd
    rw [← hd2]
    exact ⟨fun q => Or.inl ⟨h9, q⟩, fun q => q.elim (fun r => r.2) (fun r => absurd h9 r.1)⟩
  · rw [if_neg h9, if_neg hb]
    have g := jGood h9 hb
    have hu := c.upk d e.1 hx hx2 v g.2.2
    have hu2 : (mHE (mEnds x σ) v ∧ mLU (mEnds x σ) x v) ↔ μ 3 (mKind (hOf μ 7) v).toNat ≤ x := by rw [← b]; exact hu
    have e2 : mEnds x σ 2 = hOf μ 7 := (mEnds_2 x σ).trans b
    have hcm : mCm (mEnds x σ 2) v = mCm (hOf μ 7) v := by rw [e2]
    constructor
    · intro q
      refine Or.inr ⟨h9, ?_, hu2.2 (Int.le_trans (Int.le_max_right _ _) q)⟩
      rw [hcm]
      exact Int.le_trans (Int.le_max_left _ _) q
    · rintro (q | q)
      · exact absurd q.1 h9
      · have q1 := q.2.1
        rw [hcm] at q1
        exact Int.max_le.mpr ⟨q1, hu2.1 q.2.2⟩
theorem jFr_rc {μ : xM} {v c : Int} : ∀ (k : Nat) (m : Int) (σ : xM), RR μ σ m → ¬ jBad σ v → c = rC μ σ v → 0 ≤ m → m + k = 10000 → (9999 < max m c ∧ (jFr v k m σ).1 = -9) ∨ (max m c ≤ 9999 ∧ (jFr v k m σ).1 = max m c ∧ RR μ (jFr v k m σ).2 (max m c) ∧ rC μ (jFr v k m σ).2 v = c ∧ ¬ jBad (jFr v k m σ).2 v)
  | 0, m, σ, hR, hb, hc, hm, hk => Or.inl ⟨by omega, rfl⟩
  | k + 1, m, σ, hR, hb, hc, hm, hk => by
    have hcan := rC_can hR (Int.le_refl m) (by omega) hb
    rw [← hc] at hcan
    rw [jFr]
    split
    next h =>
      have h1 := hcan.2 h
      have e : max m c = m := by omega
      rw [e]
      refine Or.inr ⟨by omega, rfl, hR.ends, ?_, fun q => hb ((jBad_ends m σ v).1 q)⟩
      rw [hc]
      exact rC_ends m μ σ v
    next h =>
      have h1 : m < c := Int.not_le.mp (fun q => h (hcan.1 q))
      have ih := jFr_rc (μ := μ) (v := v) (c := c) k (m + 1) (mEnds m σ) (hR.ends.mono (by omega)) (fun q => hb ((jBad_ends m σ v).1 q)) (by rw [hc]; exact (rC_ends m μ σ v).symm) (by omega) (by omega)
      rw [show max (m + 1) c = max m c by omega] at ih
      exact ih
theorem jC_rc {μ ρ : xM} {m v : Int} (hR : RR μ ρ m) (hm : 0 ≤ m ∧ m ≤ 10000) : (9999 < max m (rC μ ρ v) ∧ (jCanF ρ m v).1 < 0) ∨ (max m (rC μ ρ v) ≤ 9999 ∧ (jCanF ρ m v).1 = max m (rC μ ρ v) ∧ RR μ (jCanF ρ m v).2 (max m (rC μ ρ v)) ∧ rC μ (jCanF ρ m v).2 v = rC μ ρ v ∧ ¬ jBad (jCanF ρ m v).2 v) := by
  unfold jCanF
  split
  next h =>
    refine Or.inl ⟨?_, show (-9 : Int) < 0 by decide⟩
    have : rC μ ρ v = 1000000 := by
      unfold rC
      rw [if_neg h.1, if_pos h]
    omega
  next h =>
    rcases jFr_rc (10000 - m).toNat m ρ hR h rfl hm.1 (by omega) with q | q
    · exact Or.inl ⟨q.1, by rw [q.2]; decide⟩
    · exact Or.inr q
set_option maxRecDepth 100000 in
set_option maxHeartbeats 4000000 in
theorem s2_canFrom (μ ρ : xM) (m : Int) (hR : RR μ ρ m) (v : Int) (hv : 0 ≤ v ∧ v ≤ 9) : X E0 shRowH 2 yX2_canFrom cX2_canFrom 4 (some .int) 0 [some (.inr (.inl 0)), some (.inr (.inl 7)), some (.inl v), none] [] μ (x_Q (rC μ ρ v) μ) := by
  have hI := hR.1
  have h8 : 0 ≤ hOf μ 7 1 ∧ hOf μ 7 1 ≤ 8 := hI.2.1
  have hrho := hR.2.1
  have hm := mIn_in v (hOf μ 7 1)
  have hk := mKind_in (hOf μ 7) v
  have eH : hOf (x_ct [7, 8, 9, 10, 11, 12, 13] μ) 0 = hOf μ 7 := rfl
  obtain ⟨Z, hZ, hS, hB⟩ := hR.2.2.2.2.2
  have hlo := hR.lo
  have hu : mKind (hOf μ 7) v ≠ 3 → 0 ≤ μ 3 (mKind (hOf μ 7) v).toNat ∧ μ 3 (mKind (hOf μ 7) v).toNat ≤ 1000000 := fun q => hlo.1 _ (by omega)
  have k9 : v = 9 → μ 2 1 = rC μ ρ v := fun q => (if_pos q).symm
  have kb : jBad ρ v → 1000000 = rC μ ρ v := by
    intro q
    unfold rC
    rw [if_neg q.1, if_pos q]
  have kg : v ≠ 9 → ¬ jBad ρ v → max (mCm (hOf μ 7) v) (μ 3 (mKind (hOf μ 7) v).toNat) = rC μ ρ v := by
    intro q1 q2
    unfold rC
    rw [if_neg q1, if_neg q2]
  have hbd : v ≠ 9 → (¬ (0 ≤ v ∧ v < hOf μ 7 1) ∨ 0 ≤ ρ 9 v.toNat ∨ mKind (hOf μ 7) v = 3) → jBad ρ v := by
    intro q1 q2
    refine ⟨q1, ?_⟩
    rw [hrho]
    exact q2
  have hgd : (0 ≤ v ∧ v < hOf μ 7 1) → ¬ 0 ≤ ρ 9 v.toNat → ¬ mKind (hOf μ 7) v = 3 → ¬ jBad ρ v := by
    intro q1 q2 q3 q4
    have q5 := q4.2
    rw [hrho] at q5
    rcases q5 with q5 | q5 | q5
    · exact q5 q1
    · exact q2 q5
    · exact q3 q5
  clear hlo hR
  refine x_iload_n (i := 2) dX2_canFrom_0 rfl rfl ?_
  refine x_bipush dX2_canFrom_1 (by decide) ?_
  refine x_icmp_ne (tgt := 14) dX2_canFrom_3 (by decide) (by first | (unfold x_in; omega) | (unfold x_in; decide) | (have g := hu (by omega); unfold x_in; omega)) (by first | (unfold x_in; omega) | (unfold x_in; decide) | (have g := hu (by omega); unfold x_in; omega)) (fun c1 => ?_) (fun c1 => ?_)
  · refine x_aload_n (i := 1) dX2_canFrom_14 rfl rfl ?_
    refine x_iload_n (i := 2) dX2_canFrom_15 rfl rfl ?_
    refine x_cIp_1 [7, 8, 9, 10, 11, 12, 13] lk_RX2_56 xm_X1_hasTrain dX2_canFrom_16 (s1_hasTrain _ (by unfold x_in; omega) _ (by rw [eH]; exact hI)) ?_
    rw [eH]
    refine x_if_eq (tgt := 34) dX2_canFrom_19 (by decide) (by first | (unfold x_in; omega) | (unfold x_in; decide) | (have g := hu (by omega); unfold x_in; omega)) (fun c2 => ?_) (fun c2 => ?_)
    · refine x_ldc (n := 1000000) dX2_canFrom_34 ck_RX2_62 rfl ?_
      exact x_iret dX2_canFrom_36 rfl rfl (x_ok (by first | exact k9 (by omega) | exact kb (hbd (by omega) (Or.inl (mIn_f c2))) | exact kb (hbd (by omega) (Or.inr (Or.inl ((hB v.toNat htn).1 (htst.2 (by omega)))))) | exact kb (hbd (by omega) (Or.inr (Or.inr (by omega)))) | exact kg (by omega) (hgd ht (fun q => absurd (htst.1 ((hB v.toNat htn).2 q)) (by omega)) (by omega))) (by rfl))
    · have ht := mIn_t c2
      have htn : v.toNat < 8 := by omega
      have eb : (v.toNat : Int) = v := nat_back ht.1
      have hw8 := mWt_in hI ht.1 (show v < 8 by omega)
      have hw := hOf_wt μ 7 ht.1 (show v < 8 by omega)
      have hcm := mCm_in hI ht.1 (show v < 8 by omega)
      have hcc := hOf_com μ 7 ht.1 (show v < 8 by omega)
      have hshr := bit_shr Z hS v.toNat htn
      have hand := bit_and (Z >>> v.toNat) (bit_lt2 Z hS _ htn)
      have htst := bit_tst Z hS v.toNat htn
      have hone := bit_one (Z >>> v.toNat) (bit_lt2 Z hS _ htn)
      rw [eb] at hshr
      refine x_aload_n (i := 0) dX2_canFrom_22 rfl rfl ?_
      refine x_getI xf_RX2_32 dX2_canFrom_23 rfl rfl ?_
      rw [hZ]
      refine x_iload_n (i := 2) dX2_canFrom_26 rfl rfl ?_
      refine x_ishr (r := ((Z >>> v.toNat : Nat) : Int)) dX2_canFrom_27 (hshr) ?_
      refine x_iconst dX2_canFrom_28 ?_
      refine x_iand (r := ((Z >>> v.toNat &&& 1 : Nat) : Int)) dX2_canFrom_29 (hand) ?_
      refine x_iconst dX2_canFrom_30 ?_
      refine x_icmp_ne (tgt := 37) dX2_canFrom_31 (by decide) (by first | (unfold x_in; omega) | (unfold x_in; decide) | (have g := hu (by omega); unfold x_in; omega)) (by first | (unfold x_in; omega) | (unfold x_in; decide) | (have g := hu (by omega); unfold x_in; omega)) (fun c3 => ?_) (fun c3 => ?_)
      · refine x_aload_n (i := 1) dX2_canFrom_37 rfl rfl ?_
        refine x_aload_n (i := 1) dX2_canFrom_38 rfl rfl ?_
        refine x_getR xf_RX2_63 dX2_canFrom_39 rfl rfl ?_
        refine x_iload_n (i := 2) dX2_canFrom_42 rfl rfl ?_
        refine x_iald dX2_canFrom_43 rfl (by decide) (by first | omega | decide) (by first | omega | decide) ?_
        rw [show μ 11 v.toNat = mWt (hOf μ 7) v from hw.symm]
        refine x_cIp_1 [7, 8, 9, 10, 11, 12, 13] lk_RX2_66 xm_X1_kindOf dX2_canFrom_44 (s1_kindOf _ (by omega) _ (by rw [eH]; exact hI)) ?_
        rw [eH, show mKindBy (hOf μ 7) (mWt (hOf μ 7) v) = mKind (hOf μ 7) v from rfl]
        refine x_istore_3 dX2_canFrom_47 (by decide) rfl ?_
        refine x_iload_n (i := 3) dX2_canFrom_48 rfl rfl ?_
        refine x_iconst dX2_canFrom_49 ?_
        refine x_icmp_ne (tgt := 58) dX2_canFrom_50 (by decide) (by first | (unfold x_in; omega) | (unfold x_in; decide) | (have g := hu (by omega); unfold x_in; omega)) (by first | (unfold x_in; omega) | (unfold x_in; decide) | (have g := hu (by omega); unfold x_in; omega)) (fun c4 => ?_) (fun c4 => ?_)
        · refine x_aload_n (i := 1) dX2_canFrom_58 rfl rfl ?_
          refine x_getR xf_RX2_70 dX2_canFrom_59 rfl rfl ?_
          refine x_iload_n (i := 2) dX2_canFrom_62 rfl rfl ?_
          refine x_iald dX2_canFrom_63 rfl (by decide) (by first | omega | decide) (by first | omega | decide) ?_
          rw [show μ 10 v.toNat = mCm (hOf μ 7) v from hcc.symm]
          refine x_aload_n (i := 0) dX2_canFrom_64 rfl rfl ?_
          refine x_getR xf_RX2_12 dX2_canFrom_65 rfl rfl ?_
          refine x_getR xf_RX2_73 dX2_canFrom_68 rfl rfl ?_
          refine x_iload_n (i := 3) dX2_canFrom_71 rfl rfl ?_
          refine x_iald dX2_canFrom_72 rfl (by decide) (by first | omega | decide) (by first | omega | decide) ?_
          refine x_mmax lk_RX2_43 dX2_canFrom_73 (by decide) (by exact Nat.le_of_ble_eq_true rfl) (by first | (unfold x_in; omega) | (unfold x_in; decide) | (have g := hu (by omega); unfold x_in; omega)) (by first | (unfold x_in; omega) | (unfold x_in; decide) | (have g := hu (by omega); unfold x_in; omega)) ?_
          exact x_iret dX2_canFrom_76 rfl rfl (x_ok (by first | exact k9 (by omega) | exact kb (hbd (by omega) (Or.inl (mIn_f c2))) | exact kb (hbd (by omega) (Or.inr (Or.inl ((hB v.toNat htn).1 (htst.2 (by omega)))))) | exact kb (hbd (by omega) (Or.inr (Or.inr (by omega)))) | exact kg (by omega) (hgd ht (fun q => absurd (htst.1 ((hB v.toNat htn).2 q)) (by omega)) (by omega))) (by rfl))
        · refine x_ldc (n := 1000000) dX2_canFrom_53 ck_RX2_62 rfl ?_
          refine x_goto (tgt := 76) dX2_canFrom_55 (by decide) ?_
          exact x_iret dX2_canFrom_76 rfl rfl (x_ok (by first | exact k9 (by omega) | exact kb (hbd (by omega) (Or.inl (mIn_f c2))) | exact kb (hbd (by omega) (Or.inr (Or.inl ((hB v.toNat htn).1 (htst.2 (by omega)))))) | exact kb (hbd (by omega) (Or.inr (Or.inr (by omega)))) | exact kg (by omega) (hgd ht (fun q => absurd (htst.1 ((hB v.toNat htn).2 q)) (by omega)) (by omega))) (by rfl))
      · refine x_ldc (n := 1000000) dX2_canFrom_34 ck_RX2_62 rfl ?_
        exact x_iret dX2_canFrom_36 rfl rfl (x_ok (by first | exact k9 (by omega) | exact kb (hbd (by omega) (Or.inl (mIn_f c2))) | exact kb (hbd (by omega) (Or.inr (Or.inl ((hB v.toNat htn).1 (htst.2 (by omega)))))) | exact kb (hbd (by omega) (Or.inr (Or.inr (by omega)))) | exact kg (by omega) (hgd ht (fun q => absurd (htst.1 ((hB v.toNat htn).2 q)) (by omega)) (by omega))) (by rfl))
  · refine x_aload_n (i := 0) dX2_canFrom_6 rfl rfl ?_
    refine x_getR xf_RX2_12 dX2_canFrom_7 rfl rfl ?_
    refine x_getI xf_RX2_53 dX2_canFrom_10 rfl rfl ?_
    exact x_iret dX2_canFrom_13 rfl rfl (x_ok (by first | exact k9 (by omega) | exact kb (hbd (by omega) (Or.inl (mIn_f c2))) | exact kb (hbd (by omega) (Or.inr (Or.inl ((hB v.toNat htn).1 (htst.2 (by omega)))))) | exact kb (hbd (by omega) (Or.inr (Or.inr (by omega)))) | exact kg (by omega) (hgd ht (fun q => absurd (htst.1 ((hB v.toNat htn).2 q)) (by omega)) (by omega))) (by rfl))
theorem RR_9 {μ ρ : xM} {m : Int} (hR : RR μ ρ m) (hm : 0 ≤ m ∧ m ≤ 9999) (hc : μ 2 1 ≤ m) (hDG : DI (mGD ρ (mFree ρ) m)) : RR (x_mrg [2, 3, 4, 5, 6] μ (lkA (cdT2 (rT μ) m))) (mGD ρ (mFree ρ) m) (m + 1) := by
  obtain ⟨a, b, c, d, e, Z, f, g, i⟩ := hR
  have hfr := mFrN_ok 6 0 rfl (mFree_ex e)
  have hT2 := TR_lkA (c.downS d e ⟨hm.1, by omega⟩ hfr.1 hfr.2 hc)
  have hL2 := LA_lkA (cdT2 (rT μ) m)
  exact ⟨a, b, TR_congr rfl rfl rfl rfl hT2, LA_congr rfl rfl rfl rfl hL2, hDG, Z, f, g, i⟩
theorem RR_up {μ ρ : xM} {m v : Int} (hR : RR μ ρ m) (hm : 0 ≤ m ∧ m ≤ 9999) (h9 : v ≠ 9) (hb : ¬ jBad ρ v) (hc : max (mCm (hOf μ 7) v) (μ 3 (mKind (hOf μ 7) v).toNat) ≤ m) (hDG : DI (mGU ρ m v)) {Z : Nat} (hZ : μ 0 5 = (Z : Int)) : RR (x_st (x_mrg [2, 3, 4, 5, 6] μ (lkA (guT2 (rT μ) (mKind (hOf μ 7) v) m))) 0 5 ((Z ||| 2 ^ v.toNat : Nat) : Int)) (mGU ρ m v) (m + 1) := by
  obtain ⟨a, b, c, d, e, Z', f, g, i⟩ := hR
  have eZ : Z' = Z := by
    rw [hZ] at f
    exact (Int.ofNat.inj f).symm
  subst eZ
  have gd := jGood h9 hb
  have h8 : hOf μ 7 1 ≤ 8 := a.2.1.2
  have hv8 : v.toNat < 8 := by
    have := gd.1
    rw [b] at this
    clear gd
    omega
  have hk := mKind_in (hOf μ 7) v
  have hcu : μ 3 (mKind (hOf μ 7) v).toNat ≤ m := Int.le_trans (Int.le_max_right _ _) hc
  have hf : mKind (ρ 2) v ≠ 0 → rT μ 0 2 ≤ m := by
    rw [b]
    intro q
    have hk3 : mKind (hOf μ 7) v ≠ 3 := by
      rw [← b]
      exact gd.2.2
    have e2 : rT μ 0 2 = tFt (rT μ) := d.f
    have u1 : rT μ 1 1 = max (tU (rT μ)) (tFt (rT μ)) := d.u1
    have u2 : rT μ 1 2 = max (max (tU (rT μ)) (tFt (rT μ))) (max (rT μ 0 10) (rT μ 0 11)) := d.u2
    have ek : mKind (hOf μ 7) v = 1 ∨ mKind (hOf μ 7) v = 2 := by
      clear u1 u2 gd hcu
      omega
    rcases ek with ek | ek
    · rw [ek] at hcu
      have : rT μ 1 1 ≤ m := hcu
      rw [u1] at this
      rw [e2]
      exact Int.le_trans (Int.le_max_right _ _) this
    · rw [ek] at hcu
      have : rT μ 1 2 ≤ m := hcu
      rw [u2] at this
      rw [e2]
      exact Int.le_trans (Int.le_max_right _ _) (Int.le_trans (Int.le_max_left _ _) this)
  have hT2 := TR_lkA (c.upS d e ⟨hm.1, by omega⟩ gd.1 gd.2.2 gd.2.1 hf)
  rw [b] at hT2
  have hL2 := LA_lkA (guT2 (rT μ) (mKind (hOf μ 7) v) m)
  refine ⟨a, b, TR_congr rfl rfl rfl rfl hT2, LA_congr rfl rfl rfl rfl hL2, hDG, Z' ||| 2 ^ v.toNat, rfl, bit_lt Z' g _ hv8, fun t ht => ?_⟩
  have e9 : mGU ρ m v 9 t = if t = v.toNat then m else ρ 9 t := rfl
  rw [e9, bit_set Z' g _ hv8 t ht]
  by_cases q : t = v.toNat
  · rw [if_pos q, decide_eq_true q, Bool.or_true]
    exact ⟨fun _ => hm.1, fun _ => rfl⟩
  · rw [if_neg q, decide_eq_false q, Bool.or_false]
    exact i t ht
set_option maxRecDepth 100000 in
set_option maxHeartbeats 4000000 in
theorem s2_begin (μ ρ : xM) (m : Int) (hR : RR μ ρ m) (v : Int) (hv : 0 ≤ v ∧ v ≤ 9) (hmm : 0 ≤ m ∧ m ≤ 9999) (hb : ¬ jBad ρ v) (hc : rC μ ρ v ≤ m) (hDG : DI (if v = 9 then mGD ρ (mFree ρ) m else mGU ρ m v)) : X E0 shRowH 3 yX2_begin cX2_begin 4 none 0 [some (.inr (.inl 0)), some (.inr (.inl 7)), some (.inl v), some (.inl m)] [] μ (fun r μ' => r = none ∧ hOf μ' 7 = hOf μ 7 ∧ μ' 1 = μ 1 ∧ (∀ j, j < 5 → μ' 0 j = μ 0 j) ∧ RR μ' (if v = 9 then mGD ρ (mFree ρ) m else mGU ρ m v) (m + 1)) := by
  have hI := hR.1
  have h8 : 0 ≤ hOf μ 7 1 ∧ hOf μ 7 1 ≤ 8 := hI.2.1
  have hrho := hR.2.1
  have hm := mIn_in v (hOf μ 7 1)
  have hk := mKind_in (hOf μ 7) v
  have eH : hOf (x_ct [7, 8, 9, 10, 11, 12, 13] μ) 0 = hOf μ 7 := rfl
  obtain ⟨Z, hZ, hS, hB⟩ := hR.2.2.2.2.2
  have hTB := hR.2.2.1.b
  have K9 : v = 9 → RR (x_mrg [2, 3, 4, 5, 6] μ (lkA (cdT2 (rT μ) m))) (if v = 9 then mGD ρ (mFree ρ) m else mGU ρ m v) (m + 1) := by
    intro q
    rw [if_pos q] at hDG ⊢
    refine RR_9 hR hmm ?_ hDG
    unfold rC at hc
    rw [if_pos q] at hc
    exact hc
  have KU : v ≠ 9 → RR (x_st (x_mrg [2, 3, 4, 5, 6] μ (lkA (guT2 (rT μ) (mKind (hOf μ 7) v) m))) 0 5 ((Z ||| 2 ^ v.toNat : Nat) : Int)) (if v = 9 then mGD ρ (mFree ρ) m else mGU ρ m v) (m + 1) := by
    intro q
    rw [if_neg q] at hDG ⊢
    refine RR_up hR hmm q hb ?_ hDG hZ
    unfold rC at hc
    rw [if_neg q, if_neg hb] at hc
    exact hc
  have KN : v ≠ 9 → ¬ (0 ≤ v ∧ v < hOf μ 7 1) → False := by
    intro q1 q2
    have := (jGood q1 hb).1
    rw [hrho] at this
    exact q2 this
  have hk3 : v ≠ 9 → mKind (hOf μ 7) v ≤ 2 := by
    intro q1
    have := (jGood q1 hb).2.2
    rw [hrho] at this
    omega
  clear hc hb hDG hR
  refine x_iload_n (i := 2) dX2_begin_0 rfl rfl ?_
  refine x_bipush dX2_begin_1 (by decide) ?_
  refine x_icmp_ne (tgt := 17) dX2_begin_3 (by decide) (by first | (unfold x_in; omega) | (unfold x_in; decide)) (by first | (unfold x_in; omega) | (unfold x_in; decide)) (fun c1 => ?_) (fun c1 => ?_)
  · refine x_aload_n (i := 1) dX2_begin_17 rfl rfl ?_
    refine x_iload_n (i := 2) dX2_begin_18 rfl rfl ?_
    refine x_cIp_1 [7, 8, 9, 10, 11, 12, 13] lk_RX2_56 xm_X1_hasTrain dX2_begin_19 (s1_hasTrain _ (by unfold x_in; omega) _ (by rw [eH]; exact hI)) ?_
    rw [eH]
    refine x_if_eq (tgt := 55) dX2_begin_22 (by decide) (by first | (unfold x_in; omega) | (unfold x_in; decide)) (fun c2 => ?_) (fun c2 => ?_)
    · refine x_vret dX2_begin_55 rfl ?_
      first | exact (KN c1 (mIn_f c2)).elim | exact ⟨rfl, rfl, rfl, fun j hj => rfl, K9 c1⟩ | exact ⟨rfl, rfl, rfl, fun j hj => x_st_ne (Or.inr (by omega)), KU c1⟩
    · have ht := mIn_t c2
      have htn : v.toNat < 8 := by omega
      have eb : (v.toNat : Int) = v := nat_back ht.1
      have hw8 := mWt_in hI ht.1 (show v < 8 by omega)
      have hw := hOf_wt μ 7 ht.1 (show v < 8 by omega)
      have hshl := bit_shl v.toNat htn
      have hor := bit_or Z hS v.toNat htn
      rw [eb] at hshl
      refine x_aload_n (i := 0) dX2_begin_25 rfl rfl ?_
      refine x_getR xf_RX2_12 dX2_begin_26 rfl rfl ?_
      refine x_aload_n (i := 1) dX2_begin_29 rfl rfl ?_
      refine x_aload_n (i := 1) dX2_begin_30 rfl rfl ?_
      refine x_getR xf_RX2_63 dX2_begin_31 rfl rfl ?_
      refine x_iload_n (i := 2) dX2_begin_34 rfl rfl ?_
      refine x_iald dX2_begin_35 rfl (by decide) (by first | omega | decide) (by first | omega | decide) ?_
      rw [show μ 11 v.toNat = mWt (hOf μ 7) v from hw.symm]
      refine x_cIp_1 [7, 8, 9, 10, 11, 12, 13] lk_RX2_66 xm_X1_kindOf dX2_begin_36 (s1_kindOf _ (by omega) _ (by rw [eH]; exact hI)) ?_
      rw [eH, show mKindBy (hOf μ 7) (mWt (hOf μ 7) v) = mKind (hOf μ 7) v from rfl]
      have hk2 := hk3 c1
      refine x_iload_n (i := 3) dX2_begin_39 rfl rfl ?_
      refine x_cVf_2 [2, 3, 4, 5, 6] lk_RX2_80 xm_X4_goUp dX2_begin_40 (s4_goUp _ m (by omega) (by omega) (rT μ) hTB) ?_
      refine x_aload_n (i := 0) dX2_begin_43 rfl rfl ?_
      first | refine x_dupR dX2_begin_44 ?_ | refine x_dupI dX2_begin_44 ?_
      refine x_getI xf_RX2_32 dX2_begin_45 rfl rfl ?_
      try simp (decide := true) only [x_st_at, ↓reduceIte, if_true, if_false]
      rw [show (x_mrg [2, 3, 4, 5, 6] μ (lkA (guT2 (rT μ) (mKind (hOf μ 7) v) m))) 0 5 = (Z : Int) from hZ]
      refine x_iconst dX2_begin_48 ?_
      refine x_iload_n (i := 2) dX2_begin_49 rfl rfl ?_
      refine x_ishl (r := ((2 ^ v.toNat : Nat) : Int)) dX2_begin_50 (hshl) ?_
      refine x_ior (r := ((Z ||| 2 ^ v.toNat : Nat) : Int)) dX2_begin_51 (hor) ?_
      refine x_putI xp_RX2_32 dX2_begin_52 rfl rfl ?_
      refine x_vret dX2_begin_55 rfl ?_
      first | exact (KN c1 (mIn_f c2)).elim | exact ⟨rfl, rfl, rfl, fun j hj => rfl, K9 c1⟩ | exact ⟨rfl, rfl, rfl, fun j hj => x_st_ne (Or.inr (by omega)), KU c1⟩
  · refine x_aload_n (i := 0) dX2_begin_6 rfl rfl ?_
    refine x_getR xf_RX2_12 dX2_begin_7 rfl rfl ?_
    refine x_iload_n (i := 3) dX2_begin_10 rfl rfl ?_
    refine x_cVf_1 [2, 3, 4, 5, 6] lk_RX2_76 xm_X4_comeDown dX2_begin_11 (s4_comeDown m (by omega) (rT μ) hTB) ?_
    refine x_goto (tgt := 55) dX2_begin_14 (by decide) ?_
    refine x_vret dX2_begin_55 rfl ?_
    first | exact (KN c1 (mIn_f c2)).elim | exact ⟨rfl, rfl, rfl, fun j hj => rfl, K9 c1⟩ | exact ⟨rfl, rfl, rfl, fun j hj => x_st_ne (Or.inr (by omega)), KU c1⟩
