/-! THE REFERENCE: order -/
def mDig (r : Int) : Int := r - r.tdiv 10 * 10
theorem tdiv10 {r : Int} (h : x_in r) : x_in (r.tdiv 10) ∧ -9 ≤ mDig r ∧ mDig r ≤ 9 := by
  unfold x_in at h ⊢
  unfold mDig
  by_cases h0 : 0 ≤ r
  · rw [Int.tdiv_eq_ediv_of_nonneg h0]
    omega
  · have h1 := Int.neg_tdiv r 10
    have h2 := Int.tdiv_eq_ediv_of_nonneg (a := -r) (b := 10) (by omega)
    omega
theorem bit_shr : ∀ S, S < 256 → ∀ t, t < 8 → x_I ((S : Nat) : Int) >>> (x_I ((t : Nat) : Int) &&& 31) = x_I ((S >>> t : Nat) : Int) := by decide +kernel
theorem bit_and : ∀ S, S < 256 → x_I ((S : Nat) : Int) &&& x_I 1 = x_I ((S &&& 1 : Nat) : Int) := by decide +kernel
theorem bit_shl : ∀ t, t < 8 → x_I 1 <<< (x_I ((t : Nat) : Int) &&& 31) = x_I ((2 ^ t : Nat) : Int) := by decide +kernel
theorem bit_or : ∀ S, S < 256 → ∀ t, t < 8 → x_I ((S : Nat) : Int) ||| x_I ((2 ^ t : Nat) : Int) = x_I ((S ||| 2 ^ t : Nat) : Int) := by decide +kernel
theorem bit_lt : ∀ S, S < 256 → ∀ t, t < 8 → S ||| 2 ^ t < 256 := by decide +kernel
theorem bit_lt2 : ∀ S, S < 256 → ∀ t, t < 8 → S >>> t < 256 := by decide +kernel
theorem bit_tst : ∀ S, S < 256 → ∀ t, t < 8 → (S.testBit t = true ↔ (S >>> t &&& 1) = 1) := by decide +kernel
theorem bit_one : ∀ S, S < 256 → S &&& 1 < 2 := by decide +kernel
def mOkN (h : Nat → Int) : Nat → Int → Nat → Bool
  | 0, _, _ => true
  | k + 1, r, S => if inT h (mDig r) ∧ S.testBit (mDig r).toNat = false then mOkN h k (r.tdiv 10) (S ||| 2 ^ (mDig r).toNat) else false
def mRs (r : Int) : Nat → Int
  | 0 => r
  | k + 1 => (mRs r k).tdiv 10
def mPut (μ : xM) (r : Int) : Nat → xM
  | 0 => μ
  | k + 1 => x_st (mPut μ r k) 2 (39 + (k : Int)).toNat (mDig (mRs r k))
theorem mRs_s (r : Int) {p : Int} (hp : 0 ≤ p) : mRs r (p + 1).toNat = (mRs r p.toNat).tdiv 10 := by rw [nat_succ hp, mRs]
theorem mPut_s (μ : xM) (r : Int) {p : Int} (hp : 0 ≤ p) : mPut μ r (p + 1).toNat = x_st (mPut μ r p.toNat) 2 (39 + p).toNat (mDig (mRs r p.toNat)) := by rw [nat_succ hp, mPut, nat_back hp]
theorem mRs_in {r : Int} (h : x_in r) : ∀ k, x_in (mRs r k)
  | 0 => h
  | k + 1 => (tdiv10 (mRs_in h k)).1
theorem mPut_ne (μ : xM) (r : Int) {j : Nat} (hj : j ≠ 2) : ∀ k, mPut μ r k j = μ j
  | 0 => rfl
  | k + 1 => by
    rw [mPut, ← mPut_ne μ r hj k]
    funext x
    simp [x_st, hj]
set_option maxRecDepth 100000 in
set_option maxHeartbeats 4000000 in
theorem w6_order (n r : Int) (hr : x_in r) (hn : 0 ≤ n ∧ n ≤ 8) (μ : xM) (hG : GI μ) (z3 z5 : Int) : ∀ (k : Nat) (p : Int), 0 ≤ p → p ≤ n → (n - p).toNat < k → X E0 shM 2 yX6_order cX6_order 8 (some .int) 105 [some (.inr (.inl 0)), some (.inl n), some (.inl r), some (.inl z3), some (.inl (mRs r p.toNat)), some (.inl z5), some (.inl (μ 2 3)), some (.inl p)] [] (mPut μ r p.toNat) (PQ (μ 2 3) (x_st (mPut μ r n.toNat) 2 3 n)) := by
  intro k
  induction k with
  | zero => intro p _ _ h; omega
  | succ k ih =>
    intro p hp hp2 hk
    have hx := tdiv10 (mRs_in hr p.toNat)
    refine x_iload dX6_order_105 rfl ?_
    refine x_iload_n (i := 1) dX6_order_107 rfl rfl ?_
    refine x_icmp_ge (tgt := 139) dX6_order_108 (by decide) (by first | exact mRs_in hr _ | exact hx.1 | (unfold x_in; omega) | (unfold x_in; decide)) (by first | exact mRs_in hr _ | exact hx.1 | (unfold x_in; omega) | (unfold x_in; decide)) (fun c1 => ?_) (fun c1 => ?_)
    · refine x_aload_n (i := 0) dX6_order_139 rfl rfl ?_
      refine x_getR xf_RX6_13 dX6_order_140 rfl rfl ?_
      refine x_iconst dX6_order_143 ?_
      refine x_iload_n (i := 1) dX6_order_144 rfl rfl ?_
      refine x_iastK (K := 3) dX6_order_145 rfl rfl (by decide) (by decide) ?_
      refine x_iload dX6_order_146 rfl ?_
      refine x_iret dX6_order_148 rfl rfl ?_
      have ep : p = n := by omega
      subst ep
      exact ⟨rfl, ⟨rfl, rfl, rfl, rfl, rfl, rfl, rfl, rfl, fun j hj => by rw [show x_st (mPut μ r p.toNat) 2 3 p 4 = mPut μ r p.toNat 4 from rfl, show x_st (mPut μ r p.toNat) 2 3 p 10 = mPut μ r p.toNat 10 from rfl, mPut_ne μ r (j := 4) (by decide), mPut_ne μ r (j := 10) (by decide)]; exact (hG.2.1 j hj).2.2⟩⟩
    · refine x_aload_n (i := 0) dX6_order_111 rfl rfl ?_
      refine x_getR xf_RX6_13 dX6_order_112 rfl rfl ?_
      refine x_bipush dX6_order_115 (by decide) ?_
      refine x_iload dX6_order_117 rfl ?_
      refine x_iadd dX6_order_119 ?_
      refine x_iload dX6_order_120 rfl ?_
      refine x_bipush dX6_order_122 (by decide) ?_
      refine x_irem dX6_order_124 (by first | exact mRs_in hr _ | exact hx.1 | (unfold x_in; omega) | (unfold x_in; decide)) (by first | exact mRs_in hr _ | exact hx.1 | (unfold x_in; omega) | (unfold x_in; decide)) (by first | exact mRs_in hr _ | exact hx.1 | (unfold x_in; omega) | (unfold x_in; decide)) (by decide) ?_
      refine x_iast dX6_order_125 rfl (by decide) (by first | omega | decide) (by first | omega | decide) ?_
      refine x_iload dX6_order_126 rfl ?_
      refine x_bipush dX6_order_128 (by decide) ?_
      refine x_idiv dX6_order_130 (by first | exact mRs_in hr _ | exact hx.1 | (unfold x_in; omega) | (unfold x_in; decide)) (by first | exact mRs_in hr _ | exact hx.1 | (unfold x_in; omega) | (unfold x_in; decide)) (by first | exact mRs_in hr _ | exact hx.1 | (unfold x_in; omega) | (unfold x_in; decide)) (by decide) ?_
      refine x_istore_4 dX6_order_131 (by decide) rfl ?_
      refine x_iinc_7 dX6_order_133 (by decide) rfl ?_
      refine x_goto (tgt := 105) dX6_order_136 (by decide) ?_
      have h := ih (p + 1) (by omega) (by omega) (by omega)
      rw [mPut_s _ _ hp, mRs_s _ hp] at h
      exact h
set_option maxRecDepth 100000 in
set_option maxHeartbeats 4000000 in
theorem v6_order (n r : Int) (hn : 0 ≤ n ∧ n ≤ 8) (μ : xM) (hG : GI μ) (r2 z5 : Int) (i : Int) (hi : 0 ≤ i ∧ i ≤ 8) (z7 : Option xA) : X E0 shM 2 yX6_order cX6_order 8 (some .int) 17 [some (.inr (.inl 0)), some (.inl n), some (.inl r), some (.inl (-1)), some (.inl r2), some (.inl z5), some (.inl i), z7] [] μ (PQ (-1) (mRef μ (-1))) := by
  refine x_iload dX6_order_17 rfl ?_
  refine x_iload_n (i := 1) dX6_order_19 rfl rfl ?_
  refine x_icmp_ge (tgt := 81) dX6_order_20 (by decide) (by first | (unfold x_in; omega) | (unfold x_in; decide)) (by first | (unfold x_in; omega) | (unfold x_in; decide)) (fun c1 => ?_) (fun c1 => ?_)
  · refine x_iload_n (i := 3) dX6_order_81 rfl rfl ?_
    refine x_if_eq (tgt := 91) dX6_order_82 (by decide) (by first | (unfold x_in; omega) | (unfold x_in; decide)) (fun c2 => ?_) (fun c2 => ?_)
    · exact absurd c2 (by omega)
    · refine x_aload_n (i := 0) dX6_order_85 rfl rfl ?_
      refine x_iload_n (i := 3) dX6_order_86 rfl rfl ?_
      refine x_cIf0_1 lk_RX6_50 xm_X6_refuse dX6_order_87 (s6_refuse _ (by decide) _) ?_
      refine x_iret dX6_order_90 rfl rfl ?_
      exact ⟨rfl, Abs.ref hG _⟩
  · refine x_iload_n (i := 3) dX6_order_23 rfl rfl ?_
    refine x_if_ne (tgt := 81) dX6_order_24 (by decide) (by first | (unfold x_in; omega) | (unfold x_in; decide)) (fun c2 => ?_) (fun c2 => ?_)
    · refine x_iload_n (i := 3) dX6_order_81 rfl rfl ?_
      refine x_if_eq (tgt := 91) dX6_order_82 (by decide) (by first | (unfold x_in; omega) | (unfold x_in; decide)) (fun c3 => ?_) (fun c3 => ?_)
      · exact absurd c3 (by omega)
      · refine x_aload_n (i := 0) dX6_order_85 rfl rfl ?_
        refine x_iload_n (i := 3) dX6_order_86 rfl rfl ?_
        refine x_cIf0_1 lk_RX6_50 xm_X6_refuse dX6_order_87 (s6_refuse _ (by decide) _) ?_
        refine x_iret dX6_order_90 rfl rfl ?_
        exact ⟨rfl, Abs.ref hG _⟩
    · exact absurd c2 (by omega)
set_option maxRecDepth 100000 in
set_option maxHeartbeats 4000000 in
theorem l6_order (n r : Int) (hr : x_in r) (hn : 0 ≤ n ∧ n ≤ 8) (μ : xM) (hG : GI μ) : ∀ (k : Nat) (i r2 : Int) (S : Nat) (z7 : Option xA), 0 ≤ i → i + k = n → x_in r2 → S < 256 → X E0 shM 2 yX6_order cX6_order 8 (some .int) 17 [some (.inr (.inl 0)), some (.inl n), some (.inl r), some (.inl 0), some (.inl r2), some (.inl (S : Int)), some (.inl i), z7] [] μ (PQ (if mOkN (μ 2) k r2 S = true then μ 2 3 else -1) (if mOkN (μ 2) k r2 S = true then x_st (mPut μ r n.toNat) 2 3 n else mRef μ (-1))) := by
  have hI := hG.1
  have h10 := hI.2.1
  intro k
  induction k with
  | zero =>
    intro i r2 S z7 h0 hi hr2 hS
    refine x_iload dX6_order_17 rfl ?_
    refine x_iload_n (i := 1) dX6_order_19 rfl rfl ?_
    refine x_icmp_ge (tgt := 81) dX6_order_20 (by decide) (by first | (unfold x_in; omega) | (unfold x_in; decide)) (by first | (unfold x_in; omega) | (unfold x_in; decide)) (fun c1 => ?_) (fun c1 => ?_)
    · refine x_iload_n (i := 3) dX6_order_81 rfl rfl ?_
      refine x_if_eq (tgt := 91) dX6_order_82 (by decide) (by first | (unfold x_in; omega) | (unfold x_in; decide)) (fun c2 => ?_) (fun c2 => ?_)
      · refine x_aload_n (i := 0) dX6_order_91 rfl rfl ?_
        refine x_getR xf_RX6_13 dX6_order_92 rfl rfl ?_
        refine x_iconst dX6_order_95 ?_
        refine x_ialdK (K := 3) dX6_order_96 rfl rfl (by decide) (by decide) ?_
        refine x_istore_6 dX6_order_97 (by decide) rfl ?_
        refine x_iload_n (i := 2) dX6_order_99 rfl rfl ?_
        refine x_istore_4 dX6_order_100 (by decide) rfl ?_
        refine x_iconst dX6_order_102 ?_
        refine x_istore_7 dX6_order_103 (by decide) rfl ?_
        exact w6_order n r hr hn μ hG 0 S _ 0 (by omega) (by omega) (Nat.lt_succ_self _)
      · exact absurd c2 (by omega)
    · exact absurd c1 (by omega)
  | succ k ih =>
    intro i r2 S z7 h0 hi hr2 hS
    have hx := tdiv10 hr2
    have hm := mIn_in (mDig r2) (μ 2 1)
    refine x_iload dX6_order_17 rfl ?_
    refine x_iload_n (i := 1) dX6_order_19 rfl rfl ?_
    refine x_icmp_ge (tgt := 81) dX6_order_20 (by decide) (by first | exact hr2 | exact hx.1 | (unfold x_in; omega) | (unfold x_in; decide)) (by first | exact hr2 | exact hx.1 | (unfold x_in; omega) | (unfold x_in; decide)) (fun c1 => ?_) (fun c1 => ?_)
    · exact absurd c1 (by omega)
    · refine x_iload_n (i := 3) dX6_order_23 rfl rfl ?_
      refine x_if_ne (tgt := 81) dX6_order_24 (by decide) (by first | exact hr2 | exact hx.1 | (unfold x_in; omega) | (unfold x_in; decide)) (fun c2 => ?_) (fun c2 => ?_)
      · exact absurd c2 (by omega)
      · refine x_iload dX6_order_27 rfl ?_
        refine x_bipush dX6_order_29 (by decide) ?_
        refine x_irem dX6_order_31 (by first | exact hr2 | exact hx.1 | (unfold x_in; omega) | (unfold x_in; decide)) (by first | exact hr2 | exact hx.1 | (unfold x_in; omega) | (unfold x_in; decide)) (by first | exact hr2 | exact hx.1 | (unfold x_in; omega) | (unfold x_in; decide)) (by decide) ?_
        show X E0 shM 2 yX6_order cX6_order 8 (some .int) _ _ (Sum.inl (mDig r2) :: _) _ _
        refine x_istore_7 dX6_order_32 (by decide) rfl ?_
        refine x_iload dX6_order_34 rfl ?_
        refine x_bipush dX6_order_36 (by decide) ?_
        refine x_idiv dX6_order_38 (by first | exact hr2 | exact hx.1 | (unfold x_in; omega) | (unfold x_in; decide)) (by first | exact hr2 | exact hx.1 | (unfold x_in; omega) | (unfold x_in; decide)) (by first | exact hr2 | exact hx.1 | (unfold x_in; omega) | (unfold x_in; decide)) (by decide) ?_
        refine x_istore_4 dX6_order_39 (by decide) rfl ?_
        refine x_aload_n (i := 0) dX6_order_41 rfl rfl ?_
        refine x_iload dX6_order_42 rfl ?_
        refine x_cIp0_1 lk_RX6_90 xm_X6_isTrain dX6_order_44 (s6_isTrain _ (by unfold x_in; omega) _ hI) ?_
        refine x_if_eq (tgt := 61) dX6_order_47 (by decide) (by first | exact hr2 | exact hx.1 | (unfold x_in; omega) | (unfold x_in; decide)) (fun c3 => ?_) (fun c3 => ?_)
        · refine x_iconst dX6_order_61 ?_
          refine x_istore_3 dX6_order_62 (by decide) rfl ?_
          refine x_goto (tgt := 75) dX6_order_63 (by decide) ?_
          refine x_iinc_6 dX6_order_75 (by decide) rfl ?_
          refine x_goto (tgt := 17) dX6_order_78 (by decide) ?_
          first | (have hb : mOkN (μ 2) (k + 1) r2 S = false := (by rw [mOkN]; exact if_neg (fun q => mIn_f c3 q.1)); simp only [hb, Bool.false_eq_true, if_false]; exact v6_order n r hn μ hG _ _ _ (by omega) _) | (have hb : mOkN (μ 2) (k + 1) r2 S = false := (by rw [mOkN]; exact if_neg (fun q => absurd (q.2.symm.trans (htst.2 (by omega))) (by decide))); simp only [hb, Bool.false_eq_true, if_false]; exact v6_order n r hn μ hG _ _ _ (by omega) _) | (have hb : mOkN (μ 2) (k + 1) r2 S = mOkN (μ 2) k (r2.tdiv 10) (S ||| 2 ^ (mDig r2).toNat) := (by rw [mOkN]; exact if_pos ⟨ht, Bool.eq_false_iff.mpr (fun q => absurd (htst.1 q) (by omega))⟩); rw [hb]; exact ih (i + 1) _ _ _ (by omega) (by omega) hx.1 (bit_lt S hS _ htn))
        · have ht := mIn_t c3
          have htn : (mDig r2).toNat < 8 := by omega
          have eb : ((mDig r2).toNat : Int) = mDig r2 := nat_back ht.1
          have hshr := bit_shr S hS (mDig r2).toNat htn
          have hand := bit_and (S >>> (mDig r2).toNat) (bit_lt2 S hS _ htn)
          have hshl := bit_shl (mDig r2).toNat htn
          have hor := bit_or S hS (mDig r2).toNat htn
          have htst := bit_tst S hS (mDig r2).toNat htn
          have hone := bit_one (S >>> (mDig r2).toNat) (bit_lt2 S hS _ htn)
          rw [eb] at hshr hshl
          refine x_iload dX6_order_50 rfl ?_
          refine x_iload dX6_order_52 rfl ?_
          refine x_ishr (r := ((S >>> (mDig r2).toNat : Nat) : Int)) dX6_order_54 (hshr) ?_
          refine x_iconst dX6_order_55 ?_
          refine x_iand (r := ((S >>> (mDig r2).toNat &&& 1 : Nat) : Int)) dX6_order_56 (hand) ?_
          refine x_iconst dX6_order_57 ?_
          refine x_icmp_ne (tgt := 66) dX6_order_58 (by decide) (by first | exact hr2 | exact hx.1 | (unfold x_in; omega) | (unfold x_in; decide)) (by first | exact hr2 | exact hx.1 | (unfold x_in; omega) | (unfold x_in; decide)) (fun c4 => ?_) (fun c4 => ?_)
          · refine x_iload dX6_order_66 rfl ?_
            refine x_iconst dX6_order_68 ?_
            refine x_iload dX6_order_69 rfl ?_
            refine x_ishl (r := ((2 ^ (mDig r2).toNat : Nat) : Int)) dX6_order_71 (hshl) ?_
            refine x_ior (r := ((S ||| 2 ^ (mDig r2).toNat : Nat) : Int)) dX6_order_72 (hor) ?_
            refine x_istore_5 dX6_order_73 (by decide) rfl ?_
            refine x_iinc_6 dX6_order_75 (by decide) rfl ?_
            refine x_goto (tgt := 17) dX6_order_78 (by decide) ?_
            first | (have hb : mOkN (μ 2) (k + 1) r2 S = false := (by rw [mOkN]; exact if_neg (fun q => mIn_f c3 q.1)); simp only [hb, Bool.false_eq_true, if_false]; exact v6_order n r hn μ hG _ _ _ (by omega) _) | (have hb : mOkN (μ 2) (k + 1) r2 S = false := (by rw [mOkN]; exact if_neg (fun q => absurd (q.2.symm.trans (htst.2 (by omega))) (by decide))); simp only [hb, Bool.false_eq_true, if_false]; exact v6_order n r hn μ hG _ _ _ (by omega) _) | (have hb : mOkN (μ 2) (k + 1) r2 S = mOkN (μ 2) k (r2.tdiv 10) (S ||| 2 ^ (mDig r2).toNat) := (by rw [mOkN]; exact if_pos ⟨ht, Bool.eq_false_iff.mpr (fun q => absurd (htst.1 q) (by omega))⟩); rw [hb]; exact ih (i + 1) _ _ _ (by omega) (by omega) hx.1 (bit_lt S hS _ htn))
          · refine x_iconst dX6_order_61 ?_
            refine x_istore_3 dX6_order_62 (by decide) rfl ?_
            refine x_goto (tgt := 75) dX6_order_63 (by decide) ?_
            refine x_iinc_6 dX6_order_75 (by decide) rfl ?_
            refine x_goto (tgt := 17) dX6_order_78 (by decide) ?_
            first | (have hb : mOkN (μ 2) (k + 1) r2 S = false := (by rw [mOkN]; exact if_neg (fun q => mIn_f c3 q.1)); simp only [hb, Bool.false_eq_true, if_false]; exact v6_order n r hn μ hG _ _ _ (by omega) _) | (have hb : mOkN (μ 2) (k + 1) r2 S = false := (by rw [mOkN]; exact if_neg (fun q => absurd (q.2.symm.trans (htst.2 (by omega))) (by decide))); simp only [hb, Bool.false_eq_true, if_false]; exact v6_order n r hn μ hG _ _ _ (by omega) _) | (have hb : mOkN (μ 2) (k + 1) r2 S = mOkN (μ 2) k (r2.tdiv 10) (S ||| 2 ^ (mDig r2).toNat) := (by rw [mOkN]; exact if_pos ⟨ht, Bool.eq_false_iff.mpr (fun q => absurd (htst.1 q) (by omega))⟩); rw [hb]; exact ih (i + 1) _ _ _ (by omega) (by omega) hx.1 (bit_lt S hS _ htn))
set_option maxRecDepth 100000 in
set_option maxHeartbeats 4000000 in
theorem s6_order (n r : Int) (hn : x_in n) (hr : x_in r) (μ : xM) (hG : GI μ) : X E0 shM 2 yX6_order cX6_order 8 (some .int) 0 [some (.inr (.inl 0)), some (.inl n), some (.inl r), none, none, none, none, none] [] μ (PQ (if mWithin n 0 8 = 0 then (if mOkN (μ 2) n.toNat r 0 = true then μ 2 3 else -1) else mWithin n 0 8) (if mWithin n 0 8 = 0 then (if mOkN (μ 2) n.toNat r 0 = true then x_st (mPut μ r n.toNat) 2 3 n else mRef μ (-1)) else mRef μ (mWithin n 0 8))) := by
  have hI := hG.1
  have hww := mWithin_in n 0 8
  have hn2 := hn
  unfold x_in at hn2
  by_cases hw : mWithin n 0 8 = 0
  · have hn3 := mWithin_0 hw
    rw [if_pos hw, if_pos hw]
    refine x_iload_n (i := 1) dX6_order_0 rfl rfl ?_
    refine x_iconst dX6_order_1 ?_
    refine x_bipush dX6_order_2 (by decide) ?_
    refine x_cS_3 lk_RX6_99 xm_X6_within dX6_order_4 (s6_within _ _ _ hn (by unfold x_in; decide) (by unfold x_in; decide) _) ?_
    rw [hw]
    refine x_istore_3 dX6_order_7 (by decide) rfl ?_
    refine x_iload_n (i := 2) dX6_order_8 rfl rfl ?_
    refine x_istore_4 dX6_order_9 (by decide) rfl ?_
    refine x_iconst dX6_order_11 ?_
    refine x_istore_5 dX6_order_12 (by decide) rfl ?_
    refine x_iconst dX6_order_14 ?_
    refine x_istore_6 dX6_order_15 (by decide) rfl ?_
    exact l6_order n r hr hn3 μ hG n.toNat 0 r 0 _ (by omega) (by omega) hr (by decide)
  · rw [if_neg hw, if_neg hw]
    have K : ∀ i z7, 0 ≤ i → i ≤ 8 → X E0 shM 2 yX6_order cX6_order 8 (some .int) 17 [some (.inr (.inl 0)), some (.inl n), some (.inl r), some (.inl (mWithin n 0 8)), some (.inl r), some (.inl 0), some (.inl i), z7] [] μ (PQ (mWithin n 0 8) (mRef μ (mWithin n 0 8))) := by
      intro i z7 hi hi2
      refine x_iload dX6_order_17 rfl ?_
      refine x_iload_n (i := 1) dX6_order_19 rfl rfl ?_
      refine x_icmp_ge (tgt := 81) dX6_order_20 (by decide) (by first | (unfold x_in; omega) | (unfold x_in; decide)) (by first | (unfold x_in; omega) | (unfold x_in; decide)) (fun c1 => ?_) (fun c1 => ?_)
      · refine x_iload_n (i := 3) dX6_order_81 rfl rfl ?_
        refine x_if_eq (tgt := 91) dX6_order_82 (by decide) (by first | (unfold x_in; omega) | (unfold x_in; decide)) (fun c2 => ?_) (fun c2 => ?_)
        · exact absurd c2 (by omega)
        · refine x_aload_n (i := 0) dX6_order_85 rfl rfl ?_
          refine x_iload_n (i := 3) dX6_order_86 rfl rfl ?_
          refine x_cIf0_1 lk_RX6_50 xm_X6_refuse dX6_order_87 (s6_refuse _ (by omega) _) ?_
          refine x_iret dX6_order_90 rfl rfl ?_
          exact ⟨rfl, Abs.ref hG _⟩
      · refine x_iload_n (i := 3) dX6_order_23 rfl rfl ?_
        refine x_if_ne (tgt := 81) dX6_order_24 (by decide) (by first | (unfold x_in; omega) | (unfold x_in; decide)) (fun c2 => ?_) (fun c2 => ?_)
        · refine x_iload_n (i := 3) dX6_order_81 rfl rfl ?_
          refine x_if_eq (tgt := 91) dX6_order_82 (by decide) (by first | (unfold x_in; omega) | (unfold x_in; decide)) (fun c3 => ?_) (fun c3 => ?_)
          · exact absurd c3 (by omega)
          · refine x_aload_n (i := 0) dX6_order_85 rfl rfl ?_
            refine x_iload_n (i := 3) dX6_order_86 rfl rfl ?_
            refine x_cIf0_1 lk_RX6_50 xm_X6_refuse dX6_order_87 (s6_refuse _ (by omega) _) ?_
            refine x_iret dX6_order_90 rfl rfl ?_
            exact ⟨rfl, Abs.ref hG _⟩
        · exact absurd c2 (by omega)
    refine x_iload_n (i := 1) dX6_order_0 rfl rfl ?_
    refine x_iconst dX6_order_1 ?_
    refine x_bipush dX6_order_2 (by decide) ?_
    refine x_cS_3 lk_RX6_99 xm_X6_within dX6_order_4 (s6_within _ _ _ hn (by unfold x_in; decide) (by unfold x_in; decide) _) ?_
    refine x_istore_3 dX6_order_7 (by decide) rfl ?_
    refine x_iload_n (i := 2) dX6_order_8 rfl rfl ?_
    refine x_istore_4 dX6_order_9 (by decide) rfl ?_
    refine x_iconst dX6_order_11 ?_
    refine x_istore_5 dX6_order_12 (by decide) rfl ?_
    refine x_iconst dX6_order_14 ?_
    refine x_istore_6 dX6_order_15 (by decide) rfl ?_
    exact K 0 none (by omega) (by omega)
