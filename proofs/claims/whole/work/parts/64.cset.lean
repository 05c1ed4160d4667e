/-! THE CLASS: set -/
abbrev eLe : Nat × (Nat → Int) := (9, fun j => mLeast (j : Int))
abbrev eMo : Nat × (Nat → Int) := (9, fun j => mMost (j : Int))
def ES (E : xE) : Prop := E.1[0]? = some eLe ∧ E.1[1]? = some eMo ∧ E.2[0]? = some ("PushedUp", "LEAST_SETTING", "[I", 1000 + 0) ∧ E.2[1]? = some ("PushedUp", "MOST_SETTING", "[I", 1000 + 1)
theorem mLM_in (w : Int) : (0 ≤ mLeast w ∧ mLeast w ≤ 1) ∧ (1 ≤ mMost w ∧ mMost w ≤ 999) := by
  unfold mLeast mMost
  refine ⟨by split <;> omega, ?_⟩
  split
  · omega
  · split
    · omega
    · split
      · omega
      · split
        · omega
        · split <;> omega
theorem MI_setS {h : Nat → Int} (hI : MI h) {w z : Int} (hw : 0 ≤ w ∧ w < 9) (hz : mLeast w ≤ z ∧ z ≤ mMost w) : MI (hset h (4 + w).toNat z) := by
  have e : w = 0 ∨ w = 1 ∨ w = 2 ∨ w = 3 ∨ w = 4 ∨ w = 5 ∨ w = 6 ∨ w = 7 ∨ w = 8 := by omega
  rcases e with rfl | rfl | rfl | rfl | rfl | rfl | rfl | rfl | rfl
  · exact MI_set4 hI hz
  · exact MI_set5 hI hz
  · exact MI_set6 hI hz
  · exact MI_set7 hI hz
  · exact MI_set8 hI hz
  · exact MI_set9 hI hz
  · exact MI_set10 hI hz
  · exact MI_set11 hI hz
  · exact MI_set12 hI hz
theorem CR.set {μ κ : xM} (h : CR μ κ) {w z : Int} (hw : 0 ≤ w ∧ w < 9) (hz : mLeast w ≤ z ∧ z ≤ mMost w) : CR (x_st μ 17 w.toNat z) (x_st κ 2 (4 + w).toNat z) := by
  have e2 : x_st κ 2 (4 + w).toNat z 2 = hset (κ 2) (4 + w).toNat z := x_st_row κ 2 _ _
  obtain ⟨a, b, c, d, e, f, i⟩ := h.gi
  refine ⟨⟨?_, fun j hj => ⟨?_, (b j hj).2⟩, c, d, e, f, i⟩, ?_, h.ok, ?_, h.is, h.kept, h.ts, h.tb, h.rs, h.rb, h.rf⟩
  · rw [e2]
    exact MI_setS a hw hz
  · rw [e2, hset_ne (by omega)]
    exact (b j hj).1
  · rw [e2]
    exact DO_set h.o (by omega) (by omega)
  · rw [e2, ← h.hill]
    exact hOf_ss μ 12 hw.1 hw.2 z
theorem mWt_lm (w z : Int) : (z < mLeast w → mWithin z (mLeast w) (mMost w) = -4) ∧ (¬ z < mLeast w → mMost w < z → mWithin z (mLeast w) (mMost w) = -6) ∧ (¬ z < mLeast w → ¬ mMost w < z → mWithin z (mLeast w) (mMost w) = 0) := ⟨fun q => if_pos q, fun q r => (if_neg q).trans (if_pos r), fun q r => (if_neg q).trans (if_neg r)⟩
set_option maxRecDepth 100000 in
set_option maxHeartbeats 4000000 in
theorem s5_set (E : xE) (hE : ES E) (w z : Int) (hw : x_in w) (hz : x_in z) (μ κ : xM) (h : CR μ κ) : X E shC 9 yX5_set cX5_set 4 (some .int) 0 [some (.inr (.inl 0)), some (.inl w), some (.inl z), none] [] μ (CQ (if 0 ≤ w ∧ w < 9 then (if mWithin z (mLeast w) (mMost w) = 0 then κ 2 (4 + w).toNat else mWithin z (mLeast w) (mMost w)) else -2) (if 0 ≤ w ∧ w < 9 then (if mWithin z (mLeast w) (mMost w) = 0 then x_st κ 2 (4 + w).toNat z else mRef κ (mWithin z (mLeast w) (mMost w))) else mRef κ (-2))) := by
  have eH : hOf (x_ct [12, 13, 14, 15, 16, 17, 18] μ) 0 = κ 2 := h.hill
  have hI := h.mi
  have h1 : 0 ≤ κ 2 1 ∧ κ 2 1 ≤ 8 := hI.2.1
  have h0 : 0 ≤ κ 2 0 ∧ κ 2 0 ≤ 5 := hI.1
  obtain ⟨hE0, hE1, hS0, hS1⟩ := hE
  have hm := mWt_lm w z
  have hlm := mLM_in w
  have eb : 0 ≤ w → ((w.toNat : Nat) : Int) = w := fun q => nat_back q
  have bw : 0 ≤ w ∧ w < 9 → μ 17 w.toNat = κ 2 (4 + w).toNat := fun q => by
    rw [← h.hill]
    exact (hOf_set μ 12 q.1 q.2).symm
  refine x_iload_n (i := 1) dX5_set_0 rfl rfl ?_
  refine x_if_lt (tgt := 10) dX5_set_1 (by decide) (by first | assumption | (unfold x_in; omega) | (unfold x_in; decide)) (fun c1 => ?_) (fun c1 => ?_)
  · refine x_aload_n (i := 0) dX5_set_10 rfl rfl ?_
    refine x_bipush dX5_set_11 (by decide) ?_
    refine x_cIf0_1 lk_RX5_54 xm_X5_refuse dX5_set_13 (s5_refuse _ (by decide) _) ?_
    refine x_iret dX5_set_16 rfl rfl ?_
    have q1 : ¬ (0 ≤ w ∧ w < 9) := (by omega)
    rw [if_neg q1, if_neg q1]
    exact ⟨rfl, h.ref (-2)⟩
  · refine x_iload_n (i := 1) dX5_set_4 rfl rfl ?_
    refine x_bipush dX5_set_5 (by decide) ?_
    refine x_icmp_lt (tgt := 17) dX5_set_7 (by decide) (by first | assumption | (unfold x_in; omega) | (unfold x_in; decide)) (by first | assumption | (unfold x_in; omega) | (unfold x_in; decide)) (fun c2 => ?_) (fun c2 => ?_)
    · refine x_iload_n (i := 2) dX5_set_17 rfl rfl ?_
      refine x_gets (i := 0) dX5_set_18 hS0 fk_RX5_96 ?_
      refine x_iload_n (i := 1) dX5_set_21 rfl rfl ?_
      refine x_roald dX5_set_22 hE0 (by decide) (by first | omega | decide) (by first | omega | decide) ?_
      rw [eb (by omega)]
      refine x_icmp_ge (tgt := 33) dX5_set_23 (by decide) (by first | assumption | (unfold x_in; omega) | (unfold x_in; decide)) (by first | assumption | (unfold x_in; omega) | (unfold x_in; decide)) (fun c3 => ?_) (fun c3 => ?_)
      · refine x_iload_n (i := 2) dX5_set_33 rfl rfl ?_
        refine x_gets (i := 1) dX5_set_34 hS1 fk_RX5_99 ?_
        refine x_iload_n (i := 1) dX5_set_37 rfl rfl ?_
        refine x_roald dX5_set_38 hE1 (by decide) (by first | omega | decide) (by first | omega | decide) ?_
        rw [eb (by omega)]
        refine x_icmp_le (tgt := 49) dX5_set_39 (by decide) (by first | assumption | (unfold x_in; omega) | (unfold x_in; decide)) (by first | assumption | (unfold x_in; omega) | (unfold x_in; decide)) (fun c4 => ?_) (fun c4 => ?_)
        · refine x_aload_n (i := 0) dX5_set_49 rfl rfl ?_
          refine x_getR xf_RX5_20 dX5_set_50 rfl rfl ?_
          refine x_getR xf_RX5_102 dX5_set_53 rfl rfl ?_
          refine x_iload_n (i := 1) dX5_set_56 rfl rfl ?_
          refine x_iald dX5_set_57 rfl (by decide) (by first | omega | decide) (by first | omega | decide) ?_
          refine x_istore_3 dX5_set_58 (by decide) rfl ?_
          refine x_aload_n (i := 0) dX5_set_59 rfl rfl ?_
          refine x_getR xf_RX5_20 dX5_set_60 rfl rfl ?_
          refine x_getR xf_RX5_102 dX5_set_63 rfl rfl ?_
          refine x_iload_n (i := 1) dX5_set_66 rfl rfl ?_
          refine x_iload_n (i := 2) dX5_set_67 rfl rfl ?_
          refine x_iast dX5_set_68 rfl (by decide) (by first | omega | decide) (by first | omega | decide) ?_
          refine x_iload_n (i := 3) dX5_set_69 rfl rfl ?_
          refine x_iret dX5_set_70 rfl rfl ?_
          have q1 : 0 ≤ w ∧ w < 9 := (by omega)
          rw [if_pos q1, if_pos q1, hm.2.2 (by omega) (by omega), if_pos rfl, if_pos rfl]
          exact ⟨congrArg (fun z => some (Sum.inl z)) (bw q1), h.set q1 (by omega)⟩
        · refine x_aload_n (i := 0) dX5_set_42 rfl rfl ?_
          refine x_bipush dX5_set_43 (by decide) ?_
          refine x_cIf0_1 lk_RX5_54 xm_X5_refuse dX5_set_45 (s5_refuse _ (by decide) _) ?_
          refine x_iret dX5_set_48 rfl rfl ?_
          have q1 : 0 ≤ w ∧ w < 9 := (by omega)
          rw [if_pos q1, if_pos q1, hm.2.1 (by omega) (by omega), if_neg (show ¬ (-6 : Int) = 0 by decide), if_neg (show ¬ (-6 : Int) = 0 by decide)]
          exact ⟨rfl, h.ref (-6)⟩
      · refine x_aload_n (i := 0) dX5_set_26 rfl rfl ?_
        refine x_bipush dX5_set_27 (by decide) ?_
        refine x_cIf0_1 lk_RX5_54 xm_X5_refuse dX5_set_29 (s5_refuse _ (by decide) _) ?_
        refine x_iret dX5_set_32 rfl rfl ?_
        have q1 : 0 ≤ w ∧ w < 9 := (by omega)
        rw [if_pos q1, if_pos q1, hm.1 (by omega), if_neg (show ¬ (-4 : Int) = 0 by decide), if_neg (show ¬ (-4 : Int) = 0 by decide)]
        exact ⟨rfl, h.ref (-4)⟩
    · refine x_aload_n (i := 0) dX5_set_10 rfl rfl ?_
      refine x_bipush dX5_set_11 (by decide) ?_
      refine x_cIf0_1 lk_RX5_54 xm_X5_refuse dX5_set_13 (s5_refuse _ (by decide) _) ?_
      refine x_iret dX5_set_16 rfl rfl ?_
      have q1 : ¬ (0 ≤ w ∧ w < 9) := (by omega)
      rw [if_neg q1, if_neg q1]
      exact ⟨rfl, h.ref (-2)⟩
