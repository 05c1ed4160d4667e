/-! THE LAW: its loop -/
set_option maxRecDepth 100000 in
set_option maxHeartbeats 4000000 in
theorem w_loop (L : Nat) (f : Nat → Int) (hL : L ≤ 2048) (hf : ∀ j, x_in (f j)) : ∀ (n : Nat) (i : Int) (ν : xM), 0 ≤ i → i ≤ L + 4 → ((L : Int) + 4 - i).toNat < n → LR ν → X (EL L f) shL 20 yL_law cL_law 4 (some .boolean) 18 [some (.inr (.inl (1000 + 2))), some (.inr (.inl 0)), some (.inr (.inl 51)), some (.inl i)] [] ν (fun r _ => r = some (.inl 1)) := by
  intro n
  induction n with
  | zero => intro i ν _ _ h; omega
  | succ n ih =>
    intro i ν hi hiL hn h
    by_cases hle : i + 4 ≤ L
    · have K766 : ∀ ν2, LR ν2 → X (EL L f) shL 20 yL_law cL_law 4 (some .boolean) 766 [some (.inr (.inl (1000 + 2))), some (.inr (.inl 0)), some (.inr (.inl 51)), some (.inl i)] [] ν2 (fun r _ => r = some (.inl 1)) := by
        intro ν2 h2
        have KI := ih (i + 4) ν2 (by omega) (by omega) (by omega) h2
        refine x_iinc_3 dL_law_766 (by decide) rfl ?_
        refine x_goto (tgt := 18) dL_law_769 (by decide) ?_
        exact KI
      clear ih
      have er : x_I (f i.toNat) &&& x_I 31 = x_I (x_I (f i.toNat) &&& x_I 31).toInt := (x_ofInt _).symm
      have hr := x_inI (x_I (f i.toNat) &&& x_I 31)
      generalize (x_I (f i.toNat) &&& x_I 31).toInt = r at *
      refine x_iload_n (i := 3) dL_law_18 rfl rfl ?_
      refine x_aload_n (i := 0) dL_law_19 rfl rfl ?_
      refine x_roalen dL_law_20 rfl ?_
      refine x_iconst dL_law_21 ?_
      refine x_isub dL_law_22 ?_
      refine x_icmp_gt (tgt := 772) dL_law_23 (by decide) (by first | exact hr | (unfold x_in; omega) | (unfold x_in; decide)) (by first | exact hr | (unfold x_in; omega) | (unfold x_in; decide)) (fun c1 => ?_) (fun c1 => ?_)
      · exact absurd c1 (by omega)
      · refine x_aload_n (i := 0) dL_law_26 rfl rfl ?_
        refine x_iload_n (i := 3) dL_law_27 rfl rfl ?_
        refine x_roald dL_law_28 rfl (by omega) (by omega) (by omega) ?_
        refine x_bipush dL_law_29 (by decide) ?_
        refine x_iand (r := r) dL_law_31 (er) ?_
        refine x_tab26 (td := 766) (t0 := 152) (t1 := 215) (t2 := 228) (t3 := 261) (t4 := 294) (t5 := 327) (t6 := 376) (t7 := 409) (t8 := 432) (t9 := 455) (t10 := 468) (t11 := 491) (t12 := 514) (t13 := 527) (t14 := 540) (t15 := 563) (t16 := 586) (t17 := 599) (t18 := 622) (t19 := 645) (t20 := 658) (t21 := 671) (t22 := 694) (t23 := 717) (t24 := 730) (t25 := 743) dL_law_32 (by first | exact hr | (unfold x_in; omega) | (unfold x_in; decide)) (by decide) (by decide) (by decide) (by decide) (by decide) (by decide) (by decide) (by decide) (by decide) (by decide) (by decide) (by decide) (by decide) (by decide) (by decide) (by decide) (by decide) (by decide) (by decide) (by decide) (by decide) (by decide) (by decide) (by decide) (by decide) (by decide) (by decide) (by decide) (fun c2 => ?_) (fun c2 => ?_) (fun c2 => ?_) (fun c2 => ?_) (fun c2 => ?_) (fun c2 => ?_) (fun c2 => ?_) (fun c2 => ?_) (fun c2 => ?_) (fun c2 => ?_) (fun c2 => ?_) (fun c2 => ?_) (fun c2 => ?_) (fun c2 => ?_) (fun c2 => ?_) (fun c2 => ?_) (fun c2 => ?_) (fun c2 => ?_) (fun c2 => ?_) (fun c2 => ?_) (fun c2 => ?_) (fun c2 => ?_) (fun c2 => ?_) (fun c2 => ?_) (fun c2 => ?_) (fun c2 => ?_) (fun c2 => ?_)
        · exact w_feed L f hL hf i (by omega) ν h K766
        · exact w_line L f hL hf i (by omega) ν h K766
        · exact w_piece L f hL hf i (by omega) ν h K766
        · exact w_train L f hL hf i (by omega) ν h K766
        · exact w_set L f hL hf i (by omega) ν h K766
        · exact w_makeDouble L f hL hf i (by omega) ν h K766
        · exact w_order L f hL hf i (by omega) ν h K766
        · exact w_climbs L f hL hf i (by omega) ν h K766
        · exact w_takes L f hL hf i (by omega) ν h K766
        · exact w_base L f hL hf i (by omega) ν h K766
        · exact w_waited L f hL hf i (by omega) ν h K766
        · exact w_began L f hL hf i (by omega) ν h K766
        · exact w_allWaited L f hL hf i (by omega) ν h K766
        · exact w_downs L f hL hf i (by omega) ν h K766
        · exact w_best L f hL hf i (by omega) ν h K766
        · exact w_fewest L f hL hf i (by omega) ν h K766
        · exact w_which L f hL hf i (by omega) ν h K766
        · exact w_edge L f hL hf i (by omega) ν h K766
        · exact w_chance L f hL hf i (by omega) ν h K766
        · exact w_heaviest L f hL hf i (by omega) ν h K766
        · exact w_yard L f hL hf i (by omega) ν h K766
        · exact w_row L f hL hf i (by omega) ν h K766
        · exact w_judge L f hL hf i (by omega) ν h K766
        · exact w_image L f hL hf i (by omega) ν h K766
        · exact w_on L f hL hf i (by omega) ν h K766
        · exact w_count L f hL hf i (by omega) ν h K766
        · exact K766 ν h
    · clear ih
      refine x_iload_n (i := 3) dL_law_18 rfl rfl ?_
      refine x_aload_n (i := 0) dL_law_19 rfl rfl ?_
      refine x_roalen dL_law_20 rfl ?_
      refine x_iconst dL_law_21 ?_
      refine x_isub dL_law_22 ?_
      refine x_icmp_gt (tgt := 772) dL_law_23 (by decide) (by first | (unfold x_in; omega) | (unfold x_in; decide)) (by first | (unfold x_in; omega) | (unfold x_in; decide)) (fun c1 => ?_) (fun c1 => ?_)
      · refine x_iconst dL_law_772 ?_
        refine x_iret dL_law_773 rfl (x_narZ (by first | exact Or.inl rfl | exact Or.inr rfl | omega)) ?_
        rfl
      · exact absurd c1 (by omega)
