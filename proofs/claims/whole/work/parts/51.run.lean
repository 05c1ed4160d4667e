/-! THE CLASS, Day: run, after start -/
set_option maxRecDepth 100000 in
set_option maxHeartbeats 4000000 in
theorem l0_run (ρ0 : xM) (h : Nat → Int) : ∀ (n : Nat) (m i : Int) (μ : xM), 0 ≤ i → i ≤ m → (1442 - i).toNat < n → m ≤ 1000001 → hOf μ 9 = h → (m ≤ 1440 → DR μ (mRun ρ0 m.toNat) m) → (1440 < m → DR μ (mRun ρ0 1441) 1441) → X E0 shDay 4 yX0_run cX0_run 3 none 8 [some (.inr (.inl 0)), some (.inl m), some (.inl i)] [] μ (fun r μ' => r = none ∧ hOf μ' 9 = h ∧ DR μ' (mRun ρ0 1441) 1441) := by
  intro n
  induction n with
  | zero => intro m i μ _ _ h; omega
  | succ n ih =>
    intro m i μ hi him hn hm1 hh hA hB
    by_cases hle : m ≤ 1440
    · have hR := hA hle
      have hbg := s0_beginOne μ (mRun ρ0 m.toNat) m (by omega) hR
      have hin := LA_in hR.2.1.b hR.2.2.1
      have hnx := s0_nextChance μ (mRun ρ0 m.toNat) m (by omega) hR.1 hin.2.1
      have hdx := dNxN_in (m := m) hR.1 hin.2.1 (μ 9 3).toNat (by have : 0 ≤ μ 9 3 := hR.1.1.2.1.1; omega)
      have KY : ∀ μ2, hOf μ2 9 = hOf μ 9 → DR μ2 (mMin m (mRun ρ0 m.toNat)) (m + 1) → X E0 shDay 4 yX0_run cX0_run 3 none 8 [some (.inr (.inl 0)), some (.inl (m + 1)), some (.inl (i + 1))] [] μ2 (fun r μ' => r = none ∧ hOf μ' 9 = h ∧ DR μ' (mRun ρ0 1441) 1441) := by
        intro μ2 e2 d2
        have er : mRun ρ0 (m + 1).toNat = mMin m (mRun ρ0 m.toNat) := mRun_s ρ0 (by omega)
        rw [← er] at d2
        exact ih (m + 1) (i + 1) μ2 (by omega) (by omega) (by omega) (by omega) (e2.trans hh) (fun _ => d2) (fun q => by
          have e : m + 1 = 1441 := by omega
          rw [e] at d2
          exact d2)
      have KN : ¬ mDownNow (mEnds m (mRun ρ0 m.toNat)) m → ¬ 0 ≤ mBest (mEnds m (mRun ρ0 m.toNat)) m → X E0 shDay 4 yX0_run cX0_run 3 none 8 [some (.inr (.inl 0)), some (.inl (max (dNxN μ (mRun ρ0 m.toNat) m (μ 9 3).toNat) (m + 1))), some (.inl (i + 1))] [] μ (fun r μ' => r = none ∧ hOf μ' 9 = h ∧ DR μ' (mRun ρ0 1441) 1441) := by
        intro hd hb
        have J := DR.jump hR (by omega) hd hb
        have hw : m + 1 ≤ max (dNxN μ (mRun ρ0 m.toNat) m (μ 9 3).toNat) (m + 1) ∧ max (dNxN μ (mRun ρ0 m.toNat) m (μ 9 3).toNat) (m + 1) ≤ 1000001 := by omega
        generalize max (dNxN μ (mRun ρ0 m.toNat) m (μ 9 3).toNat) (m + 1) = w at *
        clear hdx hd hb hnx hbg hin hR hA hB KY
        refine ih w (i + 1) μ (by omega) (by omega) (by omega) hw.2 hh (fun q => ?_) (fun q => ?_)
        · have j := (J (w - m).toNat (by omega) (by omega)).1
          rw [show m.toNat + (w - m).toNat = w.toNat by omega, show m + ((w - m).toNat : Int) = w by omega] at j
          exact j
        · have j := (J (1441 - m).toNat (by omega) (by omega)).1
          rw [show m.toNat + (1441 - m).toNat = 1441 by omega, show m + ((1441 - m).toNat : Int) = 1441 by omega] at j
          exact j
      have K27 : ∀ a μ2, hOf μ2 9 = hOf μ 9 ∧ ((some (.inl a) = some (Sum.inl 1 : xA) ∧ DR μ2 (mMin m (mRun ρ0 m.toNat)) (m + 1)) ∨ (some (.inl a) = some (Sum.inl 0 : xA) ∧ μ2 = μ ∧ ¬ mDownNow (mEnds m (mRun ρ0 m.toNat)) m ∧ ¬ 0 ≤ mBest (mEnds m (mRun ρ0 m.toNat)) m)) → X E0 shDay 4 yX0_run cX0_run 3 none 27 [some (.inr (.inl 0)), some (.inl m), some (.inl i)] [.inl a] μ2 (fun r μ' => r = none ∧ hOf μ' 9 = h ∧ DR μ' (mRun ρ0 1441) 1441) := by
        intro a μ2 hq
        obtain ⟨e2, ⟨ea, d2⟩ | ⟨ea, em, hd, hb⟩⟩ := hq
        · cases ea
          have KZ := KY μ2 e2 d2
          clear ih hbg hnx hdx KN KY hA hB d2 hR
          refine x_if_eq (tgt := 36) dX0_run_27 (by decide) (by first | (unfold x_in; omega) | (unfold x_in; decide)) (fun c1 => ?_) (fun c1 => ?_)
          · exact absurd c1 (by omega)
          · refine x_iload_n (i := 1) dX0_run_30 rfl rfl ?_
            refine x_iconst dX0_run_31 ?_
            refine x_iadd dX0_run_32 ?_
            refine x_goto (tgt := 41) dX0_run_33 (by decide) ?_
            refine x_istore_1 dX0_run_41 (by decide) rfl ?_
            refine x_iinc_2 dX0_run_42 (by decide) rfl ?_
            refine x_goto (tgt := 8) dX0_run_45 (by decide) ?_
            exact KZ
        · cases ea
          rw [em]
          have KZ := KN hd hb
          clear ih hbg hdx KN KY hA hB hd hb hR
          refine x_if_eq (tgt := 36) dX0_run_27 (by decide) (by first | (unfold x_in; omega) | (unfold x_in; decide)) (fun c1 => ?_) (fun c1 => ?_)
          · refine x_aload_n (i := 0) dX0_run_36 rfl rfl ?_
            refine x_iload_n (i := 1) dX0_run_37 rfl rfl ?_
            refine x_cIp0_1 lk_RX0_42 xm_X0_nextChance dX0_run_38 (hnx) ?_
            refine x_istore_1 dX0_run_41 (by decide) rfl ?_
            refine x_iinc_2 dX0_run_42 (by decide) rfl ?_
            refine x_goto (tgt := 8) dX0_run_45 (by decide) ?_
            exact KZ
          · exact absurd c1 (by omega)
      clear hA hB ih hdx hnx hR KY KN
      refine x_iload_n (i := 2) dX0_run_8 rfl rfl ?_
      refine x_sipush dX0_run_9 (by decide) ?_
      refine x_icmp_gt (tgt := 48) dX0_run_12 (by decide) (by first | (unfold x_in; omega) | (unfold x_in; decide)) (by first | (unfold x_in; omega) | (unfold x_in; decide)) (fun c1 => ?_) (fun c1 => ?_)
      · exact absurd c1 (by omega)
      · refine x_iload_n (i := 1) dX0_run_15 rfl rfl ?_
        refine x_sipush dX0_run_16 (by decide) ?_
        refine x_icmp_gt (tgt := 48) dX0_run_19 (by decide) (by first | (unfold x_in; omega) | (unfold x_in; decide)) (by first | (unfold x_in; omega) | (unfold x_in; decide)) (fun c2 => ?_) (fun c2 => ?_)
        · exact absurd c2 (by omega)
        · refine x_aload_n (i := 0) dX0_run_22 rfl rfl ?_
          refine x_iload_n (i := 1) dX0_run_23 rfl rfl ?_
          refine x_cI0_1 lk_RX0_38 xm_X0_beginOne dX0_run_24 (hbg) (fun a μ2 hq => ?_)
          exact K27 a μ2 hq
    · have hE : hOf μ 9 = h ∧ DR μ (mRun ρ0 1441) 1441 := ⟨hh, hB (by omega)⟩
      clear hA hB ih
      refine x_iload_n (i := 2) dX0_run_8 rfl rfl ?_
      refine x_sipush dX0_run_9 (by decide) ?_
      refine x_icmp_gt (tgt := 48) dX0_run_12 (by decide) (by first | (unfold x_in; omega) | (unfold x_in; decide)) (by first | (unfold x_in; omega) | (unfold x_in; decide)) (fun c1 => ?_) (fun c1 => ?_)
      · refine x_vret dX0_run_48 rfl ?_
        exact ⟨rfl, hE⟩
      · refine x_iload_n (i := 1) dX0_run_15 rfl rfl ?_
        refine x_sipush dX0_run_16 (by decide) ?_
        refine x_icmp_gt (tgt := 48) dX0_run_19 (by decide) (by first | (unfold x_in; omega) | (unfold x_in; decide)) (by first | (unfold x_in; omega) | (unfold x_in; decide)) (fun c2 => ?_) (fun c2 => ?_)
        · refine x_vret dX0_run_48 rfl ?_
          exact ⟨rfl, hE⟩
        · exact absurd c2 (by omega)
