/-! THE REFERENCE: a statement is read -/
theorem pTk_t {tp : Nat → Int} {n a c : Int} {μ : xM} (h : bI (decide (pSg tp n a = c)) ≠ 0) : (if pSg tp n a = c then x_st μ 0 8 (a + 1) else μ) = x_st μ 0 8 (a + 1) := if_pos (bd_of_t h)
theorem pTk_f {tp : Nat → Int} {n a c : Int} {μ : xM} (h : bI (decide (pSg tp n a = c)) = 0) : (if pSg tp n a = c then x_st μ 0 8 (a + 1) else μ) = μ := if_neg (bd_of_f h)
/-- what reading a statement leaves -/
def SQ (s : Bool × Int × Int × Int) (c : Int) (μ : xM) (tp : Nat → Int) (n : Int) (r : Option xA) (μ' : xM) : Prop := r = some (.inl (bI s.1)) ∧ PF μ' tp n s.2.1 ∧ RS μ μ' ∧ (s.1 = true → μ' 6 0 = s.2.2.1 ∧ (c ≠ 101 → μ' 6 1 = s.2.2.2))
set_option maxRecDepth 100000 in
set_option maxHeartbeats 4000000 in
theorem z6_readsStatement (μ0 : xM) (c v0 v1 : Int) (tp : Nat → Int) (n a : Int) (hn : n ≤ 48) (ha : 0 ≤ a) (ht : TB tp) (μ : xM) (hP : PF μ tp n a) (hR : RS μ0 μ) (han : a ≤ n) (h0 : μ 6 0 = v0) (h1 : c ≠ 101 → μ 6 1 = v1) : X E0 shM 3 yX6_readsStatement cX6_readsStatement 2 (some .boolean) 138 [some (.inr (.inl 0)), some (.inl c)] [] μ (SQ (pStZ tp n a v0 v1) c μ0 tp n) := by
  have hs := pSg_in ht hn ha
  refine x_aload_n (i := 0) dX6_readsStatement_138 rfl rfl ?_
  refine x_bipush dX6_readsStatement_139 (by decide) ?_
  refine x_cIf0_1 lk_RX6_74 xm_X6_takesSign dX6_readsStatement_141 (s6_takesSign tp n a hn ha ht _ hP han 59 (by decide)) ?_
  refine x_iret dX6_readsStatement_144 rfl (x_narZ (by exact bI_01 _)) ?_
  unfold pStZ
  by_cases q : pSg tp n a = 59
  · rw [if_pos q, if_pos q]
    exact ⟨by rw [decide_eq_true q], hP.at_ _, hR.at_ _, fun _ => ⟨h0, h1⟩⟩
  · rw [if_neg q, if_neg q]
    exact ⟨by rw [decide_eq_false q], hP, hR, fun z => by cases z⟩
set_option maxRecDepth 100000 in
set_option maxHeartbeats 4000000 in
theorem p6_readsStatement (tp : Nat → Int) (n a : Int) (hn : n ≤ 48) (ha : 0 ≤ a) (ht : TB tp) (μ : xM) (hP : PF μ tp n a) (han : a ≤ n) (hc : pSg tp n a = 112) : X E0 shM 3 yX6_readsStatement cX6_readsStatement 2 (some .boolean) 25 [some (.inr (.inl 0)), some (.inl 112)] [] μ (SQ (pStP tp n (a + 1)) 112 μ tp n) := by
  have hl := pSg_lt (tp := tp) (n := n) (a := a) (by omega)
  have h8 := hP.2.2
  have hP1 := hP.at_ (a + 1)
  have hR1 := (RS.rfl' μ).at_ (a + 1)
  refine x_aload_n (i := 0) dX6_readsStatement_25 rfl rfl ?_
  first | refine x_dupR dX6_readsStatement_26 ?_ | refine x_dupI dX6_readsStatement_26 ?_
  refine x_getI xf_RX6_60 dX6_readsStatement_27 rfl rfl ?_
  rw [h8]
  refine x_iconst dX6_readsStatement_30 ?_
  refine x_iadd dX6_readsStatement_31 ?_
  refine x_putI xp_RX6_60 dX6_readsStatement_32 rfl rfl ?_
  refine x_aload_n (i := 0) dX6_readsStatement_35 rfl rfl ?_
  refine x_iconst dX6_readsStatement_36 ?_
  refine x_iload_n (i := 1) dX6_readsStatement_37 rfl rfl ?_
  refine x_bipush dX6_readsStatement_38 (by decide) ?_
  refine x_icmp_ne (tgt := 47) dX6_readsStatement_40 (by decide) (by first | exact bIx _ | (unfold x_in; omega) | (unfold x_in; decide)) (by first | exact bIx _ | (unfold x_in; omega) | (unfold x_in; decide)) (fun c1 => ?_) (fun c1 => ?_)
  · refine x_iconst dX6_readsStatement_47 ?_
    refine x_cI0_2 lk_RX6_71 xm_X6_readsNumber dX6_readsStatement_48 (s6_readsNumber tp n (a + 1) hn (by omega) ht _ hP1 (by omega) 0 1 (by decide) (by decide)) (fun a1 μ1 hq => ?_)
    obtain ⟨e1, q1, q2⟩ := hq
    cases e1
    refine x_if_ne (tgt := 56) dX6_readsStatement_51 (by decide) (by first | exact bIx _ | (unfold x_in; omega) | (unfold x_in; decide)) (fun c2 => ?_) (fun c2 => ?_)
    · have hd := bI_t c2
      obtain ⟨hP2, w0, w1, hR2⟩ := q1 hd
      rw [show (1 : Int).toNat = 1 from rfl] at hP2 w0
      have hnm := pNm_in ht hn 1 (a + 1) 0 (by omega) (by omega) (by omega)
      have hsg := pSg_in ht hn (show 0 ≤ (pNm tp n 1 (a + 1) 0).1 by omega)
      refine x_iload_n (i := 1) dX6_readsStatement_56 rfl rfl ?_
      refine x_bipush dX6_readsStatement_57 (by decide) ?_
      refine x_icmp_ne (tgt := 82) dX6_readsStatement_59 (by decide) (by first | exact bIx _ | (unfold x_in; omega) | (unfold x_in; decide)) (by first | exact bIx _ | (unfold x_in; omega) | (unfold x_in; decide)) (fun c3 => ?_) (fun c3 => ?_)
      · refine x_iload_n (i := 1) dX6_readsStatement_82 rfl rfl ?_
        refine x_bipush dX6_readsStatement_83 (by decide) ?_
        refine x_icmp_ne (tgt := 138) dX6_readsStatement_85 (by decide) (by first | exact bIx _ | (unfold x_in; omega) | (unfold x_in; decide)) (by first | exact bIx _ | (unfold x_in; omega) | (unfold x_in; decide)) (fun c4 => ?_) (fun c4 => ?_)
        · exact absurd c4 (by omega)
        · refine x_aload_n (i := 0) dX6_readsStatement_88 rfl rfl ?_
          refine x_getR xf_RX6_25 dX6_readsStatement_89 rfl rfl ?_
          refine x_iconst dX6_readsStatement_92 ?_
          refine x_aload_n (i := 0) dX6_readsStatement_93 rfl rfl ?_
          refine x_cIp0_0 lk_RX6_63 xm_X6_sign dX6_readsStatement_94 (s6_sign tp n _ hn (by omega) ht _ hP2 hnm.1.2) ?_
          refine x_bipush dX6_readsStatement_97 (by decide) ?_
          refine x_icmp_ne (tgt := 106) dX6_readsStatement_99 (by decide) (by first | exact bIx _ | (unfold x_in; omega) | (unfold x_in; decide)) (by first | exact bIx _ | (unfold x_in; omega) | (unfold x_in; decide)) (fun c5 => ?_) (fun c5 => ?_)
          · refine x_iconst dX6_readsStatement_106 ?_
            refine x_iastK (K := 1) dX6_readsStatement_107 rfl rfl (by decide) (by decide) ?_
            refine x_aload_n (i := 0) dX6_readsStatement_108 rfl rfl ?_
            refine x_cIp0_0 lk_RX6_63 xm_X6_sign dX6_readsStatement_109 (s6_sign tp n _ hn (by omega) ht _ (hP2.told _ _) hnm.1.2) ?_
            refine x_bipush dX6_readsStatement_112 (by decide) ?_
            refine x_icmp_eq (tgt := 128) dX6_readsStatement_114 (by decide) (by first | exact bIx _ | (unfold x_in; omega) | (unfold x_in; decide)) (by first | exact bIx _ | (unfold x_in; omega) | (unfold x_in; decide)) (fun c6 => ?_) (fun c6 => ?_)
            · refine x_aload_n (i := 0) dX6_readsStatement_128 rfl rfl ?_
              first | refine x_dupR dX6_readsStatement_129 ?_ | refine x_dupI dX6_readsStatement_129 ?_
              refine x_getI xf_RX6_60 dX6_readsStatement_130 rfl rfl ?_
              try simp (decide := true) only [x_st_at, ↓reduceIte, if_true, if_false]
              rw [hP2.2.2]
              refine x_iconst dX6_readsStatement_133 ?_
              refine x_iadd dX6_readsStatement_134 ?_
              refine x_putI xp_RX6_60 dX6_readsStatement_135 rfl rfl ?_
              unfold pStP
              rw [if_pos (by assumption), if_pos (by omega)]
              first | (rw [if_pos (by omega)]; exact z6_readsStatement μ 112 _ _ tp n _ hn (by omega) ht _ ((hP2.told _ _).at_ _) (((hR1.trans hR2).told _ _).at_ _) (by have := pSg_lt (tp := tp) (n := n) (a := (pNm tp n 1 (a + 1) 0).1) (by omega); omega) w0 (fun _ => rfl)) | (rw [if_neg (by omega)]; exact z6_readsStatement μ 112 _ _ tp n _ hn (by omega) ht _ ((hP2.told _ _).at_ _) (((hR1.trans hR2).told _ _).at_ _) (by have := pSg_lt (tp := tp) (n := n) (a := (pNm tp n 1 (a + 1) 0).1) (by omega); omega) w0 (fun _ => rfl))
            · refine x_aload_n (i := 0) dX6_readsStatement_117 rfl rfl ?_
              refine x_cIp0_0 lk_RX6_63 xm_X6_sign dX6_readsStatement_118 (s6_sign tp n _ hn (by omega) ht _ (hP2.told _ _) hnm.1.2) ?_
              refine x_bipush dX6_readsStatement_121 (by decide) ?_
              refine x_icmp_eq (tgt := 128) dX6_readsStatement_123 (by decide) (by first | exact bIx _ | (unfold x_in; omega) | (unfold x_in; decide)) (by first | exact bIx _ | (unfold x_in; omega) | (unfold x_in; decide)) (fun c7 => ?_) (fun c7 => ?_)
              · refine x_aload_n (i := 0) dX6_readsStatement_128 rfl rfl ?_
                first | refine x_dupR dX6_readsStatement_129 ?_ | refine x_dupI dX6_readsStatement_129 ?_
                refine x_getI xf_RX6_60 dX6_readsStatement_130 rfl rfl ?_
                try simp (decide := true) only [x_st_at, ↓reduceIte, if_true, if_false]
                rw [hP2.2.2]
                refine x_iconst dX6_readsStatement_133 ?_
                refine x_iadd dX6_readsStatement_134 ?_
                refine x_putI xp_RX6_60 dX6_readsStatement_135 rfl rfl ?_
                unfold pStP
                rw [if_pos (by assumption), if_pos (by omega)]
                first | (rw [if_pos (by omega)]; exact z6_readsStatement μ 112 _ _ tp n _ hn (by omega) ht _ ((hP2.told _ _).at_ _) (((hR1.trans hR2).told _ _).at_ _) (by have := pSg_lt (tp := tp) (n := n) (a := (pNm tp n 1 (a + 1) 0).1) (by omega); omega) w0 (fun _ => rfl)) | (rw [if_neg (by omega)]; exact z6_readsStatement μ 112 _ _ tp n _ hn (by omega) ht _ ((hP2.told _ _).at_ _) (((hR1.trans hR2).told _ _).at_ _) (by have := pSg_lt (tp := tp) (n := n) (a := (pNm tp n 1 (a + 1) 0).1) (by omega); omega) w0 (fun _ => rfl))
              · refine x_iconst dX6_readsStatement_126 ?_
                refine x_iret dX6_readsStatement_127 rfl (x_narZ (by first | exact Or.inl rfl | exact Or.inr rfl | omega)) ?_
                unfold pStP
                first | (rw [if_neg (by rw [bI_f c2]; decide)]; have hd := bI_f c2; rw [q2 hd]; exact ⟨rfl, hP1, hR1, fun z => by cases z⟩) | (rw [if_pos (by assumption), if_neg (by omega)]; exact ⟨rfl, hP2.told _ _, (hR1.trans hR2).told _ _, fun z => by cases z⟩)
          · refine x_iconst dX6_readsStatement_102 ?_
            refine x_goto (tgt := 107) dX6_readsStatement_103 (by decide) ?_
            refine x_iastK (K := 1) dX6_readsStatement_107 rfl rfl (by decide) (by decide) ?_
            refine x_aload_n (i := 0) dX6_readsStatement_108 rfl rfl ?_
            refine x_cIp0_0 lk_RX6_63 xm_X6_sign dX6_readsStatement_109 (s6_sign tp n _ hn (by omega) ht _ (hP2.told _ _) hnm.1.2) ?_
            refine x_bipush dX6_readsStatement_112 (by decide) ?_
            refine x_icmp_eq (tgt := 128) dX6_readsStatement_114 (by decide) (by first | exact bIx _ | (unfold x_in; omega) | (unfold x_in; decide)) (by first | exact bIx _ | (unfold x_in; omega) | (unfold x_in; decide)) (fun c6 => ?_) (fun c6 => ?_)
            · refine x_aload_n (i := 0) dX6_readsStatement_128 rfl rfl ?_
              first | refine x_dupR dX6_readsStatement_129 ?_ | refine x_dupI dX6_readsStatement_129 ?_
              refine x_getI xf_RX6_60 dX6_readsStatement_130 rfl rfl ?_
              try simp (decide := true) only [x_st_at, ↓reduceIte, if_true, if_false]
              rw [hP2.2.2]
              refine x_iconst dX6_readsStatement_133 ?_
              refine x_iadd dX6_readsStatement_134 ?_
              refine x_putI xp_RX6_60 dX6_readsStatement_135 rfl rfl ?_
              unfold pStP
              rw [if_pos (by assumption), if_pos (by omega)]
              first | (rw [if_pos (by omega)]; exact z6_readsStatement μ 112 _ _ tp n _ hn (by omega) ht _ ((hP2.told _ _).at_ _) (((hR1.trans hR2).told _ _).at_ _) (by have := pSg_lt (tp := tp) (n := n) (a := (pNm tp n 1 (a + 1) 0).1) (by omega); omega) w0 (fun _ => rfl)) | (rw [if_neg (by omega)]; exact z6_readsStatement μ 112 _ _ tp n _ hn (by omega) ht _ ((hP2.told _ _).at_ _) (((hR1.trans hR2).told _ _).at_ _) (by have := pSg_lt (tp := tp) (n := n) (a := (pNm tp n 1 (a + 1) 0).1) (by omega); omega) w0 (fun _ => rfl))
            · refine x_aload_n (i := 0) dX6_readsStatement_117 rfl rfl ?_
              refine x_cIp0_0 lk_RX6_63 xm_X6_sign dX6_readsStatement_118 (s6_sign tp n _ hn (by omega) ht _ (hP2.told _ _) hnm.1.2) ?_
              refine x_bipush dX6_readsStatement_121 (by decide) ?_
              refine x_icmp_eq (tgt := 128) dX6_readsStatement_123 (by decide) (by first | exact bIx _ | (unfold x_in; omega) | (unfold x_in; decide)) (by first | exact bIx _ | (unfold x_in; omega) | (unfold x_in; decide)) (fun c7 => ?_) (fun c7 => ?_)
              · refine x_aload_n (i := 0) dX6_readsStatement_128 rfl rfl ?_
                first | refine x_dupR dX6_readsStatement_129 ?_ | refine x_dupI dX6_readsStatement_129 ?_
                refine x_getI xf_RX6_60 dX6_readsStatement_130 rfl rfl ?_
                try simp (decide := true) only [x_st_at, ↓reduceIte, if_true, if_false]
                rw [hP2.2.2]
                refine x_iconst dX6_readsStatement_133 ?_
                refine x_iadd dX6_readsStatement_134 ?_
                refine x_putI xp_RX6_60 dX6_readsStatement_135 rfl rfl ?_
                unfold pStP
                rw [if_pos (by assumption), if_pos (by omega)]
                first | (rw [if_pos (by omega)]; exact z6_readsStatement μ 112 _ _ tp n _ hn (by omega) ht _ ((hP2.told _ _).at_ _) (((hR1.trans hR2).told _ _).at_ _) (by have := pSg_lt (tp := tp) (n := n) (a := (pNm tp n 1 (a + 1) 0).1) (by omega); omega) w0 (fun _ => rfl)) | (rw [if_neg (by omega)]; exact z6_readsStatement μ 112 _ _ tp n _ hn (by omega) ht _ ((hP2.told _ _).at_ _) (((hR1.trans hR2).told _ _).at_ _) (by have := pSg_lt (tp := tp) (n := n) (a := (pNm tp n 1 (a + 1) 0).1) (by omega); omega) w0 (fun _ => rfl))
              · refine x_iconst dX6_readsStatement_126 ?_
                refine x_iret dX6_readsStatement_127 rfl (x_narZ (by first | exact Or.inl rfl | exact Or.inr rfl | omega)) ?_
                unfold pStP
                first | (rw [if_neg (by rw [bI_f c2]; decide)]; have hd := bI_f c2; rw [q2 hd]; exact ⟨rfl, hP1, hR1, fun z => by cases z⟩) | (rw [if_pos (by assumption), if_neg (by omega)]; exact ⟨rfl, hP2.told _ _, (hR1.trans hR2).told _ _, fun z => by cases z⟩)
      · exact absurd c3 (by omega)
    · refine x_iconst dX6_readsStatement_54 ?_
      refine x_iret dX6_readsStatement_55 rfl (x_narZ (by first | exact Or.inl rfl | exact Or.inr rfl | omega)) ?_
      unfold pStP
      first | (rw [if_neg (by rw [bI_f c2]; decide)]; have hd := bI_f c2; rw [q2 hd]; exact ⟨rfl, hP1, hR1, fun z => by cases z⟩) | (rw [if_pos (by assumption), if_neg (by omega)]; exact ⟨rfl, hP2.told _ _, (hR1.trans hR2).told _ _, fun z => by cases z⟩)
  · exact absurd c1 (by omega)
set_option maxRecDepth 100000 in
set_option maxHeartbeats 4000000 in
theorem e6_readsStatement (tp : Nat → Int) (n a : Int) (hn : n ≤ 48) (ha : 0 ≤ a) (ht : TB tp) (μ : xM) (hP : PF μ tp n a) (han : a ≤ n) (hc : pSg tp n a = 101) : X E0 shM 3 yX6_readsStatement cX6_readsStatement 2 (some .boolean) 25 [some (.inr (.inl 0)), some (.inl 101)] [] μ (SQ (pStE tp n (a + 1)) 101 μ tp n) := by
  have hl := pSg_lt (tp := tp) (n := n) (a := a) (by omega)
  have h8 := hP.2.2
  have hP1 := hP.at_ (a + 1)
  have hR1 := (RS.rfl' μ).at_ (a + 1)
  refine x_aload_n (i := 0) dX6_readsStatement_25 rfl rfl ?_
  first | refine x_dupR dX6_readsStatement_26 ?_ | refine x_dupI dX6_readsStatement_26 ?_
  refine x_getI xf_RX6_60 dX6_readsStatement_27 rfl rfl ?_
  rw [h8]
  refine x_iconst dX6_readsStatement_30 ?_
  refine x_iadd dX6_readsStatement_31 ?_
  refine x_putI xp_RX6_60 dX6_readsStatement_32 rfl rfl ?_
  refine x_aload_n (i := 0) dX6_readsStatement_35 rfl rfl ?_
  refine x_iconst dX6_readsStatement_36 ?_
  refine x_iload_n (i := 1) dX6_readsStatement_37 rfl rfl ?_
  refine x_bipush dX6_readsStatement_38 (by decide) ?_
  refine x_icmp_ne (tgt := 47) dX6_readsStatement_40 (by decide) (by first | exact bIx _ | (unfold x_in; omega) | (unfold x_in; decide)) (by first | exact bIx _ | (unfold x_in; omega) | (unfold x_in; decide)) (fun c1 => ?_) (fun c1 => ?_)
  · refine x_iconst dX6_readsStatement_47 ?_
    refine x_cI0_2 lk_RX6_71 xm_X6_readsNumber dX6_readsStatement_48 (s6_readsNumber tp n (a + 1) hn (by omega) ht _ hP1 (by omega) 0 1 (by decide) (by decide)) (fun a1 μ1 hq => ?_)
    obtain ⟨e1, q1, q2⟩ := hq
    cases e1
    refine x_if_ne (tgt := 56) dX6_readsStatement_51 (by decide) (by first | exact bIx _ | (unfold x_in; omega) | (unfold x_in; decide)) (fun c2 => ?_) (fun c2 => ?_)
    · have hd := bI_t c2
      obtain ⟨hP2, w0, w1, hR2⟩ := q1 hd
      rw [show (1 : Int).toNat = 1 from rfl] at hP2 w0
      have hnm := pNm_in ht hn 1 (a + 1) 0 (by omega) (by omega) (by omega)
      refine x_iload_n (i := 1) dX6_readsStatement_56 rfl rfl ?_
      refine x_bipush dX6_readsStatement_57 (by decide) ?_
      refine x_icmp_ne (tgt := 82) dX6_readsStatement_59 (by decide) (by first | exact bIx _ | (unfold x_in; omega) | (unfold x_in; decide)) (by first | exact bIx _ | (unfold x_in; omega) | (unfold x_in; decide)) (fun c3 => ?_) (fun c3 => ?_)
      · refine x_iload_n (i := 1) dX6_readsStatement_82 rfl rfl ?_
        refine x_bipush dX6_readsStatement_83 (by decide) ?_
        refine x_icmp_ne (tgt := 138) dX6_readsStatement_85 (by decide) (by first | exact bIx _ | (unfold x_in; omega) | (unfold x_in; decide)) (by first | exact bIx _ | (unfold x_in; omega) | (unfold x_in; decide)) (fun c4 => ?_) (fun c4 => ?_)
        · unfold pStE
          rw [if_pos (by assumption)]
          exact z6_readsStatement μ 101 _ _ tp n _ hn (by omega) ht _ hP2 (hR1.trans hR2) hnm.1.2 w0 (fun q => absurd rfl q)
        · exact absurd c4 (by omega)
      · exact absurd c3 (by omega)
    · refine x_iconst dX6_readsStatement_54 ?_
      refine x_iret dX6_readsStatement_55 rfl (x_narZ (by first | exact Or.inl rfl | exact Or.inr rfl | omega)) ?_
      unfold pStE
      rw [if_neg (by rw [bI_f c2]; decide)]
      have hd := bI_f c2
      rw [q2 hd]
      exact ⟨rfl, hP1, hR1, fun z => by cases z⟩
  · exact absurd c1 (by omega)
set_option maxRecDepth 100000 in
set_option maxHeartbeats 4000000 in
theorem t6_readsStatement (tp : Nat → Int) (n a : Int) (hn : n ≤ 48) (ha : 0 ≤ a) (ht : TB tp) (μ : xM) (hP : PF μ tp n a) (han : a ≤ n) (hc : pSg tp n a = 116) : X E0 shM 3 yX6_readsStatement cX6_readsStatement 2 (some .boolean) 25 [some (.inr (.inl 0)), some (.inl 116)] [] μ (SQ (pStT tp n (a + 1)) 116 μ tp n) := by
  have hl := pSg_lt (tp := tp) (n := n) (a := a) (by omega)
  have h8 := hP.2.2
  have hP1 := hP.at_ (a + 1)
  have hR1 := (RS.rfl' μ).at_ (a + 1)
  refine x_aload_n (i := 0) dX6_readsStatement_25 rfl rfl ?_
  first | refine x_dupR dX6_readsStatement_26 ?_ | refine x_dupI dX6_readsStatement_26 ?_
  refine x_getI xf_RX6_60 dX6_readsStatement_27 rfl rfl ?_
  rw [h8]
  refine x_iconst dX6_readsStatement_30 ?_
  refine x_iadd dX6_readsStatement_31 ?_
  refine x_putI xp_RX6_60 dX6_readsStatement_32 rfl rfl ?_
  refine x_aload_n (i := 0) dX6_readsStatement_35 rfl rfl ?_
  refine x_iconst dX6_readsStatement_36 ?_
  refine x_iload_n (i := 1) dX6_readsStatement_37 rfl rfl ?_
  refine x_bipush dX6_readsStatement_38 (by decide) ?_
  refine x_icmp_ne (tgt := 47) dX6_readsStatement_40 (by decide) (by first | exact bIx _ | (unfold x_in; omega) | (unfold x_in; decide)) (by first | exact bIx _ | (unfold x_in; omega) | (unfold x_in; decide)) (fun c1 => ?_) (fun c1 => ?_)
  · exact absurd c1 (by omega)
  · refine x_iconst dX6_readsStatement_43 ?_
    refine x_goto (tgt := 48) dX6_readsStatement_44 (by decide) ?_
    refine x_cI0_2 lk_RX6_71 xm_X6_readsNumber dX6_readsStatement_48 (s6_readsNumber tp n (a + 1) hn (by omega) ht _ hP1 (by omega) 0 3 (by decide) (by decide)) (fun a1 μ1 hq => ?_)
    obtain ⟨e1, q1, q2⟩ := hq
    cases e1
    refine x_if_ne (tgt := 56) dX6_readsStatement_51 (by decide) (by first | exact bIx _ | (unfold x_in; omega) | (unfold x_in; decide)) (fun c2 => ?_) (fun c2 => ?_)
    · have hd := bI_t c2
      obtain ⟨hP2, w0, w1, hR2⟩ := q1 hd
      rw [show (3 : Int).toNat = 3 from rfl] at hP2 w0
      have hnm := pNm_in ht hn 3 (a + 1) 0 (by omega) (by omega) (by omega)
      refine x_iload_n (i := 1) dX6_readsStatement_56 rfl rfl ?_
      refine x_bipush dX6_readsStatement_57 (by decide) ?_
      refine x_icmp_ne (tgt := 82) dX6_readsStatement_59 (by decide) (by first | exact bIx _ | (unfold x_in; omega) | (unfold x_in; decide)) (by first | exact bIx _ | (unfold x_in; omega) | (unfold x_in; decide)) (fun c3 => ?_) (fun c3 => ?_)
      · exact absurd c3 (by omega)
      · refine x_aload_n (i := 0) dX6_readsStatement_62 rfl rfl ?_
        refine x_bipush dX6_readsStatement_63 (by decide) ?_
        refine x_cIf0_1 lk_RX6_74 xm_X6_takesSign dX6_readsStatement_65 (s6_takesSign tp n _ hn (by omega) ht _ hP2 hnm.1.2 44 (by decide)) ?_
        refine x_if_eq (tgt := 80) dX6_readsStatement_68 (by decide) (by first | exact bIx _ | (unfold x_in; omega) | (unfold x_in; decide)) (fun c4 => ?_) (fun c4 => ?_)
        · refine x_iconst dX6_readsStatement_80 ?_
          refine x_iret dX6_readsStatement_81 rfl (x_narZ (by first | exact Or.inl rfl | exact Or.inr rfl | omega)) ?_
          unfold pStT
          first | (rw [if_neg (by rw [bI_f c2]; decide)]; have hd := bI_f c2; rw [q2 hd]; exact ⟨rfl, hP1, hR1, fun z => by cases z⟩) | (rw [if_pos (by exact bI_t c2), if_neg (by exact bd_of_f c4), pTk_f c4]; exact ⟨rfl, hP2, hR1.trans hR2, fun z => by cases z⟩) | (rw [if_pos (by exact bI_t c2), if_pos (by exact bd_of_t c4), if_neg (by rw [bI_f c5]; decide)]; rw [q4 (bI_f c5)]; exact ⟨rfl, hP3, (hR1.trans hR2).at_ _, fun z => by cases z⟩)
        · rw [pTk_t c4]
          have h44 := bd_of_t c4
          have hP3 := hP2.at_ ((pNm tp n 3 (a + 1) 0).1 + 1)
          have hl3 := pSg_lt (tp := tp) (n := n) (a := (pNm tp n 3 (a + 1) 0).1) (by omega)
          refine x_aload_n (i := 0) dX6_readsStatement_71 rfl rfl ?_
          refine x_iconst dX6_readsStatement_72 ?_
          refine x_iconst dX6_readsStatement_73 ?_
          refine x_cI0_2 lk_RX6_71 xm_X6_readsNumber dX6_readsStatement_74 (s6_readsNumber tp n _ hn (by omega) ht _ hP3 (by omega) 1 3 (by decide) (by decide)) (fun a3 μ3 hq3 => ?_)
          obtain ⟨e2, q3, q4⟩ := hq3
          cases e2
          refine x_if_ne (tgt := 82) dX6_readsStatement_77 (by decide) (by first | exact bIx _ | (unfold x_in; omega) | (unfold x_in; decide)) (fun c5 => ?_) (fun c5 => ?_)
          · have hd5 := bI_t c5
            obtain ⟨hP4, w3, w4, hR4⟩ := q3 hd5
            rw [show (3 : Int).toNat = 3 from rfl] at hP4 w3
            have hnm4 := pNm_in ht hn 3 ((pNm tp n 3 (a + 1) 0).1 + 1) 0 (by omega) (by omega) (by omega)
            refine x_iload_n (i := 1) dX6_readsStatement_82 rfl rfl ?_
            refine x_bipush dX6_readsStatement_83 (by decide) ?_
            refine x_icmp_ne (tgt := 138) dX6_readsStatement_85 (by decide) (by first | exact bIx _ | (unfold x_in; omega) | (unfold x_in; decide)) (by first | exact bIx _ | (unfold x_in; omega) | (unfold x_in; decide)) (fun c6 => ?_) (fun c6 => ?_)
            · unfold pStT
              rw [if_pos (by exact bI_t c2), if_pos (by exact bd_of_t c4), if_pos (by exact bI_t c5)]
              exact z6_readsStatement μ 116 _ _ tp n _ hn (by omega) ht _ hP4 (((hR1.trans hR2).at_ _).trans hR4) hnm4.1.2 (by rw [w4 0 (by decide)]; exact w0) (fun _ => w3)
            · exact absurd c6 (by omega)
          · refine x_iconst dX6_readsStatement_80 ?_
            refine x_iret dX6_readsStatement_81 rfl (x_narZ (by first | exact Or.inl rfl | exact Or.inr rfl | omega)) ?_
            unfold pStT
            first | (rw [if_neg (by rw [bI_f c2]; decide)]; have hd := bI_f c2; rw [q2 hd]; exact ⟨rfl, hP1, hR1, fun z => by cases z⟩) | (rw [if_pos (by exact bI_t c2), if_neg (by exact bd_of_f c4), pTk_f c4]; exact ⟨rfl, hP2, hR1.trans hR2, fun z => by cases z⟩) | (rw [if_pos (by exact bI_t c2), if_pos (by exact bd_of_t c4), if_neg (by rw [bI_f c5]; decide)]; rw [q4 (bI_f c5)]; exact ⟨rfl, hP3, (hR1.trans hR2).at_ _, fun z => by cases z⟩)
    · refine x_iconst dX6_readsStatement_54 ?_
      refine x_iret dX6_readsStatement_55 rfl (x_narZ (by first | exact Or.inl rfl | exact Or.inr rfl | omega)) ?_
      unfold pStT
      first | (rw [if_neg (by rw [bI_f c2]; decide)]; have hd := bI_f c2; rw [q2 hd]; exact ⟨rfl, hP1, hR1, fun z => by cases z⟩) | (rw [if_pos (by exact bI_t c2), if_neg (by exact bd_of_f c4), pTk_f c4]; exact ⟨rfl, hP2, hR1.trans hR2, fun z => by cases z⟩) | (rw [if_pos (by exact bI_t c2), if_pos (by exact bd_of_t c4), if_neg (by rw [bI_f c5]; decide)]; rw [q4 (bI_f c5)]; exact ⟨rfl, hP3, (hR1.trans hR2).at_ _, fun z => by cases z⟩)
set_option maxRecDepth 100000 in
set_option maxHeartbeats 4000000 in
theorem s6_readsStatement (tp : Nat → Int) (n a : Int) (hn : n ≤ 48) (ha : 0 ≤ a) (ht : TB tp) (μ : xM) (hP : PF μ tp n a) (han : a ≤ n) : X E0 shM 3 yX6_readsStatement cX6_readsStatement 2 (some .boolean) 0 [some (.inr (.inl 0)), none] [] μ (SQ (pSt tp n a) (pSg tp n a) μ tp n) := by
  have hs := pSg_in ht hn ha
  unfold pSt
  by_cases k1 : pSg tp n a = 112
  · rw [if_pos k1, k1]
    have K := p6_readsStatement tp n a hn ha ht μ hP han k1
    refine x_aload_n (i := 0) dX6_readsStatement_0 rfl rfl ?_
    refine x_cIp0_0 lk_RX6_63 xm_X6_sign dX6_readsStatement_1 (s6_sign tp n a hn ha ht _ hP han) ?_
    rw [k1]
    refine x_istore_1 dX6_readsStatement_4 (by decide) rfl ?_
    refine x_iload_n (i := 1) dX6_readsStatement_5 rfl rfl ?_
    refine x_bipush dX6_readsStatement_6 (by decide) ?_
    refine x_icmp_eq (tgt := 25) dX6_readsStatement_8 (by decide) (by first | (unfold x_in; omega) | (unfold x_in; decide)) (by first | (unfold x_in; omega) | (unfold x_in; decide)) (fun c1 => ?_) (fun c1 => ?_)
    · exact K
    · exact absurd c1 (by omega)
  · rw [if_neg k1]
    by_cases k2 : pSg tp n a = 116
    · rw [if_pos k2, k2]
      have K := t6_readsStatement tp n a hn ha ht μ hP han k2
      refine x_aload_n (i := 0) dX6_readsStatement_0 rfl rfl ?_
      refine x_cIp0_0 lk_RX6_63 xm_X6_sign dX6_readsStatement_1 (s6_sign tp n a hn ha ht _ hP han) ?_
      rw [k2]
      refine x_istore_1 dX6_readsStatement_4 (by decide) rfl ?_
      refine x_iload_n (i := 1) dX6_readsStatement_5 rfl rfl ?_
      refine x_bipush dX6_readsStatement_6 (by decide) ?_
      refine x_icmp_eq (tgt := 25) dX6_readsStatement_8 (by decide) (by first | (unfold x_in; omega) | (unfold x_in; decide)) (by first | (unfold x_in; omega) | (unfold x_in; decide)) (fun c1 => ?_) (fun c1 => ?_)
      · exact absurd c1 (by omega)
      · refine x_iload_n (i := 1) dX6_readsStatement_11 rfl rfl ?_
        refine x_bipush dX6_readsStatement_12 (by decide) ?_
        refine x_icmp_eq (tgt := 25) dX6_readsStatement_14 (by decide) (by first | (unfold x_in; omega) | (unfold x_in; decide)) (by first | (unfold x_in; omega) | (unfold x_in; decide)) (fun c2 => ?_) (fun c2 => ?_)
        · exact K
        · exact absurd c2 (by omega)
    · rw [if_neg k2]
      by_cases k3 : pSg tp n a = 101
      · rw [if_pos k3, k3]
        have K := e6_readsStatement tp n a hn ha ht μ hP han k3
        refine x_aload_n (i := 0) dX6_readsStatement_0 rfl rfl ?_
        refine x_cIp0_0 lk_RX6_63 xm_X6_sign dX6_readsStatement_1 (s6_sign tp n a hn ha ht _ hP han) ?_
        rw [k3]
        refine x_istore_1 dX6_readsStatement_4 (by decide) rfl ?_
        refine x_iload_n (i := 1) dX6_readsStatement_5 rfl rfl ?_
        refine x_bipush dX6_readsStatement_6 (by decide) ?_
        refine x_icmp_eq (tgt := 25) dX6_readsStatement_8 (by decide) (by first | (unfold x_in; omega) | (unfold x_in; decide)) (by first | (unfold x_in; omega) | (unfold x_in; decide)) (fun c1 => ?_) (fun c1 => ?_)
        · exact absurd c1 (by omega)
        · refine x_iload_n (i := 1) dX6_readsStatement_11 rfl rfl ?_
          refine x_bipush dX6_readsStatement_12 (by decide) ?_
          refine x_icmp_eq (tgt := 25) dX6_readsStatement_14 (by decide) (by first | (unfold x_in; omega) | (unfold x_in; decide)) (by first | (unfold x_in; omega) | (unfold x_in; decide)) (fun c2 => ?_) (fun c2 => ?_)
          · exact absurd c2 (by omega)
          · refine x_iload_n (i := 1) dX6_readsStatement_17 rfl rfl ?_
            refine x_bipush dX6_readsStatement_18 (by decide) ?_
            refine x_icmp_eq (tgt := 25) dX6_readsStatement_20 (by decide) (by first | (unfold x_in; omega) | (unfold x_in; decide)) (by first | (unfold x_in; omega) | (unfold x_in; decide)) (fun c3 => ?_) (fun c3 => ?_)
            · exact K
            · exact absurd c3 (by omega)
      · rw [if_neg k3]
        refine x_aload_n (i := 0) dX6_readsStatement_0 rfl rfl ?_
        refine x_cIp0_0 lk_RX6_63 xm_X6_sign dX6_readsStatement_1 (s6_sign tp n a hn ha ht _ hP han) ?_
        refine x_istore_1 dX6_readsStatement_4 (by decide) rfl ?_
        refine x_iload_n (i := 1) dX6_readsStatement_5 rfl rfl ?_
        refine x_bipush dX6_readsStatement_6 (by decide) ?_
        refine x_icmp_eq (tgt := 25) dX6_readsStatement_8 (by decide) (by first | (unfold x_in; omega) | (unfold x_in; decide)) (by first | (unfold x_in; omega) | (unfold x_in; decide)) (fun c1 => ?_) (fun c1 => ?_)
        · exact absurd c1 (by omega)
        · refine x_iload_n (i := 1) dX6_readsStatement_11 rfl rfl ?_
          refine x_bipush dX6_readsStatement_12 (by decide) ?_
          refine x_icmp_eq (tgt := 25) dX6_readsStatement_14 (by decide) (by first | (unfold x_in; omega) | (unfold x_in; decide)) (by first | (unfold x_in; omega) | (unfold x_in; decide)) (fun c2 => ?_) (fun c2 => ?_)
          · exact absurd c2 (by omega)
          · refine x_iload_n (i := 1) dX6_readsStatement_17 rfl rfl ?_
            refine x_bipush dX6_readsStatement_18 (by decide) ?_
            refine x_icmp_eq (tgt := 25) dX6_readsStatement_20 (by decide) (by first | (unfold x_in; omega) | (unfold x_in; decide)) (by first | (unfold x_in; omega) | (unfold x_in; decide)) (fun c3 => ?_) (fun c3 => ?_)
            · exact absurd c3 (by omega)
            · refine x_iconst dX6_readsStatement_23 ?_
              refine x_iret dX6_readsStatement_24 rfl (x_narZ (by first | exact Or.inl rfl | exact Or.inr rfl | omega)) ?_
              exact ⟨rfl, hP, RS.rfl' μ, fun z => by cases z⟩
