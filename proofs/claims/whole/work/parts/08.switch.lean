/-! switches by the number of cases -/
section XSW
variable {E : xE} {sh : List xS} {d : Nat} {y : MethodName} {cc : ByteArray} {nL : Nat} {ret : Option FieldType} {pc : Nat} {lv : List (Option xA)} {st : List xA} {μ : xM} {Q : Option xA → xM → Prop} {len : Nat} {dflt a : Int} {td : Nat}
theorem x_tab3 {lo hi o0 o1 o2 : Int} {t0 t1 t2 : Nat} (hdg : decode cc pc = .ok (.tableswitch dflt lo hi #[o0, o1, o2], len)) (ha : x_in a) (hhi : hi = lo + 2) (e0 : (pc : Int) + o0 = (t0 : Int)) (e1 : (pc : Int) + o1 = (t1 : Int)) (e2 : (pc : Int) + o2 = (t2 : Int)) (hd : (pc : Int) + dflt = (td : Int)) (k0 : a = lo + 0 → X E sh d y cc nL ret t0 lv st μ Q) (k1 : a = lo + 1 → X E sh d y cc nL ret t1 lv st μ Q) (k2 : a = lo + 2 → X E sh d y cc nL ret t2 lv st μ Q) (kd : a < lo ∨ hi < a → X E sh d y cc nL ret td lv st μ Q) : X E sh d y cc nL ret pc lv (.inl a :: st) μ Q := by
  by_cases h0 : a = lo + 0
  · exact x_tableAt hdg ha (by omega) (by omega) (by rw [h0, show lo + 0 - lo = 0 by omega]; rfl) e0 (k0 h0)
  by_cases h1 : a = lo + 1
  · exact x_tableAt hdg ha (by omega) (by omega) (by rw [h1, show lo + 1 - lo = 1 by omega]; rfl) e1 (k1 h1)
  by_cases h2 : a = lo + 2
  · exact x_tableAt hdg ha (by omega) (by omega) (by rw [h2, show lo + 2 - lo = 2 by omega]; rfl) e2 (k2 h2)
  exact x_tableOut hdg ha (by omega) hd (kd (by omega))
theorem x_tab8 {lo hi o0 o1 o2 o3 o4 o5 o6 o7 : Int} {t0 t1 t2 t3 t4 t5 t6 t7 : Nat} (hdg : decode cc pc = .ok (.tableswitch dflt lo hi #[o0, o1, o2, o3, o4, o5, o6, o7], len)) (ha : x_in a) (hhi : hi = lo + 7) (e0 : (pc : Int) + o0 = (t0 : Int)) (e1 : (pc : Int) + o1 = (t1 : Int)) (e2 : (pc : Int) + o2 = (t2 : Int)) (e3 : (pc : Int) + o3 = (t3 : Int)) (e4 : (pc : Int) + o4 = (t4 : Int)) (e5 : (pc : Int) + o5 = (t5 : Int)) (e6 : (pc : Int) + o6 = (t6 : Int)) (e7 : (pc : Int) + o7 = (t7 : Int)) (hd : (pc : Int) + dflt = (td : Int)) (k0 : a = lo + 0 → X E sh d y cc nL ret t0 lv st μ Q) (k1 : a = lo + 1 → X E sh d y cc nL ret t1 lv st μ Q) (k2 : a = lo + 2 → X E sh d y cc nL ret t2 lv st μ Q) (k3 : a = lo + 3 → X E sh d y cc nL ret t3 lv st μ Q) (k4 : a = lo + 4 → X E sh d y cc nL ret t4 lv st μ Q) (k5 : a = lo + 5 → X E sh d y cc nL ret t5 lv st μ Q) (k6 : a = lo + 6 → X E sh d y cc nL ret t6 lv st μ Q) (k7 : a = lo + 7 → X E sh d y cc nL ret t7 lv st μ Q) (kd : a < lo ∨ hi < a → X E sh d y cc nL ret td lv st μ Q) : X E sh d y cc nL ret pc lv (.inl a :: st) μ Q := by
  by_cases h0 : a = lo + 0
  · exact x_tableAt hdg ha (by omega) (by omega) (by rw [h0, show lo + 0 - lo = 0 by omega]; rfl) e0 (k0 h0)
  by_cases h1 : a = lo + 1
  · exact x_tableAt hdg ha (by omega) (by omega) (by rw [h1, show lo + 1 - lo = 1 by omega]; rfl) e1 (k1 h1)
  by_cases h2 : a = lo + 2
  · exact x_tableAt hdg ha (by omega) (by omega) (by rw [h2, show lo + 2 - lo = 2 by omega]; rfl) e2 (k2 h2)
  by_cases h3 : a = lo + 3
  · exact x_tableAt hdg ha (by omega) (by omega) (by rw [h3, show lo + 3 - lo = 3 by omega]; rfl) e3 (k3 h3)
  by_cases h4 : a = lo + 4
  · exact x_tableAt hdg ha (by omega) (by omega) (by rw [h4, show lo + 4 - lo = 4 by omega]; rfl) e4 (k4 h4)
  by_cases h5 : a = lo + 5
  · exact x_tableAt hdg ha (by omega) (by omega) (by rw [h5, show lo + 5 - lo = 5 by omega]; rfl) e5 (k5 h5)
  by_cases h6 : a = lo + 6
  · exact x_tableAt hdg ha (by omega) (by omega) (by rw [h6, show lo + 6 - lo = 6 by omega]; rfl) e6 (k6 h6)
  by_cases h7 : a = lo + 7
  · exact x_tableAt hdg ha (by omega) (by omega) (by rw [h7, show lo + 7 - lo = 7 by omega]; rfl) e7 (k7 h7)
  exact x_tableOut hdg ha (by omega) hd (kd (by omega))
theorem x_tab26 {lo hi o0 o1 o2 o3 o4 o5 o6 o7 o8 o9 o10 o11 o12 o13 o14 o15 o16 o17 o18 o19 o20 o21 o22 o23 o24 o25 : Int} {t0 t1 t2 t3 t4 t5 t6 t7 t8 t9 t10 t11 t12 t13 t14 t15 t16 t17 t18 t19 t20 t21 t22 t23 t24 t25 : Nat} (hdg : decode cc pc = .ok (.tableswitch dflt lo hi #[o0, o1, o2, o3, o4, o5, o6, o7, o8, o9, o10, o11, o12, o13, o14, o15, o16, o17, o18, o19, o20, o21, o22, o23, o24, o25], len)) (ha : x_in a) (hhi : hi = lo + 25) (e0 : (pc : Int) + o0 = (t0 : Int)) (e1 : (pc : Int) + o1 = (t1 : Int)) (e2 : (pc : Int) + o2 = (t2 : Int)) (e3 : (pc : Int) + o3 = (t3 : Int)) (e4 : (pc : Int) + o4 = (t4 : Int)) (e5 : (pc : Int) + o5 = (t5 : Int)) (e6 : (pc : Int) + o6 = (t6 : Int)) (e7 : (pc : Int) + o7 = (t7 : Int)) (e8 : (pc : Int) + o8 = (t8 : Int)) (e9 : (pc : Int) + o9 = (t9 : Int)) (e10 : (pc : Int) + o10 = (t10 : Int)) (e11 : (pc : Int) + o11 = (t11 : Int)) (e12 : (pc : Int) + o12 = (t12 : Int)) (e13 : (pc : Int) + o13 = (t13 : Int)) (e14 : (pc : Int) + o14 = (t14 : Int)) (e15 : (pc : Int) + o15 = (t15 : Int)) (e16 : (pc : Int) + o16 = (t16 : Int)) (e17 : (pc : Int) + o17 = (t17 : Int)) (e18 : (pc : Int) + o18 = (t18 : Int)) (e19 : (pc : Int) + o19 = (t19 : Int)) (e20 : (pc : Int) + o20 = (t20 : Int)) (e21 : (pc : Int) + o21 = (t21 : Int)) (e22 : (pc : Int) + o22 = (t22 : Int)) (e23 : (pc : Int) + o23 = (t23 : Int)) (e24 : (pc : Int) + o24 = (t24 : Int)) (e25 : (pc : Int) + o25 = (t25 : Int)) (hd : (pc : Int) + dflt = (td : Int)) (k0 : a = lo + 0 → X E sh d y cc nL ret t0 lv st μ Q) (k1 : a = lo + 1 → X E sh d y cc nL ret t1 lv st μ Q) (k2 : a = lo + 2 → X E sh d y cc nL ret t2 lv st μ Q) (k3 : a = lo + 3 → X E sh d y cc nL ret t3 lv st μ Q) (k4 : a = lo + 4 → X E sh d y cc nL ret t4 lv st μ Q) (k5 : a = lo + 5 → X E sh d y cc nL ret t5 lv st μ Q) (k6 : a = lo + 6 → X E sh d y cc nL ret t6 lv st μ Q) (k7 : a = lo + 7 → X E sh d y cc nL ret t7 lv st μ Q) (k8 : a = lo + 8 → X E sh d y cc nL ret t8 lv st μ Q) (k9 : a = lo + 9 → X E sh d y cc nL ret t9 lv st μ Q) (k10 : a = lo + 10 → X E sh d y cc nL ret t10 lv st μ Q) (k11 : a = lo + 11 → X E sh d y cc nL ret t11 lv st μ Q) (k12 : a = lo + 12 → X E sh d y cc nL ret t12 lv st μ Q) (k13 : a = lo + 13 → X E sh d y cc nL ret t13 lv st μ Q) (k14 : a = lo + 14 → X E sh d y cc nL ret t14 lv st μ Q) (k15 : a = lo + 15 → X E sh d y cc nL ret t15 lv st μ Q) (k16 : a = lo + 16 → X E sh d y cc nL ret t16 lv st μ Q) (k17 : a = lo + 17 → X E sh d y cc nL ret t17 lv st μ Q) (k18 : a = lo + 18 → X E sh d y cc nL ret t18 lv st μ Q) (k19 : a = lo + 19 → X E sh d y cc nL ret t19 lv st μ Q) (k20 : a = lo + 20 → X E sh d y cc nL ret t20 lv st μ Q) (k21 : a = lo + 21 → X E sh d y cc nL ret t21 lv st μ Q) (k22 : a = lo + 22 → X E sh d y cc nL ret t22 lv st μ Q) (k23 : a = lo + 23 → X E sh d y cc nL ret t23 lv st μ Q) (k24 : a = lo + 24 → X E sh d y cc nL ret t24 lv st μ Q) (k25 : a = lo + 25 → X E sh d y cc nL ret t25 lv st μ Q) (kd : a < lo ∨ hi < a → X E sh d y cc nL ret td lv st μ Q) : X E sh d y cc nL ret pc lv (.inl a :: st) μ Q := by
  by_cases h0 : a = lo + 0
  · exact x_tableAt hdg ha (by omega) (by omega) (by rw [h0, show lo + 0 - lo = 0 by omega]; rfl) e0 (k0 h0)
  by_cases h1 : a = lo + 1
  · exact x_tableAt hdg ha (by omega) (by omega) (by rw [h1, show lo + 1 - lo = 1 by omega]; rfl) e1 (k1 h1)
  by_cases h2 : a = lo + 2
  · exact x_tableAt hdg ha (by omega) (by omega) (by rw [h2, show lo + 2 - lo = 2 by omega]; rfl) e2 (k2 h2)
  by_cases h3 : a = lo + 3
  · exact x_tableAt hdg ha (by omega) (by omega) (by rw [h3, show lo + 3 - lo = 3 by omega]; rfl) e3 (k3 h3)
  by_cases h4 : a = lo + 4
  · exact x_tableAt hdg ha (by omega) (by omega) (by rw [h4, show lo + 4 - lo = 4 by omega]; rfl) e4 (k4 h4)
  by_cases h5 : a = lo + 5
  · exact x_tableAt hdg ha (by omega) (by omega) (by rw [h5, show lo + 5 - lo = 5 by omega]; rfl) e5 (k5 h5)
  by_cases h6 : a = lo + 6
  · exact x_tableAt hdg ha (by omega) (by omega) (by rw [h6, show lo + 6 - lo = 6 by omega]; rfl) e6 (k6 h6)
  by_cases h7 : a = lo + 7
  · exact x_tableAt hdg ha (by omega) (by omega) (by rw [h7, show lo + 7 - lo = 7 by omega]; rfl) e7 (k7 h7)
  by_cases h8 : a = lo + 8
  · exact x_tableAt hdg ha (by omega) (by omega) (by rw [h8, show lo + 8 - lo = 8 by omega]; rfl) e8 (k8 h8)
  by_cases h9 : a = lo + 9
  · exact x_tableAt hdg ha (by omega) (by omega) (by rw [h9, show lo + 9 - lo = 9 by omega]; rfl) e9 (k9 h9)
  by_cases h10 : a = lo + 10
  · exact x_tableAt hdg ha (by omega) (by omega) (by rw [h10, show lo + 10 - lo = 10 by omega]; rfl) e10 (k10 h10)
  by_cases h11 : a = lo + 11
  · exact x_tableAt hdg ha (by omega) (by omega) (by rw [h11, show lo + 11 - lo = 11 by omega]; rfl) e11 (k11 h11)
  by_cases h12 : a = lo + 12
  · exact x_tableAt hdg ha (by omega) (by omega) (by rw [h12, show lo + 12 - lo = 12 by omega]; rfl) e12 (k12 h12)
  by_cases h13 : a = lo + 13
  · exact x_tableAt hdg ha (by omega) (by omega) (by rw [h13, show lo + 13 - lo = 13 by omega]; rfl) e13 (k13 h13)
  by_cases h14 : a = lo + 14
  · exact x_tableAt hdg ha (by omega) (by omega) (by rw [h14, show lo + 14 - lo = 14 by omega]; rfl) e14 (k14 h14)
  by_cases h15 : a = lo + 15
  · exact x_tableAt hdg ha (by omega) (by omega) (by rw [h15, show lo + 15 - lo = 15 by omega]; rfl) e15 (k15 h15)
  by_cases h16 : a = lo + 16
  · exact x_tableAt hdg ha (by omega) (by omega) (by rw [h16, show lo + 16 - lo = 16 by omega]; rfl) e16 (k16 h16)
  by_cases h17 : a = lo + 17
  · exact x_tableAt hdg ha (by omega) (by omega) (by rw [h17, show lo + 17 - lo = 17 by omega]; rfl) e17 (k17 h17)
  by_cases h18 : a = lo + 18
  · exact x_tableAt hdg ha (by omega) (by omega) (by rw [h18, show lo + 18 - lo = 18 by omega]; rfl) e18 (k18 h18)
  by_cases h19 : a = lo + 19
  · exact x_tableAt hdg ha (by omega) (by omega) (by rw [h19, show lo + 19 - lo = 19 by omega]; rfl) e19 (k19 h19)
  by_cases h20 : a = lo + 20
  · exact x_tableAt hdg ha (by omega) (by omega) (by rw [h20, show lo + 20 - lo = 20 by omega]; rfl) e20 (k20 h20)
  by_cases h21 : a = lo + 21
  · exact x_tableAt hdg ha (by omega) (by omega) (by rw [h21, show lo + 21 - lo = 21 by omega]; rfl) e21 (k21 h21)
  by_cases h22 : a = lo + 22
  · exact x_tableAt hdg ha (by omega) (by omega) (by rw [h22, show lo + 22 - lo = 22 by omega]; rfl) e22 (k22 h22)
  by_cases h23 : a = lo + 23
  · exact x_tableAt hdg ha (by omega) (by omega) (by rw [h23, show lo + 23 - lo = 23 by omega]; rfl) e23 (k23 h23)
  by_cases h24 : a = lo + 24
  · exact x_tableAt hdg ha (by omega) (by omega) (by rw [h24, show lo + 24 - lo = 24 by omega]; rfl) e24 (k24 h24)
  by_cases h25 : a = lo + 25
  · exact x_tableAt hdg ha (by omega) (by omega) (by rw [h25, show lo + 25 - lo = 25 by omega]; rfl) e25 (k25 h25)
  exact x_tableOut hdg ha (by omega) hd (kd (by omega))
theorem x_lk2 {o0 o1 b0 b1 : Int} {t0 t1 : Nat} (hdg : decode cc pc = .ok (.lookupswitch dflt #[(b0, o0), (b1, o1)], len)) (hp : (#[(b0, o0), (b1, o1)].toList.zip (#[(b0, o0), (b1, o1)].toList.drop 1)).all (fun (a, next) => decide (a.1 < next.1)) = true) (ha : x_in a) (e0 : (pc : Int) + o0 = (t0 : Int)) (e1 : (pc : Int) + o1 = (t1 : Int)) (hd : (pc : Int) + dflt = (td : Int)) (k0 : a = b0 → X E sh d y cc nL ret t0 lv st μ Q) (k1 : a = b1 → X E sh d y cc nL ret t1 lv st μ Q) (kd : a ≠ b0 ∧ a ≠ b1 → X E sh d y cc nL ret td lv st μ Q) : X E sh d y cc nL ret pc lv (.inl a :: st) μ Q := by
  by_cases h0 : a = b0
  · refine x_lookup hdg hp ha ?_ e0 (k0 h0)
    subst h0
    simp [Op.lookupswitch.offset]
  by_cases h1 : a = b1
  · refine x_lookup hdg hp ha ?_ e1 (k1 h1)
    subst h1
    simp [Op.lookupswitch.offset, h0, Ne.symm h0]
  refine x_lookup hdg hp ha ?_ hd (kd ⟨h0, h1⟩)
  simp [Op.lookupswitch.offset, h0, Ne.symm h0, h1, Ne.symm h1]
theorem x_lk3 {o0 o1 o2 b0 b1 b2 : Int} {t0 t1 t2 : Nat} (hdg : decode cc pc = .ok (.lookupswitch dflt #[(b0, o0), (b1, o1), (b2, o2)], len)) (hp : (#[(b0, o0), (b1, o1), (b2, o2)].toList.zip (#[(b0, o0), (b1, o1), (b2, o2)].toList.drop 1)).all (fun (a, next) => decide (a.1 < next.1)) = true) (ha : x_in a) (e0 : (pc : Int) + o0 = (t0 : Int)) (e1 : (pc : Int) + o1 = (t1 : Int)) (e2 : (pc : Int) + o2 = (t2 : Int)) (hd : (pc : Int) + dflt = (td : Int)) (k0 : a = b0 → X E sh d y cc nL ret t0 lv st μ Q) (k1 : a = b1 → X E sh d y cc nL ret t1 lv st μ Q) (k2 : a = b2 → X E sh d y cc nL ret t2 lv st μ Q) (kd : a ≠ b0 ∧ a ≠ b1 ∧ a ≠ b2 → X E sh d y cc nL ret td lv st μ Q) : X E sh d y cc nL ret pc lv (.inl a :: st) μ Q := by
  by_cases h0 : a = b0
  · refine x_lookup hdg hp ha ?_ e0 (k0 h0)
    subst h0
    simp [Op.lookupswitch.offset]
  by_cases h1 : a = b1
  · refine x_lookup hdg hp ha ?_ e1 (k1 h1)
    subst h1
    simp [Op.lookupswitch.offset, h0, Ne.symm h0]
  by_cases h2 : a = b2
  · refine x_lookup hdg hp ha ?_ e2 (k2 h2)
    subst h2
    simp [Op.lookupswitch.offset, h0, Ne.symm h0, h1, Ne.symm h1]
  refine x_lookup hdg hp ha ?_ hd (kd ⟨h0, h1, h2⟩)
  simp [Op.lookupswitch.offset, h0, Ne.symm h0, h1, Ne.symm h1, h2, Ne.symm h2]
end XSW

section XK
variable {E : xE} {sh : List xS} {d : Nat} {y : MethodName} {cc : ByteArray} {nL : Nat} {ret : Option FieldType} {pc : Nat} {lv : List (Option xA)} {st : List xA} {μ : xM} {Q : Option xA → xM → Prop}
theorem x_ok {a e : Int} {m : xM} (h : a = e) (hm : μ = m) : x_Q e m (some (.inl a)) μ := ⟨by rw [h], hm⟩
theorem x_ialdK {o n K : Nat} {i : Int} (hdg : decode cc pc = .ok (.iaload, 1)) (hs : sh[o]? = some (.inl (n, false))) (hK : i = (K : Int)) (hKn : K < n) (hn : n < 2147483648) (kk : X E sh d y cc nL ret (pc + 1) lv (.inl (μ o K) :: st) μ Q) : X E sh d y cc nL ret pc lv (.inl i :: .inr (.inl o) :: st) μ Q := by
  subst hK
  exact x_iald hdg hs hn (by omega) (by omega) (by rw [Int.toNat_natCast]; exact kk)
theorem x_iastK {o n K : Nat} {i a : Int} (hdg : decode cc pc = .ok (.iastore, 1)) (hs : sh[o]? = some (.inl (n, false))) (hK : i = (K : Int)) (hKn : K < n) (hn : n < 2147483648) (kk : X E sh d y cc nL ret (pc + 1) lv st (x_st μ o K a) Q) : X E sh d y cc nL ret pc lv (.inl a :: .inl i :: .inr (.inl o) :: st) μ Q := by
  subst hK
  exact x_iast hdg hs hn (by omega) (by omega) (by rw [Int.toNat_natCast]; exact kk)
theorem x_zaldK {o n K : Nat} {i : Int} (hdg : decode cc pc = .ok (.baload, 1)) (hs : sh[o]? = some (.inl (n, true))) (hK : i = (K : Int)) (hKn : K < n) (hn : n < 2147483648) (kk : X E sh d y cc nL ret (pc + 1) lv (.inl (μ o K) :: st) μ Q) : X E sh d y cc nL ret pc lv (.inl i :: .inr (.inl o) :: st) μ Q := by
  subst hK
  exact x_zald hdg hs hn (by omega) (by omega) (by rw [Int.toNat_natCast]; exact kk)
theorem x_zastK {o n K : Nat} {i a : Int} (hdg : decode cc pc = .ok (.bastore, 1)) (hs : sh[o]? = some (.inl (n, true))) (hK : i = (K : Int)) (hKn : K < n) (hn : n < 2147483648) (ha : a = 0 ∨ a = 1) (kk : X E sh d y cc nL ret (pc + 1) lv st (x_st μ o K a) Q) : X E sh d y cc nL ret pc lv (.inl a :: .inl i :: .inr (.inl o) :: st) μ Q := by
  subst hK
  exact x_zast hdg hs hn (by omega) (by omega) ha (by rw [Int.toNat_natCast]; exact kk)
end XK
