/-- all about the two meets: numbers and bounds -/
theorem gx_all {a1 a2 c e x y q1 q2 : Int64} (h1 : gp_b a1 200) (h2 : gp_b a2 200) (h3 : gp_b c 200) (h4 : gp_b e 200) (h5 : gp_b x 200) (h6 : gp_b y 200) (h7 : gp_b q1 400) (h8 : gp_b q2 400) (hl : gp_b (c * c + e * e) 80000) (hp : 0 < (c * c + e * e).toInt) :
    (gr_mc (2 * c) (2 * e) ((x - a1) * (2 * c) + (y - a2) * (2 * e)) ((q1 - a1) * (2 * c) + (q2 - a2) * (2 * e)) (-(x - a1) * (2 * e) + (y - a2) * (2 * c)) (-(q1 - a1) * (2 * e) + (q2 - a2) * (2 * c)) ↔ gp_mc (c * c + e * e) ((x - a1) * c + (y - a2) * e) ((q1 - a1) * c + (q2 - a2) * e) ((y - a2) * c - (x - a1) * e) ((q2 - a2) * c - (q1 - a1) * e)) ∧
    (gp_mc (c * c + e * e) ((x - a1) * c + (y - a2) * e) ((q1 - a1) * c + (q2 - a2) * e) ((y - a2) * c - (x - a1) * e) ((q2 - a2) * c - (q1 - a1) * e) →
      gr_nu ((x - a1) * (2 * c) + (y - a2) * (2 * e)) ((q1 - a1) * (2 * c) + (q2 - a2) * (2 * e)) (-(x - a1) * (2 * e) + (y - a2) * (2 * c)) (-(q1 - a1) * (2 * e) + (q2 - a2) * (2 * c)) = 4 * gp_ma ((x - a1) * c + (y - a2) * e) ((q1 - a1) * c + (q2 - a2) * e) ((y - a2) * c - (x - a1) * e) ((q2 - a2) * c - (q1 - a1) * e) ∧
      (2 * c * (2 * c) + 2 * e * (2 * e)) * gr_su (-(x - a1) * (2 * e) + (y - a2) * (2 * c)) (-(q1 - a1) * (2 * e) + (q2 - a2) * (2 * c)) = 4 * gp_mw (c * c + e * e) ((y - a2) * c - (x - a1) * e) ((q2 - a2) * c - (q1 - a1) * e) ∧
      0 ≤ (gp_ma ((x - a1) * c + (y - a2) * e) ((q1 - a1) * c + (q2 - a2) * e) ((y - a2) * c - (x - a1) * e) ((q2 - a2) * c - (q1 - a1) * e)).toInt ∧
      (gp_ma ((x - a1) * c + (y - a2) * e) ((q1 - a1) * c + (q2 - a2) * e) ((y - a2) * c - (x - a1) * e) ((q2 - a2) * c - (q1 - a1) * e)).toInt ≤ (gp_mw (c * c + e * e) ((y - a2) * c - (x - a1) * e) ((q2 - a2) * c - (q1 - a1) * e)).toInt ∧
      gp_b (gp_mw (c * c + e * e) ((y - a2) * c - (x - a1) * e) ((q2 - a2) * c - (q1 - a1) * e)) 100000000000 ∧ 0 < (gp_mw (c * c + e * e) ((y - a2) * c - (x - a1) * e) ((q2 - a2) * c - (q1 - a1) * e)).toInt) := by
  have i1 : (x - a1) * (2 * c) + (y - a2) * (2 * e) = 2 * ((x - a1) * c + (y - a2) * e) := by grind
  have i2 : (q1 - a1) * (2 * c) + (q2 - a2) * (2 * e) = 2 * ((q1 - a1) * c + (q2 - a2) * e) := by grind
  have i3 : -(x - a1) * (2 * e) + (y - a2) * (2 * c) = 2 * ((y - a2) * c - (x - a1) * e) := by grind
  have i4 : -(q1 - a1) * (2 * e) + (q2 - a2) * (2 * c) = 2 * ((q2 - a2) * c - (q1 - a1) * e) := by grind
  have i5 : 2 * c * (2 * c) + 2 * e * (2 * e) = 4 * (c * c + e * e) := by grind
  have d1 : gp_b (x - a1) 400 := gp_bS h5 h1 (by decide) (by decide)
  have d2 : gp_b (y - a2) 400 := gp_bS h6 h2 (by decide) (by decide)
  have d3 : gp_b (q1 - a1) 600 := gp_bS h7 h1 (by decide) (by decide)
  have d4 : gp_b (q2 - a2) 600 := gp_bS h8 h2 (by decide) (by decide)
  have o1 : gp_b ((y - a2) * c - (x - a1) * e) 160000 := gp_bS (gx_m (N := 80000) d2 h3 (by decide) (by decide)).2 (gx_m (N := 80000) d1 h4 (by decide) (by decide)).2 (by decide) (by decide)
  have o2 : gp_b ((q2 - a2) * c - (q1 - a1) * e) 240000 := gp_bS (gx_m (N := 120000) d4 h3 (by decide) (by decide)).2 (gx_m (N := 120000) d3 h4 (by decide) (by decide)).2 (by decide) (by decide)
  have l1 : gp_b ((x - a1) * c + (y - a2) * e) 160000 := gp_bA (gx_m (N := 80000) d1 h3 (by decide) (by decide)).2 (gx_m (N := 80000) d2 h4 (by decide) (by decide)).2 (by decide) (by decide)
  have l2 : gp_b ((q1 - a1) * c + (q2 - a2) * e) 240000 := gp_bA (gx_m (N := 120000) d3 h3 (by decide) (by decide)).2 (gx_m (N := 120000) d4 h4 (by decide) (by decide)).2 (by decide) (by decide)
  rw [i1, i2, i3, i4]
  generalize (x - a1) * c + (y - a2) * e = AE at *
  generalize (q1 - a1) * c + (q2 - a2) * e = AQ at *
  generalize (y - a2) * c - (x - a1) * e = EO at *
  generalize (q2 - a2) * c - (q1 - a1) * e = PO at *
  generalize c * c + e * e = LN at *
  have al : gp_b (AE * PO + AQ * EO) 76800000000 := gp_bA (gx_m (N := 38400000000) l1 o2 (by decide) (by decide)).2 (gx_m (N := 38400000000) l2 o1 (by decide) (by decide)).2 (by decide) (by decide)
  have sm : gp_b (EO + PO) 400000 := gp_bA o1 o2 (by decide) (by decide)
  have t2 := gx_2 hl (by decide)
  have l4 : gp_b (2 * LN) 160000 := by unfold gp_b at *; omega
  obtain ⟨w1, w2⟩ := gx_m (N := 64000000000) l4 sm (by decide) (by decide)
  have ts := gx_a o1 o2 (by decide) (by decide)
  have wn := gx_n w2 (by decide)
  obtain ⟨m1, m2⟩ := gx_mc (u1 := 2 * c) (u2 := 2 * e) (len := LN) (ae := AE) (aq := AQ) (eo := EO) (po := PO) i5 (by unfold gp_b at *; omega) (by unfold gp_b at *; omega) (by unfold gp_b at *; omega) (by unfold gp_b at *; omega)
  refine ⟨m1, fun h => ?_⟩
  obtain ⟨n1, n2, n3, n4, n5⟩ := m2 h
  refine ⟨n1, n2, n3, n4, ?_, ?_⟩
  · unfold gp_mw
    split
    · unfold gp_b at *; omega
    · unfold gp_b at *; omega
  · have z0 : (0 : Int64).toInt = 0 := by decide
    unfold gp_mc at h
    unfold gp_mw
    rw [t2, ts] at w1
    rcases h with ⟨p1, p2, _⟩ | ⟨p1, p2, _⟩
    · rw [if_pos p1, w1]
      have p1 := Int64.lt_iff_toInt_lt.mp p1
      have p2 := Int64.lt_iff_toInt_lt.mp p2
      exact Int.mul_pos (by omega) (by omega)
    · have p1' : ¬ 0 < EO := fun q => by have := Int64.lt_iff_toInt_lt.mp q; have := Int64.lt_iff_toInt_lt.mp p1; omega
      rw [if_neg p1', wn, w1]
      have p1 := Int64.lt_iff_toInt_lt.mp p1
      have p2 := Int64.lt_iff_toInt_lt.mp p2
      have := Int.mul_pos (a := 2 * LN.toInt) (b := -(EO.toInt + PO.toInt)) (by omega) (by omega)
      rw [Int.mul_neg] at this
      exact this
theorem gx_cs {ax ay bx b2 low ex ey : Int32} {st isw wax way wbx wby pit : Nat → Int32} {ge : Nat → Nat → Int64} {rr : Nat → Nat → Int32} {q1 q2 : Int64} (h1 : sp_in ax (-100) 100) (h2 : sp_in ay (-100) 100) (h3 : sp_in bx (-100) 100) (h4 : sp_in b2 (-100) 100) (nd : ¬ (ax = bx ∧ ay = b2)) (bl : sp_in low 0 60) (h5 : sp_in ex (-100) 100) (h6 : sp_in ey (-100) 100) (h7 : gp_b q1 400) (h8 : gp_b q2 400)
    (hs : ∀ i : Int32, 0 ≤ i → i < 12 → st i.toNatClampNeg = isw i.toNatClampNeg ∧ gp_le (ge i.toNatClampNeg) (rr i.toNatClampNeg) (pit i.toNatClampNeg) low)
    (hr : ∀ i : Int32, 0 ≤ i → i < 12 → rr i.toNatClampNeg (0 : Int32).toNatClampNeg = wax i.toNatClampNeg ∧ rr i.toNatClampNeg (1 : Int32).toNatClampNeg = way i.toNatClampNeg ∧ rr i.toNatClampNeg (2 : Int32).toNatClampNeg = wbx i.toNatClampNeg ∧ rr i.toNatClampNeg (3 : Int32).toNatClampNeg = wby i.toNatClampNeg)
    (b0 : ∀ i, sp_in (wax i) (-100) 100) (b1 : ∀ i, sp_in (way i) (-100) 100) (b2' : ∀ i, sp_in (wbx i) (-100) 100) (b3 : ∀ i, sp_in (wby i) (-100) 100) :
    gp_cs (Int32.toInt64 (bx - ax) * Int32.toInt64 (bx - ax) + Int32.toInt64 (b2 - ay) * Int32.toInt64 (b2 - ay)) (2 * Int32.toInt64 ax) (2 * Int32.toInt64 ay) (Int32.toInt64 (bx - ax)) (Int32.toInt64 (b2 - ay)) st ge (2 * Int32.toInt64 ex) (2 * Int32.toInt64 ey) q1 q2 ↔ gr_cs ax ay bx b2 low isw wax way wbx wby pit ex ey q1 q2 := by
  obtain ⟨c1, c2, c3, c4⟩ := gx_len h1 h2 h3 h4 nd
  have dbl : ∀ {v : Int32}, sp_in v (-100) 100 → gp_b (2 * Int32.toInt64 v) 200 := fun {v} h => by
    have k := gx_in h
    have e : (Int32.toInt64 v).toInt = v.toInt := Int32.toInt_toInt64 v
    have b : gp_b (Int32.toInt64 v) 100 := ⟨by rw [e]; omega, by rw [e]; omega⟩
    have t := gx_2 b (by decide)
    exact ⟨by rw [t, e]; omega, by rw [t, e]; omega⟩
  have d1 := dbl h1
  have d2 := dbl h2
  have d5 := dbl h5
  have d6 := dbl h6
  obtain ⟨m1, m2⟩ := gx_all d1 d2 c1 c2 d5 d6 h7 h8 c4 c3
  have w400 : ∀ {v : Int64}, gp_b v 200 → gp_b v 400 := fun h => ⟨by have := h.1; omega, by have := h.2; omega⟩
  have e5 := w400 d5
  have e6 := w400 d6
  unfold gp_cs gr_cs
  generalize Int32.toInt64 (bx - ax) = C at *
  generalize Int32.toInt64 (b2 - ay) = E at *
  generalize 2 * Int32.toInt64 ax = A1 at *
  generalize 2 * Int32.toInt64 ay = A2 at *
  generalize 2 * Int32.toInt64 ex = X at *
  generalize 2 * Int32.toInt64 ey = Y at *
  have key : ∀ {al wh : Int64}, 0 ≤ al.toInt → al.toInt ≤ wh.toInt → gp_b wh 100000000000 → gp_b (A1 * wh + 2 * C * al) 100000000000000 ∧ gp_b (A2 * wh + 2 * E * al) 100000000000000 := fun {al wh} p1 p2 p3 => by
    have ba : gp_b al 100000000000 := ⟨by omega, by have := p3.2; omega⟩
    have tc := gx_2 c1 (by decide)
    have te := gx_2 c2 (by decide)
    have bc : gp_b (2 * C) 400 := by unfold gp_b at *; omega
    have be : gp_b (2 * E) 400 := by unfold gp_b at *; omega
    have u1 := (gx_m (N := 20000000000000) d1 p3 (by decide) (by decide)).2
    have u2 := (gx_m (N := 20000000000000) d2 p3 (by decide) (by decide)).2
    have u3 := (gx_m (N := 40000000000000) bc ba (by decide) (by decide)).2
    have u4 := (gx_m (N := 40000000000000) be ba (by decide) (by decide)).2
    have v1 : gp_b (A1 * wh + 2 * C * al) 60000000000000 := gp_bA u1 u3 (by decide) (by decide)
    have v2 : gp_b (A2 * wh + 2 * E * al) 60000000000000 := gp_bA u2 u4 (by decide) (by decide)
    exact ⟨⟨by have := v1.1; omega, by have := v1.2; omega⟩, ⟨by have := v2.1; omega, by have := v2.2; omega⟩⟩
  have k1 : ∀ al wh : Int64, A1 * (4 * wh) + 2 * C * (4 * al) = 4 * (A1 * wh + 2 * C * al) := fun al wh => by grind
  have k2 : ∀ al wh : Int64, A2 * (4 * wh) + 2 * E * (4 * al) = 4 * (A2 * wh + 2 * E * al) := fun al wh => by grind
  constructor
  · rintro ⟨al, wh, xt, yt, p1, p2, p3, p4, p5, p6, p7⟩
    obtain ⟨n1, n2, n3, n4, n5, n6⟩ := m2 p1
    refine ⟨_, _, _, _, m1.mpr p1, rfl, rfl, rfl, rfl, ?_, ?_⟩
    · rw [n1, n2, k1, k2, ← p2, ← p3, ← p4, ← p5]
      rw [← p2, ← p3] at n4
      rw [← p2] at n3
      rw [← p3] at n5 n6
      obtain ⟨g1, g2⟩ := key n3 n4 n5
      rw [← p4] at g1
      rw [← p5] at g2
      refine gx_b12.mpr (fun i i0 i1 hb => p6 i i0 i1 ?_)
      obtain ⟨r0, r1, r2, r3⟩ := hr i i0 i1
      exact (gx_bl (hs i i0 i1).1 (hs i i0 i1).2 r0 r1 r2 r3 (b0 _) (b1 _) (b2' _) (b3 _) bl e5 e6 g1 g2 n5 n6).mpr hb
    · rw [n1, n2, k1, k2, ← p2, ← p3, ← p4, ← p5]
      rw [← p2, ← p3] at n4
      rw [← p2] at n3
      rw [← p3] at n5 n6
      obtain ⟨g1, g2⟩ := key n3 n4 n5
      rw [← p4] at g1
      rw [← p5] at g2
      refine gx_b12.mpr (fun i i0 i1 hb => p7 i i0 i1 ?_)
      obtain ⟨r0, r1, r2, r3⟩ := hr i i0 i1
      exact (gx_bl (hs i i0 i1).1 (hs i i0 i1).2 r0 r1 r2 r3 (b0 _) (b1 _) (b2' _) (b3 _) bl h7 h8 g1 g2 n5 n6).mpr hb
  · rintro ⟨al, mb, mx, my, p1, p2, p3, p4, p5, p6, p7⟩
    have p1' := m1.mp p1
    obtain ⟨n1, n2, n3, n4, n5, n6⟩ := m2 p1'
    obtain ⟨g1, g2⟩ := key n3 n4 n5
    rw [n1] at p2
    rw [n2] at p3
    rw [p2, p3] at p4 p5
    rw [k1] at p4
    rw [k2] at p5
    rw [p3, p4, p5] at p6 p7
    refine ⟨_, _, _, _, p1', rfl, rfl, rfl, rfl, fun i i0 i1 hb => ?_, fun i i0 i1 hb => ?_⟩
    · obtain ⟨r0, r1, r2, r3⟩ := hr i i0 i1
      exact gx_b12.mp p6 i i0 i1 ((gx_bl (hs i i0 i1).1 (hs i i0 i1).2 r0 r1 r2 r3 (b0 _) (b1 _) (b2' _) (b3 _) bl e5 e6 g1 g2 n5 n6).mp hb)
    · obtain ⟨r0, r1, r2, r3⟩ := hr i i0 i1
      exact gx_b12.mp p7 i i0 i1 ((gx_bl (hs i i0 i1).1 (hs i i0 i1).2 r0 r1 r2 r3 (b0 _) (b1 _) (b2' _) (b3 _) bl h7 h8 g1 g2 n5 n6).mp hb)
theorem gx_half {x : Int64} (h : gp_b x 800) : gp_b (x / 2) 400 := by
  obtain ⟨h1, h2⟩ := h
  have e2 : (2 : Int64).toInt = 2 := by decide
  have key : x.toInt.tdiv 2 = if 0 ≤ x.toInt then x.toInt / 2 else -((-x.toInt) / 2) := by
    split
    · next h => exact Int.tdiv_eq_ediv_of_nonneg h
    · next h =>
      have := Int.neg_tdiv (-x.toInt) 2
      rw [Int.neg_neg] at this
      rw [this, Int.tdiv_eq_ediv_of_nonneg (by omega)]
  have e : (x / 2).toInt = x.toInt.tdiv 2 := by
    rw [Int64.toInt_div, e2]
    refine gp_bm6 ?_ ?_ <;> rw [key] <;> split <;> omega
  rw [key] at e
  refine ⟨?_, ?_⟩ <;> rw [e] <;> split <;> omega
theorem gx_wh {al wh : Int64} (h1 : 0 ≤ al.toInt) (h2 : al.toInt ≤ wh.toInt) (h3 : gp_b wh 100000000000) (h0 : 0 < wh.toInt) : (1000 * (4 * al)) / (4 * wh) = (1000 * al) / wh ∧ ¬ 4 * wh = 0 := by
  have ba : gp_b al 100000000000 := ⟨by omega, by have := h3.2; omega⟩
  have t1 := gx_4 ba (by decide)
  have t2 := gx_4 h3 (by decide)
  have k : (1000 : Int64).toInt = 1000 := by decide
  have z0 : (0 : Int64).toInt = 0 := by decide
  have m1 : (1000 * (4 * al)).toInt = 4 * (1000 * al.toInt) := by
    rw [Int64.toInt_mul, k, t1]
    have := ba.2
    rw [gp_bm6 (by omega) (by omega)]
    omega
  have m2 : (1000 * al).toInt = 1000 * al.toInt := by
    rw [Int64.toInt_mul, k]
    have := ba.2
    exact gp_bm6 (by omega) (by omega)
  refine ⟨Int64.toInt_inj.mp ?_, fun z => ?_⟩
  · rw [Int64.toInt_div, Int64.toInt_div, m1, m2, t2]
    rw [Int.mul_tdiv_mul_of_pos _ _ (by decide : (0 : Int) < 4)]
  · have := congrArg Int64.toInt z
    rw [t2, z0] at this
    omega
theorem gx_ws {ax ay bx b2 low ex ey : Int32} {st isw wax way wbx wby pit : Nat → Int32} {ge : Nat → Nat → Int64} {rr : Nat → Nat → Int32} (h1 : sp_in ax (-100) 100) (h2 : sp_in ay (-100) 100) (h3 : sp_in bx (-100) 100) (h4 : sp_in b2 (-100) 100) (nd : ¬ (ax = bx ∧ ay = b2)) (bl : sp_in low 0 60) (h5 : sp_in ex (-100) 100) (h6 : sp_in ey (-100) 100)
    (hs : ∀ i : Int32, 0 ≤ i → i < 12 → st i.toNatClampNeg = isw i.toNatClampNeg ∧ gp_le (ge i.toNatClampNeg) (rr i.toNatClampNeg) (pit i.toNatClampNeg) low)
    (hr : ∀ i : Int32, 0 ≤ i → i < 12 → rr i.toNatClampNeg (0 : Int32).toNatClampNeg = wax i.toNatClampNeg ∧ rr i.toNatClampNeg (1 : Int32).toNatClampNeg = way i.toNatClampNeg ∧ rr i.toNatClampNeg (2 : Int32).toNatClampNeg = wbx i.toNatClampNeg ∧ rr i.toNatClampNeg (3 : Int32).toNatClampNeg = wby i.toNatClampNeg)
    (b0 : ∀ i, sp_in (wax i) (-100) 100) (b1 : ∀ i, sp_in (way i) (-100) 100) (b2' : ∀ i, sp_in (wbx i) (-100) 100) (b3 : ∀ i, sp_in (wby i) (-100) 100)  {j : Int32} (j0 : 0 ≤ j) (j1 : j < 12) :
    gp_ws (Int32.toInt64 (bx - ax) * Int32.toInt64 (bx - ax) + Int32.toInt64 (b2 - ay) * Int32.toInt64 (b2 - ay)) (2 * Int32.toInt64 ax) (2 * Int32.toInt64 ay) (Int32.toInt64 (bx - ax)) (Int32.toInt64 (b2 - ay)) st ge (2 * Int32.toInt64 ex) (2 * Int32.toInt64 ey) (ge j.toNatClampNeg) ↔ gr_ws ax ay bx b2 low isw wax way wbx wby pit ex ey j.toNatClampNeg := by
  obtain ⟨dn, hd, g0, g1, g2, g3⟩ := (hs j j0 j1).2
  obtain ⟨r0, r1, r2, r3⟩ := hr j j0 j1
  have ed : (if pit j.toNatClampNeg = 0 then 0 else low) = dn := by
    rcases hd with ⟨z, e⟩ | ⟨z, e⟩
    · rw [if_neg z, e]
    · rw [if_pos z, e]
  have bd : sp_in dn 0 60 := by
    rcases hd with ⟨z, e⟩ | ⟨z, e⟩
    · rw [e]; exact bl
    · rw [e]; decide
  rw [r0] at g0
  rw [r1] at g1
  rw [r2] at g2
  rw [r3] at g3
  have k0 := gx_in (b0 j.toNatClampNeg)
  have k2 := gx_in (b2' j.toNatClampNeg)
  have y0 : gp_b (2 * Int32.toInt64 (wax j.toNatClampNeg)) 400 := gx_d (by omega) (by omega)
  have y2 : gp_b (2 * Int32.toInt64 (wbx j.toNatClampNeg)) 400 := gx_d (by omega) (by omega)
  have y1 := gx_lw (b1 j.toNatClampNeg) bd
  have y3 := gx_lw (b3 j.toNatClampNeg) bd
  have y4 : gp_b ((2 * Int32.toInt64 (wax j.toNatClampNeg) + 2 * Int32.toInt64 (wbx j.toNatClampNeg)) / 2) 400 := gx_half (gp_bA y0 y2 (by decide) (by decide))
  have y5 : gp_b ((2 * Int32.toInt64 (way j.toNatClampNeg - dn) + 2 * Int32.toInt64 (wby j.toNatClampNeg - dn)) / 2) 400 := gx_half (gp_bA y1 y3 (by decide) (by decide))
  unfold gp_ws gr_ws gr_wy
  rw [g0, g1, g2, g3, ed]
  rw [gx_cs h1 h2 h3 h4 nd bl h5 h6 y0 y1 hs hr b0 b1 b2' b3, gx_cs h1 h2 h3 h4 nd bl h5 h6 y2 y3 hs hr b0 b1 b2' b3, gx_cs h1 h2 h3 h4 nd bl h5 h6 y4 y5 hs hr b0 b1 b2' b3]
theorem gx_far {x : Int32} (h1 : -200 ≤ x) (h2 : x ≤ 200) : gp_b (2 * Int32.toInt64 x) 400 := by
  have a := Int32.le_iff_toInt_le.mp h1
  have b := Int32.le_iff_toInt_le.mp h2
  have c1 : (-200 : Int32).toInt = -200 := by decide
  have c2 : (200 : Int32).toInt = 200 := by decide
  exact gx_d (by omega) (by omega)
theorem gx_dbl {v : Int32} (h : sp_in v (-100) 100) : gp_b (2 * Int32.toInt64 v) 200 := by
  have k := gx_in h
  have e : (Int32.toInt64 v).toInt = v.toInt := Int32.toInt_toInt64 v
  have b : gp_b (Int32.toInt64 v) 100 := ⟨by rw [e]; omega, by rw [e]; omega⟩
  have t := gx_2 b (by decide)
  exact ⟨by rw [t, e]; omega, by rw [t, e]; omega⟩
theorem gx_by {ax ay bx b2 ex ey x y : Int32} (h1 : sp_in ax (-100) 100) (h2 : sp_in ay (-100) 100) (h3 : sp_in bx (-100) 100) (h4 : sp_in b2 (-100) 100) (nd : ¬ (ax = bx ∧ ay = b2)) (h5 : sp_in ex (-100) 100) (h6 : sp_in ey (-100) 100) (hf : sp_far x y) (hm : gr_mc (2 * (Int32.toInt64 (bx - ax))) (2 * (Int32.toInt64 (b2 - ay))) ((((2 * (Int32.toInt64 ex)) - (2 * (Int32.toInt64 ax))) * (2 * (Int32.toInt64 (bx - ax)))) + (((2 * (Int32.toInt64 ey)) - (2 * (Int32.toInt64 ay))) * (2 * (Int32.toInt64 (b2 - ay))))) ((((2 * (Int32.toInt64 x)) - (2 * (Int32.toInt64 ax))) * (2 * (Int32.toInt64 (bx - ax)))) + (((2 * (Int32.toInt64 y)) - (2 * (Int32.toInt64 ay))) * (2 * (Int32.toInt64 (b2 - ay))))) ((-((2 * (Int32.toInt64 ex)) - (2 * (Int32.toInt64 ax))) * (2 * (Int32.toInt64 (b2 - ay)))) + (((2 * (Int32.toInt64 ey)) - (2 * (Int32.toInt64 ay))) * (2 * (Int32.toInt64 (bx - ax))))) ((-((2 * (Int32.toInt64 x)) - (2 * (Int32.toInt64 ax))) * (2 * (Int32.toInt64 (b2 - ay)))) + (((2 * (Int32.toInt64 y)) - (2 * (Int32.toInt64 ay))) * (2 * (Int32.toInt64 (bx - ax)))))) : ¬ (((2 * (Int32.toInt64 (bx - ax))) * (2 * (Int32.toInt64 (bx - ax))) + (2 * (Int32.toInt64 (b2 - ay))) * (2 * (Int32.toInt64 (b2 - ay)))) * gr_su ((-((2 * (Int32.toInt64 ex)) - (2 * (Int32.toInt64 ax))) * (2 * (Int32.toInt64 (b2 - ay)))) + (((2 * (Int32.toInt64 ey)) - (2 * (Int32.toInt64 ay))) * (2 * (Int32.toInt64 (bx - ax))))) ((-((2 * (Int32.toInt64 x)) - (2 * (Int32.toInt64 ax))) * (2 * (Int32.toInt64 (b2 - ay)))) + (((2 * (Int32.toInt64 y)) - (2 * (Int32.toInt64 ay))) * (2 * (Int32.toInt64 (bx - ax)))))) = 0 := by
  obtain ⟨c1, c2, c3, c4⟩ := gx_len h1 h2 h3 h4 nd
  obtain ⟨m1, m2⟩ := gx_all (gx_dbl h1) (gx_dbl h2) c1 c2 (gx_dbl h5) (gx_dbl h6) (gx_far hf.1.1 hf.1.2) (gx_far hf.2.1 hf.2.2) c4 c3
  obtain ⟨n1, n2, n3, n4, n5, n6⟩ := m2 (m1.mp hm)
  rw [n2]
  exact (gx_wh n3 n4 n5 n6).2
