theorem gx_2 {x : Int64} {B : Int} (h : gp_b x B) (hB : B < 4611686018427387904) : (2 * x).toInt = 2 * x.toInt := by
  obtain ⟨h1, h2⟩ := h
  have e : (2 : Int64).toInt = 2 := by decide
  rw [Int64.toInt_mul, e]
  exact gp_bm6 (by omega) (by omega)
theorem gx_4 {x : Int64} {B : Int} (h : gp_b x B) (hB : B < 2305843009213693952) : (4 * x).toInt = 4 * x.toInt := by
  obtain ⟨h1, h2⟩ := h
  have e : (4 : Int64).toInt = 4 := by decide
  rw [Int64.toInt_mul, e]
  exact gp_bm6 (by omega) (by omega)
theorem gx_n {x : Int64} {B : Int} (h : gp_b x B) (hB : B < 4611686018427387904) : (-x).toInt = -x.toInt := by
  obtain ⟨h1, h2⟩ := h
  rw [Int64.toInt_neg]
  exact gp_bm6 (by omega) (by omega)
theorem gx_a {x y : Int64} {B C : Int} (h : gp_b x B) (h' : gp_b y C) (hB : B < 2305843009213693952) (hC : C < 2305843009213693952) : (x + y).toInt = x.toInt + y.toInt := by
  obtain ⟨h1, h2⟩ := h
  obtain ⟨h3, h4⟩ := h'
  rw [Int64.toInt_add]
  exact gp_bm6 (by omega) (by omega)
theorem gx_s {x y : Int64} {B C : Int} (h : gp_b x B) (h' : gp_b y C) (hB : B < 2305843009213693952) (hC : C < 2305843009213693952) : (x - y).toInt = x.toInt - y.toInt := by
  obtain ⟨h1, h2⟩ := h
  obtain ⟨h3, h4⟩ := h'
  rw [Int64.toInt_sub]
  exact gp_bm6 (by omega) (by omega)
/-- meets: the reference's test is the class's -/
theorem gx_mc {u1 u2 len ae aq eo po : Int64} (hu : u1 * u1 + u2 * u2 = 4 * len) (he : gp_b eo 1000000) (hp : gp_b po 1000000) (hA : gp_b (ae * po + aq * eo) 1000000000000000) (hW : gp_b (2 * len * (eo + po)) 1000000000000000) :
    (gr_mc u1 u2 (2 * ae) (2 * aq) (2 * eo) (2 * po) ↔ gp_mc len ae aq eo po) ∧ (gp_mc len ae aq eo po → gr_nu (2 * ae) (2 * aq) (2 * eo) (2 * po) = 4 * gp_ma ae aq eo po ∧ (u1 * u1 + u2 * u2) * gr_su (2 * eo) (2 * po) = 4 * gp_mw len eo po ∧ 0 ≤ (gp_ma ae aq eo po).toInt ∧ (gp_ma ae aq eo po).toInt ≤ (gp_mw len eo po).toInt ∧ gp_b (gp_mw len eo po) 1000000000000000) := by
  have z0 : (0 : Int64).toInt = 0 := by decide
  have n1 : 2 * ae * (2 * po) + 2 * aq * (2 * eo) = 4 * (ae * po + aq * eo) := by grind
  have n2 : 4 * len * (2 * eo + 2 * po) = 4 * (2 * len * (eo + po)) := by grind
  have n3 : 4 * len * -(2 * eo + 2 * po) = -(4 * (2 * len * (eo + po))) := by grind
  have n4 : -(4 * (2 * len * (eo + po))) = 4 * -(2 * len * (eo + po)) := by grind
  have n5 : -(4 * (ae * po + aq * eo)) = 4 * -(ae * po + aq * eo) := by grind
  unfold gr_mc gr_nu gr_su gp_mc gp_ma gp_mw
  rw [hu, n1]
  generalize ae * po + aq * eo = AL at *
  have t1 := gx_2 he (by decide)
  have t2 := gx_2 hp (by decide)
  have b1 : gp_b (2 * eo) 2000000 := by unfold gp_b at *; omega
  have b2 : gp_b (2 * po) 2000000 := by unfold gp_b at *; omega
  have t3 := gx_a b1 b2 (by decide) (by decide)
  by_cases hs : 2 * eo + 2 * po < 0
  · simp only [hs, if_true]
    rw [n3, n4, n5]
    generalize 2 * len * (eo + po) = WH at *
    have t4 := gx_n hA (by decide)
    have t5 := gx_n hW (by decide)
    have b3 : gp_b (-AL) 1000000000000000 := by unfold gp_b at *; omega
    have b4 : gp_b (-WH) 1000000000000000 := by unfold gp_b at *; omega
    have t6 := gx_4 b3 (by decide)
    have t7 := gx_4 b4 (by decide)
    rw [Int64.lt_iff_toInt_lt] at hs
    simp only [Int64.lt_iff_toInt_lt, Int64.le_iff_toInt_le, t1, t2, t6, t7, t4, t5, z0]
    rw [t3, t1, t2, z0] at hs
    refine ⟨by constructor <;> intro h <;> omega, fun h => ?_⟩
    have ne : ¬ 0 < eo.toInt := by omega
    simp only [ne, if_false, t4, t5]
    exact ⟨trivial, trivial, by omega, by omega, b4⟩
  · simp only [hs, if_false]
    rw [n2]
    generalize 2 * len * (eo + po) = WH at *
    have t4 := gx_n hA (by decide)
    have t5 := gx_n hW (by decide)
    have t6 := gx_4 hA (by decide)
    have t7 := gx_4 hW (by decide)
    rw [Int64.lt_iff_toInt_lt] at hs
    simp only [Int64.lt_iff_toInt_lt, Int64.le_iff_toInt_le, t1, t2, t6, t7, t4, t5, z0]
    rw [t3, t1, t2, z0] at hs
    refine ⟨by constructor <;> intro h <;> omega, fun h => ?_⟩
    have ne : 0 < eo.toInt := by omega
    simp only [ne, if_true]
    exact ⟨trivial, trivial, by omega, by omega, hW⟩
theorem gx_m {x y : Int64} {B C N : Int} (h : gp_b x B) (h' : gp_b y C) (hN : B * C ≤ N) (hl : N < 4611686018427387904) : (x * y).toInt = x.toInt * y.toInt ∧ gp_b (x * y) N := by
  obtain ⟨h1, h2⟩ := h
  obtain ⟨h3, h4⟩ := h'
  have k := gp_absM h1 h2 h3 h4
  have e : (x * y).toInt = x.toInt * y.toInt := by
    rw [Int64.toInt_mul]
    exact gp_bm6 (by omega) (by omega)
  exact ⟨e, by rw [e]; omega, by rw [e]; omega⟩
theorem gx_mono {a b w : Int} (h : 0 < w) : (a < b ↔ a * w < b * w) := ⟨fun q => Int.mul_lt_mul_of_pos_right q h, fun q => Int.lt_of_mul_lt_mul_right q (by omega)⟩
theorem gx_ov {w z p xt wh : Int64} (hw : gp_b w 400) (hz : gp_b z 400) (hp : gp_b p 400) (hx : gp_b xt 100000000000000) (hh : gp_b wh 100000000000) (h0 : 0 < wh.toInt) :
    (gr_ls (w * (4 * wh)) (z * (4 * wh)) < gr_mr (p * (4 * wh)) (4 * xt) ∧ gr_ls (p * (4 * wh)) (4 * xt) < gr_mr (w * (4 * wh)) (z * (4 * wh))) ↔ gp_ov (w - p) (z - p) (xt - p * wh) wh := by
  have z0 : (0 : Int64).toInt = 0 := by decide
  have t4 := gx_4 hh (by decide)
  have b4 : gp_b (4 * wh) 400000000000 := by unfold gp_b at *; omega
  obtain ⟨m1, _⟩ := gx_m (N := 160000000000000) hw b4 (by decide) (by decide)
  obtain ⟨m2, _⟩ := gx_m (N := 160000000000000) hz b4 (by decide) (by decide)
  obtain ⟨m3, _⟩ := gx_m (N := 160000000000000) hp b4 (by decide) (by decide)
  obtain ⟨m4, b5⟩ := gx_m (N := 40000000000000) hp hh (by decide) (by decide)
  have t5 := gx_4 hx (by decide)
  have s1 := gx_s hw hp (by decide) (by decide)
  have s2 := gx_s hz hp (by decide) (by decide)
  have s3 := gx_s hx b5 (by decide) (by decide)
  have b6 : gp_b (w - p) 800 := by unfold gp_b at *; omega
  have b7 : gp_b (z - p) 800 := by unfold gp_b at *; omega
  obtain ⟨m5, _⟩ := gx_m (N := 80000000000000) b6 hh (by decide) (by decide)
  obtain ⟨m6, _⟩ := gx_m (N := 80000000000000) b7 hh (by decide) (by decide)
  have ab := gx_mono (a := (w - p).toInt) (b := (z - p).toInt) h0
  have a0 := gx_mono (a := (w - p).toInt) (b := 0) h0
  have a1 := gx_mono (a := 0) (b := (w - p).toInt) h0
  have c0 := gx_mono (a := (z - p).toInt) (b := 0) h0
  have c1 := gx_mono (a := 0) (b := (z - p).toInt) h0
  have e1 : w.toInt * (4 * wh.toInt) = 4 * ((w - p).toInt * wh.toInt + p.toInt * wh.toInt) := by rw [s1]; grind
  have e2 : z.toInt * (4 * wh.toInt) = 4 * ((z - p).toInt * wh.toInt + p.toInt * wh.toInt) := by rw [s2]; grind
  have e3 : p.toInt * (4 * wh.toInt) = 4 * (p.toInt * wh.toInt) := by grind
  rw [t4, e1] at m1
  rw [t4, e2] at m2
  rw [t4, e3] at m3
  rw [m4] at s3
  rw [Int.zero_mul] at a0 a1 c0 c1
  clear e1 e2 e3 s1 s2 t4 m4 b4 b5 b6 b7
  unfold gr_ls gr_mr gp_ov
  generalize (w - p).toInt * wh.toInt = AW at *
  generalize (z - p).toInt * wh.toInt = BW at *
  generalize p.toInt * wh.toInt = PW at *
  by_cases hab : w - p < z - p
  · have hab' := Int64.lt_iff_toInt_lt.mp hab
    have q1 : w * (4 * wh) < z * (4 * wh) := Int64.lt_iff_toInt_lt.mpr (by omega)
    have q2 : ¬ z * (4 * wh) < w * (4 * wh) := fun q => by have := Int64.lt_iff_toInt_lt.mp q; omega
    simp only [hab, q1, q2, if_true, if_false]
    by_cases hg : 0 < xt - p * wh
    · have hg' := Int64.lt_iff_toInt_lt.mp hg
      have q3 : ¬ 4 * xt < p * (4 * wh) := fun q => by have := Int64.lt_iff_toInt_lt.mp q; omega
      have q4 : p * (4 * wh) < 4 * xt := Int64.lt_iff_toInt_lt.mpr (by omega)
      simp only [hg, q3, q4, if_true, if_false, true_and, false_and, or_false, false_or, not_true, not_false_iff]
      simp only [Int64.lt_iff_toInt_lt]
      constructor <;> intro h <;> omega
    · have hg' : ¬ (0 : Int64).toInt < (xt - p * wh).toInt := fun q => hg (Int64.lt_iff_toInt_lt.mpr q)
      by_cases q5 : 4 * xt < p * (4 * wh)
      · have q4 : ¬ p * (4 * wh) < 4 * xt := fun q => by have := Int64.lt_iff_toInt_lt.mp q; have := Int64.lt_iff_toInt_lt.mp q5; omega
        simp only [hg, q5, q4, if_true, if_false, true_and, false_and, or_false, false_or, not_true, not_false_iff]
        simp only [Int64.lt_iff_toInt_lt]
        constructor <;> intro h <;> omega
      · have q5' : ¬ (4 * xt).toInt < (p * (4 * wh)).toInt := fun q => q5 (Int64.lt_iff_toInt_lt.mpr q)
        have q4 : ¬ p * (4 * wh) < 4 * xt := fun q => by have := Int64.lt_iff_toInt_lt.mp q; omega
        simp only [hg, q5, q4, if_false, true_and, false_and, or_false, false_or, not_true, not_false_iff]
        simp only [Int64.lt_iff_toInt_lt]
        constructor <;> intro h <;> omega
  · have hab' : ¬ (w - p).toInt < (z - p).toInt := fun q => hab (Int64.lt_iff_toInt_lt.mpr q)
    have q1 : ¬ w * (4 * wh) < z * (4 * wh) := fun q => by have := Int64.lt_iff_toInt_lt.mp q; omega
    simp only [hab, q1, if_false]
    by_cases q2 : z * (4 * wh) < w * (4 * wh)
    · have q2' := Int64.lt_iff_toInt_lt.mp q2
      simp only [q2, if_true]
      by_cases hg : 0 < xt - p * wh
      · have hg' := Int64.lt_iff_toInt_lt.mp hg
        have q3 : ¬ 4 * xt < p * (4 * wh) := fun q => by have := Int64.lt_iff_toInt_lt.mp q; omega
        have q4 : p * (4 * wh) < 4 * xt := Int64.lt_iff_toInt_lt.mpr (by omega)
        simp only [hg, q3, q4, if_true, if_false, true_and, false_and, or_false, false_or, not_true, not_false_iff]
        simp only [Int64.lt_iff_toInt_lt]
        constructor <;> intro h <;> omega
      · have hg' : ¬ (0 : Int64).toInt < (xt - p * wh).toInt := fun q => hg (Int64.lt_iff_toInt_lt.mpr q)
        by_cases q5 : 4 * xt < p * (4 * wh)
        · have q4 : ¬ p * (4 * wh) < 4 * xt := fun q => by have := Int64.lt_iff_toInt_lt.mp q; have := Int64.lt_iff_toInt_lt.mp q5; omega
          simp only [hg, q5, q4, if_true, if_false, true_and, false_and, or_false, false_or, not_true, not_false_iff]
          simp only [Int64.lt_iff_toInt_lt]
          constructor <;> intro h <;> omega
        · have q5' : ¬ (4 * xt).toInt < (p * (4 * wh)).toInt := fun q => q5 (Int64.lt_iff_toInt_lt.mpr q)
          have q4 : ¬ p * (4 * wh) < 4 * xt := fun q => by have := Int64.lt_iff_toInt_lt.mp q; omega
          simp only [hg, q5, q4, if_false, true_and, false_and, or_false, false_or, not_true, not_false_iff]
          simp only [Int64.lt_iff_toInt_lt]
          constructor <;> intro h <;> omega
    · have q2' : ¬ (z * (4 * wh)).toInt < (w * (4 * wh)).toInt := fun q => q2 (Int64.lt_iff_toInt_lt.mpr q)
      simp only [q2, if_false]
      by_cases hg : 0 < xt - p * wh
      · have hg' := Int64.lt_iff_toInt_lt.mp hg
        have q3 : ¬ 4 * xt < p * (4 * wh) := fun q => by have := Int64.lt_iff_toInt_lt.mp q; omega
        have q4 : p * (4 * wh) < 4 * xt := Int64.lt_iff_toInt_lt.mpr (by omega)
        simp only [hg, q3, q4, if_true, if_false, true_and, false_and, or_false, false_or, not_true, not_false_iff]
        simp only [Int64.lt_iff_toInt_lt]
        constructor <;> intro h <;> omega
      · have hg' : ¬ (0 : Int64).toInt < (xt - p * wh).toInt := fun q => hg (Int64.lt_iff_toInt_lt.mpr q)
        by_cases q5 : 4 * xt < p * (4 * wh)
        · have q4 : ¬ p * (4 * wh) < 4 * xt := fun q => by have := Int64.lt_iff_toInt_lt.mp q; have := Int64.lt_iff_toInt_lt.mp q5; omega
          simp only [hg, q5, q4, if_true, if_false, true_and, false_and, or_false, false_or, not_true, not_false_iff]
          simp only [Int64.lt_iff_toInt_lt]
          constructor <;> intro h <;> omega
        · have q5' : ¬ (4 * xt).toInt < (p * (4 * wh)).toInt := fun q => q5 (Int64.lt_iff_toInt_lt.mpr q)
          have q4 : ¬ p * (4 * wh) < 4 * xt := fun q => by have := Int64.lt_iff_toInt_lt.mp q; omega
          simp only [hg, q5, q4, if_false, true_and, false_and, or_false, false_or, not_true, not_false_iff]
          simp only [Int64.lt_iff_toInt_lt]
          constructor <;> intro h <;> omega
theorem gx_pos {x : Int64} {B : Int} (h : gp_b x B) (hB : B < 2305843009213693952) : (0 < 4 * x ↔ 0 < x) ∧ (4 * x < 0 ↔ x < 0) ∧ (4 * x = 0 ↔ x = 0) := by
  have z0 : (0 : Int64).toInt = 0 := by decide
  have t := gx_4 h hB
  refine ⟨?_, ?_, ?_⟩
  · rw [Int64.lt_iff_toInt_lt, Int64.lt_iff_toInt_lt, t, z0]; omega
  · rw [Int64.lt_iff_toInt_lt, Int64.lt_iff_toInt_lt, t, z0]; omega
  · rw [← Int64.toInt_inj, ← Int64.toInt_inj, t, z0]; omega
theorem gx_sg {w k : Int64} {B C N : Int} (hw : gp_b w B) (hk : gp_b k C) (hN : B * C ≤ N) (hl : N < 4611686018427387904) (h0 : 0 < w.toInt) : (0 < w * k ↔ 0 < k) ∧ (w * k < 0 ↔ k < 0) := by
  have z0 : (0 : Int64).toInt = 0 := by decide
  obtain ⟨e, _⟩ := gx_m hw hk hN hl
  have e2 : w.toInt * k.toInt = k.toInt * w.toInt := Int.mul_comm _ _
  have a := gx_mono (a := k.toInt) (b := 0) h0
  have b := gx_mono (a := 0) (b := k.toInt) h0
  rw [Int.zero_mul] at a b
  refine ⟨?_, ?_⟩
  · rw [Int64.lt_iff_toInt_lt, Int64.lt_iff_toInt_lt, e, z0, e2]; exact b.symm
  · rw [Int64.lt_iff_toInt_lt, Int64.lt_iff_toInt_lt, e, z0, e2]; exact a.symm
theorem gx_st {wx wy zx zy px py xt yt wh : Int64} (h1 : gp_b wx 400) (h2 : gp_b wy 400) (h3 : gp_b zx 400) (h4 : gp_b zy 400) (h5 : gp_b px 400) (h6 : gp_b py 400) (hx : gp_b xt 100000000000000) (hy : gp_b yt 100000000000000) (hh : gp_b wh 100000000000) (h0 : 0 < wh.toInt) :
    gr_st wx wy zx zy px py (4 * xt) (4 * yt) (4 * wh) ↔ gp_iw0 (wx - px) (wy - py) (zx - px) (zy - py) (xt - px * wh) (yt - py * wh) wh := by
  have o1 := gx_ov h1 h3 h5 hx hh h0
  have o2 := gx_ov h2 h4 h6 hy hh h0
  have i1 : 4 * xt - px * (4 * wh) = 4 * (xt - px * wh) := by grind
  have i2 : 4 * yt - py * (4 * wh) = 4 * (yt - py * wh) := by grind
  have i3 : 4 * (xt - px * wh) * (wy - py) - 4 * (yt - py * wh) * (wx - px) = 4 * ((xt - px * wh) * (wy - py) - (yt - py * wh) * (wx - px)) := by grind
  have i4 : 4 * (xt - px * wh) * (zy - py) - 4 * (yt - py * wh) * (zx - px) = 4 * ((xt - px * wh) * (zy - py) - (yt - py * wh) * (zx - px)) := by grind
  have i5 : (zx - wx) * (py - wy) - (zy - wy) * (px - wx) = (wx - px) * (zy - py) - (wy - py) * (zx - px) := by grind
  have i6 : (zx - wx) * (4 * yt - wy * (4 * wh)) - (zy - wy) * (4 * xt - wx * (4 * wh)) = 4 * (wh * ((wx - px) * (zy - py) - (wy - py) * (zx - px)) + ((xt - px * wh) * (wy - py) - (yt - py * wh) * (wx - px)) - ((xt - px * wh) * (zy - py) - (yt - py * wh) * (zx - px))) := by grind
  have b1 : gp_b (wx - px) 800 := gp_bS h1 h5 (by decide) (by decide)
  have b2 : gp_b (wy - py) 800 := gp_bS h2 h6 (by decide) (by decide)
  have b3 : gp_b (zx - px) 800 := gp_bS h3 h5 (by decide) (by decide)
  have b4 : gp_b (zy - py) 800 := gp_bS h4 h6 (by decide) (by decide)
  have g1 : gp_b (xt - px * wh) 140000000000000 := gp_bS hx (gx_m (N := 40000000000000) h5 hh (by decide) (by decide)).2 (by decide) (by decide)
  have g2 : gp_b (yt - py * wh) 140000000000000 := gp_bS hy (gx_m (N := 40000000000000) h6 hh (by decide) (by decide)).2 (by decide) (by decide)
  unfold gr_st gp_iw0
  rw [i1, i2, i3, i4, i5, i6, o1, o2]
  clear i1 i2 i3 i4 i5 i6 o1 o2
  generalize xt - px * wh = GX at *
  generalize yt - py * wh = GY at *
  generalize wx - px = A at *
  generalize wy - py = B at *
  generalize zx - px = C at *
  generalize zy - py = E at *
  have f1 : gp_b (GX * B - GY * A) 224000000000000000 := gp_bS (gx_m (N := 112000000000000000) g1 b2 (by decide) (by decide)).2 (gx_m (N := 112000000000000000) g2 b1 (by decide) (by decide)).2 (by decide) (by decide)
  have f2 : gp_b (GX * E - GY * C) 224000000000000000 := gp_bS (gx_m (N := 112000000000000000) g1 b4 (by decide) (by decide)).2 (gx_m (N := 112000000000000000) g2 b3 (by decide) (by decide)).2 (by decide) (by decide)
  have f3 : gp_b (A * E - B * C) 1280000 := gp_bS (gx_m (N := 640000) b1 b4 (by decide) (by decide)).2 (gx_m (N := 640000) b2 b3 (by decide) (by decide)).2 (by decide) (by decide)
  obtain ⟨k1, k2⟩ := gx_sg (N := 128000000000000000) hh f3 (by decide) (by decide) h0
  have f4 := (gx_m (N := 128000000000000000) hh f3 (by decide) (by decide)).2
  generalize A * E - B * C = K at *
  generalize GX * B - GY * A = F at *
  generalize GX * E - GY * C = S at *
  generalize wh * K = HH at *
  have f5 : gp_b (HH + F - S) 576000000000000000 := gp_bS (gp_bA (c := 352000000000000000) f4 f1 (by decide) (by decide)) f2 (by decide) (by decide)
  generalize HH + F - S = TT at *
  obtain ⟨p1, p2, p3⟩ := gx_pos f1 (by decide)
  obtain ⟨q1, q2, q3⟩ := gx_pos f2 (by decide)
  obtain ⟨r1, r2, r3⟩ := gx_pos f5 (by decide)
  obtain ⟨s1, s2, s3⟩ := gx_pos g1 (by decide)
  rw [p1, p2, p3, q1, q2, q3, r1, r2, s3, k1, k2]
  clear p1 p2 p3 q1 q2 q3 r1 r2 r3 s1 s2 s3 k1 k2
  generalize gp_ov A C GX wh = O1
  generalize gp_ov B E GY wh = O2
  generalize (0 < F) = x1
  generalize (F < 0) = x2
  generalize (F = 0) = x3
  generalize (0 < S) = y1
  generalize (S < 0) = y2
  generalize (S = 0) = y3
  generalize (0 < K) = k1
  generalize (K < 0) = k2
  generalize (TT < 0) = t1
  generalize (0 < TT) = t2
  generalize (GX = 0) = g0
  clear f1 f2 f3 f4 f5 g1 g2 b1 b2 b3 b4 h1 h2 h3 h4 h5 h6 hx hy hh h0
  grind
theorem gx_or0 {a b : Int32} (h : a ||| b = 0) : b = 0 := by
  have h2 := congrArg Int32.toBitVec h
  simp only [Int32.toBitVec_or] at h2
  have h3 : b.toBitVec = 0 := by
    have e : (0 : Int32).toBitVec = 0 := rfl
    rw [e] at h2
    exact (BitVec.or_eq_zero_iff.mp h2).2
  exact Int32.toBitVec_inj.mp h3
theorem gx_or0l {a b : Int32} (h : a ||| b = 0) : a = 0 := by
  have h2 := congrArg Int32.toBitVec h
  simp only [Int32.toBitVec_or] at h2
  have h3 : a.toBitVec = 0 := by
    have e : (0 : Int32).toBitVec = 0 := rfl
    rw [e] at h2
    exact (BitVec.or_eq_zero_iff.mp h2).1
  exact Int32.toBitVec_inj.mp h3
theorem gx_msk : ∀ k : Fin 12, ¬ (1 : Int32) <<< (Int32.ofNat k.val &&& 31) = 0 := by decide
theorem gx_b0 {P : Nat → Prop} : ∀ n : Nat, n ≤ 12 → (gp_bits P n = 0 ↔ ∀ k, k < n → ¬ P k) := by
  intro n
  induction n with
  | zero => intro _; exact ⟨fun _ k hk => absurd hk (by omega), fun _ => rfl⟩
  | succ n ih =>
    intro hn
    have i := ih (by omega)
    show @ite _ (P n) (Classical.propDecidable _) (gp_bits P n ||| (1 <<< (Int32.ofNat n &&& 31))) (gp_bits P n) = 0 ↔ _
    by_cases hp : P n
    · rw [if_pos hp]
      refine ⟨fun h => absurd (gx_or0 h) (gx_msk ⟨n, by omega⟩), fun h => absurd hp (h n (by omega))⟩
    · rw [if_neg hp, i]
      refine ⟨fun h k hk => ?_, fun h k hk => h k (by omega)⟩
      by_cases e : k = n
      · rw [e]; exact hp
      · exact h k (by omega)
theorem gx_b12 {P : Nat → Prop} : gp_bits P (12 : Int32).toNatClampNeg = 0 ↔ ∀ i : Int32, 0 ≤ i → i < 12 → ¬ P i.toNatClampNeg := by
  have c : (12 : Int32).toNatClampNeg = 12 := by decide
  rw [c, gx_b0 12 (by omega)]
  refine ⟨fun h i i0 i1 => h _ ?_, fun h k hk => ?_⟩
  · have := gp_clLt i0 i1
    rw [c] at this
    exact this
  · have e : (Int32.ofNat k).toInt = k := Int32.toInt_ofNat_of_lt (by omega)
    have z0 : (0 : Int32).toInt = 0 := by decide
    have z12 : (12 : Int32).toInt = 12 := by decide
    have i0 : (0 : Int32) ≤ Int32.ofNat k := Int32.le_iff_toInt_le.mpr (by omega)
    have i1 : Int32.ofNat k < 12 := Int32.lt_iff_toInt_lt.mpr (by omega)
    have q := h _ i0 i1
    have e2 := gp_clI i0
    have e3 : (Int32.ofNat k).toNatClampNeg = k := by omega
    rw [e3] at q
    exact q
theorem gx_d {v : Int32} (h1 : -200 ≤ v.toInt) (h2 : v.toInt ≤ 200) : gp_b (2 * Int32.toInt64 v) 400 := by
  have e : (Int32.toInt64 v).toInt = v.toInt := Int32.toInt_toInt64 v
  have b : gp_b (Int32.toInt64 v) 200 := ⟨by rw [e]; omega, by rw [e]; omega⟩
  have t := gx_2 b (by decide)
  exact ⟨by rw [t, e]; omega, by rw [t, e]; omega⟩
theorem gx_in {v : Int32} (h : sp_in v (-100) 100) : -100 ≤ v.toInt ∧ v.toInt ≤ 100 := by
  obtain ⟨a, b⟩ := gp_inT h
  have c1 : (-100 : Int32).toInt = -100 := by decide
  have c2 : (100 : Int32).toInt = 100 := by decide
  omega
theorem gx_lw {v d : Int32} (h : sp_in v (-100) 100) (hd : sp_in d 0 60) : gp_b (2 * Int32.toInt64 (v - d)) 400 := by
  have a := gx_in h
  obtain ⟨d1, d2⟩ := gp_inT hd
  have c1 : (0 : Int32).toInt = 0 := by decide
  have c2 : (60 : Int32).toInt = 60 := by decide
  have e : (v - d).toInt = v.toInt - d.toInt := by rw [Int32.toInt_sub]; exact gp_bm3 (by omega) (by omega)
  exact gx_d (by omega) (by omega)
theorem gx_bl {st isw wax way wbx wby pit : Nat → Int32} {ge : Nat → Nat → Int64} {rr : Nat → Nat → Int32} {low : Int32} {x y xt yt wh : Int64} {i : Nat} (hs : st i = isw i) (hl : gp_le (ge i) (rr i) (pit i) low)
    (e0 : rr i (0 : Int32).toNatClampNeg = wax i) (e1 : rr i (1 : Int32).toNatClampNeg = way i) (e2 : rr i (2 : Int32).toNatClampNeg = wbx i) (e3 : rr i (3 : Int32).toNatClampNeg = wby i)
    (b0 : sp_in (wax i) (-100) 100) (b1 : sp_in (way i) (-100) 100) (b2 : sp_in (wbx i) (-100) 100) (b3 : sp_in (wby i) (-100) 100) (bl : sp_in low 0 60) (hx : gp_b x 400) (hy : gp_b y 400) (gx : gp_b xt 100000000000000) (gy : gp_b yt 100000000000000) (hh : gp_b wh 100000000000) (h0 : 0 < wh.toInt) :
    gp_bl st ge x y xt yt wh i ↔ gr_bl isw wax way wbx wby pit low x y (4 * xt) (4 * yt) (4 * wh) i := by
  obtain ⟨dn, hd, g0, g1, g2, g3⟩ := hl
  have ed : (if pit i = 0 then 0 else low) = dn := by
    rcases hd with ⟨z, e⟩ | ⟨z, e⟩
    · rw [if_neg z, e]
    · rw [if_pos z, e]
  have bd : sp_in dn 0 60 := by
    rcases hd with ⟨z, e⟩ | ⟨z, e⟩
    · rw [e]; exact bl
    · rw [e]; decide
  unfold gp_bl gr_bl gp_iw gr_wy
  rw [g0, g1, g2, g3, e0, e1, e2, e3, hs, ed]
  have k0 := gx_in b0
  have k2 := gx_in b2
  rw [gx_st (gx_d (by omega) (by omega)) (gx_lw b1 bd) (gx_d (by omega) (by omega)) (gx_lw b3 bd) hx hy gx gy hh h0]
theorem gx_len {ax ay bx b2 : Int32} (h1 : sp_in ax (-100) 100) (h2 : sp_in ay (-100) 100) (h3 : sp_in bx (-100) 100) (h4 : sp_in b2 (-100) 100) (nd : ¬ (ax = bx ∧ ay = b2)) :
    gp_b (Int32.toInt64 (bx - ax)) 200 ∧ gp_b (Int32.toInt64 (b2 - ay)) 200 ∧ 0 < (Int32.toInt64 (bx - ax) * Int32.toInt64 (bx - ax) + Int32.toInt64 (b2 - ay) * Int32.toInt64 (b2 - ay)).toInt ∧ gp_b (Int32.toInt64 (bx - ax) * Int32.toInt64 (bx - ax) + Int32.toInt64 (b2 - ay) * Int32.toInt64 (b2 - ay)) 80000 := by
  have k1 := gx_in h1
  have k2 := gx_in h2
  have k3 := gx_in h3
  have k4 := gx_in h4
  have e1 : (bx - ax).toInt = bx.toInt - ax.toInt := by rw [Int32.toInt_sub]; exact gp_bm3 (by omega) (by omega)
  have e2 : (b2 - ay).toInt = b2.toInt - ay.toInt := by rw [Int32.toInt_sub]; exact gp_bm3 (by omega) (by omega)
  have f1 : (Int32.toInt64 (bx - ax)).toInt = bx.toInt - ax.toInt := by rw [Int32.toInt_toInt64, e1]
  have f2 : (Int32.toInt64 (b2 - ay)).toInt = b2.toInt - ay.toInt := by rw [Int32.toInt_toInt64, e2]
  have c1 : gp_b (Int32.toInt64 (bx - ax)) 200 := ⟨by rw [f1]; omega, by rw [f1]; omega⟩
  have c2 : gp_b (Int32.toInt64 (b2 - ay)) 200 := ⟨by rw [f2]; omega, by rw [f2]; omega⟩
  obtain ⟨m1, n1⟩ := gx_m (N := 40000) c1 c1 (by decide) (by decide)
  obtain ⟨m2, n2⟩ := gx_m (N := 40000) c2 c2 (by decide) (by decide)
  have s := gx_a n1 n2 (by decide) (by decide)
  refine ⟨c1, c2, ?_, gp_bA n1 n2 (by decide) (by decide)⟩
  rw [s, m1, m2, f1, f2]
  have p1 : 0 ≤ (bx.toInt - ax.toInt) * (bx.toInt - ax.toInt) := by
    rcases Int.le_total 0 (bx.toInt - ax.toInt) with q | q
    · exact Int.mul_nonneg q q
    · exact Int.mul_nonneg_of_nonpos_of_nonpos q q
  have p2 : 0 ≤ (b2.toInt - ay.toInt) * (b2.toInt - ay.toInt) := by
    rcases Int.le_total 0 (b2.toInt - ay.toInt) with q | q
    · exact Int.mul_nonneg q q
    · exact Int.mul_nonneg_of_nonpos_of_nonpos q q
  by_cases hz : bx.toInt - ax.toInt = 0
  · have hz2 : ¬ b2.toInt - ay.toInt = 0 := fun z => nd ⟨Int32.toInt_inj.mp (by omega), Int32.toInt_inj.mp (by omega)⟩
    have p3 : (b2.toInt - ay.toInt) * (b2.toInt - ay.toInt) ≠ 0 := fun z => by rcases Int.mul_eq_zero.mp z with q | q <;> exact hz2 q
    omega
  · have p3 : (bx.toInt - ax.toInt) * (bx.toInt - ax.toInt) ≠ 0 := fun z => by rcases Int.mul_eq_zero.mp z with q | q <;> exact hz q
    omega
