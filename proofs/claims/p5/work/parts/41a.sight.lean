abbrev gp_b (x : Int64) (B : Int) : Prop := -B ≤ x.toInt ∧ x.toInt ≤ B
theorem gp_bI {v lo hi : Int32} {B : Int} (h : sp_in v lo hi) (h1 : -B ≤ lo.toInt) (h2 : hi.toInt ≤ B) : gp_b (Int32.toInt64 v) B := by
  have a1 := Int32.le_iff_toInt_le.mp h.1
  have a2 := Int32.le_iff_toInt_le.mp h.2
  have e : (Int32.toInt64 v).toInt = v.toInt := by simp
  constructor <;> omega
theorem gp_bm6 {z : Int} (h1 : -9223372036854775808 ≤ z) (h2 : z < 9223372036854775808) : z.bmod (2 ^ 64) = z := Int.bmod_eq_of_le (by omega) (by omega)
theorem gp_bA {x y : Int64} {a b c : Int} (h1 : gp_b x a) (h2 : gp_b y b) (hc : a + b = c) (hl : c < 4611686018427387904) : gp_b (x + y) c := by
  obtain ⟨a1, a2⟩ := h1
  obtain ⟨b1, b2⟩ := h2
  have e : (x + y).toInt = x.toInt + y.toInt := by rw [Int64.toInt_add]; exact gp_bm6 (by omega) (by omega)
  constructor <;> omega
theorem gp_bS {x y : Int64} {a b c : Int} (h1 : gp_b x a) (h2 : gp_b y b) (hc : a + b = c) (hl : c < 4611686018427387904) : gp_b (x - y) c := by
  obtain ⟨a1, a2⟩ := h1
  obtain ⟨b1, b2⟩ := h2
  have e : (x - y).toInt = x.toInt - y.toInt := by rw [Int64.toInt_sub]; exact gp_bm6 (by omega) (by omega)
  constructor <;> omega
theorem gp_bN {x : Int64} {a : Int} (h1 : gp_b x a) (hl : a < 4611686018427387904) : gp_b (-x) a := by
  obtain ⟨a1, a2⟩ := h1
  have e : (-x).toInt = -x.toInt := by rw [Int64.toInt_neg]; exact gp_bm6 (by omega) (by omega)
  constructor <;> omega
theorem gp_absM {x y a b : Int} (h1 : -a ≤ x) (h2 : x ≤ a) (h3 : -b ≤ y) (h4 : y ≤ b) : -(a * b) ≤ x * y ∧ x * y ≤ a * b := by
  have ha : 0 ≤ a := by omega
  have hb : 0 ≤ b := by omega
  have k1 : 0 ≤ (a - x) * (b + y) := Int.mul_nonneg (by omega) (by omega)
  have k2 : 0 ≤ (a + x) * (b - y) := Int.mul_nonneg (by omega) (by omega)
  have k3 : 0 ≤ (a - x) * (b - y) := Int.mul_nonneg (by omega) (by omega)
  have k4 : 0 ≤ (a + x) * (b + y) := Int.mul_nonneg (by omega) (by omega)
  constructor <;> grind
theorem gp_mulT {x y : Int64} {a b c : Int} (h1 : gp_b x a) (h2 : gp_b y b) (hc : a * b = c) (hl : c < 4611686018427387904) : (x * y).toInt = x.toInt * y.toInt := by
  obtain ⟨k1, k2⟩ := gp_absM h1.1 h1.2 h2.1 h2.2
  rw [Int64.toInt_mul]
  exact gp_bm6 (by omega) (by omega)
theorem gp_bM {x y : Int64} {a b c : Int} (h1 : gp_b x a) (h2 : gp_b y b) (hc : a * b = c) (hl : c < 4611686018427387904) : gp_b (x * y) c := by
  have e := gp_mulT h1 h2 hc hl
  obtain ⟨k1, k2⟩ := gp_absM h1.1 h1.2 h2.1 h2.2
  constructor <;> omega
theorem gp_u2 {d : Int32} (h : sp_in d (-200) 200) : gp_b (2 * Int32.toInt64 d) 400 ∧ (2 * Int32.toInt64 d = 0 → d = 0) := by
  have h1 : gp_b (Int32.toInt64 d) 200 := gp_bI h (by decide) (by decide)
  have h2 : gp_b (2 : Int64) 2 := by decide
  refine ⟨gp_bM h2 h1 (by decide) (by decide), fun e => ?_⟩
  have e1 := gp_mulT h2 h1 (c := 400) (by decide) (by decide)
  rw [e] at e1
  have e2 : (2 : Int64).toInt = 2 := by decide
  have e3 : (0 : Int64).toInt = 0 := by decide
  have e4 : (Int32.toInt64 d).toInt = d.toInt := by simp
  rw [e2, e3, e4] at e1
  refine Int32.toInt_inj.mp ?_
  have e5 : (0 : Int32).toInt = 0 := by decide
  omega
theorem gp_allP {x y : Int64} (h1 : gp_b x 400) (h2 : gp_b y 400) : gp_b (x * x + y * y) 320000 ∧ (¬ (x = 0 ∧ y = 0) → 1 ≤ (x * x + y * y).toInt) := by
  have b1 := gp_bM h1 h1 (c := 160000) (by decide) (by decide)
  have b2 := gp_bM h2 h2 (c := 160000) (by decide) (by decide)
  refine ⟨gp_bA b1 b2 (by decide) (by decide), fun hne => ?_⟩
  have e1 := gp_mulT h1 h1 (c := 160000) (by decide) (by decide)
  have e2 := gp_mulT h2 h2 (c := 160000) (by decide) (by decide)
  have e : (x * x + y * y).toInt = x.toInt * x.toInt + y.toInt * y.toInt := by
    rw [Int64.toInt_add, gp_bm6 (by have := b1.1; have := b2.1; omega) (by have := b1.2; have := b2.2; omega), e1, e2]
  rw [e]
  have sq : ∀ z : Int, z ≠ 0 → 1 ≤ z * z := fun z hz => by
    rcases Int.lt_or_gt_of_ne hz with h | h
    · have := Int.mul_le_mul (a := 1) (b := 1) (c := -z) (d := -z) (by omega) (by omega) (by omega) (by omega)
      rw [Int.neg_mul_neg] at this
      omega
    · have := Int.mul_le_mul (a := 1) (b := 1) (c := z) (d := z) (by omega) (by omega) (by omega) (by omega)
      omega
  have nn : ∀ z : Int, 0 ≤ z * z := fun z => by
    by_cases hz : z = 0
    · subst hz; omega
    · have := sq z hz; omega
  have n1 := nn x.toInt
  have n2 := nn y.toInt
  by_cases hx : x = 0
  · have hy : y.toInt ≠ 0 := fun z => hne ⟨hx, Int64.toInt_inj.mp (z.trans (by decide))⟩
    have := sq _ hy
    omega
  · have hy : x.toInt ≠ 0 := fun z => hx (Int64.toInt_inj.mp (z.trans (by decide)))
    have := sq _ hy
    omega
def gp_mt (u v : Int64) : Prop := 0 ≤ u.toInt ∧ u.toInt ≤ v.toInt ∧ 0 < v.toInt ∧ v.toInt ≤ 100000000000000
theorem gp_mtC {al sm nu : Int64} (h1 : gp_b al 320000) (h2 : 1 ≤ al.toInt) (h3 : 1 ≤ sm.toInt) (h4 : sm.toInt ≤ 10000000) (h5 : ¬ nu < 0) (h6 : nu ≤ al * sm) : gp_mt nu (al * sm) := by
  have hb : gp_b sm 10000000 := ⟨by omega, h4⟩
  have e := gp_mulT h1 hb (c := 3200000000000) (by decide) (by decide)
  have e0 : (0 : Int64).toInt = 0 := by decide
  have a5 : 0 ≤ nu.toInt := by
    have : ¬ nu.toInt < (0 : Int64).toInt := fun z => h5 (Int64.lt_iff_toInt_lt.mpr z)
    omega
  have a6 := Int64.le_iff_toInt_le.mp h6
  have m1 := Int.mul_le_mul h2 h3 (by omega) (by omega)
  have m2 := Int.mul_le_mul h1.2 h4 (by omega) (by omega)
  refine ⟨a5, a6, ?_, ?_⟩ <;> rw [e] <;> omega
theorem gp_mtA {al a b nu : Int64} (h1 : gp_b al 320000) (h2 : 1 ≤ al.toInt) (ha : gp_b a 400000) (hb : gp_b b 9000000) (pa : 0 < a) (pb : 0 < b) (h5 : ¬ nu < 0) (h6 : nu ≤ al * (a + b)) : gp_mt nu (al * (a + b)) := by
  have e0 : (0 : Int64).toInt = 0 := by decide
  have a1 := Int64.lt_iff_toInt_lt.mp pa
  have b1 := Int64.lt_iff_toInt_lt.mp pb
  obtain ⟨a2, a3⟩ := ha
  obtain ⟨b2, b3⟩ := hb
  have e : (a + b).toInt = a.toInt + b.toInt := by rw [Int64.toInt_add]; exact gp_bm6 (by omega) (by omega)
  exact gp_mtC h1 h2 (by omega) (by omega) h5 h6
theorem gp_mtB {al a b nu : Int64} (h1 : gp_b al 320000) (h2 : 1 ≤ al.toInt) (ha : gp_b a 400000) (hb : gp_b b 9000000) (pa : a < 0) (pb : b < 0) (h5 : ¬ nu < 0) (h6 : nu ≤ al * (-(a + b))) : gp_mt nu (al * (-(a + b))) := by
  have e0 : (0 : Int64).toInt = 0 := by decide
  have a1 := Int64.lt_iff_toInt_lt.mp pa
  have b1 := Int64.lt_iff_toInt_lt.mp pb
  obtain ⟨a2, a3⟩ := ha
  obtain ⟨b2, b3⟩ := hb
  have e : (a + b).toInt = a.toInt + b.toInt := by rw [Int64.toInt_add]; exact gp_bm6 (by omega) (by omega)
  have e2 : (-(a + b)).toInt = -(a.toInt + b.toInt) := by rw [Int64.toInt_neg, e]; exact gp_bm6 (by omega) (by omega)
  exact gp_mtC h1 h2 (by omega) (by omega) h5 h6
theorem gp_mtX {a b : Int64} (ha : gp_b a 400000) (hb : gp_b b 9000000) (pa : 0 < a) (pb : 0 < b) (h : a + b < 0) : False := by
  have e0 : (0 : Int64).toInt = 0 := by decide
  have a1 := Int64.lt_iff_toInt_lt.mp pa
  have b1 := Int64.lt_iff_toInt_lt.mp pb
  obtain ⟨a2, a3⟩ := ha
  obtain ⟨b2, b3⟩ := hb
  have e : (a + b).toInt = a.toInt + b.toInt := by rw [Int64.toInt_add]; exact gp_bm6 (by omega) (by omega)
  have := Int64.lt_iff_toInt_lt.mp h
  omega
theorem gp_mtY {a b : Int64} (ha : gp_b a 400000) (hb : gp_b b 9000000) (pa : a < 0) (pb : b < 0) (h : ¬ a + b < 0) : False := by
  have e0 : (0 : Int64).toInt = 0 := by decide
  have a1 := Int64.lt_iff_toInt_lt.mp pa
  have b1 := Int64.lt_iff_toInt_lt.mp pb
  obtain ⟨a2, a3⟩ := ha
  obtain ⟨b2, b3⟩ := hb
  have e : (a + b).toInt = a.toInt + b.toInt := by rw [Int64.toInt_add]; exact gp_bm6 (by omega) (by omega)
  refine h (Int64.lt_iff_toInt_lt.mpr ?_)
  omega
theorem gp_bW {x : Int64} {a b : Int} (h : gp_b x a) (hab : a ≤ b) : gp_b x b := ⟨by have := h.1; omega, by have := h.2; omega⟩
theorem gp_wm {u v : Int64} (h : gp_mt u v) : sp_in (1000 * u / v).toInt32 0 1000 := by
  obtain ⟨h1, h2, h3, h4⟩ := h
  have b1 : gp_b u 100000000000000 := ⟨by omega, by omega⟩
  have b2 : gp_b (1000 : Int64) 1000 := by decide
  have e := gp_mulT b2 b1 (c := 100000000000000000) (by decide) (by decide)
  have e1 : (1000 : Int64).toInt = 1000 := by decide
  rw [e1] at e
  have hq : (1000 * u / v).toInt = (1000 * u.toInt).tdiv v.toInt := by
    rw [Int64.toInt_div, e]
    have t : (1000 * u.toInt).tdiv v.toInt = (1000 * u.toInt) / v.toInt := Int.tdiv_eq_ediv_of_nonneg (by omega)
    rw [t]
    have l1 : 0 ≤ (1000 * u.toInt) / v.toInt := Int.ediv_nonneg (by omega) (by omega)
    have l2 : (1000 * u.toInt) / v.toInt ≤ 1000 := by
      have : (1000 * u.toInt) / v.toInt ≤ (1000 * v.toInt) / v.toInt := Int.ediv_le_ediv h3 (by omega)
      rw [Int.mul_ediv_cancel _ (by omega)] at this
      exact this
    exact gp_bm6 (by omega) (by omega)
  have t : (1000 * u.toInt).tdiv v.toInt = (1000 * u.toInt) / v.toInt := Int.tdiv_eq_ediv_of_nonneg (by omega)
  have l1 : 0 ≤ (1000 * u.toInt) / v.toInt := Int.ediv_nonneg (by omega) (by omega)
  have l2 : (1000 * u.toInt) / v.toInt ≤ 1000 := by
    have : (1000 * u.toInt) / v.toInt ≤ (1000 * v.toInt) / v.toInt := Int.ediv_le_ediv h3 (by omega)
    rw [Int.mul_ediv_cancel _ (by omega)] at this
    exact this
  have e3 : ((1000 * u / v).toInt32).toInt = (1000 * u.toInt) / v.toInt := by
    rw [Int64.toInt_toInt32, hq, t]
    exact Int.bmod_eq_of_le (by omega) (by omega)
  have e0 : (0 : Int32).toInt = 0 := by decide
  have e4 : (1000 : Int32).toInt = 1000 := by decide
  exact ⟨Int32.le_iff_toInt_le.mpr (by omega), Int32.le_iff_toInt_le.mpr (by omega)⟩
theorem gp_mt0 {u v : Int64} (h : gp_mt u v) : ¬ v = 0 := by
  intro e
  have := h.2.2.1
  rw [e] at this
  exact absurd this (by decide)
theorem gp_bH {x : Int64} {a : Int} (h : gp_b x a) : gp_b (x / 2) a := by
  obtain ⟨h1, h2⟩ := h
  have e2 : (2 : Int64).toInt = 2 := by decide
  have b1 := Int64.le_toInt x
  have b2 := Int64.toInt_lt x
  have key : x.toInt.tdiv 2 = if 0 ≤ x.toInt then x.toInt / 2 else -((-x.toInt) / 2) := by
    split
    · next h => exact Int.tdiv_eq_ediv_of_nonneg h
    · next h =>
      have := Int.neg_tdiv (-x.toInt) 2
      rw [Int.neg_neg] at this
      rw [this, Int.tdiv_eq_ediv_of_nonneg (by omega)]
  have e : (x / 2).toInt = x.toInt.tdiv 2 := by
    rw [Int64.toInt_div, e2]
    refine gp_bm6 ?_ ?_ <;> rw [key] <;> split <;> omega
  rw [key] at e
  refine ⟨?_, ?_⟩ <;> rw [e] <;> split <;> omega
theorem gp_sub0 {a b : Int32} (h : (a - b) = 0) : b = a := by grind

theorem lf_sX12_meets_1 (m_ax : Int32) (m_bx : Int32) (f_m_ax : sp_in m_ax (-100) 100) (f_m_bx : sp_in m_bx (-100) 100) : sp_in (m_bx - m_ax) (-200) 200 := by
  first | grind | (simp only [sp_in, sp_pl, sp_far, sp_two] at *; grind)
theorem lf_sX12_meets_2 (m_ax : Int32) (m_bx : Int32) (f_m_ax : sp_in m_ax (-100) 100) (f_m_bx : sp_in m_bx (-100) 100) : sp_in (m_bx - m_ax) (-200) 200 := by
  first | grind | (simp only [sp_in, sp_pl, sp_far, sp_two] at *; grind)
theorem lf_sX12_meets_3 (m_ay : Int32) (m_by : Int32) (f_m_ay : sp_in m_ay (-100) 100) (f_m_by : sp_in m_by (-100) 100) : sp_in (m_by - m_ay) (-200) 200 := by
  first | grind | (simp only [sp_in, sp_pl, sp_far, sp_two] at *; grind)
theorem lf_sX12_meets_4 (m_ay : Int32) (m_by : Int32) (f_m_ay : sp_in m_ay (-100) 100) (f_m_by : sp_in m_by (-100) 100) : sp_in (m_by - m_ay) (-200) 200 := by
  first | grind | (simp only [sp_in, sp_pl, sp_far, sp_two] at *; grind)
def v_sX12_meets : List Cond := .code yX12_meets cX12_meets 24 (some .boolean) :: (([.constantLong RX12 108 2, .fieldLink RX12 53 "GhostPaneModel" "seatX" "[I", .fieldLink RX12 124 "GhostPaneModel" "eyeX" "J", .fieldLink RX12 57 "GhostPaneModel" "seatY" "[I", .fieldLink RX12 128 "GhostPaneModel" "eyeY" "J", .fieldLink RX12 131 "GhostPaneModel" "goalX" "J", .fieldLink RX12 134 "GhostPaneModel" "goalY" "J", .fieldLink RX12 22 "GhostPaneModel" "bx" "I", .fieldLink RX12 15 "GhostPaneModel" "ax" "I", .fieldLink RX12 25 "GhostPaneModel" "by" "I", .fieldLink RX12 19 "GhostPaneModel" "ay" "I", .fieldLink RX12 137 "GhostPaneModel" "meetAlong" "J", .fieldLink RX12 140 "GhostPaneModel" "meetBy" "J", .fieldLink RX12 143 "GhostPaneModel" "meetX" "J", .fieldLink RX12 146 "GhostPaneModel" "meetY" "J"] : List Cond) ++ wsX120)
set_option maxHeartbeats 4000000 in
set_option maxRecDepth 100000 in
theorem sX12_meets (l : Launch) (D : va_G) (cy : Nat → ClassId) (sz : Nat) (ma : Nat → Nat) (m_ax : Int32) (m_ay : Int32) (m_bx : Int32) (m_by : Int32) (m_cx : Int32) (m_cy : Int32) (m_dx : Int32) (m_dy : Int32) (m_floor : Int32) (m_hand : Int32) (m_deep : Int32) (m_eyeX : Int64) (m_eyeY : Int64) (m_goalX : Int64) (m_goalY : Int64) (m_meetX : Int64) (m_meetY : Int64) (m_meetBy : Int64) (m_meetAlong : Int64) (m_taped : Int32) (m_at : Int32) (m_size : Int32) (m_ended : Int32) (m_bad : Int32) (m_badPlace : Int32) (m_fault : Int32) (m_faultPlace : Int32) (m_namePlace : Int32) (m_codes : Int32) (m_figures : Int32) (m_open : Int32) (m_last : Int32) (m_now : Int32) (m_from : Int32) (m_piled : Int32) (m_hasGrid : Int32) (m_gridN : Int32) (m_gridM : Int32) (m_gridX : Int32) (m_gridY : Int32) (m_gridDeep : Int32) (m_ownX : Int32) (m_ownY : Int32) (m_ownDeep : Int32) (m_joinMany : Int32) (m_acts : Int32) (r_isSeat : Nat → Int32) (r_seatX : Nat → Int32) (r_seatY : Nat → Int32) (sx : Int32) (x : Int64) (y : Int64) (f_m_ax : sp_in m_ax (-100) 100) (f_m_ay : sp_in m_ay (-100) 100) (f_m_bx : sp_in m_bx (-100) 100) (f_m_by : sp_in m_by (-100) 100) (f_m_cx : sp_in m_cx (-100) 100) (f_m_cy : sp_in m_cy (-100) 100) (f_m_dx : sp_in m_dx (-100) 100) (f_m_dy : sp_in m_dy (-100) 100) (f_m_floor : sp_in m_floor (-100) 100) (f_m_hand : sp_in m_hand 0 50) (f_m_deep : sp_in m_deep 0 60) (f_m_taped : sp_in m_taped 0 600) (f_m_at : sp_in m_at 0 600) (f_m_size : sp_in m_size 0 600) (f_m_codes : sp_in m_codes 0 399) (f_m_figures : sp_in m_figures 0 12) (f_m_open : sp_in m_open 0 6) (f_m_last : sp_in m_last 0 240) (f_m_joinMany : sp_in m_joinMany 0 1000) (f_m_acts : sp_in m_acts 0 100) (f_r_seatX : ∀ i, sp_in (r_seatX i) (-100) 100) (f_r_seatY : ∀ i, sp_in (r_seatY i) (-100) 100) (q0 : sp_in sx 0 7) (q1 : gp_b x 10000) (q2 : gp_b y 10000) : Met l yX12_meets v_sX12_meets ({ frames := 0, cells := 0, slots := 0, locals := 0 } : Room) (va_Pc [.ref (ma 200), .int sx, .long x, .long y] (gp_B D cy sz [(o_m ma m_ax m_ay m_bx m_by m_cx m_cy m_dx m_dy m_floor m_hand m_deep m_eyeX m_eyeY m_goalX m_goalY m_meetX m_meetY m_meetBy m_meetAlong m_taped m_at m_size m_ended m_bad m_badPlace m_fault m_faultPlace m_namePlace m_codes m_figures m_open m_last m_now m_from m_piled m_hasGrid m_gridN m_gridM m_gridX m_gridY m_gridDeep m_ownX m_ownY m_ownDeep m_joinMany m_acts), (aI (ma 11) (cy 3) 8 r_isSeat), (aI (ma 12) (cy 1) 8 r_seatX), (aI (ma 13) (cy 1) 8 r_seatY)])) (va_Qi (fun (r : Int32) (u : (Int64) × (Int64) × (Int64) × (Int64) × (Int64) × (Int64) × (Int64) × (Int64)) => (r = 0 ∨ r = 1) ∧ (¬ (m_ax = m_bx ∧ m_ay = m_by) → r = 1 → gp_mt u.2.2.2.2.2.2.2 u.2.2.2.2.2.2.1)) (fun u => gp_E D (va_A [(o_m ma m_ax m_ay m_bx m_by m_cx m_cy m_dx m_dy m_floor m_hand m_deep m_eyeX m_eyeY m_goalX m_goalY m_meetX m_meetY m_meetBy m_meetAlong m_taped m_at m_size m_ended m_bad m_badPlace m_fault m_faultPlace m_namePlace m_codes m_figures m_open m_last m_now m_from m_piled m_hasGrid m_gridN m_gridM m_gridX m_gridY m_gridDeep m_ownX m_ownY m_ownDeep m_joinMany m_acts), (aI (ma 11) (cy 3) 8 r_isSeat), (aI (ma 12) (cy 1) 8 r_seatX), (aI (ma 13) (cy 1) 8 r_seatY)] sz) [(o_m ma m_ax m_ay m_bx m_by m_cx m_cy m_dx m_dy m_floor m_hand m_deep u.1 u.2.1 u.2.2.1 u.2.2.2.1 u.2.2.2.2.1 u.2.2.2.2.2.1 u.2.2.2.2.2.2.1 u.2.2.2.2.2.2.2 m_taped m_at m_size m_ended m_bad m_badPlace m_fault m_faultPlace m_namePlace m_codes m_figures m_open m_last m_now m_from m_piled m_hasGrid m_gridN m_gridM m_gridX m_gridY m_gridDeep m_ownX m_ownY m_ownDeep m_joinMany m_acts), (aI (ma 11) (cy 3) 8 r_isSeat), (aI (ma 12) (cy 1) 8 r_seatX), (aI (ma 13) (cy 1) 8 r_seatY)]) (va_A [(o_m ma m_ax m_ay m_bx m_by m_cx m_cy m_dx m_dy m_floor m_hand m_deep m_eyeX m_eyeY m_goalX m_goalY m_meetX m_meetY m_meetBy m_meetAlong m_taped m_at m_size m_ended m_bad m_badPlace m_fault m_faultPlace m_namePlace m_codes m_figures m_open m_last m_now m_from m_piled m_hasGrid m_gridN m_gridM m_gridX m_gridY m_gridDeep m_ownX m_ownY m_ownDeep m_joinMany m_acts), (aI (ma 11) (cy 3) 8 r_isSeat), (aI (ma 12) (cy 1) 8 r_seatX), (aI (ma 13) (cy 1) 8 r_seatY)] sz)) 0 0 (va_A [(o_m ma m_ax m_ay m_bx m_by m_cx m_cy m_dx m_dy m_floor m_hand m_deep m_eyeX m_eyeY m_goalX m_goalY m_meetX m_meetY m_meetBy m_meetAlong m_taped m_at m_size m_ended m_bad m_badPlace m_fault m_faultPlace m_namePlace m_codes m_figures m_open m_last m_now m_from m_piled m_hasGrid m_gridN m_gridM m_gridX m_gridY m_gridDeep m_ownX m_ownY m_ownDeep m_joinMany m_acts), (aI (ma 11) (cy 3) 8 r_isSeat), (aI (ma 12) (cy 1) 8 r_seatX), (aI (ma 13) (cy 1) 8 r_seatY)] sz) := by
  refine gp_met (Qc := fun A => va_Qi (fun (r : Int32) (u : (Int64) × (Int64) × (Int64) × (Int64) × (Int64) × (Int64) × (Int64) × (Int64)) => (r = 0 ∨ r = 1) ∧ (¬ (m_ax = m_bx ∧ m_ay = m_by) → r = 1 → gp_mt u.2.2.2.2.2.2.2 u.2.2.2.2.2.2.1)) (fun u => gp_E D A [(o_m ma m_ax m_ay m_bx m_by m_cx m_cy m_dx m_dy m_floor m_hand m_deep u.1 u.2.1 u.2.2.1 u.2.2.2.1 u.2.2.2.2.1 u.2.2.2.2.2.1 u.2.2.2.2.2.2.1 u.2.2.2.2.2.2.2 m_taped m_at m_size m_ended m_bad m_badPlace m_fault m_faultPlace m_namePlace m_codes m_figures m_open m_last m_now m_from m_piled m_hasGrid m_gridN m_gridM m_gridX m_gridY m_gridDeep m_ownX m_ownY m_ownDeep m_joinMany m_acts), (aI (ma 11) (cy 3) 8 r_isSeat), (aI (ma 12) (cy 1) 8 r_seatX), (aI (ma 13) (cy 1) 8 r_seatY)]) A) (cc := cX12_meets) (maxL := 24) (ret := (some .boolean)) (by decide) rfl (Nat.le_of_ble_eq_true rfl) ?_
  intro p e s m below meth c A ls H hx hb hml hr hlocks hts hown hin hK hN hS hP hD hA hl
  have hown : s.vm.findClass RX12 = some m.cls := hown
  have hl : lv_has ls 24 [(0, .ref (ma 200)), (1, .int sx), (2, .long x), (4, .long y)] := hl
  have hiX12 : ∀ w ∈ u_ws RX12 TX12 104, w ∈ v_sX12_meets := fun _ h => List.mem_cons_of_mem _ (List.mem_append_right _ h)
  refine lv_aload_n hx hb dX12_meets_0 rfl (lv_at hl 0 rfl) ?_
  refine lv_ldc2 (v := 2) hx hb hown (hts (.constantLong RX12 108 2) (List.mem_of_getElem? (i := 1) rfl)) dX12_meets_1 ?_
  refine lv_aload_n hx hb dX12_meets_4 rfl (lv_at hl 0 rfl) ?_
  refine va_get (D := D) (ci := 12) (v := .ref (ma 12)) (C := RX12) (T := TX12) (N := 104) hx hb hts hiX12 hown hK hP 0 rfl rfl 12 (by decide) (hts (.fieldLink RX12 53 "GhostPaneModel" "seatX" "[I") (List.mem_of_getElem? (i := 2) rfl)) (fun _ h9 => h9) rfl dX12_meets_5 ?_
  refine lv_iload_n hx hb dX12_meets_8 rfl (lv_at hl 1 rfl) ?_
  refine va_iald hx hb hK hP 2 1 rfl rfl (gp_in (hi := 7) q0 (by decide)) dX12_meets_9 ?_
  refine gp_fiP (fun z => sp_in z (-100) 100) (f_r_seatX sx.toNatClampNeg) (fun y_1 g_2 => ?_)
  refine lv_i2l (v := (Int32.toInt64 y_1)) hx hb dX12_meets_10 rfl ?_
  refine gp_flP (fun z => gp_b z 100) (gp_bI g_2 (by decide) (by decide)) (fun y_3 g_4 => ?_)
  refine lv_lmul hx hb dX12_meets_11 ?_
  refine gp_flP (fun z => gp_b z 200) (gp_bM (show gp_b (2) 2 by decide) g_4 (by decide) (by decide)) (fun y_5 g_6 => ?_)
  refine va_put (D := D) (ci := 12) (v := .long y_5) (ty := .long) (C := RX12) (T := TX12) (N := 104) hx hb hts hiX12 tyX12 tyX12_ok nmX12 hown hK hP hD hS 0 rfl rfl 25 (by decide) (hts (.fieldLink RX12 124 "GhostPaneModel" "eyeX" "J") (List.mem_of_getElem? (i := 3) rfl)) (fun _ h9 => h9) rfl (by decide +kernel) rfl rfl (Nat.le_of_ble_eq_true rfl) dX12_meets_12 (fun H locs hP hD hS => ?_)
  have hP : va_P D vwCl [(o_m ma m_ax m_ay m_bx m_by m_cx m_cy m_dx m_dy m_floor m_hand m_deep y_5 m_eyeY m_goalX m_goalY m_meetX m_meetY m_meetBy m_meetAlong m_taped m_at m_size m_ended m_bad m_badPlace m_fault m_faultPlace m_namePlace m_codes m_figures m_open m_last m_now m_from m_piled m_hasGrid m_gridN m_gridM m_gridX m_gridY m_gridDeep m_ownX m_ownY m_ownDeep m_joinMany m_acts), (aI (ma 11) (cy 3) 8 r_isSeat), (aI (ma 12) (cy 1) 8 r_seatX), (aI (ma 13) (cy 1) 8 r_seatY)] H := hP
  have hD := gp_sD hP hD
  refine lv_aload_n hx hb dX12_meets_15 rfl (lv_at hl 0 rfl) ?_
  refine lv_ldc2 (v := 2) hx hb hown (hts (.constantLong RX12 108 2) (List.mem_of_getElem? (i := 1) rfl)) dX12_meets_16 ?_
  refine lv_aload_n hx hb dX12_meets_19 rfl (lv_at hl 0 rfl) ?_
  refine va_get (D := D) (ci := 12) (v := .ref (ma 13)) (C := RX12) (T := TX12) (N := 104) hx hb hts hiX12 hown hK hP 0 rfl rfl 13 (by decide) (hts (.fieldLink RX12 57 "GhostPaneModel" "seatY" "[I") (List.mem_of_getElem? (i := 4) rfl)) (fun _ h9 => h9) rfl dX12_meets_20 ?_
  refine lv_iload_n hx hb dX12_meets_23 rfl (lv_at hl 1 rfl) ?_
  refine va_iald hx hb hK hP 3 1 rfl rfl (gp_in (hi := 7) q0 (by decide)) dX12_meets_24 ?_
  refine gp_fiP (fun z => sp_in z (-100) 100) (f_r_seatY sx.toNatClampNeg) (fun y_7 g_8 => ?_)
  refine lv_i2l (v := (Int32.toInt64 y_7)) hx hb dX12_meets_25 rfl ?_
  refine gp_flP (fun z => gp_b z 100) (gp_bI g_8 (by decide) (by decide)) (fun y_9 g_10 => ?_)
  refine lv_lmul hx hb dX12_meets_26 ?_
  refine gp_flP (fun z => gp_b z 200) (gp_bM (show gp_b (2) 2 by decide) g_10 (by decide) (by decide)) (fun y_11 g_12 => ?_)
  refine va_put (D := D) (ci := 12) (v := .long y_11) (ty := .long) (C := RX12) (T := TX12) (N := 104) hx hb hts hiX12 tyX12 tyX12_ok nmX12 hown hK hP hD hS 0 rfl rfl 26 (by decide) (hts (.fieldLink RX12 128 "GhostPaneModel" "eyeY" "J") (List.mem_of_getElem? (i := 5) rfl)) (fun _ h9 => h9) rfl (by decide +kernel) rfl rfl (Nat.le_of_ble_eq_true rfl) dX12_meets_27 (fun H locs hP hD hS => ?_)
  have hP : va_P D vwCl [(o_m ma m_ax m_ay m_bx m_by m_cx m_cy m_dx m_dy m_floor m_hand m_deep y_5 y_11 m_goalX m_goalY m_meetX m_meetY m_meetBy m_meetAlong m_taped m_at m_size m_ended m_bad m_badPlace m_fault m_faultPlace m_namePlace m_codes m_figures m_open m_last m_now m_from m_piled m_hasGrid m_gridN m_gridM m_gridX m_gridY m_gridDeep m_ownX m_ownY m_ownDeep m_joinMany m_acts), (aI (ma 11) (cy 3) 8 r_isSeat), (aI (ma 12) (cy 1) 8 r_seatX), (aI (ma 13) (cy 1) 8 r_seatY)] H := hP
  have hD := gp_sD hP hD
  refine lv_aload_n hx hb dX12_meets_30 rfl (lv_at hl 0 rfl) ?_
  refine lv_lload_n hx hb dX12_meets_31 rfl (lv_at hl 2 rfl) ?_
  refine va_put (D := D) (ci := 12) (v := .long x) (ty := .long) (C := RX12) (T := TX12) (N := 104) hx hb hts hiX12 tyX12 tyX12_ok nmX12 hown hK hP hD hS 0 rfl rfl 27 (by decide) (hts (.fieldLink RX12 131 "GhostPaneModel" "goalX" "J") (List.mem_of_getElem? (i := 6) rfl)) (fun _ h9 => h9) rfl (by decide +kernel) rfl rfl (Nat.le_of_ble_eq_true rfl) dX12_meets_32 (fun H locs hP hD hS => ?_)
  have hP : va_P D vwCl [(o_m ma m_ax m_ay m_bx m_by m_cx m_cy m_dx m_dy m_floor m_hand m_deep y_5 y_11 x m_goalY m_meetX m_meetY m_meetBy m_meetAlong m_taped m_at m_size m_ended m_bad m_badPlace m_fault m_faultPlace m_namePlace m_codes m_figures m_open m_last m_now m_from m_piled m_hasGrid m_gridN m_gridM m_gridX m_gridY m_gridDeep m_ownX m_ownY m_ownDeep m_joinMany m_acts), (aI (ma 11) (cy 3) 8 r_isSeat), (aI (ma 12) (cy 1) 8 r_seatX), (aI (ma 13) (cy 1) 8 r_seatY)] H := hP
  have hD := gp_sD hP hD
  refine lv_aload_n hx hb dX12_meets_35 rfl (lv_at hl 0 rfl) ?_
  refine lv_lload hx hb dX12_meets_36 (lv_at hl 3 rfl) ?_
  refine va_put (D := D) (ci := 12) (v := .long y) (ty := .long) (C := RX12) (T := TX12) (N := 104) hx hb hts hiX12 tyX12 tyX12_ok nmX12 hown hK hP hD hS 0 rfl rfl 28 (by decide) (hts (.fieldLink RX12 134 "GhostPaneModel" "goalY" "J") (List.mem_of_getElem? (i := 7) rfl)) (fun _ h9 => h9) rfl (by decide +kernel) rfl rfl (Nat.le_of_ble_eq_true rfl) dX12_meets_38 (fun H locs hP hD hS => ?_)
  have hP : va_P D vwCl [(o_m ma m_ax m_ay m_bx m_by m_cx m_cy m_dx m_dy m_floor m_hand m_deep y_5 y_11 x y m_meetX m_meetY m_meetBy m_meetAlong m_taped m_at m_size m_ended m_bad m_badPlace m_fault m_faultPlace m_namePlace m_codes m_figures m_open m_last m_now m_from m_piled m_hasGrid m_gridN m_gridM m_gridX m_gridY m_gridDeep m_ownX m_ownY m_ownDeep m_joinMany m_acts), (aI (ma 11) (cy 3) 8 r_isSeat), (aI (ma 12) (cy 1) 8 r_seatX), (aI (ma 13) (cy 1) 8 r_seatY)] H := hP
  have hD := gp_sD hP hD
  refine lv_ldc2 (v := 2) hx hb hown (hts (.constantLong RX12 108 2) (List.mem_of_getElem? (i := 1) rfl)) dX12_meets_41 ?_
  refine lv_aload_n hx hb dX12_meets_44 rfl (lv_at hl 0 rfl) ?_
  refine va_get (D := D) (ci := 12) (v := .int m_bx) (C := RX12) (T := TX12) (N := 104) hx hb hts hiX12 hown hK hP 0 rfl rfl 2 (by decide) (hts (.fieldLink RX12 22 "GhostPaneModel" "bx" "I") (List.mem_of_getElem? (i := 8) rfl)) (fun _ h9 => h9) rfl dX12_meets_45 ?_
  refine lv_aload_n hx hb dX12_meets_48 rfl (lv_at hl 0 rfl) ?_
  refine va_get (D := D) (ci := 12) (v := .int m_ax) (C := RX12) (T := TX12) (N := 104) hx hb hts hiX12 hown hK hP 0 rfl rfl 0 (by decide) (hts (.fieldLink RX12 15 "GhostPaneModel" "ax" "I") (List.mem_of_getElem? (i := 9) rfl)) (fun _ h9 => h9) rfl dX12_meets_49 ?_
  refine lv_isub hx hb dX12_meets_52 ?_
  refine lv_i2l (v := (Int32.toInt64 (m_bx - m_ax))) hx hb dX12_meets_53 rfl ?_
  refine lv_lmul hx hb dX12_meets_54 ?_
  refine gp_flP (fun z => (gp_b z 400) ∧ (z = 0 → (m_bx - m_ax) = 0)) ⟨(gp_u2 (lf_sX12_meets_1 m_ax m_bx f_m_ax f_m_bx)).1, (gp_u2 (lf_sX12_meets_2 m_ax m_bx f_m_ax f_m_bx)).2⟩ (fun y_13 hg => ?_)
  obtain ⟨g_14, g_15⟩ := hg
  refine lv_lstore (lv' := [(6, .long y_13), (0, .ref (ma 200)), (1, .int sx), (2, .long x), (4, .long y)]) hx hb dX12_meets_55 hl (by decide) rfl (fun ls hl => ?_)
  refine lv_ldc2 (v := 2) hx hb hown (hts (.constantLong RX12 108 2) (List.mem_of_getElem? (i := 1) rfl)) dX12_meets_57 ?_
  refine lv_aload_n hx hb dX12_meets_60 rfl (lv_at hl 1 rfl) ?_
  refine va_get (D := D) (ci := 12) (v := .int m_by) (C := RX12) (T := TX12) (N := 104) hx hb hts hiX12 hown hK hP 0 rfl rfl 3 (by decide) (hts (.fieldLink RX12 25 "GhostPaneModel" "by" "I") (List.mem_of_getElem? (i := 10) rfl)) (fun _ h9 => h9) rfl dX12_meets_61 ?_
  refine lv_aload_n hx hb dX12_meets_64 rfl (lv_at hl 1 rfl) ?_
  refine va_get (D := D) (ci := 12) (v := .int m_ay) (C := RX12) (T := TX12) (N := 104) hx hb hts hiX12 hown hK hP 0 rfl rfl 1 (by decide) (hts (.fieldLink RX12 19 "GhostPaneModel" "ay" "I") (List.mem_of_getElem? (i := 11) rfl)) (fun _ h9 => h9) rfl dX12_meets_65 ?_
  refine lv_isub hx hb dX12_meets_68 ?_
  refine lv_i2l (v := (Int32.toInt64 (m_by - m_ay))) hx hb dX12_meets_69 rfl ?_
  refine lv_lmul hx hb dX12_meets_70 ?_
  refine gp_flP (fun z => (gp_b z 400) ∧ (z = 0 → (m_by - m_ay) = 0)) ⟨(gp_u2 (lf_sX12_meets_3 m_ay m_by f_m_ay f_m_by)).1, (gp_u2 (lf_sX12_meets_4 m_ay m_by f_m_ay f_m_by)).2⟩ (fun y_16 hg => ?_)
  obtain ⟨g_17, g_18⟩ := hg
  refine lv_lstore (lv' := [(8, .long y_16), (6, .long y_13), (0, .ref (ma 200)), (1, .int sx), (2, .long x), (4, .long y)]) hx hb dX12_meets_71 hl (by decide) rfl (fun ls hl => ?_)
  refine lv_aload_n hx hb dX12_meets_73 rfl (lv_at hl 2 rfl) ?_
  refine va_get (D := D) (ci := 12) (v := .long y_5) (C := RX12) (T := TX12) (N := 104) hx hb hts hiX12 hown hK hP 0 rfl rfl 25 (by decide) (hts (.fieldLink RX12 124 "GhostPaneModel" "eyeX" "J") (List.mem_of_getElem? (i := 3) rfl)) (fun _ h9 => h9) rfl dX12_meets_74 ?_
  refine lv_ldc2 (v := 2) hx hb hown (hts (.constantLong RX12 108 2) (List.mem_of_getElem? (i := 1) rfl)) dX12_meets_77 ?_
  refine lv_aload_n hx hb dX12_meets_80 rfl (lv_at hl 2 rfl) ?_
  refine va_get (D := D) (ci := 12) (v := .int m_ax) (C := RX12) (T := TX12) (N := 104) hx hb hts hiX12 hown hK hP 0 rfl rfl 0 (by decide) (hts (.fieldLink RX12 15 "GhostPaneModel" "ax" "I") (List.mem_of_getElem? (i := 9) rfl)) (fun _ h9 => h9) rfl dX12_meets_81 ?_
  refine lv_i2l (v := (Int32.toInt64 m_ax)) hx hb dX12_meets_84 rfl ?_
  refine gp_flP (fun z => gp_b z 100) (gp_bI f_m_ax (by decide) (by decide)) (fun y_19 g_20 => ?_)
  refine lv_lmul hx hb dX12_meets_85 ?_
  refine gp_flP (fun z => gp_b z 200) (gp_bM (show gp_b (2) 2 by decide) g_20 (by decide) (by decide)) (fun y_21 g_22 => ?_)
  refine lv_lsub hx hb dX12_meets_86 ?_
  refine gp_flP (fun z => gp_b z 400) (gp_bS g_6 g_22 (by decide) (by decide)) (fun y_23 g_24 => ?_)
  refine lv_lload hx hb dX12_meets_87 (lv_at hl 1 rfl) ?_
  refine lv_lmul hx hb dX12_meets_89 ?_
  refine gp_flP (fun z => gp_b z 160000) (gp_bM g_24 g_14 (by decide) (by decide)) (fun y_25 g_26 => ?_)
  refine lv_aload_n hx hb dX12_meets_90 rfl (lv_at hl 2 rfl) ?_
  refine va_get (D := D) (ci := 12) (v := .long y_11) (C := RX12) (T := TX12) (N := 104) hx hb hts hiX12 hown hK hP 0 rfl rfl 26 (by decide) (hts (.fieldLink RX12 128 "GhostPaneModel" "eyeY" "J") (List.mem_of_getElem? (i := 5) rfl)) (fun _ h9 => h9) rfl dX12_meets_91 ?_
  refine lv_ldc2 (v := 2) hx hb hown (hts (.constantLong RX12 108 2) (List.mem_of_getElem? (i := 1) rfl)) dX12_meets_94 ?_
  refine lv_aload_n hx hb dX12_meets_97 rfl (lv_at hl 2 rfl) ?_
  refine va_get (D := D) (ci := 12) (v := .int m_ay) (C := RX12) (T := TX12) (N := 104) hx hb hts hiX12 hown hK hP 0 rfl rfl 1 (by decide) (hts (.fieldLink RX12 19 "GhostPaneModel" "ay" "I") (List.mem_of_getElem? (i := 11) rfl)) (fun _ h9 => h9) rfl dX12_meets_98 ?_
  refine lv_i2l (v := (Int32.toInt64 m_ay)) hx hb dX12_meets_101 rfl ?_
  refine gp_flP (fun z => gp_b z 100) (gp_bI f_m_ay (by decide) (by decide)) (fun y_27 g_28 => ?_)
  refine lv_lmul hx hb dX12_meets_102 ?_
  refine gp_flP (fun z => gp_b z 200) (gp_bM (show gp_b (2) 2 by decide) g_28 (by decide) (by decide)) (fun y_29 g_30 => ?_)
  refine lv_lsub hx hb dX12_meets_103 ?_
  refine gp_flP (fun z => gp_b z 400) (gp_bS g_12 g_30 (by decide) (by decide)) (fun y_31 g_32 => ?_)
  refine lv_lload hx hb dX12_meets_104 (lv_at hl 0 rfl) ?_
  refine lv_lmul hx hb dX12_meets_106 ?_
  refine gp_flP (fun z => gp_b z 160000) (gp_bM g_32 g_17 (by decide) (by decide)) (fun y_33 g_34 => ?_)
  refine lv_ladd hx hb dX12_meets_107 ?_
  refine gp_flP (fun z => gp_b z 320000) (gp_bA g_26 g_34 (by decide) (by decide)) (fun y_35 g_36 => ?_)
  refine lv_lstore (lv' := [(10, .long y_35), (8, .long y_16), (6, .long y_13), (0, .ref (ma 200)), (1, .int sx), (2, .long x), (4, .long y)]) hx hb dX12_meets_108 hl (by decide) rfl (fun ls hl => ?_)
  refine lv_aload_n hx hb dX12_meets_110 rfl (lv_at hl 3 rfl) ?_
  refine va_get (D := D) (ci := 12) (v := .long y_5) (C := RX12) (T := TX12) (N := 104) hx hb hts hiX12 hown hK hP 0 rfl rfl 25 (by decide) (hts (.fieldLink RX12 124 "GhostPaneModel" "eyeX" "J") (List.mem_of_getElem? (i := 3) rfl)) (fun _ h9 => h9) rfl dX12_meets_111 ?_
  refine lv_ldc2 (v := 2) hx hb hown (hts (.constantLong RX12 108 2) (List.mem_of_getElem? (i := 1) rfl)) dX12_meets_114 ?_
  refine lv_aload_n hx hb dX12_meets_117 rfl (lv_at hl 3 rfl) ?_
  refine va_get (D := D) (ci := 12) (v := .int m_ax) (C := RX12) (T := TX12) (N := 104) hx hb hts hiX12 hown hK hP 0 rfl rfl 0 (by decide) (hts (.fieldLink RX12 15 "GhostPaneModel" "ax" "I") (List.mem_of_getElem? (i := 9) rfl)) (fun _ h9 => h9) rfl dX12_meets_118 ?_
  refine lv_i2l (v := (Int32.toInt64 m_ax)) hx hb dX12_meets_121 rfl ?_
  refine gp_flP (fun z => gp_b z 100) (gp_bI f_m_ax (by decide) (by decide)) (fun y_37 g_38 => ?_)
  refine lv_lmul hx hb dX12_meets_122 ?_
  refine gp_flP (fun z => gp_b z 200) (gp_bM (show gp_b (2) 2 by decide) g_38 (by decide) (by decide)) (fun y_39 g_40 => ?_)
  refine lv_lsub hx hb dX12_meets_123 ?_
  refine gp_flP (fun z => gp_b z 400) (gp_bS g_6 g_40 (by decide) (by decide)) (fun y_41 g_42 => ?_)
  refine lv_lneg hx hb dX12_meets_124 ?_
  refine gp_flP (fun z => gp_b z 400) (gp_bN g_42 (by decide)) (fun y_43 g_44 => ?_)
  refine lv_lload hx hb dX12_meets_125 (lv_at hl 1 rfl) ?_
  refine lv_lmul hx hb dX12_meets_127 ?_
  refine gp_flP (fun z => gp_b z 160000) (gp_bM g_44 g_17 (by decide) (by decide)) (fun y_45 g_46 => ?_)
  refine lv_aload_n hx hb dX12_meets_128 rfl (lv_at hl 3 rfl) ?_
  refine va_get (D := D) (ci := 12) (v := .long y_11) (C := RX12) (T := TX12) (N := 104) hx hb hts hiX12 hown hK hP 0 rfl rfl 26 (by decide) (hts (.fieldLink RX12 128 "GhostPaneModel" "eyeY" "J") (List.mem_of_getElem? (i := 5) rfl)) (fun _ h9 => h9) rfl dX12_meets_129 ?_
  refine lv_ldc2 (v := 2) hx hb hown (hts (.constantLong RX12 108 2) (List.mem_of_getElem? (i := 1) rfl)) dX12_meets_132 ?_
  refine lv_aload_n hx hb dX12_meets_135 rfl (lv_at hl 3 rfl) ?_
  refine va_get (D := D) (ci := 12) (v := .int m_ay) (C := RX12) (T := TX12) (N := 104) hx hb hts hiX12 hown hK hP 0 rfl rfl 1 (by decide) (hts (.fieldLink RX12 19 "GhostPaneModel" "ay" "I") (List.mem_of_getElem? (i := 11) rfl)) (fun _ h9 => h9) rfl dX12_meets_136 ?_
  refine lv_i2l (v := (Int32.toInt64 m_ay)) hx hb dX12_meets_139 rfl ?_
  refine gp_flP (fun z => gp_b z 100) (gp_bI f_m_ay (by decide) (by decide)) (fun y_47 g_48 => ?_)
  refine lv_lmul hx hb dX12_meets_140 ?_
  refine gp_flP (fun z => gp_b z 200) (gp_bM (show gp_b (2) 2 by decide) g_48 (by decide) (by decide)) (fun y_49 g_50 => ?_)
  refine lv_lsub hx hb dX12_meets_141 ?_
  refine gp_flP (fun z => gp_b z 400) (gp_bS g_12 g_50 (by decide) (by decide)) (fun y_51 g_52 => ?_)
  refine lv_lload hx hb dX12_meets_142 (lv_at hl 2 rfl) ?_
  refine lv_lmul hx hb dX12_meets_144 ?_
  refine gp_flP (fun z => gp_b z 160000) (gp_bM g_52 g_14 (by decide) (by decide)) (fun y_53 g_54 => ?_)
  refine lv_ladd hx hb dX12_meets_145 ?_
  refine gp_flP (fun z => gp_b z 320000) (gp_bA g_46 g_54 (by decide) (by decide)) (fun y_55 g_56 => ?_)
  refine lv_lstore (lv' := [(12, .long y_55), (10, .long y_35), (8, .long y_16), (6, .long y_13), (0, .ref (ma 200)), (1, .int sx), (2, .long x), (4, .long y)]) hx hb dX12_meets_146 hl (by decide) rfl (fun ls hl => ?_)
  refine lv_lload_n hx hb dX12_meets_148 rfl (lv_at hl 6 rfl) ?_
  refine lv_ldc2 (v := 2) hx hb hown (hts (.constantLong RX12 108 2) (List.mem_of_getElem? (i := 1) rfl)) dX12_meets_149 ?_
  refine lv_aload_n hx hb dX12_meets_152 rfl (lv_at hl 4 rfl) ?_
  refine va_get (D := D) (ci := 12) (v := .int m_ax) (C := RX12) (T := TX12) (N := 104) hx hb hts hiX12 hown hK hP 0 rfl rfl 0 (by decide) (hts (.fieldLink RX12 15 "GhostPaneModel" "ax" "I") (List.mem_of_getElem? (i := 9) rfl)) (fun _ h9 => h9) rfl dX12_meets_153 ?_
  refine lv_i2l (v := (Int32.toInt64 m_ax)) hx hb dX12_meets_156 rfl ?_
  refine gp_flP (fun z => gp_b z 100) (gp_bI f_m_ax (by decide) (by decide)) (fun y_57 g_58 => ?_)
  refine lv_lmul hx hb dX12_meets_157 ?_
  refine gp_flP (fun z => gp_b z 200) (gp_bM (show gp_b (2) 2 by decide) g_58 (by decide) (by decide)) (fun y_59 g_60 => ?_)
  refine lv_lsub hx hb dX12_meets_158 ?_
  refine gp_flP (fun z => gp_b z 10200) (gp_bS q1 g_60 (by decide) (by decide)) (fun y_61 g_62 => ?_)
  refine lv_lload hx hb dX12_meets_159 (lv_at hl 3 rfl) ?_
  refine lv_lmul hx hb dX12_meets_161 ?_
  refine gp_flP (fun z => gp_b z 4080000) (gp_bM g_62 g_14 (by decide) (by decide)) (fun y_63 g_64 => ?_)
  refine lv_lload hx hb dX12_meets_162 (lv_at hl 7 rfl) ?_
  refine lv_ldc2 (v := 2) hx hb hown (hts (.constantLong RX12 108 2) (List.mem_of_getElem? (i := 1) rfl)) dX12_meets_164 ?_
  refine lv_aload_n hx hb dX12_meets_167 rfl (lv_at hl 4 rfl) ?_
  refine va_get (D := D) (ci := 12) (v := .int m_ay) (C := RX12) (T := TX12) (N := 104) hx hb hts hiX12 hown hK hP 0 rfl rfl 1 (by decide) (hts (.fieldLink RX12 19 "GhostPaneModel" "ay" "I") (List.mem_of_getElem? (i := 11) rfl)) (fun _ h9 => h9) rfl dX12_meets_168 ?_
  refine lv_i2l (v := (Int32.toInt64 m_ay)) hx hb dX12_meets_171 rfl ?_
  refine gp_flP (fun z => gp_b z 100) (gp_bI f_m_ay (by decide) (by decide)) (fun y_65 g_66 => ?_)
  refine lv_lmul hx hb dX12_meets_172 ?_
  refine gp_flP (fun z => gp_b z 200) (gp_bM (show gp_b (2) 2 by decide) g_66 (by decide) (by decide)) (fun y_67 g_68 => ?_)
  refine lv_lsub hx hb dX12_meets_173 ?_
  refine gp_flP (fun z => gp_b z 10200) (gp_bS q2 g_68 (by decide) (by decide)) (fun y_69 g_70 => ?_)
  refine lv_lload hx hb dX12_meets_174 (lv_at hl 2 rfl) ?_
  refine lv_lmul hx hb dX12_meets_176 ?_
  refine gp_flP (fun z => gp_b z 4080000) (gp_bM g_70 g_17 (by decide) (by decide)) (fun y_71 g_72 => ?_)
  refine lv_ladd hx hb dX12_meets_177 ?_
  refine gp_flP (fun z => gp_b z 8160000) (gp_bA g_64 g_72 (by decide) (by decide)) (fun y_73 g_74 => ?_)
  refine lv_lstore (lv' := [(14, .long y_73), (12, .long y_55), (10, .long y_35), (8, .long y_16), (6, .long y_13), (0, .ref (ma 200)), (1, .int sx), (2, .long x), (4, .long y)]) hx hb dX12_meets_178 hl (by decide) rfl (fun ls hl => ?_)
  refine lv_lload_n hx hb dX12_meets_180 rfl (lv_at hl 7 rfl) ?_
  refine lv_ldc2 (v := 2) hx hb hown (hts (.constantLong RX12 108 2) (List.mem_of_getElem? (i := 1) rfl)) dX12_meets_181 ?_
  refine lv_aload_n hx hb dX12_meets_184 rfl (lv_at hl 5 rfl) ?_
  refine va_get (D := D) (ci := 12) (v := .int m_ax) (C := RX12) (T := TX12) (N := 104) hx hb hts hiX12 hown hK hP 0 rfl rfl 0 (by decide) (hts (.fieldLink RX12 15 "GhostPaneModel" "ax" "I") (List.mem_of_getElem? (i := 9) rfl)) (fun _ h9 => h9) rfl dX12_meets_185 ?_
  refine lv_i2l (v := (Int32.toInt64 m_ax)) hx hb dX12_meets_188 rfl ?_
  refine gp_flP (fun z => gp_b z 100) (gp_bI f_m_ax (by decide) (by decide)) (fun y_75 g_76 => ?_)
  refine lv_lmul hx hb dX12_meets_189 ?_
  refine gp_flP (fun z => gp_b z 200) (gp_bM (show gp_b (2) 2 by decide) g_76 (by decide) (by decide)) (fun y_77 g_78 => ?_)
  refine lv_lsub hx hb dX12_meets_190 ?_
  refine gp_flP (fun z => gp_b z 10200) (gp_bS q1 g_78 (by decide) (by decide)) (fun y_79 g_80 => ?_)
  refine lv_lneg hx hb dX12_meets_191 ?_
  refine gp_flP (fun z => gp_b z 10200) (gp_bN g_80 (by decide)) (fun y_81 g_82 => ?_)
  refine lv_lload hx hb dX12_meets_192 (lv_at hl 3 rfl) ?_
  refine lv_lmul hx hb dX12_meets_194 ?_
  refine gp_flP (fun z => gp_b z 4080000) (gp_bM g_82 g_17 (by decide) (by decide)) (fun y_83 g_84 => ?_)
  refine lv_lload hx hb dX12_meets_195 (lv_at hl 8 rfl) ?_
  refine lv_ldc2 (v := 2) hx hb hown (hts (.constantLong RX12 108 2) (List.mem_of_getElem? (i := 1) rfl)) dX12_meets_197 ?_
  refine lv_aload_n hx hb dX12_meets_200 rfl (lv_at hl 5 rfl) ?_
  refine va_get (D := D) (ci := 12) (v := .int m_ay) (C := RX12) (T := TX12) (N := 104) hx hb hts hiX12 hown hK hP 0 rfl rfl 1 (by decide) (hts (.fieldLink RX12 19 "GhostPaneModel" "ay" "I") (List.mem_of_getElem? (i := 11) rfl)) (fun _ h9 => h9) rfl dX12_meets_201 ?_
  refine lv_i2l (v := (Int32.toInt64 m_ay)) hx hb dX12_meets_204 rfl ?_
  refine gp_flP (fun z => gp_b z 100) (gp_bI f_m_ay (by decide) (by decide)) (fun y_85 g_86 => ?_)
  refine lv_lmul hx hb dX12_meets_205 ?_
  refine gp_flP (fun z => gp_b z 200) (gp_bM (show gp_b (2) 2 by decide) g_86 (by decide) (by decide)) (fun y_87 g_88 => ?_)
  refine lv_lsub hx hb dX12_meets_206 ?_
  refine gp_flP (fun z => gp_b z 10200) (gp_bS q2 g_88 (by decide) (by decide)) (fun y_89 g_90 => ?_)
  refine lv_lload hx hb dX12_meets_207 (lv_at hl 4 rfl) ?_
  refine lv_lmul hx hb dX12_meets_209 ?_
  refine gp_flP (fun z => gp_b z 4080000) (gp_bM g_90 g_14 (by decide) (by decide)) (fun y_91 g_92 => ?_)
  refine lv_ladd hx hb dX12_meets_210 ?_
  refine gp_flP (fun z => gp_b z 8160000) (gp_bA g_84 g_92 (by decide) (by decide)) (fun y_93 g_94 => ?_)
  refine lv_lstore (lv' := [(16, .long y_93), (14, .long y_73), (12, .long y_55), (10, .long y_35), (8, .long y_16), (6, .long y_13), (0, .ref (ma 200)), (1, .int sx), (2, .long x), (4, .long y)]) hx hb dX12_meets_211 hl (by decide) rfl (fun ls hl => ?_)
  refine lv_lload hx hb dX12_meets_213 (lv_at hl 2 rfl) ?_
  refine lv_lconst (v := 0) hx hb dX12_meets_215 (by decide) ?_
  refine W.lcmp hx hb dX12_meets_216 ?_
  refine lv_if_le (tgt := 227) hx hb dX12_meets_217 (by decide) (fun c_95 => ?_) (fun c_95 => ?_)
  · have c_95 : y_55 ≤ 0 := gp_lcT.2.2.2.1.mp c_95
    refine lv_lload hx hb dX12_meets_227 (lv_at hl 2 rfl) ?_
    refine lv_lconst (v := 0) hx hb dX12_meets_229 (by decide) ?_
    refine W.lcmp hx hb dX12_meets_230 ?_
    refine lv_if_ge (tgt := 241) hx hb dX12_meets_231 (by decide) (fun c_96 => ?_) (fun c_96 => ?_)
    · have c_96 : 0 ≤ y_55 := gp_lcT.2.2.2.2.mp c_96
      refine lv_iconst (v := 0) hx hb dX12_meets_241 (by decide) ?_
      exact W.zret (v := 0) hx hb hr narrow_b0 (fun t ht hW => ⟨⟨0, ⟨y_5, y_11, x, y, m_meetX, m_meetY, m_meetBy, m_meetAlong⟩, rfl, ⟨(show (0 : Int32) = 0 ∨ (0 : Int32) = 1 by decide), (fun _ h9 => absurd h9 (by decide))⟩, gp_end ht hP hD⟩, hS.F ht⟩) hS.2.2 dX12_meets_242
    · have c_96 : ¬ 0 ≤ y_55 := fun z => c_96 (gp_lcT.2.2.2.2.mpr z)
      refine lv_lload hx hb dX12_meets_234 (lv_at hl 0 rfl) ?_
      refine lv_lconst (v := 0) hx hb dX12_meets_236 (by decide) ?_
      refine W.lcmp hx hb dX12_meets_237 ?_
      refine lv_if_lt (tgt := 243) hx hb dX12_meets_238 (by decide) (fun c_97 => ?_) (fun c_97 => ?_)
      · have c_97 : y_93 < 0 := gp_lcT.2.1.mp c_97
        refine lv_lload hx hb dX12_meets_243 (lv_at hl 5 rfl) ?_
        refine lv_lload hx hb dX12_meets_245 (lv_at hl 5 rfl) ?_
        refine lv_lmul hx hb dX12_meets_247 ?_
        refine lv_lload hx hb dX12_meets_248 (lv_at hl 4 rfl) ?_
        refine lv_lload hx hb dX12_meets_250 (lv_at hl 4 rfl) ?_
        refine lv_lmul hx hb dX12_meets_252 ?_
        refine lv_ladd hx hb dX12_meets_253 ?_
        refine gp_flP (fun z => (gp_b z 320000) ∧ (¬ (y_13 = 0 ∧ y_16 = 0) → 1 ≤ (z).toInt)) ⟨(gp_allP g_14 g_17).1, (gp_allP g_14 g_17).2⟩ (fun y_98 hg => ?_)
        obtain ⟨g_99, g_100⟩ := hg
        refine lv_lstore (lv' := [(18, .long y_98), (16, .long y_93), (14, .long y_73), (12, .long y_55), (10, .long y_35), (8, .long y_16), (6, .long y_13), (0, .ref (ma 200)), (1, .int sx), (2, .long x), (4, .long y)]) hx hb dX12_meets_254 hl (by decide) rfl (fun ls hl => ?_)
        refine lv_lload hx hb dX12_meets_256 (lv_at hl 3 rfl) ?_
        refine lv_lload hx hb dX12_meets_258 (lv_at hl 1 rfl) ?_
        refine lv_ladd hx hb dX12_meets_260 ?_
        refine lv_lstore (lv' := [(20, .long (y_55 + y_93)), (18, .long y_98), (16, .long y_93), (14, .long y_73), (12, .long y_55), (10, .long y_35), (8, .long y_16), (6, .long y_13), (0, .ref (ma 200)), (1, .int sx), (2, .long x), (4, .long y)]) hx hb dX12_meets_261 hl (by decide) rfl (fun ls hl => ?_)
        refine lv_lload hx hb dX12_meets_263 (lv_at hl 5 rfl) ?_
        refine lv_lload hx hb dX12_meets_265 (lv_at hl 2 rfl) ?_
        refine lv_lmul hx hb dX12_meets_267 ?_
        refine gp_flP (fun z => gp_b z 2611200000000) (gp_bM g_36 g_94 (by decide) (by decide)) (fun y_101 g_102 => ?_)
        refine lv_lload hx hb dX12_meets_268 (lv_at hl 3 rfl) ?_
        refine lv_lload hx hb dX12_meets_270 (lv_at hl 4 rfl) ?_
        refine lv_lmul hx hb dX12_meets_272 ?_
        refine gp_flP (fun z => gp_b z 2611200000000) (gp_bM g_74 g_56 (by decide) (by decide)) (fun y_103 g_104 => ?_)
        refine lv_ladd hx hb dX12_meets_273 ?_
        refine gp_flP (fun z => gp_b z 5222400000000) (gp_bA g_102 g_104 (by decide) (by decide)) (fun y_105 g_106 => ?_)
        refine lv_lstore (lv' := [(22, .long y_105), (20, .long (y_55 + y_93)), (18, .long y_98), (16, .long y_93), (14, .long y_73), (12, .long y_55), (10, .long y_35), (8, .long y_16), (6, .long y_13), (0, .ref (ma 200)), (1, .int sx), (2, .long x), (4, .long y)]) hx hb dX12_meets_274 hl (by decide) rfl (fun ls hl => ?_)
        refine lv_lload hx hb dX12_meets_276 (lv_at hl 1 rfl) ?_
        refine lv_lconst (v := 0) hx hb dX12_meets_278 (by decide) ?_
        refine W.lcmp hx hb dX12_meets_279 ?_
        refine lv_if_ge (tgt := 293) hx hb dX12_meets_280 (by decide) (fun c_107 => ?_) (fun c_107 => ?_)
        · have c_107 : 0 ≤ (y_55 + y_93) := gp_lcT.2.2.2.2.mp c_107
          refine lv_lload hx hb dX12_meets_293 (lv_at hl 0 rfl) ?_
          refine lv_lconst (v := 0) hx hb dX12_meets_295 (by decide) ?_
          refine W.lcmp hx hb dX12_meets_296 ?_
          refine lv_if_lt (tgt := 311) hx hb dX12_meets_297 (by decide) (fun c_108 => ?_) (fun c_108 => ?_)
          · have c_108 : y_105 < 0 := gp_lcT.2.1.mp c_108
            refine lv_iconst (v := 0) hx hb dX12_meets_311 (by decide) ?_
            exact W.zret (v := 0) hx hb hr narrow_b0 (fun t ht hW => ⟨⟨0, ⟨y_5, y_11, x, y, m_meetX, m_meetY, m_meetBy, m_meetAlong⟩, rfl, ⟨(show (0 : Int32) = 0 ∨ (0 : Int32) = 1 by decide), (fun _ h9 => absurd h9 (by decide))⟩, gp_end ht hP hD⟩, hS.F ht⟩) hS.2.2 dX12_meets_312
          · have c_108 : ¬ y_105 < 0 := fun z => c_108 (gp_lcT.2.1.mpr z)
            refine lv_lload hx hb dX12_meets_300 (lv_at hl 0 rfl) ?_
            refine lv_lload hx hb dX12_meets_302 (lv_at hl 2 rfl) ?_
            refine lv_lload hx hb dX12_meets_304 (lv_at hl 1 rfl) ?_
            refine lv_lmul hx hb dX12_meets_306 ?_
            refine W.lcmp hx hb dX12_meets_307 ?_
            refine lv_if_le (tgt := 313) hx hb dX12_meets_308 (by decide) (fun c_109 => ?_) (fun c_109 => ?_)
            · have c_109 : y_105 ≤ (y_98 * (y_55 + y_93)) := gp_lcT.2.2.2.1.mp c_109
              refine lv_aload_n hx hb dX12_meets_313 rfl (lv_at hl 9 rfl) ?_
              refine lv_lload hx hb dX12_meets_314 (lv_at hl 0 rfl) ?_
              refine va_put (D := D) (ci := 12) (v := .long y_105) (ty := .long) (C := RX12) (T := TX12) (N := 104) hx hb hts hiX12 tyX12 tyX12_ok nmX12 hown hK hP hD hS 0 rfl rfl 32 (by decide) (hts (.fieldLink RX12 137 "GhostPaneModel" "meetAlong" "J") (List.mem_of_getElem? (i := 12) rfl)) (fun _ h9 => h9) rfl (by decide +kernel) rfl rfl (Nat.le_of_ble_eq_true rfl) dX12_meets_316 (fun H locs hP hD hS => ?_)
              have hP : va_P D vwCl [(o_m ma m_ax m_ay m_bx m_by m_cx m_cy m_dx m_dy m_floor m_hand m_deep y_5 y_11 x y m_meetX m_meetY m_meetBy y_105 m_taped m_at m_size m_ended m_bad m_badPlace m_fault m_faultPlace m_namePlace m_codes m_figures m_open m_last m_now m_from m_piled m_hasGrid m_gridN m_gridM m_gridX m_gridY m_gridDeep m_ownX m_ownY m_ownDeep m_joinMany m_acts), (aI (ma 11) (cy 3) 8 r_isSeat), (aI (ma 12) (cy 1) 8 r_seatX), (aI (ma 13) (cy 1) 8 r_seatY)] H := hP
              have hD := gp_sD hP hD
              refine lv_aload_n hx hb dX12_meets_319 rfl (lv_at hl 9 rfl) ?_
              refine lv_lload hx hb dX12_meets_320 (lv_at hl 2 rfl) ?_
              refine lv_lload hx hb dX12_meets_322 (lv_at hl 1 rfl) ?_
              refine lv_lmul hx hb dX12_meets_324 ?_
              refine va_put (D := D) (ci := 12) (v := .long (y_98 * (y_55 + y_93))) (ty := .long) (C := RX12) (T := TX12) (N := 104) hx hb hts hiX12 tyX12 tyX12_ok nmX12 hown hK hP hD hS 0 rfl rfl 31 (by decide) (hts (.fieldLink RX12 140 "GhostPaneModel" "meetBy" "J") (List.mem_of_getElem? (i := 13) rfl)) (fun _ h9 => h9) rfl (by decide +kernel) rfl rfl (Nat.le_of_ble_eq_true rfl) dX12_meets_325 (fun H locs hP hD hS => ?_)
              have hP : va_P D vwCl [(o_m ma m_ax m_ay m_bx m_by m_cx m_cy m_dx m_dy m_floor m_hand m_deep y_5 y_11 x y m_meetX m_meetY (y_98 * (y_55 + y_93)) y_105 m_taped m_at m_size m_ended m_bad m_badPlace m_fault m_faultPlace m_namePlace m_codes m_figures m_open m_last m_now m_from m_piled m_hasGrid m_gridN m_gridM m_gridX m_gridY m_gridDeep m_ownX m_ownY m_ownDeep m_joinMany m_acts), (aI (ma 11) (cy 3) 8 r_isSeat), (aI (ma 12) (cy 1) 8 r_seatX), (aI (ma 13) (cy 1) 8 r_seatY)] H := hP
              have hD := gp_sD hP hD
              refine lv_aload_n hx hb dX12_meets_328 rfl (lv_at hl 9 rfl) ?_
              refine lv_ldc2 (v := 2) hx hb hown (hts (.constantLong RX12 108 2) (List.mem_of_getElem? (i := 1) rfl)) dX12_meets_329 ?_
              refine lv_aload_n hx hb dX12_meets_332 rfl (lv_at hl 9 rfl) ?_
              refine va_get (D := D) (ci := 12) (v := .int m_ax) (C := RX12) (T := TX12) (N := 104) hx hb hts hiX12 hown hK hP 0 rfl rfl 0 (by decide) (hts (.fieldLink RX12 15 "GhostPaneModel" "ax" "I") (List.mem_of_getElem? (i := 9) rfl)) (fun _ h9 => h9) rfl dX12_meets_333 ?_
              refine lv_i2l (v := (Int32.toInt64 m_ax)) hx hb dX12_meets_336 rfl ?_
              refine gp_flP (fun z => gp_b z 100) (gp_bI f_m_ax (by decide) (by decide)) (fun y_110 g_111 => ?_)
              refine lv_lmul hx hb dX12_meets_337 ?_
              refine gp_flP (fun z => gp_b z 200) (gp_bM (show gp_b (2) 2 by decide) g_111 (by decide) (by decide)) (fun y_112 g_113 => ?_)
              refine lv_aload_n hx hb dX12_meets_338 rfl (lv_at hl 9 rfl) ?_
              refine va_get (D := D) (ci := 12) (v := .long (y_98 * (y_55 + y_93))) (C := RX12) (T := TX12) (N := 104) hx hb hts hiX12 hown hK hP 0 rfl rfl 31 (by decide) (hts (.fieldLink RX12 140 "GhostPaneModel" "meetBy" "J") (List.mem_of_getElem? (i := 13) rfl)) (fun _ h9 => h9) rfl dX12_meets_339 ?_
              refine lv_lmul hx hb dX12_meets_342 ?_
              refine gp_fl (fun y_114 => ?_)
              refine lv_lload hx hb dX12_meets_343 (lv_at hl 8 rfl) ?_
              refine lv_lload hx hb dX12_meets_345 (lv_at hl 0 rfl) ?_
              refine lv_lmul hx hb dX12_meets_347 ?_
              refine gp_flP (fun z => gp_b z 2088960000000000) (gp_bM g_14 g_106 (by decide) (by decide)) (fun y_115 g_116 => ?_)
              refine lv_ladd hx hb dX12_meets_348 ?_
              refine gp_fl (fun y_117 => ?_)
              refine va_put (D := D) (ci := 12) (v := .long y_117) (ty := .long) (C := RX12) (T := TX12) (N := 104) hx hb hts hiX12 tyX12 tyX12_ok nmX12 hown hK hP hD hS 0 rfl rfl 29 (by decide) (hts (.fieldLink RX12 143 "GhostPaneModel" "meetX" "J") (List.mem_of_getElem? (i := 14) rfl)) (fun _ h9 => h9) rfl (by decide +kernel) rfl rfl (Nat.le_of_ble_eq_true rfl) dX12_meets_349 (fun H locs hP hD hS => ?_)
              have hP : va_P D vwCl [(o_m ma m_ax m_ay m_bx m_by m_cx m_cy m_dx m_dy m_floor m_hand m_deep y_5 y_11 x y y_117 m_meetY (y_98 * (y_55 + y_93)) y_105 m_taped m_at m_size m_ended m_bad m_badPlace m_fault m_faultPlace m_namePlace m_codes m_figures m_open m_last m_now m_from m_piled m_hasGrid m_gridN m_gridM m_gridX m_gridY m_gridDeep m_ownX m_ownY m_ownDeep m_joinMany m_acts), (aI (ma 11) (cy 3) 8 r_isSeat), (aI (ma 12) (cy 1) 8 r_seatX), (aI (ma 13) (cy 1) 8 r_seatY)] H := hP
              have hD := gp_sD hP hD
              refine lv_aload_n hx hb dX12_meets_352 rfl (lv_at hl 9 rfl) ?_
              refine lv_ldc2 (v := 2) hx hb hown (hts (.constantLong RX12 108 2) (List.mem_of_getElem? (i := 1) rfl)) dX12_meets_353 ?_
              refine lv_aload_n hx hb dX12_meets_356 rfl (lv_at hl 9 rfl) ?_
              refine va_get (D := D) (ci := 12) (v := .int m_ay) (C := RX12) (T := TX12) (N := 104) hx hb hts hiX12 hown hK hP 0 rfl rfl 1 (by decide) (hts (.fieldLink RX12 19 "GhostPaneModel" "ay" "I") (List.mem_of_getElem? (i := 11) rfl)) (fun _ h9 => h9) rfl dX12_meets_357 ?_
              refine lv_i2l (v := (Int32.toInt64 m_ay)) hx hb dX12_meets_360 rfl ?_
              refine gp_flP (fun z => gp_b z 100) (gp_bI f_m_ay (by decide) (by decide)) (fun y_118 g_119 => ?_)
              refine lv_lmul hx hb dX12_meets_361 ?_
              refine gp_flP (fun z => gp_b z 200) (gp_bM (show gp_b (2) 2 by decide) g_119 (by decide) (by decide)) (fun y_120 g_121 => ?_)
              refine lv_aload_n hx hb dX12_meets_362 rfl (lv_at hl 9 rfl) ?_
              refine va_get (D := D) (ci := 12) (v := .long (y_98 * (y_55 + y_93))) (C := RX12) (T := TX12) (N := 104) hx hb hts hiX12 hown hK hP 0 rfl rfl 31 (by decide) (hts (.fieldLink RX12 140 "GhostPaneModel" "meetBy" "J") (List.mem_of_getElem? (i := 13) rfl)) (fun _ h9 => h9) rfl dX12_meets_363 ?_
              refine lv_lmul hx hb dX12_meets_366 ?_
              refine gp_fl (fun y_122 => ?_)
              refine lv_lload hx hb dX12_meets_367 (lv_at hl 7 rfl) ?_
              refine lv_lload hx hb dX12_meets_369 (lv_at hl 0 rfl) ?_
              refine lv_lmul hx hb dX12_meets_371 ?_
              refine gp_flP (fun z => gp_b z 2088960000000000) (gp_bM g_17 g_106 (by decide) (by decide)) (fun y_123 g_124 => ?_)
              refine lv_ladd hx hb dX12_meets_372 ?_
              refine gp_fl (fun y_125 => ?_)
              refine va_put (D := D) (ci := 12) (v := .long y_125) (ty := .long) (C := RX12) (T := TX12) (N := 104) hx hb hts hiX12 tyX12 tyX12_ok nmX12 hown hK hP hD hS 0 rfl rfl 30 (by decide) (hts (.fieldLink RX12 146 "GhostPaneModel" "meetY" "J") (List.mem_of_getElem? (i := 15) rfl)) (fun _ h9 => h9) rfl (by decide +kernel) rfl rfl (Nat.le_of_ble_eq_true rfl) dX12_meets_373 (fun H locs hP hD hS => ?_)
              have hP : va_P D vwCl [(o_m ma m_ax m_ay m_bx m_by m_cx m_cy m_dx m_dy m_floor m_hand m_deep y_5 y_11 x y y_117 y_125 (y_98 * (y_55 + y_93)) y_105 m_taped m_at m_size m_ended m_bad m_badPlace m_fault m_faultPlace m_namePlace m_codes m_figures m_open m_last m_now m_from m_piled m_hasGrid m_gridN m_gridM m_gridX m_gridY m_gridDeep m_ownX m_ownY m_ownDeep m_joinMany m_acts), (aI (ma 11) (cy 3) 8 r_isSeat), (aI (ma 12) (cy 1) 8 r_seatX), (aI (ma 13) (cy 1) 8 r_seatY)] H := hP
              have hD := gp_sD hP hD
              refine lv_iconst (v := 1) hx hb dX12_meets_376 (by decide) ?_
              exact W.zret (v := 1) hx hb hr narrow_b1 (fun t ht hW => ⟨⟨1, ⟨y_5, y_11, x, y, y_117, y_125, (y_98 * (y_55 + y_93)), y_105⟩, rfl, ⟨(show (1 : Int32) = 0 ∨ (1 : Int32) = 1 by decide), (fun hnd _ => (gp_mtY (gp_bW g_56 (by decide)) (gp_bW g_94 (by decide)) (Int64.not_le.mp c_96) c_97 (Int64.not_lt.mpr c_107)).elim)⟩, gp_end ht hP hD⟩, hS.F ht⟩) hS.2.2 dX12_meets_377
            · have c_109 : ¬ y_105 ≤ (y_98 * (y_55 + y_93)) := fun z => c_109 (gp_lcT.2.2.2.1.mpr z)
              refine lv_iconst (v := 0) hx hb dX12_meets_311 (by decide) ?_
              exact W.zret (v := 0) hx hb hr narrow_b0 (fun t ht hW => ⟨⟨0, ⟨y_5, y_11, x, y, m_meetX, m_meetY, m_meetBy, m_meetAlong⟩, rfl, ⟨(show (0 : Int32) = 0 ∨ (0 : Int32) = 1 by decide), (fun _ h9 => absurd h9 (by decide))⟩, gp_end ht hP hD⟩, hS.F ht⟩) hS.2.2 dX12_meets_312
        · have c_107 : ¬ 0 ≤ (y_55 + y_93) := fun z => c_107 (gp_lcT.2.2.2.2.mpr z)
          refine lv_lload hx hb dX12_meets_283 (lv_at hl 1 rfl) ?_
          refine lv_lneg hx hb dX12_meets_285 ?_
          refine lv_lstore (lv' := [(20, .long (-(y_55 + y_93))), (22, .long y_105), (18, .long y_98), (16, .long y_93), (14, .long y_73), (12, .long y_55), (10, .long y_35), (8, .long y_16), (6, .long y_13), (0, .ref (ma 200)), (1, .int sx), (2, .long x), (4, .long y)]) hx hb dX12_meets_286 hl (by decide) rfl (fun ls hl => ?_)
          refine lv_lload hx hb dX12_meets_288 (lv_at hl 1 rfl) ?_
          refine lv_lneg hx hb dX12_meets_290 ?_
          refine gp_flP (fun z => gp_b z 5222400000000) (gp_bN g_106 (by decide)) (fun y_126 g_127 => ?_)
          refine lv_lstore (lv' := [(22, .long y_126), (20, .long (-(y_55 + y_93))), (18, .long y_98), (16, .long y_93), (14, .long y_73), (12, .long y_55), (10, .long y_35), (8, .long y_16), (6, .long y_13), (0, .ref (ma 200)), (1, .int sx), (2, .long x), (4, .long y)]) hx hb dX12_meets_291 hl (by decide) rfl (fun ls hl => ?_)
          refine lv_lload hx hb dX12_meets_293 (lv_at hl 0 rfl) ?_
          refine lv_lconst (v := 0) hx hb dX12_meets_295 (by decide) ?_
          refine W.lcmp hx hb dX12_meets_296 ?_
          refine lv_if_lt (tgt := 311) hx hb dX12_meets_297 (by decide) (fun c_128 => ?_) (fun c_128 => ?_)
          · have c_128 : y_126 < 0 := gp_lcT.2.1.mp c_128
            refine lv_iconst (v := 0) hx hb dX12_meets_311 (by decide) ?_
            exact W.zret (v := 0) hx hb hr narrow_b0 (fun t ht hW => ⟨⟨0, ⟨y_5, y_11, x, y, m_meetX, m_meetY, m_meetBy, m_meetAlong⟩, rfl, ⟨(show (0 : Int32) = 0 ∨ (0 : Int32) = 1 by decide), (fun _ h9 => absurd h9 (by decide))⟩, gp_end ht hP hD⟩, hS.F ht⟩) hS.2.2 dX12_meets_312
          · have c_128 : ¬ y_126 < 0 := fun z => c_128 (gp_lcT.2.1.mpr z)
            refine lv_lload hx hb dX12_meets_300 (lv_at hl 0 rfl) ?_
            refine lv_lload hx hb dX12_meets_302 (lv_at hl 2 rfl) ?_
            refine lv_lload hx hb dX12_meets_304 (lv_at hl 1 rfl) ?_
            refine lv_lmul hx hb dX12_meets_306 ?_
            refine W.lcmp hx hb dX12_meets_307 ?_
            refine lv_if_le (tgt := 313) hx hb dX12_meets_308 (by decide) (fun c_129 => ?_) (fun c_129 => ?_)
            · have c_129 : y_126 ≤ (y_98 * (-(y_55 + y_93))) := gp_lcT.2.2.2.1.mp c_129
              refine lv_aload_n hx hb dX12_meets_313 rfl (lv_at hl 9 rfl) ?_
              refine lv_lload hx hb dX12_meets_314 (lv_at hl 0 rfl) ?_
              refine va_put (D := D) (ci := 12) (v := .long y_126) (ty := .long) (C := RX12) (T := TX12) (N := 104) hx hb hts hiX12 tyX12 tyX12_ok nmX12 hown hK hP hD hS 0 rfl rfl 32 (by decide) (hts (.fieldLink RX12 137 "GhostPaneModel" "meetAlong" "J") (List.mem_of_getElem? (i := 12) rfl)) (fun _ h9 => h9) rfl (by decide +kernel) rfl rfl (Nat.le_of_ble_eq_true rfl) dX12_meets_316 (fun H locs hP hD hS => ?_)
              have hP : va_P D vwCl [(o_m ma m_ax m_ay m_bx m_by m_cx m_cy m_dx m_dy m_floor m_hand m_deep y_5 y_11 x y m_meetX m_meetY m_meetBy y_126 m_taped m_at m_size m_ended m_bad m_badPlace m_fault m_faultPlace m_namePlace m_codes m_figures m_open m_last m_now m_from m_piled m_hasGrid m_gridN m_gridM m_gridX m_gridY m_gridDeep m_ownX m_ownY m_ownDeep m_joinMany m_acts), (aI (ma 11) (cy 3) 8 r_isSeat), (aI (ma 12) (cy 1) 8 r_seatX), (aI (ma 13) (cy 1) 8 r_seatY)] H := hP
              have hD := gp_sD hP hD
              refine lv_aload_n hx hb dX12_meets_319 rfl (lv_at hl 9 rfl) ?_
              refine lv_lload hx hb dX12_meets_320 (lv_at hl 2 rfl) ?_
              refine lv_lload hx hb dX12_meets_322 (lv_at hl 1 rfl) ?_
              refine lv_lmul hx hb dX12_meets_324 ?_
              refine va_put (D := D) (ci := 12) (v := .long (y_98 * (-(y_55 + y_93)))) (ty := .long) (C := RX12) (T := TX12) (N := 104) hx hb hts hiX12 tyX12 tyX12_ok nmX12 hown hK hP hD hS 0 rfl rfl 31 (by decide) (hts (.fieldLink RX12 140 "GhostPaneModel" "meetBy" "J") (List.mem_of_getElem? (i := 13) rfl)) (fun _ h9 => h9) rfl (by decide +kernel) rfl rfl (Nat.le_of_ble_eq_true rfl) dX12_meets_325 (fun H locs hP hD hS => ?_)
              have hP : va_P D vwCl [(o_m ma m_ax m_ay m_bx m_by m_cx m_cy m_dx m_dy m_floor m_hand m_deep y_5 y_11 x y m_meetX m_meetY (y_98 * (-(y_55 + y_93))) y_126 m_taped m_at m_size m_ended m_bad m_badPlace m_fault m_faultPlace m_namePlace m_codes m_figures m_open m_last m_now m_from m_piled m_hasGrid m_gridN m_gridM m_gridX m_gridY m_gridDeep m_ownX m_ownY m_ownDeep m_joinMany m_acts), (aI (ma 11) (cy 3) 8 r_isSeat), (aI (ma 12) (cy 1) 8 r_seatX), (aI (ma 13) (cy 1) 8 r_seatY)] H := hP
              have hD := gp_sD hP hD
              refine lv_aload_n hx hb dX12_meets_328 rfl (lv_at hl 9 rfl) ?_
              refine lv_ldc2 (v := 2) hx hb hown (hts (.constantLong RX12 108 2) (List.mem_of_getElem? (i := 1) rfl)) dX12_meets_329 ?_
              refine lv_aload_n hx hb dX12_meets_332 rfl (lv_at hl 9 rfl) ?_
              refine va_get (D := D) (ci := 12) (v := .int m_ax) (C := RX12) (T := TX12) (N := 104) hx hb hts hiX12 hown hK hP 0 rfl rfl 0 (by decide) (hts (.fieldLink RX12 15 "GhostPaneModel" "ax" "I") (List.mem_of_getElem? (i := 9) rfl)) (fun _ h9 => h9) rfl dX12_meets_333 ?_
              refine lv_i2l (v := (Int32.toInt64 m_ax)) hx hb dX12_meets_336 rfl ?_
              refine gp_flP (fun z => gp_b z 100) (gp_bI f_m_ax (by decide) (by decide)) (fun y_130 g_131 => ?_)
              refine lv_lmul hx hb dX12_meets_337 ?_
              refine gp_flP (fun z => gp_b z 200) (gp_bM (show gp_b (2) 2 by decide) g_131 (by decide) (by decide)) (fun y_132 g_133 => ?_)
              refine lv_aload_n hx hb dX12_meets_338 rfl (lv_at hl 9 rfl) ?_
              refine va_get (D := D) (ci := 12) (v := .long (y_98 * (-(y_55 + y_93)))) (C := RX12) (T := TX12) (N := 104) hx hb hts hiX12 hown hK hP 0 rfl rfl 31 (by decide) (hts (.fieldLink RX12 140 "GhostPaneModel" "meetBy" "J") (List.mem_of_getElem? (i := 13) rfl)) (fun _ h9 => h9) rfl dX12_meets_339 ?_
              refine lv_lmul hx hb dX12_meets_342 ?_
              refine gp_fl (fun y_134 => ?_)
              refine lv_lload hx hb dX12_meets_343 (lv_at hl 8 rfl) ?_
              refine lv_lload hx hb dX12_meets_345 (lv_at hl 0 rfl) ?_
              refine lv_lmul hx hb dX12_meets_347 ?_
              refine gp_flP (fun z => gp_b z 2088960000000000) (gp_bM g_14 g_127 (by decide) (by decide)) (fun y_135 g_136 => ?_)
              refine lv_ladd hx hb dX12_meets_348 ?_
              refine gp_fl (fun y_137 => ?_)
              refine va_put (D := D) (ci := 12) (v := .long y_137) (ty := .long) (C := RX12) (T := TX12) (N := 104) hx hb hts hiX12 tyX12 tyX12_ok nmX12 hown hK hP hD hS 0 rfl rfl 29 (by decide) (hts (.fieldLink RX12 143 "GhostPaneModel" "meetX" "J") (List.mem_of_getElem? (i := 14) rfl)) (fun _ h9 => h9) rfl (by decide +kernel) rfl rfl (Nat.le_of_ble_eq_true rfl) dX12_meets_349 (fun H locs hP hD hS => ?_)
              have hP : va_P D vwCl [(o_m ma m_ax m_ay m_bx m_by m_cx m_cy m_dx m_dy m_floor m_hand m_deep y_5 y_11 x y y_137 m_meetY (y_98 * (-(y_55 + y_93))) y_126 m_taped m_at m_size m_ended m_bad m_badPlace m_fault m_faultPlace m_namePlace m_codes m_figures m_open m_last m_now m_from m_piled m_hasGrid m_gridN m_gridM m_gridX m_gridY m_gridDeep m_ownX m_ownY m_ownDeep m_joinMany m_acts), (aI (ma 11) (cy 3) 8 r_isSeat), (aI (ma 12) (cy 1) 8 r_seatX), (aI (ma 13) (cy 1) 8 r_seatY)] H := hP
              have hD := gp_sD hP hD
              refine lv_aload_n hx hb dX12_meets_352 rfl (lv_at hl 9 rfl) ?_
              refine lv_ldc2 (v := 2) hx hb hown (hts (.constantLong RX12 108 2) (List.mem_of_getElem? (i := 1) rfl)) dX12_meets_353 ?_
              refine lv_aload_n hx hb dX12_meets_356 rfl (lv_at hl 9 rfl) ?_
              refine va_get (D := D) (ci := 12) (v := .int m_ay) (C := RX12) (T := TX12) (N := 104) hx hb hts hiX12 hown hK hP 0 rfl rfl 1 (by decide) (hts (.fieldLink RX12 19 "GhostPaneModel" "ay" "I") (List.mem_of_getElem? (i := 11) rfl)) (fun _ h9 => h9) rfl dX12_meets_357 ?_
              refine lv_i2l (v := (Int32.toInt64 m_ay)) hx hb dX12_meets_360 rfl ?_
              refine gp_flP (fun z => gp_b z 100) (gp_bI f_m_ay (by decide) (by decide)) (fun y_138 g_139 => ?_)
              refine lv_lmul hx hb dX12_meets_361 ?_
              refine gp_flP (fun z => gp_b z 200) (gp_bM (show gp_b (2) 2 by decide) g_139 (by decide) (by decide)) (fun y_140 g_141 => ?_)
              refine lv_aload_n hx hb dX12_meets_362 rfl (lv_at hl 9 rfl) ?_
              refine va_get (D := D) (ci := 12) (v := .long (y_98 * (-(y_55 + y_93)))) (C := RX12) (T := TX12) (N := 104) hx hb hts hiX12 hown hK hP 0 rfl rfl 31 (by decide) (hts (.fieldLink RX12 140 "GhostPaneModel" "meetBy" "J") (List.mem_of_getElem? (i := 13) rfl)) (fun _ h9 => h9) rfl dX12_meets_363 ?_
              refine lv_lmul hx hb dX12_meets_366 ?_
              refine gp_fl (fun y_142 => ?_)
              refine lv_lload hx hb dX12_meets_367 (lv_at hl 7 rfl) ?_
              refine lv_lload hx hb dX12_meets_369 (lv_at hl 0 rfl) ?_
              refine lv_lmul hx hb dX12_meets_371 ?_
              refine gp_flP (fun z => gp_b z 2088960000000000) (gp_bM g_17 g_127 (by decide) (by decide)) (fun y_143 g_144 => ?_)
              refine lv_ladd hx hb dX12_meets_372 ?_
              refine gp_fl (fun y_145 => ?_)
              refine va_put (D := D) (ci := 12) (v := .long y_145) (ty := .long) (C := RX12) (T := TX12) (N := 104) hx hb hts hiX12 tyX12 tyX12_ok nmX12 hown hK hP hD hS 0 rfl rfl 30 (by decide) (hts (.fieldLink RX12 146 "GhostPaneModel" "meetY" "J") (List.mem_of_getElem? (i := 15) rfl)) (fun _ h9 => h9) rfl (by decide +kernel) rfl rfl (Nat.le_of_ble_eq_true rfl) dX12_meets_373 (fun H locs hP hD hS => ?_)
              have hP : va_P D vwCl [(o_m ma m_ax m_ay m_bx m_by m_cx m_cy m_dx m_dy m_floor m_hand m_deep y_5 y_11 x y y_137 y_145 (y_98 * (-(y_55 + y_93))) y_126 m_taped m_at m_size m_ended m_bad m_badPlace m_fault m_faultPlace m_namePlace m_codes m_figures m_open m_last m_now m_from m_piled m_hasGrid m_gridN m_gridM m_gridX m_gridY m_gridDeep m_ownX m_ownY m_ownDeep m_joinMany m_acts), (aI (ma 11) (cy 3) 8 r_isSeat), (aI (ma 12) (cy 1) 8 r_seatX), (aI (ma 13) (cy 1) 8 r_seatY)] H := hP
              have hD := gp_sD hP hD
              refine lv_iconst (v := 1) hx hb dX12_meets_376 (by decide) ?_
              exact W.zret (v := 1) hx hb hr narrow_b1 (fun t ht hW => ⟨⟨1, ⟨y_5, y_11, x, y, y_137, y_145, (y_98 * (-(y_55 + y_93))), y_126⟩, rfl, ⟨(show (1 : Int32) = 0 ∨ (1 : Int32) = 1 by decide), (fun hnd _ => gp_mtB g_99 (g_100 (fun z => hnd ⟨gp_sub0 (g_15 z.1), gp_sub0 (g_18 z.2)⟩)) (gp_bW g_56 (by decide)) (gp_bW g_94 (by decide)) (Int64.not_le.mp c_96) c_97 c_128 c_129)⟩, gp_end ht hP hD⟩, hS.F ht⟩) hS.2.2 dX12_meets_377
            · have c_129 : ¬ y_126 ≤ (y_98 * (-(y_55 + y_93))) := fun z => c_129 (gp_lcT.2.2.2.1.mpr z)
              refine lv_iconst (v := 0) hx hb dX12_meets_311 (by decide) ?_
              exact W.zret (v := 0) hx hb hr narrow_b0 (fun t ht hW => ⟨⟨0, ⟨y_5, y_11, x, y, m_meetX, m_meetY, m_meetBy, m_meetAlong⟩, rfl, ⟨(show (0 : Int32) = 0 ∨ (0 : Int32) = 1 by decide), (fun _ h9 => absurd h9 (by decide))⟩, gp_end ht hP hD⟩, hS.F ht⟩) hS.2.2 dX12_meets_312
      · have c_97 : ¬ y_93 < 0 := fun z => c_97 (gp_lcT.2.1.mpr z)
        refine lv_iconst (v := 0) hx hb dX12_meets_241 (by decide) ?_
        exact W.zret (v := 0) hx hb hr narrow_b0 (fun t ht hW => ⟨⟨0, ⟨y_5, y_11, x, y, m_meetX, m_meetY, m_meetBy, m_meetAlong⟩, rfl, ⟨(show (0 : Int32) = 0 ∨ (0 : Int32) = 1 by decide), (fun _ h9 => absurd h9 (by decide))⟩, gp_end ht hP hD⟩, hS.F ht⟩) hS.2.2 dX12_meets_242
  · have c_95 : ¬ y_55 ≤ 0 := fun z => c_95 (gp_lcT.2.2.2.1.mpr z)
    refine lv_lload hx hb dX12_meets_220 (lv_at hl 0 rfl) ?_
    refine lv_lconst (v := 0) hx hb dX12_meets_222 (by decide) ?_
    refine W.lcmp hx hb dX12_meets_223 ?_
    refine lv_if_gt (tgt := 243) hx hb dX12_meets_224 (by decide) (fun c_146 => ?_) (fun c_146 => ?_)
    · have c_146 : 0 < y_93 := gp_lcT.2.2.1.mp c_146
      refine lv_lload hx hb dX12_meets_243 (lv_at hl 5 rfl) ?_
      refine lv_lload hx hb dX12_meets_245 (lv_at hl 5 rfl) ?_
      refine lv_lmul hx hb dX12_meets_247 ?_
      refine lv_lload hx hb dX12_meets_248 (lv_at hl 4 rfl) ?_
      refine lv_lload hx hb dX12_meets_250 (lv_at hl 4 rfl) ?_
      refine lv_lmul hx hb dX12_meets_252 ?_
      refine lv_ladd hx hb dX12_meets_253 ?_
      refine gp_flP (fun z => (gp_b z 320000) ∧ (¬ (y_13 = 0 ∧ y_16 = 0) → 1 ≤ (z).toInt)) ⟨(gp_allP g_14 g_17).1, (gp_allP g_14 g_17).2⟩ (fun y_147 hg => ?_)
      obtain ⟨g_148, g_149⟩ := hg
      refine lv_lstore (lv' := [(18, .long y_147), (16, .long y_93), (14, .long y_73), (12, .long y_55), (10, .long y_35), (8, .long y_16), (6, .long y_13), (0, .ref (ma 200)), (1, .int sx), (2, .long x), (4, .long y)]) hx hb dX12_meets_254 hl (by decide) rfl (fun ls hl => ?_)
      refine lv_lload hx hb dX12_meets_256 (lv_at hl 3 rfl) ?_
      refine lv_lload hx hb dX12_meets_258 (lv_at hl 1 rfl) ?_
      refine lv_ladd hx hb dX12_meets_260 ?_
      refine lv_lstore (lv' := [(20, .long (y_55 + y_93)), (18, .long y_147), (16, .long y_93), (14, .long y_73), (12, .long y_55), (10, .long y_35), (8, .long y_16), (6, .long y_13), (0, .ref (ma 200)), (1, .int sx), (2, .long x), (4, .long y)]) hx hb dX12_meets_261 hl (by decide) rfl (fun ls hl => ?_)
      refine lv_lload hx hb dX12_meets_263 (lv_at hl 5 rfl) ?_
      refine lv_lload hx hb dX12_meets_265 (lv_at hl 2 rfl) ?_
      refine lv_lmul hx hb dX12_meets_267 ?_
      refine gp_flP (fun z => gp_b z 2611200000000) (gp_bM g_36 g_94 (by decide) (by decide)) (fun y_150 g_151 => ?_)
      refine lv_lload hx hb dX12_meets_268 (lv_at hl 3 rfl) ?_
      refine lv_lload hx hb dX12_meets_270 (lv_at hl 4 rfl) ?_
      refine lv_lmul hx hb dX12_meets_272 ?_
      refine gp_flP (fun z => gp_b z 2611200000000) (gp_bM g_74 g_56 (by decide) (by decide)) (fun y_152 g_153 => ?_)
      refine lv_ladd hx hb dX12_meets_273 ?_
      refine gp_flP (fun z => gp_b z 5222400000000) (gp_bA g_151 g_153 (by decide) (by decide)) (fun y_154 g_155 => ?_)
      refine lv_lstore (lv' := [(22, .long y_154), (20, .long (y_55 + y_93)), (18, .long y_147), (16, .long y_93), (14, .long y_73), (12, .long y_55), (10, .long y_35), (8, .long y_16), (6, .long y_13), (0, .ref (ma 200)), (1, .int sx), (2, .long x), (4, .long y)]) hx hb dX12_meets_274 hl (by decide) rfl (fun ls hl => ?_)
      refine lv_lload hx hb dX12_meets_276 (lv_at hl 1 rfl) ?_
      refine lv_lconst (v := 0) hx hb dX12_meets_278 (by decide) ?_
      refine W.lcmp hx hb dX12_meets_279 ?_
      refine lv_if_ge (tgt := 293) hx hb dX12_meets_280 (by decide) (fun c_156 => ?_) (fun c_156 => ?_)
      · have c_156 : 0 ≤ (y_55 + y_93) := gp_lcT.2.2.2.2.mp c_156
        refine lv_lload hx hb dX12_meets_293 (lv_at hl 0 rfl) ?_
        refine lv_lconst (v := 0) hx hb dX12_meets_295 (by decide) ?_
        refine W.lcmp hx hb dX12_meets_296 ?_
        refine lv_if_lt (tgt := 311) hx hb dX12_meets_297 (by decide) (fun c_157 => ?_) (fun c_157 => ?_)
        · have c_157 : y_154 < 0 := gp_lcT.2.1.mp c_157
          refine lv_iconst (v := 0) hx hb dX12_meets_311 (by decide) ?_
          exact W.zret (v := 0) hx hb hr narrow_b0 (fun t ht hW => ⟨⟨0, ⟨y_5, y_11, x, y, m_meetX, m_meetY, m_meetBy, m_meetAlong⟩, rfl, ⟨(show (0 : Int32) = 0 ∨ (0 : Int32) = 1 by decide), (fun _ h9 => absurd h9 (by decide))⟩, gp_end ht hP hD⟩, hS.F ht⟩) hS.2.2 dX12_meets_312
        · have c_157 : ¬ y_154 < 0 := fun z => c_157 (gp_lcT.2.1.mpr z)
          refine lv_lload hx hb dX12_meets_300 (lv_at hl 0 rfl) ?_
          refine lv_lload hx hb dX12_meets_302 (lv_at hl 2 rfl) ?_
          refine lv_lload hx hb dX12_meets_304 (lv_at hl 1 rfl) ?_
          refine lv_lmul hx hb dX12_meets_306 ?_
          refine W.lcmp hx hb dX12_meets_307 ?_
          refine lv_if_le (tgt := 313) hx hb dX12_meets_308 (by decide) (fun c_158 => ?_) (fun c_158 => ?_)
          · have c_158 : y_154 ≤ (y_147 * (y_55 + y_93)) := gp_lcT.2.2.2.1.mp c_158
            refine lv_aload_n hx hb dX12_meets_313 rfl (lv_at hl 9 rfl) ?_
            refine lv_lload hx hb dX12_meets_314 (lv_at hl 0 rfl) ?_
            refine va_put (D := D) (ci := 12) (v := .long y_154) (ty := .long) (C := RX12) (T := TX12) (N := 104) hx hb hts hiX12 tyX12 tyX12_ok nmX12 hown hK hP hD hS 0 rfl rfl 32 (by decide) (hts (.fieldLink RX12 137 "GhostPaneModel" "meetAlong" "J") (List.mem_of_getElem? (i := 12) rfl)) (fun _ h9 => h9) rfl (by decide +kernel) rfl rfl (Nat.le_of_ble_eq_true rfl) dX12_meets_316 (fun H locs hP hD hS => ?_)
            have hP : va_P D vwCl [(o_m ma m_ax m_ay m_bx m_by m_cx m_cy m_dx m_dy m_floor m_hand m_deep y_5 y_11 x y m_meetX m_meetY m_meetBy y_154 m_taped m_at m_size m_ended m_bad m_badPlace m_fault m_faultPlace m_namePlace m_codes m_figures m_open m_last m_now m_from m_piled m_hasGrid m_gridN m_gridM m_gridX m_gridY m_gridDeep m_ownX m_ownY m_ownDeep m_joinMany m_acts), (aI (ma 11) (cy 3) 8 r_isSeat), (aI (ma 12) (cy 1) 8 r_seatX), (aI (ma 13) (cy 1) 8 r_seatY)] H := hP
            have hD := gp_sD hP hD
            refine lv_aload_n hx hb dX12_meets_319 rfl (lv_at hl 9 rfl) ?_
            refine lv_lload hx hb dX12_meets_320 (lv_at hl 2 rfl) ?_
            refine lv_lload hx hb dX12_meets_322 (lv_at hl 1 rfl) ?_
            refine lv_lmul hx hb dX12_meets_324 ?_
            refine va_put (D := D) (ci := 12) (v := .long (y_147 * (y_55 + y_93))) (ty := .long) (C := RX12) (T := TX12) (N := 104) hx hb hts hiX12 tyX12 tyX12_ok nmX12 hown hK hP hD hS 0 rfl rfl 31 (by decide) (hts (.fieldLink RX12 140 "GhostPaneModel" "meetBy" "J") (List.mem_of_getElem? (i := 13) rfl)) (fun _ h9 => h9) rfl (by decide +kernel) rfl rfl (Nat.le_of_ble_eq_true rfl) dX12_meets_325 (fun H locs hP hD hS => ?_)
            have hP : va_P D vwCl [(o_m ma m_ax m_ay m_bx m_by m_cx m_cy m_dx m_dy m_floor m_hand m_deep y_5 y_11 x y m_meetX m_meetY (y_147 * (y_55 + y_93)) y_154 m_taped m_at m_size m_ended m_bad m_badPlace m_fault m_faultPlace m_namePlace m_codes m_figures m_open m_last m_now m_from m_piled m_hasGrid m_gridN m_gridM m_gridX m_gridY m_gridDeep m_ownX m_ownY m_ownDeep m_joinMany m_acts), (aI (ma 11) (cy 3) 8 r_isSeat), (aI (ma 12) (cy 1) 8 r_seatX), (aI (ma 13) (cy 1) 8 r_seatY)] H := hP
            have hD := gp_sD hP hD
            refine lv_aload_n hx hb dX12_meets_328 rfl (lv_at hl 9 rfl) ?_
            refine lv_ldc2 (v := 2) hx hb hown (hts (.constantLong RX12 108 2) (List.mem_of_getElem? (i := 1) rfl)) dX12_meets_329 ?_
            refine lv_aload_n hx hb dX12_meets_332 rfl (lv_at hl 9 rfl) ?_
            refine va_get (D := D) (ci := 12) (v := .int m_ax) (C := RX12) (T := TX12) (N := 104) hx hb hts hiX12 hown hK hP 0 rfl rfl 0 (by decide) (hts (.fieldLink RX12 15 "GhostPaneModel" "ax" "I") (List.mem_of_getElem? (i := 9) rfl)) (fun _ h9 => h9) rfl dX12_meets_333 ?_
            refine lv_i2l (v := (Int32.toInt64 m_ax)) hx hb dX12_meets_336 rfl ?_
            refine gp_flP (fun z => gp_b z 100) (gp_bI f_m_ax (by decide) (by decide)) (fun y_159 g_160 => ?_)
            refine lv_lmul hx hb dX12_meets_337 ?_
            refine gp_flP (fun z => gp_b z 200) (gp_bM (show gp_b (2) 2 by decide) g_160 (by decide) (by decide)) (fun y_161 g_162 => ?_)
            refine lv_aload_n hx hb dX12_meets_338 rfl (lv_at hl 9 rfl) ?_
            refine va_get (D := D) (ci := 12) (v := .long (y_147 * (y_55 + y_93))) (C := RX12) (T := TX12) (N := 104) hx hb hts hiX12 hown hK hP 0 rfl rfl 31 (by decide) (hts (.fieldLink RX12 140 "GhostPaneModel" "meetBy" "J") (List.mem_of_getElem? (i := 13) rfl)) (fun _ h9 => h9) rfl dX12_meets_339 ?_
            refine lv_lmul hx hb dX12_meets_342 ?_
            refine gp_fl (fun y_163 => ?_)
            refine lv_lload hx hb dX12_meets_343 (lv_at hl 8 rfl) ?_
            refine lv_lload hx hb dX12_meets_345 (lv_at hl 0 rfl) ?_
            refine lv_lmul hx hb dX12_meets_347 ?_
            refine gp_flP (fun z => gp_b z 2088960000000000) (gp_bM g_14 g_155 (by decide) (by decide)) (fun y_164 g_165 => ?_)
            refine lv_ladd hx hb dX12_meets_348 ?_
            refine gp_fl (fun y_166 => ?_)
            refine va_put (D := D) (ci := 12) (v := .long y_166) (ty := .long) (C := RX12) (T := TX12) (N := 104) hx hb hts hiX12 tyX12 tyX12_ok nmX12 hown hK hP hD hS 0 rfl rfl 29 (by decide) (hts (.fieldLink RX12 143 "GhostPaneModel" "meetX" "J") (List.mem_of_getElem? (i := 14) rfl)) (fun _ h9 => h9) rfl (by decide +kernel) rfl rfl (Nat.le_of_ble_eq_true rfl) dX12_meets_349 (fun H locs hP hD hS => ?_)
            have hP : va_P D vwCl [(o_m ma m_ax m_ay m_bx m_by m_cx m_cy m_dx m_dy m_floor m_hand m_deep y_5 y_11 x y y_166 m_meetY (y_147 * (y_55 + y_93)) y_154 m_taped m_at m_size m_ended m_bad m_badPlace m_fault m_faultPlace m_namePlace m_codes m_figures m_open m_last m_now m_from m_piled m_hasGrid m_gridN m_gridM m_gridX m_gridY m_gridDeep m_ownX m_ownY m_ownDeep m_joinMany m_acts), (aI (ma 11) (cy 3) 8 r_isSeat), (aI (ma 12) (cy 1) 8 r_seatX), (aI (ma 13) (cy 1) 8 r_seatY)] H := hP
            have hD := gp_sD hP hD
            refine lv_aload_n hx hb dX12_meets_352 rfl (lv_at hl 9 rfl) ?_
            refine lv_ldc2 (v := 2) hx hb hown (hts (.constantLong RX12 108 2) (List.mem_of_getElem? (i := 1) rfl)) dX12_meets_353 ?_
            refine lv_aload_n hx hb dX12_meets_356 rfl (lv_at hl 9 rfl) ?_
            refine va_get (D := D) (ci := 12) (v := .int m_ay) (C := RX12) (T := TX12) (N := 104) hx hb hts hiX12 hown hK hP 0 rfl rfl 1 (by decide) (hts (.fieldLink RX12 19 "GhostPaneModel" "ay" "I") (List.mem_of_getElem? (i := 11) rfl)) (fun _ h9 => h9) rfl dX12_meets_357 ?_
            refine lv_i2l (v := (Int32.toInt64 m_ay)) hx hb dX12_meets_360 rfl ?_
            refine gp_flP (fun z => gp_b z 100) (gp_bI f_m_ay (by decide) (by decide)) (fun y_167 g_168 => ?_)
            refine lv_lmul hx hb dX12_meets_361 ?_
            refine gp_flP (fun z => gp_b z 200) (gp_bM (show gp_b (2) 2 by decide) g_168 (by decide) (by decide)) (fun y_169 g_170 => ?_)
            refine lv_aload_n hx hb dX12_meets_362 rfl (lv_at hl 9 rfl) ?_
            refine va_get (D := D) (ci := 12) (v := .long (y_147 * (y_55 + y_93))) (C := RX12) (T := TX12) (N := 104) hx hb hts hiX12 hown hK hP 0 rfl rfl 31 (by decide) (hts (.fieldLink RX12 140 "GhostPaneModel" "meetBy" "J") (List.mem_of_getElem? (i := 13) rfl)) (fun _ h9 => h9) rfl dX12_meets_363 ?_
            refine lv_lmul hx hb dX12_meets_366 ?_
            refine gp_fl (fun y_171 => ?_)
            refine lv_lload hx hb dX12_meets_367 (lv_at hl 7 rfl) ?_
            refine lv_lload hx hb dX12_meets_369 (lv_at hl 0 rfl) ?_
            refine lv_lmul hx hb dX12_meets_371 ?_
            refine gp_flP (fun z => gp_b z 2088960000000000) (gp_bM g_17 g_155 (by decide) (by decide)) (fun y_172 g_173 => ?_)
            refine lv_ladd hx hb dX12_meets_372 ?_
            refine gp_fl (fun y_174 => ?_)
            refine va_put (D := D) (ci := 12) (v := .long y_174) (ty := .long) (C := RX12) (T := TX12) (N := 104) hx hb hts hiX12 tyX12 tyX12_ok nmX12 hown hK hP hD hS 0 rfl rfl 30 (by decide) (hts (.fieldLink RX12 146 "GhostPaneModel" "meetY" "J") (List.mem_of_getElem? (i := 15) rfl)) (fun _ h9 => h9) rfl (by decide +kernel) rfl rfl (Nat.le_of_ble_eq_true rfl) dX12_meets_373 (fun H locs hP hD hS => ?_)
            have hP : va_P D vwCl [(o_m ma m_ax m_ay m_bx m_by m_cx m_cy m_dx m_dy m_floor m_hand m_deep y_5 y_11 x y y_166 y_174 (y_147 * (y_55 + y_93)) y_154 m_taped m_at m_size m_ended m_bad m_badPlace m_fault m_faultPlace m_namePlace m_codes m_figures m_open m_last m_now m_from m_piled m_hasGrid m_gridN m_gridM m_gridX m_gridY m_gridDeep m_ownX m_ownY m_ownDeep m_joinMany m_acts), (aI (ma 11) (cy 3) 8 r_isSeat), (aI (ma 12) (cy 1) 8 r_seatX), (aI (ma 13) (cy 1) 8 r_seatY)] H := hP
            have hD := gp_sD hP hD
            refine lv_iconst (v := 1) hx hb dX12_meets_376 (by decide) ?_
            exact W.zret (v := 1) hx hb hr narrow_b1 (fun t ht hW => ⟨⟨1, ⟨y_5, y_11, x, y, y_166, y_174, (y_147 * (y_55 + y_93)), y_154⟩, rfl, ⟨(show (1 : Int32) = 0 ∨ (1 : Int32) = 1 by decide), (fun hnd _ => gp_mtA g_148 (g_149 (fun z => hnd ⟨gp_sub0 (g_15 z.1), gp_sub0 (g_18 z.2)⟩)) (gp_bW g_56 (by decide)) (gp_bW g_94 (by decide)) (Int64.not_le.mp c_95) c_146 c_157 c_158)⟩, gp_end ht hP hD⟩, hS.F ht⟩) hS.2.2 dX12_meets_377
          · have c_158 : ¬ y_154 ≤ (y_147 * (y_55 + y_93)) := fun z => c_158 (gp_lcT.2.2.2.1.mpr z)
            refine lv_iconst (v := 0) hx hb dX12_meets_311 (by decide) ?_
            exact W.zret (v := 0) hx hb hr narrow_b0 (fun t ht hW => ⟨⟨0, ⟨y_5, y_11, x, y, m_meetX, m_meetY, m_meetBy, m_meetAlong⟩, rfl, ⟨(show (0 : Int32) = 0 ∨ (0 : Int32) = 1 by decide), (fun _ h9 => absurd h9 (by decide))⟩, gp_end ht hP hD⟩, hS.F ht⟩) hS.2.2 dX12_meets_312
      · have c_156 : ¬ 0 ≤ (y_55 + y_93) := fun z => c_156 (gp_lcT.2.2.2.2.mpr z)
        refine lv_lload hx hb dX12_meets_283 (lv_at hl 1 rfl) ?_
        refine lv_lneg hx hb dX12_meets_285 ?_
        refine lv_lstore (lv' := [(20, .long (-(y_55 + y_93))), (22, .long y_154), (18, .long y_147), (16, .long y_93), (14, .long y_73), (12, .long y_55), (10, .long y_35), (8, .long y_16), (6, .long y_13), (0, .ref (ma 200)), (1, .int sx), (2, .long x), (4, .long y)]) hx hb dX12_meets_286 hl (by decide) rfl (fun ls hl => ?_)
        refine lv_lload hx hb dX12_meets_288 (lv_at hl 1 rfl) ?_
        refine lv_lneg hx hb dX12_meets_290 ?_
        refine gp_flP (fun z => gp_b z 5222400000000) (gp_bN g_155 (by decide)) (fun y_175 g_176 => ?_)
        refine lv_lstore (lv' := [(22, .long y_175), (20, .long (-(y_55 + y_93))), (18, .long y_147), (16, .long y_93), (14, .long y_73), (12, .long y_55), (10, .long y_35), (8, .long y_16), (6, .long y_13), (0, .ref (ma 200)), (1, .int sx), (2, .long x), (4, .long y)]) hx hb dX12_meets_291 hl (by decide) rfl (fun ls hl => ?_)
        refine lv_lload hx hb dX12_meets_293 (lv_at hl 0 rfl) ?_
        refine lv_lconst (v := 0) hx hb dX12_meets_295 (by decide) ?_
        refine W.lcmp hx hb dX12_meets_296 ?_
        refine lv_if_lt (tgt := 311) hx hb dX12_meets_297 (by decide) (fun c_177 => ?_) (fun c_177 => ?_)
        · have c_177 : y_175 < 0 := gp_lcT.2.1.mp c_177
          refine lv_iconst (v := 0) hx hb dX12_meets_311 (by decide) ?_
          exact W.zret (v := 0) hx hb hr narrow_b0 (fun t ht hW => ⟨⟨0, ⟨y_5, y_11, x, y, m_meetX, m_meetY, m_meetBy, m_meetAlong⟩, rfl, ⟨(show (0 : Int32) = 0 ∨ (0 : Int32) = 1 by decide), (fun _ h9 => absurd h9 (by decide))⟩, gp_end ht hP hD⟩, hS.F ht⟩) hS.2.2 dX12_meets_312
        · have c_177 : ¬ y_175 < 0 := fun z => c_177 (gp_lcT.2.1.mpr z)
          refine lv_lload hx hb dX12_meets_300 (lv_at hl 0 rfl) ?_
          refine lv_lload hx hb dX12_meets_302 (lv_at hl 2 rfl) ?_
          refine lv_lload hx hb dX12_meets_304 (lv_at hl 1 rfl) ?_
          refine lv_lmul hx hb dX12_meets_306 ?_
          refine W.lcmp hx hb dX12_meets_307 ?_
          refine lv_if_le (tgt := 313) hx hb dX12_meets_308 (by decide) (fun c_178 => ?_) (fun c_178 => ?_)
          · have c_178 : y_175 ≤ (y_147 * (-(y_55 + y_93))) := gp_lcT.2.2.2.1.mp c_178
            refine lv_aload_n hx hb dX12_meets_313 rfl (lv_at hl 9 rfl) ?_
            refine lv_lload hx hb dX12_meets_314 (lv_at hl 0 rfl) ?_
            refine va_put (D := D) (ci := 12) (v := .long y_175) (ty := .long) (C := RX12) (T := TX12) (N := 104) hx hb hts hiX12 tyX12 tyX12_ok nmX12 hown hK hP hD hS 0 rfl rfl 32 (by decide) (hts (.fieldLink RX12 137 "GhostPaneModel" "meetAlong" "J") (List.mem_of_getElem? (i := 12) rfl)) (fun _ h9 => h9) rfl (by decide +kernel) rfl rfl (Nat.le_of_ble_eq_true rfl) dX12_meets_316 (fun H locs hP hD hS => ?_)
            have hP : va_P D vwCl [(o_m ma m_ax m_ay m_bx m_by m_cx m_cy m_dx m_dy m_floor m_hand m_deep y_5 y_11 x y m_meetX m_meetY m_meetBy y_175 m_taped m_at m_size m_ended m_bad m_badPlace m_fault m_faultPlace m_namePlace m_codes m_figures m_open m_last m_now m_from m_piled m_hasGrid m_gridN m_gridM m_gridX m_gridY m_gridDeep m_ownX m_ownY m_ownDeep m_joinMany m_acts), (aI (ma 11) (cy 3) 8 r_isSeat), (aI (ma 12) (cy 1) 8 r_seatX), (aI (ma 13) (cy 1) 8 r_seatY)] H := hP
            have hD := gp_sD hP hD
            refine lv_aload_n hx hb dX12_meets_319 rfl (lv_at hl 9 rfl) ?_
            refine lv_lload hx hb dX12_meets_320 (lv_at hl 2 rfl) ?_
            refine lv_lload hx hb dX12_meets_322 (lv_at hl 1 rfl) ?_
            refine lv_lmul hx hb dX12_meets_324 ?_
            refine va_put (D := D) (ci := 12) (v := .long (y_147 * (-(y_55 + y_93)))) (ty := .long) (C := RX12) (T := TX12) (N := 104) hx hb hts hiX12 tyX12 tyX12_ok nmX12 hown hK hP hD hS 0 rfl rfl 31 (by decide) (hts (.fieldLink RX12 140 "GhostPaneModel" "meetBy" "J") (List.mem_of_getElem? (i := 13) rfl)) (fun _ h9 => h9) rfl (by decide +kernel) rfl rfl (Nat.le_of_ble_eq_true rfl) dX12_meets_325 (fun H locs hP hD hS => ?_)
            have hP : va_P D vwCl [(o_m ma m_ax m_ay m_bx m_by m_cx m_cy m_dx m_dy m_floor m_hand m_deep y_5 y_11 x y m_meetX m_meetY (y_147 * (-(y_55 + y_93))) y_175 m_taped m_at m_size m_ended m_bad m_badPlace m_fault m_faultPlace m_namePlace m_codes m_figures m_open m_last m_now m_from m_piled m_hasGrid m_gridN m_gridM m_gridX m_gridY m_gridDeep m_ownX m_ownY m_ownDeep m_joinMany m_acts), (aI (ma 11) (cy 3) 8 r_isSeat), (aI (ma 12) (cy 1) 8 r_seatX), (aI (ma 13) (cy 1) 8 r_seatY)] H := hP
            have hD := gp_sD hP hD
            refine lv_aload_n hx hb dX12_meets_328 rfl (lv_at hl 9 rfl) ?_
            refine lv_ldc2 (v := 2) hx hb hown (hts (.constantLong RX12 108 2) (List.mem_of_getElem? (i := 1) rfl)) dX12_meets_329 ?_
            refine lv_aload_n hx hb dX12_meets_332 rfl (lv_at hl 9 rfl) ?_
            refine va_get (D := D) (ci := 12) (v := .int m_ax) (C := RX12) (T := TX12) (N := 104) hx hb hts hiX12 hown hK hP 0 rfl rfl 0 (by decide) (hts (.fieldLink RX12 15 "GhostPaneModel" "ax" "I") (List.mem_of_getElem? (i := 9) rfl)) (fun _ h9 => h9) rfl dX12_meets_333 ?_
            refine lv_i2l (v := (Int32.toInt64 m_ax)) hx hb dX12_meets_336 rfl ?_
            refine gp_flP (fun z => gp_b z 100) (gp_bI f_m_ax (by decide) (by decide)) (fun y_179 g_180 => ?_)
            refine lv_lmul hx hb dX12_meets_337 ?_
            refine gp_flP (fun z => gp_b z 200) (gp_bM (show gp_b (2) 2 by decide) g_180 (by decide) (by decide)) (fun y_181 g_182 => ?_)
            refine lv_aload_n hx hb dX12_meets_338 rfl (lv_at hl 9 rfl) ?_
            refine va_get (D := D) (ci := 12) (v := .long (y_147 * (-(y_55 + y_93)))) (C := RX12) (T := TX12) (N := 104) hx hb hts hiX12 hown hK hP 0 rfl rfl 31 (by decide) (hts (.fieldLink RX12 140 "GhostPaneModel" "meetBy" "J") (List.mem_of_getElem? (i := 13) rfl)) (fun _ h9 => h9) rfl dX12_meets_339 ?_
            refine lv_lmul hx hb dX12_meets_342 ?_
            refine gp_fl (fun y_183 => ?_)
            refine lv_lload hx hb dX12_meets_343 (lv_at hl 8 rfl) ?_
            refine lv_lload hx hb dX12_meets_345 (lv_at hl 0 rfl) ?_
            refine lv_lmul hx hb dX12_meets_347 ?_
            refine gp_flP (fun z => gp_b z 2088960000000000) (gp_bM g_14 g_176 (by decide) (by decide)) (fun y_184 g_185 => ?_)
            refine lv_ladd hx hb dX12_meets_348 ?_
            refine gp_fl (fun y_186 => ?_)
            refine va_put (D := D) (ci := 12) (v := .long y_186) (ty := .long) (C := RX12) (T := TX12) (N := 104) hx hb hts hiX12 tyX12 tyX12_ok nmX12 hown hK hP hD hS 0 rfl rfl 29 (by decide) (hts (.fieldLink RX12 143 "GhostPaneModel" "meetX" "J") (List.mem_of_getElem? (i := 14) rfl)) (fun _ h9 => h9) rfl (by decide +kernel) rfl rfl (Nat.le_of_ble_eq_true rfl) dX12_meets_349 (fun H locs hP hD hS => ?_)
            have hP : va_P D vwCl [(o_m ma m_ax m_ay m_bx m_by m_cx m_cy m_dx m_dy m_floor m_hand m_deep y_5 y_11 x y y_186 m_meetY (y_147 * (-(y_55 + y_93))) y_175 m_taped m_at m_size m_ended m_bad m_badPlace m_fault m_faultPlace m_namePlace m_codes m_figures m_open m_last m_now m_from m_piled m_hasGrid m_gridN m_gridM m_gridX m_gridY m_gridDeep m_ownX m_ownY m_ownDeep m_joinMany m_acts), (aI (ma 11) (cy 3) 8 r_isSeat), (aI (ma 12) (cy 1) 8 r_seatX), (aI (ma 13) (cy 1) 8 r_seatY)] H := hP
            have hD := gp_sD hP hD
            refine lv_aload_n hx hb dX12_meets_352 rfl (lv_at hl 9 rfl) ?_
            refine lv_ldc2 (v := 2) hx hb hown (hts (.constantLong RX12 108 2) (List.mem_of_getElem? (i := 1) rfl)) dX12_meets_353 ?_
            refine lv_aload_n hx hb dX12_meets_356 rfl (lv_at hl 9 rfl) ?_
            refine va_get (D := D) (ci := 12) (v := .int m_ay) (C := RX12) (T := TX12) (N := 104) hx hb hts hiX12 hown hK hP 0 rfl rfl 1 (by decide) (hts (.fieldLink RX12 19 "GhostPaneModel" "ay" "I") (List.mem_of_getElem? (i := 11) rfl)) (fun _ h9 => h9) rfl dX12_meets_357 ?_
            refine lv_i2l (v := (Int32.toInt64 m_ay)) hx hb dX12_meets_360 rfl ?_
            refine gp_flP (fun z => gp_b z 100) (gp_bI f_m_ay (by decide) (by decide)) (fun y_187 g_188 => ?_)
            refine lv_lmul hx hb dX12_meets_361 ?_
            refine gp_flP (fun z => gp_b z 200) (gp_bM (show gp_b (2) 2 by decide) g_188 (by decide) (by decide)) (fun y_189 g_190 => ?_)
            refine lv_aload_n hx hb dX12_meets_362 rfl (lv_at hl 9 rfl) ?_
            refine va_get (D := D) (ci := 12) (v := .long (y_147 * (-(y_55 + y_93)))) (C := RX12) (T := TX12) (N := 104) hx hb hts hiX12 hown hK hP 0 rfl rfl 31 (by decide) (hts (.fieldLink RX12 140 "GhostPaneModel" "meetBy" "J") (List.mem_of_getElem? (i := 13) rfl)) (fun _ h9 => h9) rfl dX12_meets_363 ?_
            refine lv_lmul hx hb dX12_meets_366 ?_
            refine gp_fl (fun y_191 => ?_)
            refine lv_lload hx hb dX12_meets_367 (lv_at hl 7 rfl) ?_
            refine lv_lload hx hb dX12_meets_369 (lv_at hl 0 rfl) ?_
            refine lv_lmul hx hb dX12_meets_371 ?_
            refine gp_flP (fun z => gp_b z 2088960000000000) (gp_bM g_17 g_176 (by decide) (by decide)) (fun y_192 g_193 => ?_)
            refine lv_ladd hx hb dX12_meets_372 ?_
            refine gp_fl (fun y_194 => ?_)
            refine va_put (D := D) (ci := 12) (v := .long y_194) (ty := .long) (C := RX12) (T := TX12) (N := 104) hx hb hts hiX12 tyX12 tyX12_ok nmX12 hown hK hP hD hS 0 rfl rfl 30 (by decide) (hts (.fieldLink RX12 146 "GhostPaneModel" "meetY" "J") (List.mem_of_getElem? (i := 15) rfl)) (fun _ h9 => h9) rfl (by decide +kernel) rfl rfl (Nat.le_of_ble_eq_true rfl) dX12_meets_373 (fun H locs hP hD hS => ?_)
            have hP : va_P D vwCl [(o_m ma m_ax m_ay m_bx m_by m_cx m_cy m_dx m_dy m_floor m_hand m_deep y_5 y_11 x y y_186 y_194 (y_147 * (-(y_55 + y_93))) y_175 m_taped m_at m_size m_ended m_bad m_badPlace m_fault m_faultPlace m_namePlace m_codes m_figures m_open m_last m_now m_from m_piled m_hasGrid m_gridN m_gridM m_gridX m_gridY m_gridDeep m_ownX m_ownY m_ownDeep m_joinMany m_acts), (aI (ma 11) (cy 3) 8 r_isSeat), (aI (ma 12) (cy 1) 8 r_seatX), (aI (ma 13) (cy 1) 8 r_seatY)] H := hP
            have hD := gp_sD hP hD
            refine lv_iconst (v := 1) hx hb dX12_meets_376 (by decide) ?_
            exact W.zret (v := 1) hx hb hr narrow_b1 (fun t ht hW => ⟨⟨1, ⟨y_5, y_11, x, y, y_186, y_194, (y_147 * (-(y_55 + y_93))), y_175⟩, rfl, ⟨(show (1 : Int32) = 0 ∨ (1 : Int32) = 1 by decide), (fun hnd _ => (gp_mtX (gp_bW g_56 (by decide)) (gp_bW g_94 (by decide)) (Int64.not_le.mp c_95) c_146 (Int64.not_le.mp c_156)).elim)⟩, gp_end ht hP hD⟩, hS.F ht⟩) hS.2.2 dX12_meets_377
          · have c_178 : ¬ y_175 ≤ (y_147 * (-(y_55 + y_93))) := fun z => c_178 (gp_lcT.2.2.2.1.mpr z)
            refine lv_iconst (v := 0) hx hb dX12_meets_311 (by decide) ?_
            exact W.zret (v := 0) hx hb hr narrow_b0 (fun t ht hW => ⟨⟨0, ⟨y_5, y_11, x, y, m_meetX, m_meetY, m_meetBy, m_meetAlong⟩, rfl, ⟨(show (0 : Int32) = 0 ∨ (0 : Int32) = 1 by decide), (fun _ h9 => absurd h9 (by decide))⟩, gp_end ht hP hD⟩, hS.F ht⟩) hS.2.2 dX12_meets_312
    · have c_146 : ¬ 0 < y_93 := fun z => c_146 (gp_lcT.2.2.1.mpr z)
      refine lv_lload hx hb dX12_meets_227 (lv_at hl 2 rfl) ?_
      refine lv_lconst (v := 0) hx hb dX12_meets_229 (by decide) ?_
      refine W.lcmp hx hb dX12_meets_230 ?_
      refine lv_if_ge (tgt := 241) hx hb dX12_meets_231 (by decide) (fun c_195 => ?_) (fun c_195 => ?_)
      · have c_195 : 0 ≤ y_55 := gp_lcT.2.2.2.2.mp c_195
        refine lv_iconst (v := 0) hx hb dX12_meets_241 (by decide) ?_
        exact W.zret (v := 0) hx hb hr narrow_b0 (fun t ht hW => ⟨⟨0, ⟨y_5, y_11, x, y, m_meetX, m_meetY, m_meetBy, m_meetAlong⟩, rfl, ⟨(show (0 : Int32) = 0 ∨ (0 : Int32) = 1 by decide), (fun _ h9 => absurd h9 (by decide))⟩, gp_end ht hP hD⟩, hS.F ht⟩) hS.2.2 dX12_meets_242
      · have c_195 : ¬ 0 ≤ y_55 := fun z => c_195 (gp_lcT.2.2.2.2.mpr z)
        refine lv_lload hx hb dX12_meets_234 (lv_at hl 0 rfl) ?_
        refine lv_lconst (v := 0) hx hb dX12_meets_236 (by decide) ?_
        refine W.lcmp hx hb dX12_meets_237 ?_
        refine lv_if_lt (tgt := 243) hx hb dX12_meets_238 (by decide) (fun c_196 => ?_) (fun c_196 => ?_)
        · have c_196 : y_93 < 0 := gp_lcT.2.1.mp c_196
          refine lv_lload hx hb dX12_meets_243 (lv_at hl 5 rfl) ?_
          refine lv_lload hx hb dX12_meets_245 (lv_at hl 5 rfl) ?_
          refine lv_lmul hx hb dX12_meets_247 ?_
          refine lv_lload hx hb dX12_meets_248 (lv_at hl 4 rfl) ?_
          refine lv_lload hx hb dX12_meets_250 (lv_at hl 4 rfl) ?_
          refine lv_lmul hx hb dX12_meets_252 ?_
          refine lv_ladd hx hb dX12_meets_253 ?_
          refine gp_flP (fun z => (gp_b z 320000) ∧ (¬ (y_13 = 0 ∧ y_16 = 0) → 1 ≤ (z).toInt)) ⟨(gp_allP g_14 g_17).1, (gp_allP g_14 g_17).2⟩ (fun y_197 hg => ?_)
          obtain ⟨g_198, g_199⟩ := hg
          refine lv_lstore (lv' := [(18, .long y_197), (16, .long y_93), (14, .long y_73), (12, .long y_55), (10, .long y_35), (8, .long y_16), (6, .long y_13), (0, .ref (ma 200)), (1, .int sx), (2, .long x), (4, .long y)]) hx hb dX12_meets_254 hl (by decide) rfl (fun ls hl => ?_)
          refine lv_lload hx hb dX12_meets_256 (lv_at hl 3 rfl) ?_
          refine lv_lload hx hb dX12_meets_258 (lv_at hl 1 rfl) ?_
          refine lv_ladd hx hb dX12_meets_260 ?_
          refine lv_lstore (lv' := [(20, .long (y_55 + y_93)), (18, .long y_197), (16, .long y_93), (14, .long y_73), (12, .long y_55), (10, .long y_35), (8, .long y_16), (6, .long y_13), (0, .ref (ma 200)), (1, .int sx), (2, .long x), (4, .long y)]) hx hb dX12_meets_261 hl (by decide) rfl (fun ls hl => ?_)
          refine lv_lload hx hb dX12_meets_263 (lv_at hl 5 rfl) ?_
          refine lv_lload hx hb dX12_meets_265 (lv_at hl 2 rfl) ?_
          refine lv_lmul hx hb dX12_meets_267 ?_
          refine gp_flP (fun z => gp_b z 2611200000000) (gp_bM g_36 g_94 (by decide) (by decide)) (fun y_200 g_201 => ?_)
          refine lv_lload hx hb dX12_meets_268 (lv_at hl 3 rfl) ?_
          refine lv_lload hx hb dX12_meets_270 (lv_at hl 4 rfl) ?_
          refine lv_lmul hx hb dX12_meets_272 ?_
          refine gp_flP (fun z => gp_b z 2611200000000) (gp_bM g_74 g_56 (by decide) (by decide)) (fun y_202 g_203 => ?_)
          refine lv_ladd hx hb dX12_meets_273 ?_
          refine gp_flP (fun z => gp_b z 5222400000000) (gp_bA g_201 g_203 (by decide) (by decide)) (fun y_204 g_205 => ?_)
          refine lv_lstore (lv' := [(22, .long y_204), (20, .long (y_55 + y_93)), (18, .long y_197), (16, .long y_93), (14, .long y_73), (12, .long y_55), (10, .long y_35), (8, .long y_16), (6, .long y_13), (0, .ref (ma 200)), (1, .int sx), (2, .long x), (4, .long y)]) hx hb dX12_meets_274 hl (by decide) rfl (fun ls hl => ?_)
          refine lv_lload hx hb dX12_meets_276 (lv_at hl 1 rfl) ?_
          refine lv_lconst (v := 0) hx hb dX12_meets_278 (by decide) ?_
          refine W.lcmp hx hb dX12_meets_279 ?_
          refine lv_if_ge (tgt := 293) hx hb dX12_meets_280 (by decide) (fun c_206 => ?_) (fun c_206 => ?_)
          · have c_206 : 0 ≤ (y_55 + y_93) := gp_lcT.2.2.2.2.mp c_206
            refine lv_lload hx hb dX12_meets_293 (lv_at hl 0 rfl) ?_
            refine lv_lconst (v := 0) hx hb dX12_meets_295 (by decide) ?_
            refine W.lcmp hx hb dX12_meets_296 ?_
            refine lv_if_lt (tgt := 311) hx hb dX12_meets_297 (by decide) (fun c_207 => ?_) (fun c_207 => ?_)
            · have c_207 : y_204 < 0 := gp_lcT.2.1.mp c_207
              refine lv_iconst (v := 0) hx hb dX12_meets_311 (by decide) ?_
              exact W.zret (v := 0) hx hb hr narrow_b0 (fun t ht hW => ⟨⟨0, ⟨y_5, y_11, x, y, m_meetX, m_meetY, m_meetBy, m_meetAlong⟩, rfl, ⟨(show (0 : Int32) = 0 ∨ (0 : Int32) = 1 by decide), (fun _ h9 => absurd h9 (by decide))⟩, gp_end ht hP hD⟩, hS.F ht⟩) hS.2.2 dX12_meets_312
            · have c_207 : ¬ y_204 < 0 := fun z => c_207 (gp_lcT.2.1.mpr z)
              refine lv_lload hx hb dX12_meets_300 (lv_at hl 0 rfl) ?_
              refine lv_lload hx hb dX12_meets_302 (lv_at hl 2 rfl) ?_
              refine lv_lload hx hb dX12_meets_304 (lv_at hl 1 rfl) ?_
              refine lv_lmul hx hb dX12_meets_306 ?_
              refine W.lcmp hx hb dX12_meets_307 ?_
              refine lv_if_le (tgt := 313) hx hb dX12_meets_308 (by decide) (fun c_208 => ?_) (fun c_208 => ?_)
              · have c_208 : y_204 ≤ (y_197 * (y_55 + y_93)) := gp_lcT.2.2.2.1.mp c_208
                refine lv_aload_n hx hb dX12_meets_313 rfl (lv_at hl 9 rfl) ?_
                refine lv_lload hx hb dX12_meets_314 (lv_at hl 0 rfl) ?_
                refine va_put (D := D) (ci := 12) (v := .long y_204) (ty := .long) (C := RX12) (T := TX12) (N := 104) hx hb hts hiX12 tyX12 tyX12_ok nmX12 hown hK hP hD hS 0 rfl rfl 32 (by decide) (hts (.fieldLink RX12 137 "GhostPaneModel" "meetAlong" "J") (List.mem_of_getElem? (i := 12) rfl)) (fun _ h9 => h9) rfl (by decide +kernel) rfl rfl (Nat.le_of_ble_eq_true rfl) dX12_meets_316 (fun H locs hP hD hS => ?_)
                have hP : va_P D vwCl [(o_m ma m_ax m_ay m_bx m_by m_cx m_cy m_dx m_dy m_floor m_hand m_deep y_5 y_11 x y m_meetX m_meetY m_meetBy y_204 m_taped m_at m_size m_ended m_bad m_badPlace m_fault m_faultPlace m_namePlace m_codes m_figures m_open m_last m_now m_from m_piled m_hasGrid m_gridN m_gridM m_gridX m_gridY m_gridDeep m_ownX m_ownY m_ownDeep m_joinMany m_acts), (aI (ma 11) (cy 3) 8 r_isSeat), (aI (ma 12) (cy 1) 8 r_seatX), (aI (ma 13) (cy 1) 8 r_seatY)] H := hP
                have hD := gp_sD hP hD
                refine lv_aload_n hx hb dX12_meets_319 rfl (lv_at hl 9 rfl) ?_
                refine lv_lload hx hb dX12_meets_320 (lv_at hl 2 rfl) ?_
                refine lv_lload hx hb dX12_meets_322 (lv_at hl 1 rfl) ?_
                refine lv_lmul hx hb dX12_meets_324 ?_
                refine va_put (D := D) (ci := 12) (v := .long (y_197 * (y_55 + y_93))) (ty := .long) (C := RX12) (T := TX12) (N := 104) hx hb hts hiX12 tyX12 tyX12_ok nmX12 hown hK hP hD hS 0 rfl rfl 31 (by decide) (hts (.fieldLink RX12 140 "GhostPaneModel" "meetBy" "J") (List.mem_of_getElem? (i := 13) rfl)) (fun _ h9 => h9) rfl (by decide +kernel) rfl rfl (Nat.le_of_ble_eq_true rfl) dX12_meets_325 (fun H locs hP hD hS => ?_)
                have hP : va_P D vwCl [(o_m ma m_ax m_ay m_bx m_by m_cx m_cy m_dx m_dy m_floor m_hand m_deep y_5 y_11 x y m_meetX m_meetY (y_197 * (y_55 + y_93)) y_204 m_taped m_at m_size m_ended m_bad m_badPlace m_fault m_faultPlace m_namePlace m_codes m_figures m_open m_last m_now m_from m_piled m_hasGrid m_gridN m_gridM m_gridX m_gridY m_gridDeep m_ownX m_ownY m_ownDeep m_joinMany m_acts), (aI (ma 11) (cy 3) 8 r_isSeat), (aI (ma 12) (cy 1) 8 r_seatX), (aI (ma 13) (cy 1) 8 r_seatY)] H := hP
                have hD := gp_sD hP hD
                refine lv_aload_n hx hb dX12_meets_328 rfl (lv_at hl 9 rfl) ?_
                refine lv_ldc2 (v := 2) hx hb hown (hts (.constantLong RX12 108 2) (List.mem_of_getElem? (i := 1) rfl)) dX12_meets_329 ?_
                refine lv_aload_n hx hb dX12_meets_332 rfl (lv_at hl 9 rfl) ?_
                refine va_get (D := D) (ci := 12) (v := .int m_ax) (C := RX12) (T := TX12) (N := 104) hx hb hts hiX12 hown hK hP 0 rfl rfl 0 (by decide) (hts (.fieldLink RX12 15 "GhostPaneModel" "ax" "I") (List.mem_of_getElem? (i := 9) rfl)) (fun _ h9 => h9) rfl dX12_meets_333 ?_
                refine lv_i2l (v := (Int32.toInt64 m_ax)) hx hb dX12_meets_336 rfl ?_
                refine gp_flP (fun z => gp_b z 100) (gp_bI f_m_ax (by decide) (by decide)) (fun y_209 g_210 => ?_)
                refine lv_lmul hx hb dX12_meets_337 ?_
                refine gp_flP (fun z => gp_b z 200) (gp_bM (show gp_b (2) 2 by decide) g_210 (by decide) (by decide)) (fun y_211 g_212 => ?_)
                refine lv_aload_n hx hb dX12_meets_338 rfl (lv_at hl 9 rfl) ?_
                refine va_get (D := D) (ci := 12) (v := .long (y_197 * (y_55 + y_93))) (C := RX12) (T := TX12) (N := 104) hx hb hts hiX12 hown hK hP 0 rfl rfl 31 (by decide) (hts (.fieldLink RX12 140 "GhostPaneModel" "meetBy" "J") (List.mem_of_getElem? (i := 13) rfl)) (fun _ h9 => h9) rfl dX12_meets_339 ?_
                refine lv_lmul hx hb dX12_meets_342 ?_
                refine gp_fl (fun y_213 => ?_)
                refine lv_lload hx hb dX12_meets_343 (lv_at hl 8 rfl) ?_
                refine lv_lload hx hb dX12_meets_345 (lv_at hl 0 rfl) ?_
                refine lv_lmul hx hb dX12_meets_347 ?_
                refine gp_flP (fun z => gp_b z 2088960000000000) (gp_bM g_14 g_205 (by decide) (by decide)) (fun y_214 g_215 => ?_)
                refine lv_ladd hx hb dX12_meets_348 ?_
                refine gp_fl (fun y_216 => ?_)
                refine va_put (D := D) (ci := 12) (v := .long y_216) (ty := .long) (C := RX12) (T := TX12) (N := 104) hx hb hts hiX12 tyX12 tyX12_ok nmX12 hown hK hP hD hS 0 rfl rfl 29 (by decide) (hts (.fieldLink RX12 143 "GhostPaneModel" "meetX" "J") (List.mem_of_getElem? (i := 14) rfl)) (fun _ h9 => h9) rfl (by decide +kernel) rfl rfl (Nat.le_of_ble_eq_true rfl) dX12_meets_349 (fun H locs hP hD hS => ?_)
                have hP : va_P D vwCl [(o_m ma m_ax m_ay m_bx m_by m_cx m_cy m_dx m_dy m_floor m_hand m_deep y_5 y_11 x y y_216 m_meetY (y_197 * (y_55 + y_93)) y_204 m_taped m_at m_size m_ended m_bad m_badPlace m_fault m_faultPlace m_namePlace m_codes m_figures m_open m_last m_now m_from m_piled m_hasGrid m_gridN m_gridM m_gridX m_gridY m_gridDeep m_ownX m_ownY m_ownDeep m_joinMany m_acts), (aI (ma 11) (cy 3) 8 r_isSeat), (aI (ma 12) (cy 1) 8 r_seatX), (aI (ma 13) (cy 1) 8 r_seatY)] H := hP
                have hD := gp_sD hP hD
                refine lv_aload_n hx hb dX12_meets_352 rfl (lv_at hl 9 rfl) ?_
                refine lv_ldc2 (v := 2) hx hb hown (hts (.constantLong RX12 108 2) (List.mem_of_getElem? (i := 1) rfl)) dX12_meets_353 ?_
                refine lv_aload_n hx hb dX12_meets_356 rfl (lv_at hl 9 rfl) ?_
                refine va_get (D := D) (ci := 12) (v := .int m_ay) (C := RX12) (T := TX12) (N := 104) hx hb hts hiX12 hown hK hP 0 rfl rfl 1 (by decide) (hts (.fieldLink RX12 19 "GhostPaneModel" "ay" "I") (List.mem_of_getElem? (i := 11) rfl)) (fun _ h9 => h9) rfl dX12_meets_357 ?_
                refine lv_i2l (v := (Int32.toInt64 m_ay)) hx hb dX12_meets_360 rfl ?_
                refine gp_flP (fun z => gp_b z 100) (gp_bI f_m_ay (by decide) (by decide)) (fun y_217 g_218 => ?_)
                refine lv_lmul hx hb dX12_meets_361 ?_
                refine gp_flP (fun z => gp_b z 200) (gp_bM (show gp_b (2) 2 by decide) g_218 (by decide) (by decide)) (fun y_219 g_220 => ?_)
                refine lv_aload_n hx hb dX12_meets_362 rfl (lv_at hl 9 rfl) ?_
                refine va_get (D := D) (ci := 12) (v := .long (y_197 * (y_55 + y_93))) (C := RX12) (T := TX12) (N := 104) hx hb hts hiX12 hown hK hP 0 rfl rfl 31 (by decide) (hts (.fieldLink RX12 140 "GhostPaneModel" "meetBy" "J") (List.mem_of_getElem? (i := 13) rfl)) (fun _ h9 => h9) rfl dX12_meets_363 ?_
                refine lv_lmul hx hb dX12_meets_366 ?_
                refine gp_fl (fun y_221 => ?_)
                refine lv_lload hx hb dX12_meets_367 (lv_at hl 7 rfl) ?_
                refine lv_lload hx hb dX12_meets_369 (lv_at hl 0 rfl) ?_
                refine lv_lmul hx hb dX12_meets_371 ?_
                refine gp_flP (fun z => gp_b z 2088960000000000) (gp_bM g_17 g_205 (by decide) (by decide)) (fun y_222 g_223 => ?_)
                refine lv_ladd hx hb dX12_meets_372 ?_
                refine gp_fl (fun y_224 => ?_)
                refine va_put (D := D) (ci := 12) (v := .long y_224) (ty := .long) (C := RX12) (T := TX12) (N := 104) hx hb hts hiX12 tyX12 tyX12_ok nmX12 hown hK hP hD hS 0 rfl rfl 30 (by decide) (hts (.fieldLink RX12 146 "GhostPaneModel" "meetY" "J") (List.mem_of_getElem? (i := 15) rfl)) (fun _ h9 => h9) rfl (by decide +kernel) rfl rfl (Nat.le_of_ble_eq_true rfl) dX12_meets_373 (fun H locs hP hD hS => ?_)
                have hP : va_P D vwCl [(o_m ma m_ax m_ay m_bx m_by m_cx m_cy m_dx m_dy m_floor m_hand m_deep y_5 y_11 x y y_216 y_224 (y_197 * (y_55 + y_93)) y_204 m_taped m_at m_size m_ended m_bad m_badPlace m_fault m_faultPlace m_namePlace m_codes m_figures m_open m_last m_now m_from m_piled m_hasGrid m_gridN m_gridM m_gridX m_gridY m_gridDeep m_ownX m_ownY m_ownDeep m_joinMany m_acts), (aI (ma 11) (cy 3) 8 r_isSeat), (aI (ma 12) (cy 1) 8 r_seatX), (aI (ma 13) (cy 1) 8 r_seatY)] H := hP
                have hD := gp_sD hP hD
                refine lv_iconst (v := 1) hx hb dX12_meets_376 (by decide) ?_
                exact W.zret (v := 1) hx hb hr narrow_b1 (fun t ht hW => ⟨⟨1, ⟨y_5, y_11, x, y, y_216, y_224, (y_197 * (y_55 + y_93)), y_204⟩, rfl, ⟨(show (1 : Int32) = 0 ∨ (1 : Int32) = 1 by decide), (fun hnd _ => (gp_mtY (gp_bW g_56 (by decide)) (gp_bW g_94 (by decide)) (Int64.not_le.mp c_195) c_196 (Int64.not_lt.mpr c_206)).elim)⟩, gp_end ht hP hD⟩, hS.F ht⟩) hS.2.2 dX12_meets_377
              · have c_208 : ¬ y_204 ≤ (y_197 * (y_55 + y_93)) := fun z => c_208 (gp_lcT.2.2.2.1.mpr z)
                refine lv_iconst (v := 0) hx hb dX12_meets_311 (by decide) ?_
                exact W.zret (v := 0) hx hb hr narrow_b0 (fun t ht hW => ⟨⟨0, ⟨y_5, y_11, x, y, m_meetX, m_meetY, m_meetBy, m_meetAlong⟩, rfl, ⟨(show (0 : Int32) = 0 ∨ (0 : Int32) = 1 by decide), (fun _ h9 => absurd h9 (by decide))⟩, gp_end ht hP hD⟩, hS.F ht⟩) hS.2.2 dX12_meets_312
          · have c_206 : ¬ 0 ≤ (y_55 + y_93) := fun z => c_206 (gp_lcT.2.2.2.2.mpr z)
            refine lv_lload hx hb dX12_meets_283 (lv_at hl 1 rfl) ?_
            refine lv_lneg hx hb dX12_meets_285 ?_
            refine lv_lstore (lv' := [(20, .long (-(y_55 + y_93))), (22, .long y_204), (18, .long y_197), (16, .long y_93), (14, .long y_73), (12, .long y_55), (10, .long y_35), (8, .long y_16), (6, .long y_13), (0, .ref (ma 200)), (1, .int sx), (2, .long x), (4, .long y)]) hx hb dX12_meets_286 hl (by decide) rfl (fun ls hl => ?_)
            refine lv_lload hx hb dX12_meets_288 (lv_at hl 1 rfl) ?_
            refine lv_lneg hx hb dX12_meets_290 ?_
            refine gp_flP (fun z => gp_b z 5222400000000) (gp_bN g_205 (by decide)) (fun y_225 g_226 => ?_)
            refine lv_lstore (lv' := [(22, .long y_225), (20, .long (-(y_55 + y_93))), (18, .long y_197), (16, .long y_93), (14, .long y_73), (12, .long y_55), (10, .long y_35), (8, .long y_16), (6, .long y_13), (0, .ref (ma 200)), (1, .int sx), (2, .long x), (4, .long y)]) hx hb dX12_meets_291 hl (by decide) rfl (fun ls hl => ?_)
            refine lv_lload hx hb dX12_meets_293 (lv_at hl 0 rfl) ?_
            refine lv_lconst (v := 0) hx hb dX12_meets_295 (by decide) ?_
            refine W.lcmp hx hb dX12_meets_296 ?_
            refine lv_if_lt (tgt := 311) hx hb dX12_meets_297 (by decide) (fun c_227 => ?_) (fun c_227 => ?_)
            · have c_227 : y_225 < 0 := gp_lcT.2.1.mp c_227
              refine lv_iconst (v := 0) hx hb dX12_meets_311 (by decide) ?_
              exact W.zret (v := 0) hx hb hr narrow_b0 (fun t ht hW => ⟨⟨0, ⟨y_5, y_11, x, y, m_meetX, m_meetY, m_meetBy, m_meetAlong⟩, rfl, ⟨(show (0 : Int32) = 0 ∨ (0 : Int32) = 1 by decide), (fun _ h9 => absurd h9 (by decide))⟩, gp_end ht hP hD⟩, hS.F ht⟩) hS.2.2 dX12_meets_312
            · have c_227 : ¬ y_225 < 0 := fun z => c_227 (gp_lcT.2.1.mpr z)
              refine lv_lload hx hb dX12_meets_300 (lv_at hl 0 rfl) ?_
              refine lv_lload hx hb dX12_meets_302 (lv_at hl 2 rfl) ?_
              refine lv_lload hx hb dX12_meets_304 (lv_at hl 1 rfl) ?_
              refine lv_lmul hx hb dX12_meets_306 ?_
              refine W.lcmp hx hb dX12_meets_307 ?_
              refine lv_if_le (tgt := 313) hx hb dX12_meets_308 (by decide) (fun c_228 => ?_) (fun c_228 => ?_)
              · have c_228 : y_225 ≤ (y_197 * (-(y_55 + y_93))) := gp_lcT.2.2.2.1.mp c_228
                refine lv_aload_n hx hb dX12_meets_313 rfl (lv_at hl 9 rfl) ?_
                refine lv_lload hx hb dX12_meets_314 (lv_at hl 0 rfl) ?_
                refine va_put (D := D) (ci := 12) (v := .long y_225) (ty := .long) (C := RX12) (T := TX12) (N := 104) hx hb hts hiX12 tyX12 tyX12_ok nmX12 hown hK hP hD hS 0 rfl rfl 32 (by decide) (hts (.fieldLink RX12 137 "GhostPaneModel" "meetAlong" "J") (List.mem_of_getElem? (i := 12) rfl)) (fun _ h9 => h9) rfl (by decide +kernel) rfl rfl (Nat.le_of_ble_eq_true rfl) dX12_meets_316 (fun H locs hP hD hS => ?_)
                have hP : va_P D vwCl [(o_m ma m_ax m_ay m_bx m_by m_cx m_cy m_dx m_dy m_floor m_hand m_deep y_5 y_11 x y m_meetX m_meetY m_meetBy y_225 m_taped m_at m_size m_ended m_bad m_badPlace m_fault m_faultPlace m_namePlace m_codes m_figures m_open m_last m_now m_from m_piled m_hasGrid m_gridN m_gridM m_gridX m_gridY m_gridDeep m_ownX m_ownY m_ownDeep m_joinMany m_acts), (aI (ma 11) (cy 3) 8 r_isSeat), (aI (ma 12) (cy 1) 8 r_seatX), (aI (ma 13) (cy 1) 8 r_seatY)] H := hP
                have hD := gp_sD hP hD
                refine lv_aload_n hx hb dX12_meets_319 rfl (lv_at hl 9 rfl) ?_
                refine lv_lload hx hb dX12_meets_320 (lv_at hl 2 rfl) ?_
                refine lv_lload hx hb dX12_meets_322 (lv_at hl 1 rfl) ?_
                refine lv_lmul hx hb dX12_meets_324 ?_
                refine va_put (D := D) (ci := 12) (v := .long (y_197 * (-(y_55 + y_93)))) (ty := .long) (C := RX12) (T := TX12) (N := 104) hx hb hts hiX12 tyX12 tyX12_ok nmX12 hown hK hP hD hS 0 rfl rfl 31 (by decide) (hts (.fieldLink RX12 140 "GhostPaneModel" "meetBy" "J") (List.mem_of_getElem? (i := 13) rfl)) (fun _ h9 => h9) rfl (by decide +kernel) rfl rfl (Nat.le_of_ble_eq_true rfl) dX12_meets_325 (fun H locs hP hD hS => ?_)
                have hP : va_P D vwCl [(o_m ma m_ax m_ay m_bx m_by m_cx m_cy m_dx m_dy m_floor m_hand m_deep y_5 y_11 x y m_meetX m_meetY (y_197 * (-(y_55 + y_93))) y_225 m_taped m_at m_size m_ended m_bad m_badPlace m_fault m_faultPlace m_namePlace m_codes m_figures m_open m_last m_now m_from m_piled m_hasGrid m_gridN m_gridM m_gridX m_gridY m_gridDeep m_ownX m_ownY m_ownDeep m_joinMany m_acts), (aI (ma 11) (cy 3) 8 r_isSeat), (aI (ma 12) (cy 1) 8 r_seatX), (aI (ma 13) (cy 1) 8 r_seatY)] H := hP
                have hD := gp_sD hP hD
                refine lv_aload_n hx hb dX12_meets_328 rfl (lv_at hl 9 rfl) ?_
                refine lv_ldc2 (v := 2) hx hb hown (hts (.constantLong RX12 108 2) (List.mem_of_getElem? (i := 1) rfl)) dX12_meets_329 ?_
                refine lv_aload_n hx hb dX12_meets_332 rfl (lv_at hl 9 rfl) ?_
                refine va_get (D := D) (ci := 12) (v := .int m_ax) (C := RX12) (T := TX12) (N := 104) hx hb hts hiX12 hown hK hP 0 rfl rfl 0 (by decide) (hts (.fieldLink RX12 15 "GhostPaneModel" "ax" "I") (List.mem_of_getElem? (i := 9) rfl)) (fun _ h9 => h9) rfl dX12_meets_333 ?_
                refine lv_i2l (v := (Int32.toInt64 m_ax)) hx hb dX12_meets_336 rfl ?_
                refine gp_flP (fun z => gp_b z 100) (gp_bI f_m_ax (by decide) (by decide)) (fun y_229 g_230 => ?_)
                refine lv_lmul hx hb dX12_meets_337 ?_
                refine gp_flP (fun z => gp_b z 200) (gp_bM (show gp_b (2) 2 by decide) g_230 (by decide) (by decide)) (fun y_231 g_232 => ?_)
                refine lv_aload_n hx hb dX12_meets_338 rfl (lv_at hl 9 rfl) ?_
                refine va_get (D := D) (ci := 12) (v := .long (y_197 * (-(y_55 + y_93)))) (C := RX12) (T := TX12) (N := 104) hx hb hts hiX12 hown hK hP 0 rfl rfl 31 (by decide) (hts (.fieldLink RX12 140 "GhostPaneModel" "meetBy" "J") (List.mem_of_getElem? (i := 13) rfl)) (fun _ h9 => h9) rfl dX12_meets_339 ?_
                refine lv_lmul hx hb dX12_meets_342 ?_
                refine gp_fl (fun y_233 => ?_)
                refine lv_lload hx hb dX12_meets_343 (lv_at hl 8 rfl) ?_
                refine lv_lload hx hb dX12_meets_345 (lv_at hl 0 rfl) ?_
                refine lv_lmul hx hb dX12_meets_347 ?_
                refine gp_flP (fun z => gp_b z 2088960000000000) (gp_bM g_14 g_226 (by decide) (by decide)) (fun y_234 g_235 => ?_)
                refine lv_ladd hx hb dX12_meets_348 ?_
                refine gp_fl (fun y_236 => ?_)
                refine va_put (D := D) (ci := 12) (v := .long y_236) (ty := .long) (C := RX12) (T := TX12) (N := 104) hx hb hts hiX12 tyX12 tyX12_ok nmX12 hown hK hP hD hS 0 rfl rfl 29 (by decide) (hts (.fieldLink RX12 143 "GhostPaneModel" "meetX" "J") (List.mem_of_getElem? (i := 14) rfl)) (fun _ h9 => h9) rfl (by decide +kernel) rfl rfl (Nat.le_of_ble_eq_true rfl) dX12_meets_349 (fun H locs hP hD hS => ?_)
                have hP : va_P D vwCl [(o_m ma m_ax m_ay m_bx m_by m_cx m_cy m_dx m_dy m_floor m_hand m_deep y_5 y_11 x y y_236 m_meetY (y_197 * (-(y_55 + y_93))) y_225 m_taped m_at m_size m_ended m_bad m_badPlace m_fault m_faultPlace m_namePlace m_codes m_figures m_open m_last m_now m_from m_piled m_hasGrid m_gridN m_gridM m_gridX m_gridY m_gridDeep m_ownX m_ownY m_ownDeep m_joinMany m_acts), (aI (ma 11) (cy 3) 8 r_isSeat), (aI (ma 12) (cy 1) 8 r_seatX), (aI (ma 13) (cy 1) 8 r_seatY)] H := hP
                have hD := gp_sD hP hD
                refine lv_aload_n hx hb dX12_meets_352 rfl (lv_at hl 9 rfl) ?_
                refine lv_ldc2 (v := 2) hx hb hown (hts (.constantLong RX12 108 2) (List.mem_of_getElem? (i := 1) rfl)) dX12_meets_353 ?_
                refine lv_aload_n hx hb dX12_meets_356 rfl (lv_at hl 9 rfl) ?_
                refine va_get (D := D) (ci := 12) (v := .int m_ay) (C := RX12) (T := TX12) (N := 104) hx hb hts hiX12 hown hK hP 0 rfl rfl 1 (by decide) (hts (.fieldLink RX12 19 "GhostPaneModel" "ay" "I") (List.mem_of_getElem? (i := 11) rfl)) (fun _ h9 => h9) rfl dX12_meets_357 ?_
                refine lv_i2l (v := (Int32.toInt64 m_ay)) hx hb dX12_meets_360 rfl ?_
                refine gp_flP (fun z => gp_b z 100) (gp_bI f_m_ay (by decide) (by decide)) (fun y_237 g_238 => ?_)
                refine lv_lmul hx hb dX12_meets_361 ?_
                refine gp_flP (fun z => gp_b z 200) (gp_bM (show gp_b (2) 2 by decide) g_238 (by decide) (by decide)) (fun y_239 g_240 => ?_)
                refine lv_aload_n hx hb dX12_meets_362 rfl (lv_at hl 9 rfl) ?_
                refine va_get (D := D) (ci := 12) (v := .long (y_197 * (-(y_55 + y_93)))) (C := RX12) (T := TX12) (N := 104) hx hb hts hiX12 hown hK hP 0 rfl rfl 31 (by decide) (hts (.fieldLink RX12 140 "GhostPaneModel" "meetBy" "J") (List.mem_of_getElem? (i := 13) rfl)) (fun _ h9 => h9) rfl dX12_meets_363 ?_
                refine lv_lmul hx hb dX12_meets_366 ?_
                refine gp_fl (fun y_241 => ?_)
                refine lv_lload hx hb dX12_meets_367 (lv_at hl 7 rfl) ?_
                refine lv_lload hx hb dX12_meets_369 (lv_at hl 0 rfl) ?_
                refine lv_lmul hx hb dX12_meets_371 ?_
                refine gp_flP (fun z => gp_b z 2088960000000000) (gp_bM g_17 g_226 (by decide) (by decide)) (fun y_242 g_243 => ?_)
                refine lv_ladd hx hb dX12_meets_372 ?_
                refine gp_fl (fun y_244 => ?_)
                refine va_put (D := D) (ci := 12) (v := .long y_244) (ty := .long) (C := RX12) (T := TX12) (N := 104) hx hb hts hiX12 tyX12 tyX12_ok nmX12 hown hK hP hD hS 0 rfl rfl 30 (by decide) (hts (.fieldLink RX12 146 "GhostPaneModel" "meetY" "J") (List.mem_of_getElem? (i := 15) rfl)) (fun _ h9 => h9) rfl (by decide +kernel) rfl rfl (Nat.le_of_ble_eq_true rfl) dX12_meets_373 (fun H locs hP hD hS => ?_)
                have hP : va_P D vwCl [(o_m ma m_ax m_ay m_bx m_by m_cx m_cy m_dx m_dy m_floor m_hand m_deep y_5 y_11 x y y_236 y_244 (y_197 * (-(y_55 + y_93))) y_225 m_taped m_at m_size m_ended m_bad m_badPlace m_fault m_faultPlace m_namePlace m_codes m_figures m_open m_last m_now m_from m_piled m_hasGrid m_gridN m_gridM m_gridX m_gridY m_gridDeep m_ownX m_ownY m_ownDeep m_joinMany m_acts), (aI (ma 11) (cy 3) 8 r_isSeat), (aI (ma 12) (cy 1) 8 r_seatX), (aI (ma 13) (cy 1) 8 r_seatY)] H := hP
                have hD := gp_sD hP hD
                refine lv_iconst (v := 1) hx hb dX12_meets_376 (by decide) ?_
                exact W.zret (v := 1) hx hb hr narrow_b1 (fun t ht hW => ⟨⟨1, ⟨y_5, y_11, x, y, y_236, y_244, (y_197 * (-(y_55 + y_93))), y_225⟩, rfl, ⟨(show (1 : Int32) = 0 ∨ (1 : Int32) = 1 by decide), (fun hnd _ => gp_mtB g_198 (g_199 (fun z => hnd ⟨gp_sub0 (g_15 z.1), gp_sub0 (g_18 z.2)⟩)) (gp_bW g_56 (by decide)) (gp_bW g_94 (by decide)) (Int64.not_le.mp c_195) c_196 c_227 c_228)⟩, gp_end ht hP hD⟩, hS.F ht⟩) hS.2.2 dX12_meets_377
              · have c_228 : ¬ y_225 ≤ (y_197 * (-(y_55 + y_93))) := fun z => c_228 (gp_lcT.2.2.2.1.mpr z)
                refine lv_iconst (v := 0) hx hb dX12_meets_311 (by decide) ?_
                exact W.zret (v := 0) hx hb hr narrow_b0 (fun t ht hW => ⟨⟨0, ⟨y_5, y_11, x, y, m_meetX, m_meetY, m_meetBy, m_meetAlong⟩, rfl, ⟨(show (0 : Int32) = 0 ∨ (0 : Int32) = 1 by decide), (fun _ h9 => absurd h9 (by decide))⟩, gp_end ht hP hD⟩, hS.F ht⟩) hS.2.2 dX12_meets_312
        · have c_196 : ¬ y_93 < 0 := fun z => c_196 (gp_lcT.2.1.mpr z)
          refine lv_iconst (v := 0) hx hb dX12_meets_241 (by decide) ?_
          exact W.zret (v := 0) hx hb hr narrow_b0 (fun t ht hW => ⟨⟨0, ⟨y_5, y_11, x, y, m_meetX, m_meetY, m_meetBy, m_meetAlong⟩, rfl, ⟨(show (0 : Int32) = 0 ∨ (0 : Int32) = 1 by decide), (fun _ h9 => absurd h9 (by decide))⟩, gp_end ht hP hD⟩, hS.F ht⟩) hS.2.2 dX12_meets_242

def v_sX12_sign : List Cond := .code yX12_sign cX12_sign 2 (some .int) :: (([] : List Cond))
set_option maxHeartbeats 4000000 in
set_option maxRecDepth 100000 in
theorem sX12_sign (l : Launch) (D : va_G) (cy : Nat → ClassId) (sz : Nat) (ma : Nat → Nat) (v : Int64) : Met l yX12_sign v_sX12_sign ({ frames := 0, cells := 0, slots := 0, locals := 0 } : Room) (va_Pc [.long v] (gp_B D cy sz [])) (va_Qi (fun (r : Int32) (u : Unit) => True) (fun u => gp_E D (va_A [] sz) []) (va_A [] sz)) 0 0 (va_A [] sz) := by
  refine gp_met (Qc := fun A => va_Qi (fun (r : Int32) (u : Unit) => True) (fun u => gp_E D A []) A) (cc := cX12_sign) (maxL := 2) (ret := (some .int)) (by decide) rfl (Nat.le_of_ble_eq_true rfl) ?_
  intro p e s m below meth c A ls H hx hb hml hr hlocks hts hown hin hK hN hS hP hD hA hl
  have hown : s.vm.findClass RX12 = some m.cls := hown
  have hl : lv_has ls 2 [(0, .long v)] := hl
  refine lv_lload_n hx hb dX12_sign_0 rfl (lv_at hl 0 rfl) ?_
  refine lv_lconst (v := 0) hx hb dX12_sign_1 (by decide) ?_
  refine W.lcmp hx hb dX12_sign_2 ?_
  refine lv_if_le (tgt := 10) hx hb dX12_sign_3 (by decide) (fun c_1 => ?_) (fun c_1 => ?_)
  · have c_1 : v ≤ 0 := gp_lcT.2.2.2.1.mp c_1
    refine lv_lload_n hx hb dX12_sign_10 rfl (lv_at hl 0 rfl) ?_
    refine lv_lconst (v := 0) hx hb dX12_sign_11 (by decide) ?_
    refine W.lcmp hx hb dX12_sign_12 ?_
    refine lv_if_ge (tgt := 20) hx hb dX12_sign_13 (by decide) (fun c_2 => ?_) (fun c_2 => ?_)
    · have c_2 : 0 ≤ v := gp_lcT.2.2.2.2.mp c_2
      refine lv_iconst (v := 0) hx hb dX12_sign_20 (by decide) ?_
      exact W.iret (v := 0) hx hb hr (fun t ht hW => ⟨⟨0, (), rfl, trivial, gp_end ht hP hD⟩, hS.F ht⟩) hS.2.2 dX12_sign_21
    · have c_2 : ¬ 0 ≤ v := fun z => c_2 (gp_lcT.2.2.2.2.mpr z)
      refine lv_iconst (v := (-1)) hx hb dX12_sign_16 (by decide) ?_
      refine lv_goto (tgt := 21) hx hb dX12_sign_17 (by decide) ?_
      exact W.iret (v := (-1)) hx hb hr (fun t ht hW => ⟨⟨(-1), (), rfl, trivial, gp_end ht hP hD⟩, hS.F ht⟩) hS.2.2 dX12_sign_21
  · have c_1 : ¬ v ≤ 0 := fun z => c_1 (gp_lcT.2.2.2.1.mpr z)
    refine lv_iconst (v := 1) hx hb dX12_sign_6 (by decide) ?_
    refine lv_goto (tgt := 21) hx hb dX12_sign_7 (by decide) ?_
    exact W.iret (v := 1) hx hb hr (fun t ht hW => ⟨⟨1, (), rfl, trivial, gp_end ht hP hD⟩, hS.F ht⟩) hS.2.2 dX12_sign_21

def v_sX12_less : List Cond := .code yX12_less cX12_less 4 (some .long) :: (([] : List Cond))
set_option maxHeartbeats 4000000 in
set_option maxRecDepth 100000 in
theorem sX12_less (l : Launch) (D : va_G) (cy : Nat → ClassId) (sz : Nat) (ma : Nat → Nat) (x : Int64) (y : Int64) : Met l yX12_less v_sX12_less ({ frames := 0, cells := 0, slots := 0, locals := 0 } : Room) (va_Pc [.long x, .long y] (gp_B D cy sz [])) (va_Ql (fun (r : Int64) (u : Unit) => True) (fun u => gp_E D (va_A [] sz) []) (va_A [] sz)) 0 0 (va_A [] sz) := by
  refine gp_met (Qc := fun A => va_Ql (fun (r : Int64) (u : Unit) => True) (fun u => gp_E D A []) A) (cc := cX12_less) (maxL := 4) (ret := (some .long)) (by decide) rfl (Nat.le_of_ble_eq_true rfl) ?_
  intro p e s m below meth c A ls H hx hb hml hr hlocks hts hown hin hK hN hS hP hD hA hl
  have hown : s.vm.findClass RX12 = some m.cls := hown
  have hl : lv_has ls 4 [(0, .long x), (2, .long y)] := hl
  refine lv_lload_n hx hb dX12_less_0 rfl (lv_at hl 0 rfl) ?_
  refine lv_lload_n hx hb dX12_less_1 rfl (lv_at hl 1 rfl) ?_
  refine W.lcmp hx hb dX12_less_2 ?_
  refine lv_if_ge (tgt := 10) hx hb dX12_less_3 (by decide) (fun c_1 => ?_) (fun c_1 => ?_)
  · have c_1 : y ≤ x := gp_lcT.2.2.2.2.mp c_1
    refine lv_lload_n hx hb dX12_less_10 rfl (lv_at hl 1 rfl) ?_
    exact W.lret (v := y) hx hb hr (fun t ht hW => ⟨⟨y, (), rfl, trivial, gp_end ht hP hD⟩, hS.F ht⟩) hS.2.2 dX12_less_11
  · have c_1 : ¬ y ≤ x := fun z => c_1 (gp_lcT.2.2.2.2.mpr z)
    refine lv_lload_n hx hb dX12_less_6 rfl (lv_at hl 0 rfl) ?_
    refine lv_goto (tgt := 11) hx hb dX12_less_7 (by decide) ?_
    exact W.lret (v := x) hx hb hr (fun t ht hW => ⟨⟨x, (), rfl, trivial, gp_end ht hP hD⟩, hS.F ht⟩) hS.2.2 dX12_less_11

def v_sX12_more : List Cond := .code yX12_more cX12_more 4 (some .long) :: (([] : List Cond))
set_option maxHeartbeats 4000000 in
set_option maxRecDepth 100000 in
theorem sX12_more (l : Launch) (D : va_G) (cy : Nat → ClassId) (sz : Nat) (ma : Nat → Nat) (x : Int64) (y : Int64) : Met l yX12_more v_sX12_more ({ frames := 0, cells := 0, slots := 0, locals := 0 } : Room) (va_Pc [.long x, .long y] (gp_B D cy sz [])) (va_Ql (fun (r : Int64) (u : Unit) => True) (fun u => gp_E D (va_A [] sz) []) (va_A [] sz)) 0 0 (va_A [] sz) := by
  refine gp_met (Qc := fun A => va_Ql (fun (r : Int64) (u : Unit) => True) (fun u => gp_E D A []) A) (cc := cX12_more) (maxL := 4) (ret := (some .long)) (by decide) rfl (Nat.le_of_ble_eq_true rfl) ?_
  intro p e s m below meth c A ls H hx hb hml hr hlocks hts hown hin hK hN hS hP hD hA hl
  have hown : s.vm.findClass RX12 = some m.cls := hown
  have hl : lv_has ls 4 [(0, .long x), (2, .long y)] := hl
  refine lv_lload_n hx hb dX12_more_0 rfl (lv_at hl 0 rfl) ?_
  refine lv_lload_n hx hb dX12_more_1 rfl (lv_at hl 1 rfl) ?_
  refine W.lcmp hx hb dX12_more_2 ?_
  refine lv_if_le (tgt := 10) hx hb dX12_more_3 (by decide) (fun c_1 => ?_) (fun c_1 => ?_)
  · have c_1 : x ≤ y := gp_lcT.2.2.2.1.mp c_1
    refine lv_lload_n hx hb dX12_more_10 rfl (lv_at hl 1 rfl) ?_
    exact W.lret (v := y) hx hb hr (fun t ht hW => ⟨⟨y, (), rfl, trivial, gp_end ht hP hD⟩, hS.F ht⟩) hS.2.2 dX12_more_11
  · have c_1 : ¬ x ≤ y := fun z => c_1 (gp_lcT.2.2.2.1.mpr z)
    refine lv_lload_n hx hb dX12_more_6 rfl (lv_at hl 0 rfl) ?_
    refine lv_goto (tgt := 11) hx hb dX12_more_7 (by decide) ?_
    exact W.lret (v := x) hx hb hr (fun t ht hW => ⟨⟨x, (), rfl, trivial, gp_end ht hP hD⟩, hS.F ht⟩) hS.2.2 dX12_more_11

theorem lf_sX12_wallY_1 (dn : Int32) (wz : Int32) (hc1 : sp_in dn 0 60) (hc2 : sp_in wz (-100) 100) : sp_in (wz - dn) (-200) 200 := by
  first | grind | (simp only [sp_in, sp_pl, sp_far, sp_two] at *; grind)
def v_sX12_wallY : List Cond := .code yX12_wallY cX12_wallY 3 (some .long) :: (([.constantLong RX12 108 2, .fieldLink RX12 75 "GhostPaneModel" "isPit" "[Z", .fieldLink RX12 46 "GhostPaneModel" "deep" "I", .fieldLink RX12 66 "GhostPaneModel" "wallAy" "[I", .fieldLink RX12 72 "GhostPaneModel" "wallBy" "[I"] : List Cond) ++ wsX120)
set_option maxHeartbeats 4000000 in
set_option maxRecDepth 100000 in
theorem sX12_wallY (l : Launch) (D : va_G) (cy : Nat → ClassId) (sz : Nat) (ma : Nat → Nat) (m_ax : Int32) (m_ay : Int32) (m_bx : Int32) (m_by : Int32) (m_cx : Int32) (m_cy : Int32) (m_dx : Int32) (m_dy : Int32) (m_floor : Int32) (m_hand : Int32) (m_deep : Int32) (m_eyeX : Int64) (m_eyeY : Int64) (m_goalX : Int64) (m_goalY : Int64) (m_meetX : Int64) (m_meetY : Int64) (m_meetBy : Int64) (m_meetAlong : Int64) (m_taped : Int32) (m_at : Int32) (m_size : Int32) (m_ended : Int32) (m_bad : Int32) (m_badPlace : Int32) (m_fault : Int32) (m_faultPlace : Int32) (m_namePlace : Int32) (m_codes : Int32) (m_figures : Int32) (m_open : Int32) (m_last : Int32) (m_now : Int32) (m_from : Int32) (m_piled : Int32) (m_hasGrid : Int32) (m_gridN : Int32) (m_gridM : Int32) (m_gridX : Int32) (m_gridY : Int32) (m_gridDeep : Int32) (m_ownX : Int32) (m_ownY : Int32) (m_ownDeep : Int32) (m_joinMany : Int32) (m_acts : Int32) (r_wallAx : Nat → Int32) (r_wallAy : Nat → Int32) (r_wallBx : Nat → Int32) (r_wallBy : Nat → Int32) (r_isPit : Nat → Int32) (w : Int32) (se : Int32) (f_m_ax : sp_in m_ax (-100) 100) (f_m_ay : sp_in m_ay (-100) 100) (f_m_bx : sp_in m_bx (-100) 100) (f_m_by : sp_in m_by (-100) 100) (f_m_cx : sp_in m_cx (-100) 100) (f_m_cy : sp_in m_cy (-100) 100) (f_m_dx : sp_in m_dx (-100) 100) (f_m_dy : sp_in m_dy (-100) 100) (f_m_floor : sp_in m_floor (-100) 100) (f_m_hand : sp_in m_hand 0 50) (f_m_deep : sp_in m_deep 0 60) (f_m_taped : sp_in m_taped 0 600) (f_m_at : sp_in m_at 0 600) (f_m_size : sp_in m_size 0 600) (f_m_codes : sp_in m_codes 0 399) (f_m_figures : sp_in m_figures 0 12) (f_m_open : sp_in m_open 0 6) (f_m_last : sp_in m_last 0 240) (f_m_joinMany : sp_in m_joinMany 0 1000) (f_m_acts : sp_in m_acts 0 100) (f_r_wallAx : ∀ i, sp_in (r_wallAx i) (-100) 100) (f_r_wallAy : ∀ i, sp_in (r_wallAy i) (-100) 100) (f_r_wallBx : ∀ i, sp_in (r_wallBx i) (-100) 100) (f_r_wallBy : ∀ i, sp_in (r_wallBy i) (-100) 100) (q0 : sp_in w 0 11) : Met l yX12_wallY v_sX12_wallY ({ frames := 0, cells := 0, slots := 0, locals := 0 } : Room) (va_Pc [.ref (ma 200), .int w, .int se] (gp_B D cy sz [(o_m ma m_ax m_ay m_bx m_by m_cx m_cy m_dx m_dy m_floor m_hand m_deep m_eyeX m_eyeY m_goalX m_goalY m_meetX m_meetY m_meetBy m_meetAlong m_taped m_at m_size m_ended m_bad m_badPlace m_fault m_faultPlace m_namePlace m_codes m_figures m_open m_last m_now m_from m_piled m_hasGrid m_gridN m_gridM m_gridX m_gridY m_gridDeep m_ownX m_ownY m_ownDeep m_joinMany m_acts), (aI (ma 15) (cy 1) 12 r_wallAx), (aI (ma 16) (cy 1) 12 r_wallAy), (aI (ma 17) (cy 1) 12 r_wallBx), (aI (ma 18) (cy 1) 12 r_wallBy), (aI (ma 19) (cy 3) 12 r_isPit)])) (va_Ql (fun (r : Int64) (u : Unit) => (gp_b r 400)) (fun u => gp_E D (va_A [(o_m ma m_ax m_ay m_bx m_by m_cx m_cy m_dx m_dy m_floor m_hand m_deep m_eyeX m_eyeY m_goalX m_goalY m_meetX m_meetY m_meetBy m_meetAlong m_taped m_at m_size m_ended m_bad m_badPlace m_fault m_faultPlace m_namePlace m_codes m_figures m_open m_last m_now m_from m_piled m_hasGrid m_gridN m_gridM m_gridX m_gridY m_gridDeep m_ownX m_ownY m_ownDeep m_joinMany m_acts), (aI (ma 15) (cy 1) 12 r_wallAx), (aI (ma 16) (cy 1) 12 r_wallAy), (aI (ma 17) (cy 1) 12 r_wallBx), (aI (ma 18) (cy 1) 12 r_wallBy), (aI (ma 19) (cy 3) 12 r_isPit)] sz) [(o_m ma m_ax m_ay m_bx m_by m_cx m_cy m_dx m_dy m_floor m_hand m_deep m_eyeX m_eyeY m_goalX m_goalY m_meetX m_meetY m_meetBy m_meetAlong m_taped m_at m_size m_ended m_bad m_badPlace m_fault m_faultPlace m_namePlace m_codes m_figures m_open m_last m_now m_from m_piled m_hasGrid m_gridN m_gridM m_gridX m_gridY m_gridDeep m_ownX m_ownY m_ownDeep m_joinMany m_acts), (aI (ma 15) (cy 1) 12 r_wallAx), (aI (ma 16) (cy 1) 12 r_wallAy), (aI (ma 17) (cy 1) 12 r_wallBx), (aI (ma 18) (cy 1) 12 r_wallBy), (aI (ma 19) (cy 3) 12 r_isPit)]) (va_A [(o_m ma m_ax m_ay m_bx m_by m_cx m_cy m_dx m_dy m_floor m_hand m_deep m_eyeX m_eyeY m_goalX m_goalY m_meetX m_meetY m_meetBy m_meetAlong m_taped m_at m_size m_ended m_bad m_badPlace m_fault m_faultPlace m_namePlace m_codes m_figures m_open m_last m_now m_from m_piled m_hasGrid m_gridN m_gridM m_gridX m_gridY m_gridDeep m_ownX m_ownY m_ownDeep m_joinMany m_acts), (aI (ma 15) (cy 1) 12 r_wallAx), (aI (ma 16) (cy 1) 12 r_wallAy), (aI (ma 17) (cy 1) 12 r_wallBx), (aI (ma 18) (cy 1) 12 r_wallBy), (aI (ma 19) (cy 3) 12 r_isPit)] sz)) 0 0 (va_A [(o_m ma m_ax m_ay m_bx m_by m_cx m_cy m_dx m_dy m_floor m_hand m_deep m_eyeX m_eyeY m_goalX m_goalY m_meetX m_meetY m_meetBy m_meetAlong m_taped m_at m_size m_ended m_bad m_badPlace m_fault m_faultPlace m_namePlace m_codes m_figures m_open m_last m_now m_from m_piled m_hasGrid m_gridN m_gridM m_gridX m_gridY m_gridDeep m_ownX m_ownY m_ownDeep m_joinMany m_acts), (aI (ma 15) (cy 1) 12 r_wallAx), (aI (ma 16) (cy 1) 12 r_wallAy), (aI (ma 17) (cy 1) 12 r_wallBx), (aI (ma 18) (cy 1) 12 r_wallBy), (aI (ma 19) (cy 3) 12 r_isPit)] sz) := by
  refine gp_met (Qc := fun A => va_Ql (fun (r : Int64) (u : Unit) => (gp_b r 400)) (fun u => gp_E D A [(o_m ma m_ax m_ay m_bx m_by m_cx m_cy m_dx m_dy m_floor m_hand m_deep m_eyeX m_eyeY m_goalX m_goalY m_meetX m_meetY m_meetBy m_meetAlong m_taped m_at m_size m_ended m_bad m_badPlace m_fault m_faultPlace m_namePlace m_codes m_figures m_open m_last m_now m_from m_piled m_hasGrid m_gridN m_gridM m_gridX m_gridY m_gridDeep m_ownX m_ownY m_ownDeep m_joinMany m_acts), (aI (ma 15) (cy 1) 12 r_wallAx), (aI (ma 16) (cy 1) 12 r_wallAy), (aI (ma 17) (cy 1) 12 r_wallBx), (aI (ma 18) (cy 1) 12 r_wallBy), (aI (ma 19) (cy 3) 12 r_isPit)]) A) (cc := cX12_wallY) (maxL := 3) (ret := (some .long)) (by decide) rfl (Nat.le_of_ble_eq_true rfl) ?_
  intro p e s m below meth c A ls H hx hb hml hr hlocks hts hown hin hK hN hS hP hD hA hl
  have hown : s.vm.findClass RX12 = some m.cls := hown
  have hl : lv_has ls 3 [(0, .ref (ma 200)), (1, .int w), (2, .int se)] := hl
  have hiX12 : ∀ w ∈ u_ws RX12 TX12 104, w ∈ v_sX12_wallY := fun _ h => List.mem_cons_of_mem _ (List.mem_append_right _ h)
  refine lv_ldc2 (v := 2) hx hb hown (hts (.constantLong RX12 108 2) (List.mem_of_getElem? (i := 1) rfl)) dX12_wallY_0 ?_
  have cut22 : ∀ (wy : Int32) (H : Heap) (locs : List Loc) (ls : Array Slot), (hc : sp_in wy (-100) 100) → va_P D vwCl [(o_m ma m_ax m_ay m_bx m_by m_cx m_cy m_dx m_dy m_floor m_hand m_deep m_eyeX m_eyeY m_goalX m_goalY m_meetX m_meetY m_meetBy m_meetAlong m_taped m_at m_size m_ended m_bad m_badPlace m_fault m_faultPlace m_namePlace m_codes m_figures m_open m_last m_now m_from m_piled m_hasGrid m_gridN m_gridM m_gridX m_gridY m_gridDeep m_ownX m_ownY m_ownDeep m_joinMany m_acts), (aI (ma 15) (cy 1) 12 r_wallAx), (aI (ma 16) (cy 1) 12 r_wallAy), (aI (ma 17) (cy 1) 12 r_wallBx), (aI (ma 18) (cy 1) 12 r_wallBy), (aI (ma 19) (cy 3) 12 r_isPit)] H → va_D A [(o_m ma m_ax m_ay m_bx m_by m_cx m_cy m_dx m_dy m_floor m_hand m_deep m_eyeX m_eyeY m_goalX m_goalY m_meetX m_meetY m_meetBy m_meetAlong m_taped m_at m_size m_ended m_bad m_badPlace m_fault m_faultPlace m_namePlace m_codes m_figures m_open m_last m_now m_from m_piled m_hasGrid m_gridN m_gridM m_gridX m_gridY m_gridDeep m_ownX m_ownY m_ownDeep m_joinMany m_acts), (aI (ma 15) (cy 1) 12 r_wallAx), (aI (ma 16) (cy 1) 12 r_wallAy), (aI (ma 17) (cy 1) 12 r_wallBx), (aI (ma 18) (cy 1) 12 r_wallBy), (aI (ma 19) (cy 3) 12 r_isPit)] → va_S A s.heap H locs → lv_has ls 3 [(0, .ref (ma 200)), (1, .int w), (2, .int se)] → W p l e (headSpec v_sX12_wallY (({ frames := 0, cells := 0, slots := 0, locals := 0 } : Room))).room s m [.ref (ma 200), .int w, .int se].toArray below meth c H locs 0 0 (MQ below (va_Ql (fun (r : Int64) (u : Unit) => (gp_b r 400)) (fun u => gp_E D A [(o_m ma m_ax m_ay m_bx m_by m_cx m_cy m_dx m_dy m_floor m_hand m_deep m_eyeX m_eyeY m_goalX m_goalY m_meetX m_meetY m_meetBy m_meetAlong m_taped m_at m_size m_ended m_bad m_badPlace m_fault m_faultPlace m_namePlace m_codes m_figures m_open m_last m_now m_from m_piled m_hasGrid m_gridN m_gridM m_gridX m_gridY m_gridDeep m_ownX m_ownY m_ownDeep m_joinMany m_acts), (aI (ma 15) (cy 1) 12 r_wallAx), (aI (ma 16) (cy 1) 12 r_wallAy), (aI (ma 17) (cy 1) 12 r_wallBx), (aI (ma 18) (cy 1) 12 r_wallBy), (aI (ma 19) (cy 3) 12 r_isPit)]) A) [.ref (ma 200), .int w, .int se].toArray s 0 0 A) (F0 m 22 ls [.int wy, .long 2]) := by
    intro wy H locs ls hc hP hD hS hl
    have cut39 : ∀ (dn : Int32) (wz : Int32) (H : Heap) (locs : List Loc) (ls : Array Slot), (hc1 : sp_in dn 0 60) → (hc2 : sp_in wz (-100) 100) → va_P D vwCl [(o_m ma m_ax m_ay m_bx m_by m_cx m_cy m_dx m_dy m_floor m_hand m_deep m_eyeX m_eyeY m_goalX m_goalY m_meetX m_meetY m_meetBy m_meetAlong m_taped m_at m_size m_ended m_bad m_badPlace m_fault m_faultPlace m_namePlace m_codes m_figures m_open m_last m_now m_from m_piled m_hasGrid m_gridN m_gridM m_gridX m_gridY m_gridDeep m_ownX m_ownY m_ownDeep m_joinMany m_acts), (aI (ma 15) (cy 1) 12 r_wallAx), (aI (ma 16) (cy 1) 12 r_wallAy), (aI (ma 17) (cy 1) 12 r_wallBx), (aI (ma 18) (cy 1) 12 r_wallBy), (aI (ma 19) (cy 3) 12 r_isPit)] H → va_D A [(o_m ma m_ax m_ay m_bx m_by m_cx m_cy m_dx m_dy m_floor m_hand m_deep m_eyeX m_eyeY m_goalX m_goalY m_meetX m_meetY m_meetBy m_meetAlong m_taped m_at m_size m_ended m_bad m_badPlace m_fault m_faultPlace m_namePlace m_codes m_figures m_open m_last m_now m_from m_piled m_hasGrid m_gridN m_gridM m_gridX m_gridY m_gridDeep m_ownX m_ownY m_ownDeep m_joinMany m_acts), (aI (ma 15) (cy 1) 12 r_wallAx), (aI (ma 16) (cy 1) 12 r_wallAy), (aI (ma 17) (cy 1) 12 r_wallBx), (aI (ma 18) (cy 1) 12 r_wallBy), (aI (ma 19) (cy 3) 12 r_isPit)] → va_S A s.heap H locs → lv_has ls 3 [(0, .ref (ma 200)), (1, .int w), (2, .int se)] → W p l e (headSpec v_sX12_wallY (({ frames := 0, cells := 0, slots := 0, locals := 0 } : Room))).room s m [.ref (ma 200), .int w, .int se].toArray below meth c H locs 0 0 (MQ below (va_Ql (fun (r : Int64) (u : Unit) => (gp_b r 400)) (fun u => gp_E D A [(o_m ma m_ax m_ay m_bx m_by m_cx m_cy m_dx m_dy m_floor m_hand m_deep m_eyeX m_eyeY m_goalX m_goalY m_meetX m_meetY m_meetBy m_meetAlong m_taped m_at m_size m_ended m_bad m_badPlace m_fault m_faultPlace m_namePlace m_codes m_figures m_open m_last m_now m_from m_piled m_hasGrid m_gridN m_gridM m_gridX m_gridY m_gridDeep m_ownX m_ownY m_ownDeep m_joinMany m_acts), (aI (ma 15) (cy 1) 12 r_wallAx), (aI (ma 16) (cy 1) 12 r_wallAy), (aI (ma 17) (cy 1) 12 r_wallBx), (aI (ma 18) (cy 1) 12 r_wallBy), (aI (ma 19) (cy 3) 12 r_isPit)]) A) [.ref (ma 200), .int w, .int se].toArray s 0 0 A) (F0 m 39 ls [.int dn, .int wz, .long 2]) := by
      intro dn wz H locs ls hc1 hc2 hP hD hS hl
      refine lv_isub hx hb dX12_wallY_39 ?_
      refine lv_i2l (v := (Int32.toInt64 (wz - dn))) hx hb dX12_wallY_40 rfl ?_
      refine gp_flP (fun z => gp_b z 200) (gp_bI (lf_sX12_wallY_1 dn wz hc1 hc2) (by decide) (by decide)) (fun y_1 g_2 => ?_)
      refine lv_lmul hx hb dX12_wallY_41 ?_
      refine gp_flP (fun z => gp_b z 400) (gp_bM (show gp_b (2) 2 by decide) g_2 (by decide) (by decide)) (fun y_3 g_4 => ?_)
      exact W.lret (v := y_3) hx hb hr (fun t ht hW => ⟨⟨y_3, (), rfl, g_4, gp_end ht hP hD⟩, hS.F ht⟩) hS.2.2 dX12_wallY_42
    refine lv_aload_n hx hb dX12_wallY_22 rfl (lv_at hl 0 rfl) ?_
    refine va_get (D := D) (ci := 12) (v := .ref (ma 19)) (C := RX12) (T := TX12) (N := 104) hx hb hts hiX12 hown hK hP 0 rfl rfl 19 (by decide) (hts (.fieldLink RX12 75 "GhostPaneModel" "isPit" "[Z") (List.mem_of_getElem? (i := 2) rfl)) (fun _ h9 => h9) rfl dX12_wallY_23 ?_
    refine lv_iload_n hx hb dX12_wallY_26 rfl (lv_at hl 1 rfl) ?_
    refine va_zald hx hb hK hP 5 3 rfl rfl (gp_in (hi := 11) q0 (by decide)) dX12_wallY_27 ?_
    refine gp_fi (fun y_5 => ?_)
    refine lv_if_eq (tgt := 38) hx hb dX12_wallY_28 (by decide) (fun c_6 => ?_) (fun c_6 => ?_)
    · refine lv_iconst (v := 0) hx hb dX12_wallY_38 (by decide) ?_
      exact cut39 0 wy H locs ls (show sp_in 0 0 60 by decide) hc hP hD hS (lv_sub hl [0, 1, 2] rfl)
    · refine lv_aload_n hx hb dX12_wallY_31 rfl (lv_at hl 0 rfl) ?_
      refine va_get (D := D) (ci := 12) (v := .int m_deep) (C := RX12) (T := TX12) (N := 104) hx hb hts hiX12 hown hK hP 0 rfl rfl 10 (by decide) (hts (.fieldLink RX12 46 "GhostPaneModel" "deep" "I") (List.mem_of_getElem? (i := 3) rfl)) (fun _ h9 => h9) rfl dX12_wallY_32 ?_
      refine lv_goto (tgt := 39) hx hb dX12_wallY_35 (by decide) ?_
      exact cut39 m_deep wy H locs ls f_m_deep hc hP hD hS (lv_sub hl [0, 1, 2] rfl)
  refine lv_iload_n hx hb dX12_wallY_3 rfl (lv_at hl 2 rfl) ?_
  refine lv_if_eq (tgt := 16) hx hb dX12_wallY_4 (by decide) (fun c_7 => ?_) (fun c_7 => ?_)
  · refine lv_aload_n hx hb dX12_wallY_16 rfl (lv_at hl 0 rfl) ?_
    refine va_get (D := D) (ci := 12) (v := .ref (ma 16)) (C := RX12) (T := TX12) (N := 104) hx hb hts hiX12 hown hK hP 0 rfl rfl 16 (by decide) (hts (.fieldLink RX12 66 "GhostPaneModel" "wallAy" "[I") (List.mem_of_getElem? (i := 4) rfl)) (fun _ h9 => h9) rfl dX12_wallY_17 ?_
    refine lv_iload_n hx hb dX12_wallY_20 rfl (lv_at hl 1 rfl) ?_
    refine va_iald hx hb hK hP 2 1 rfl rfl (gp_in (hi := 11) q0 (by decide)) dX12_wallY_21 ?_
    refine gp_fiP (fun z => sp_in z (-100) 100) (f_r_wallAy w.toNatClampNeg) (fun y_8 g_9 => ?_)
    exact cut22 y_8 H [] ls g_9 hP hD hS (lv_sub hl [0, 1, 2] rfl)
  · refine lv_aload_n hx hb dX12_wallY_7 rfl (lv_at hl 0 rfl) ?_
    refine va_get (D := D) (ci := 12) (v := .ref (ma 18)) (C := RX12) (T := TX12) (N := 104) hx hb hts hiX12 hown hK hP 0 rfl rfl 18 (by decide) (hts (.fieldLink RX12 72 "GhostPaneModel" "wallBy" "[I") (List.mem_of_getElem? (i := 5) rfl)) (fun _ h9 => h9) rfl dX12_wallY_8 ?_
    refine lv_iload_n hx hb dX12_wallY_11 rfl (lv_at hl 1 rfl) ?_
    refine va_iald hx hb hK hP 4 1 rfl rfl (gp_in (hi := 11) q0 (by decide)) dX12_wallY_12 ?_
    refine gp_fiP (fun z => sp_in z (-100) 100) (f_r_wallBy w.toNatClampNeg) (fun y_10 g_11 => ?_)
    refine lv_goto (tgt := 22) hx hb dX12_wallY_13 (by decide) ?_
    exact cut22 y_10 H [] ls g_11 hP hD hS (lv_sub hl [0, 1, 2] rfl)

def v_sX12_stops : List Cond := .code yX12_stops cX12_stops 33 (some .boolean) :: (([.constantLong RX12 108 2, .fieldLink RX12 63 "GhostPaneModel" "wallAx" "[I", .code yX12_wallY cX12_wallY 3 (some .long), .fieldLink RX12 75 "GhostPaneModel" "isPit" "[Z", .fieldLink RX12 46 "GhostPaneModel" "deep" "I", .fieldLink RX12 66 "GhostPaneModel" "wallAy" "[I", .fieldLink RX12 72 "GhostPaneModel" "wallBy" "[I", .methodLink RX12 149 yX12_wallY, .instanceMethod yX12_wallY, .selects RX12 yX12_wallY yX12_wallY, .initialized RX12, .fieldLink RX12 69 "GhostPaneModel" "wallBx" "[I", .fieldLink RX12 143 "GhostPaneModel" "meetX" "J", .fieldLink RX12 140 "GhostPaneModel" "meetBy" "J", .fieldLink RX12 146 "GhostPaneModel" "meetY" "J", .code yX12_sign cX12_sign 2 (some .int), .methodLink RX12 153 yX12_sign, .static yX12_sign, .code yX12_less cX12_less 4 (some .long), .methodLink RX12 157 yX12_less, .static yX12_less, .code yX12_more cX12_more 4 (some .long), .methodLink RX12 160 yX12_more, .static yX12_more] : List Cond) ++ wsX120)
set_option maxRecDepth 20000 in
theorem gg_sX12_stops_sX12_wallY : GoodIn v_sX12_stops v_sX12_wallY := goodIn_ca (goodIn_r (.code yX12_wallY cX12_wallY 3 (some .long) :: [.constantLong RX12 108 2, .fieldLink RX12 75 "GhostPaneModel" "isPit" "[Z", .fieldLink RX12 46 "GhostPaneModel" "deep" "I", .fieldLink RX12 66 "GhostPaneModel" "wallAy" "[I", .fieldLink RX12 72 "GhostPaneModel" "wallBy" "[I"]) [3, 1, 4, 5, 6, 7] (by first | rfl | decide +kernel) (by decide +kernel)) (goodIn_sub (fun _ h => List.mem_cons_of_mem _ (List.mem_append_right _ h)) gwX12)
set_option maxRecDepth 20000 in
theorem g_sX12_stops_sX12_wallY_0 : GoodIn v_sX12_stops (wsV RX12 149 RX12 yX12_wallY v_sX12_wallY) := goodIn_app (goodIn_r [.methodLink RX12 149 yX12_wallY, .instanceMethod yX12_wallY, .selects RX12 yX12_wallY yX12_wallY, .initialized RX12] [8, 9, 10, 11] rfl (by decide +kernel)) gg_sX12_stops_sX12_wallY
set_option maxRecDepth 20000 in
theorem gg_sX12_stops_sX12_sign : GoodIn v_sX12_stops v_sX12_sign := goodIn_r (.code yX12_sign cX12_sign 2 (some .int) :: []) [16] (by first | rfl | decide +kernel) (by decide +kernel)
set_option maxRecDepth 20000 in
theorem g_sX12_stops_sX12_sign_1 : GoodIn v_sX12_stops (va_wsS RX12 153 yX12_sign v_sX12_sign) := goodIn_app (goodIn_r [.methodLink RX12 153 yX12_sign, .static yX12_sign, .initialized RX12] [17, 18, 11] rfl (by decide +kernel)) gg_sX12_stops_sX12_sign
set_option maxRecDepth 20000 in
theorem gg_sX12_stops_sX12_less : GoodIn v_sX12_stops v_sX12_less := goodIn_r (.code yX12_less cX12_less 4 (some .long) :: []) [19] (by first | rfl | decide +kernel) (by decide +kernel)
set_option maxRecDepth 20000 in
theorem g_sX12_stops_sX12_less_2 : GoodIn v_sX12_stops (va_wsS RX12 157 yX12_less v_sX12_less) := goodIn_app (goodIn_r [.methodLink RX12 157 yX12_less, .static yX12_less, .initialized RX12] [20, 21, 11] rfl (by decide +kernel)) gg_sX12_stops_sX12_less
set_option maxRecDepth 20000 in
theorem gg_sX12_stops_sX12_more : GoodIn v_sX12_stops v_sX12_more := goodIn_r (.code yX12_more cX12_more 4 (some .long) :: []) [22] (by first | rfl | decide +kernel) (by decide +kernel)
set_option maxRecDepth 20000 in
theorem g_sX12_stops_sX12_more_3 : GoodIn v_sX12_stops (va_wsS RX12 160 yX12_more v_sX12_more) := goodIn_app (goodIn_r [.methodLink RX12 160 yX12_more, .static yX12_more, .initialized RX12] [23, 24, 11] rfl (by decide +kernel)) gg_sX12_stops_sX12_more
set_option maxHeartbeats 4000000 in
set_option maxRecDepth 100000 in
theorem sX12_stops (l : Launch) (D : va_G) (cy : Nat → ClassId) (sz : Nat) (ma : Nat → Nat) (m_ax : Int32) (m_ay : Int32) (m_bx : Int32) (m_by : Int32) (m_cx : Int32) (m_cy : Int32) (m_dx : Int32) (m_dy : Int32) (m_floor : Int32) (m_hand : Int32) (m_deep : Int32) (m_eyeX : Int64) (m_eyeY : Int64) (m_goalX : Int64) (m_goalY : Int64) (m_meetX : Int64) (m_meetY : Int64) (m_meetBy : Int64) (m_meetAlong : Int64) (m_taped : Int32) (m_at : Int32) (m_size : Int32) (m_ended : Int32) (m_bad : Int32) (m_badPlace : Int32) (m_fault : Int32) (m_faultPlace : Int32) (m_namePlace : Int32) (m_codes : Int32) (m_figures : Int32) (m_open : Int32) (m_last : Int32) (m_now : Int32) (m_from : Int32) (m_piled : Int32) (m_hasGrid : Int32) (m_gridN : Int32) (m_gridM : Int32) (m_gridX : Int32) (m_gridY : Int32) (m_gridDeep : Int32) (m_ownX : Int32) (m_ownY : Int32) (m_ownDeep : Int32) (m_joinMany : Int32) (m_acts : Int32) (r_wallAx : Nat → Int32) (r_wallAy : Nat → Int32) (r_wallBx : Nat → Int32) (r_wallBy : Nat → Int32) (r_isPit : Nat → Int32) (w : Int32) (x : Int64) (y : Int64) (f_m_ax : sp_in m_ax (-100) 100) (f_m_ay : sp_in m_ay (-100) 100) (f_m_bx : sp_in m_bx (-100) 100) (f_m_by : sp_in m_by (-100) 100) (f_m_cx : sp_in m_cx (-100) 100) (f_m_cy : sp_in m_cy (-100) 100) (f_m_dx : sp_in m_dx (-100) 100) (f_m_dy : sp_in m_dy (-100) 100) (f_m_floor : sp_in m_floor (-100) 100) (f_m_hand : sp_in m_hand 0 50) (f_m_deep : sp_in m_deep 0 60) (f_m_taped : sp_in m_taped 0 600) (f_m_at : sp_in m_at 0 600) (f_m_size : sp_in m_size 0 600) (f_m_codes : sp_in m_codes 0 399) (f_m_figures : sp_in m_figures 0 12) (f_m_open : sp_in m_open 0 6) (f_m_last : sp_in m_last 0 240) (f_m_joinMany : sp_in m_joinMany 0 1000) (f_m_acts : sp_in m_acts 0 100) (f_r_wallAx : ∀ i, sp_in (r_wallAx i) (-100) 100) (f_r_wallAy : ∀ i, sp_in (r_wallAy i) (-100) 100) (f_r_wallBx : ∀ i, sp_in (r_wallBx i) (-100) 100) (f_r_wallBy : ∀ i, sp_in (r_wallBy i) (-100) 100) (q0 : sp_in w 0 11) : Met l yX12_stops v_sX12_stops ({ frames := 1, cells := 0, slots := 0, locals := 23 } : Room) (va_Pc [.ref (ma 200), .int w, .long x, .long y] (gp_B D cy sz [(o_m ma m_ax m_ay m_bx m_by m_cx m_cy m_dx m_dy m_floor m_hand m_deep m_eyeX m_eyeY m_goalX m_goalY m_meetX m_meetY m_meetBy m_meetAlong m_taped m_at m_size m_ended m_bad m_badPlace m_fault m_faultPlace m_namePlace m_codes m_figures m_open m_last m_now m_from m_piled m_hasGrid m_gridN m_gridM m_gridX m_gridY m_gridDeep m_ownX m_ownY m_ownDeep m_joinMany m_acts), (aI (ma 15) (cy 1) 12 r_wallAx), (aI (ma 16) (cy 1) 12 r_wallAy), (aI (ma 17) (cy 1) 12 r_wallBx), (aI (ma 18) (cy 1) 12 r_wallBy), (aI (ma 19) (cy 3) 12 r_isPit)])) (va_Qi (fun (r : Int32) (u : Unit) => (r = 0 ∨ r = 1)) (fun u => gp_E D (va_A [(o_m ma m_ax m_ay m_bx m_by m_cx m_cy m_dx m_dy m_floor m_hand m_deep m_eyeX m_eyeY m_goalX m_goalY m_meetX m_meetY m_meetBy m_meetAlong m_taped m_at m_size m_ended m_bad m_badPlace m_fault m_faultPlace m_namePlace m_codes m_figures m_open m_last m_now m_from m_piled m_hasGrid m_gridN m_gridM m_gridX m_gridY m_gridDeep m_ownX m_ownY m_ownDeep m_joinMany m_acts), (aI (ma 15) (cy 1) 12 r_wallAx), (aI (ma 16) (cy 1) 12 r_wallAy), (aI (ma 17) (cy 1) 12 r_wallBx), (aI (ma 18) (cy 1) 12 r_wallBy), (aI (ma 19) (cy 3) 12 r_isPit)] sz) [(o_m ma m_ax m_ay m_bx m_by m_cx m_cy m_dx m_dy m_floor m_hand m_deep m_eyeX m_eyeY m_goalX m_goalY m_meetX m_meetY m_meetBy m_meetAlong m_taped m_at m_size m_ended m_bad m_badPlace m_fault m_faultPlace m_namePlace m_codes m_figures m_open m_last m_now m_from m_piled m_hasGrid m_gridN m_gridM m_gridX m_gridY m_gridDeep m_ownX m_ownY m_ownDeep m_joinMany m_acts), (aI (ma 15) (cy 1) 12 r_wallAx), (aI (ma 16) (cy 1) 12 r_wallAy), (aI (ma 17) (cy 1) 12 r_wallBx), (aI (ma 18) (cy 1) 12 r_wallBy), (aI (ma 19) (cy 3) 12 r_isPit)]) (va_A [(o_m ma m_ax m_ay m_bx m_by m_cx m_cy m_dx m_dy m_floor m_hand m_deep m_eyeX m_eyeY m_goalX m_goalY m_meetX m_meetY m_meetBy m_meetAlong m_taped m_at m_size m_ended m_bad m_badPlace m_fault m_faultPlace m_namePlace m_codes m_figures m_open m_last m_now m_from m_piled m_hasGrid m_gridN m_gridM m_gridX m_gridY m_gridDeep m_ownX m_ownY m_ownDeep m_joinMany m_acts), (aI (ma 15) (cy 1) 12 r_wallAx), (aI (ma 16) (cy 1) 12 r_wallAy), (aI (ma 17) (cy 1) 12 r_wallBx), (aI (ma 18) (cy 1) 12 r_wallBy), (aI (ma 19) (cy 3) 12 r_isPit)] sz)) 0 0 (va_A [(o_m ma m_ax m_ay m_bx m_by m_cx m_cy m_dx m_dy m_floor m_hand m_deep m_eyeX m_eyeY m_goalX m_goalY m_meetX m_meetY m_meetBy m_meetAlong m_taped m_at m_size m_ended m_bad m_badPlace m_fault m_faultPlace m_namePlace m_codes m_figures m_open m_last m_now m_from m_piled m_hasGrid m_gridN m_gridM m_gridX m_gridY m_gridDeep m_ownX m_ownY m_ownDeep m_joinMany m_acts), (aI (ma 15) (cy 1) 12 r_wallAx), (aI (ma 16) (cy 1) 12 r_wallAy), (aI (ma 17) (cy 1) 12 r_wallBx), (aI (ma 18) (cy 1) 12 r_wallBy), (aI (ma 19) (cy 3) 12 r_isPit)] sz) := by
  refine gp_met (Qc := fun A => va_Qi (fun (r : Int32) (u : Unit) => (r = 0 ∨ r = 1)) (fun u => gp_E D A [(o_m ma m_ax m_ay m_bx m_by m_cx m_cy m_dx m_dy m_floor m_hand m_deep m_eyeX m_eyeY m_goalX m_goalY m_meetX m_meetY m_meetBy m_meetAlong m_taped m_at m_size m_ended m_bad m_badPlace m_fault m_faultPlace m_namePlace m_codes m_figures m_open m_last m_now m_from m_piled m_hasGrid m_gridN m_gridM m_gridX m_gridY m_gridDeep m_ownX m_ownY m_ownDeep m_joinMany m_acts), (aI (ma 15) (cy 1) 12 r_wallAx), (aI (ma 16) (cy 1) 12 r_wallAy), (aI (ma 17) (cy 1) 12 r_wallBx), (aI (ma 18) (cy 1) 12 r_wallBy), (aI (ma 19) (cy 3) 12 r_isPit)]) A) (cc := cX12_stops) (maxL := 33) (ret := (some .boolean)) (by decide) rfl (Nat.le_of_ble_eq_true rfl) ?_
  intro p e s m below meth c A ls H hx hb hml hr hlocks hts hown hin hK hN hS hP hD hA hl
  have hown : s.vm.findClass RX12 = some m.cls := hown
  have hl : lv_has ls 33 [(0, .ref (ma 200)), (1, .int w), (2, .long x), (4, .long y)] := hl
  have hiX12 : ∀ w ∈ u_ws RX12 TX12 104, w ∈ v_sX12_stops := fun _ h => List.mem_cons_of_mem _ (List.mem_append_right _ h)
  refine lv_ldc2 (v := 2) hx hb hown (hts (.constantLong RX12 108 2) (List.mem_of_getElem? (i := 1) rfl)) dX12_stops_0 ?_
  refine lv_aload_n hx hb dX12_stops_3 rfl (lv_at hl 0 rfl) ?_
  refine va_get (D := D) (ci := 12) (v := .ref (ma 15)) (C := RX12) (T := TX12) (N := 104) hx hb hts hiX12 hown hK hP 0 rfl rfl 15 (by decide) (hts (.fieldLink RX12 63 "GhostPaneModel" "wallAx" "[I") (List.mem_of_getElem? (i := 2) rfl)) (fun _ h9 => h9) rfl dX12_stops_4 ?_
  refine lv_iload_n hx hb dX12_stops_7 rfl (lv_at hl 1 rfl) ?_
  refine va_iald hx hb hK hP 1 1 rfl rfl (gp_in (hi := 11) q0 (by decide)) dX12_stops_8 ?_
  refine gp_fiP (fun z => sp_in z (-100) 100) (f_r_wallAx w.toNatClampNeg) (fun y_1 g_2 => ?_)
  refine lv_i2l (v := (Int32.toInt64 y_1)) hx hb dX12_stops_9 rfl ?_
  refine gp_fl (fun y_3 => ?_)
  refine lv_lmul hx hb dX12_stops_10 ?_
  refine gp_fl (fun y_4 => ?_)
  refine lv_lstore (lv' := [(6, .long y_4), (0, .ref (ma 200)), (1, .int w), (2, .long x), (4, .long y)]) hx hb dX12_stops_11 hl (by decide) rfl (fun ls hl => ?_)
  refine lv_aload_n hx hb dX12_stops_13 rfl (lv_at hl 1 rfl) ?_
  refine lv_iload_n hx hb dX12_stops_14 rfl (lv_at hl 2 rfl) ?_
  refine lv_iconst (v := 0) hx hb dX12_stops_15 (by decide) ?_
  have hPc := hP.sub (ws' := [(o_m ma m_ax m_ay m_bx m_by m_cx m_cy m_dx m_dy m_floor m_hand m_deep m_eyeX m_eyeY m_goalX m_goalY m_meetX m_meetY m_meetBy m_meetAlong m_taped m_at m_size m_ended m_bad m_badPlace m_fault m_faultPlace m_namePlace m_codes m_figures m_open m_last m_now m_from m_piled m_hasGrid m_gridN m_gridM m_gridX m_gridY m_gridDeep m_ownX m_ownY m_ownDeep m_joinMany m_acts), (aI (ma 15) (cy 1) 12 r_wallAx), (aI (ma 16) (cy 1) 12 r_wallAy), (aI (ma 17) (cy 1) 12 r_wallBx), (aI (ma 18) (cy 1) 12 r_wallBy), (aI (ma 19) (cy 3) 12 r_isPit)]) [0, 1, 2, 3, 4, 5] rfl
  have hDc := hD.sub (ws' := [(o_m ma m_ax m_ay m_bx m_by m_cx m_cy m_dx m_dy m_floor m_hand m_deep m_eyeX m_eyeY m_goalX m_goalY m_meetX m_meetY m_meetBy m_meetAlong m_taped m_at m_size m_ended m_bad m_badPlace m_fault m_faultPlace m_namePlace m_codes m_figures m_open m_last m_now m_from m_piled m_hasGrid m_gridN m_gridM m_gridX m_gridY m_gridDeep m_ownX m_ownY m_ownDeep m_joinMany m_acts), (aI (ma 15) (cy 1) 12 r_wallAx), (aI (ma 16) (cy 1) 12 r_wallAy), (aI (ma 17) (cy 1) 12 r_wallBx), (aI (ma 18) (cy 1) 12 r_wallBy), (aI (ma 19) (cy 3) 12 r_isPit)]) [0, 1, 2, 3, 4, 5] (by decide) rfl
  have hFc := va_free (wc := [(o_m ma m_ax m_ay m_bx m_by m_cx m_cy m_dx m_dy m_floor m_hand m_deep m_eyeX m_eyeY m_goalX m_goalY m_meetX m_meetY m_meetBy m_meetAlong m_taped m_at m_size m_ended m_bad m_badPlace m_fault m_faultPlace m_namePlace m_codes m_figures m_open m_last m_now m_from m_piled m_hasGrid m_gridN m_gridM m_gridX m_gridY m_gridDeep m_ownX m_ownY m_ownDeep m_joinMany m_acts), (aI (ma 15) (cy 1) 12 r_wallAx), (aI (ma 16) (cy 1) 12 r_wallAy), (aI (ma 17) (cy 1) 12 r_wallBx), (aI (ma 18) (cy 1) 12 r_wallBy), (aI (ma 19) (cy 3) 12 r_isPit)]) hD hS hA [0, 1, 2, 3, 4, 5] rfl
  refine va_calll (va_runV (As := [.int w, .int 0]) (rest := []) ⟨hx, hb, hml, hown, hts⟩ (sX12_wallY l D cy H.size ma m_ax m_ay m_bx m_by m_cx m_cy m_dx m_dy m_floor m_hand m_deep m_eyeX m_eyeY m_goalX m_goalY m_meetX m_meetY m_meetBy m_meetAlong m_taped m_at m_size m_ended m_bad m_badPlace m_fault m_faultPlace m_namePlace m_codes m_figures m_open m_last m_now m_from m_piled m_hasGrid m_gridN m_gridM m_gridX m_gridY m_gridDeep m_ownX m_ownY m_ownDeep m_joinMany m_acts r_wallAx r_wallAy r_wallBx r_wallBy r_isPit w 0 f_m_ax f_m_ay f_m_bx f_m_by f_m_cx f_m_cy f_m_dx f_m_dy f_m_floor f_m_hand f_m_deep f_m_taped f_m_at f_m_size f_m_codes f_m_figures f_m_open f_m_last f_m_joinMany f_m_acts f_r_wallAx f_r_wallAy f_r_wallBx f_r_wallBy q0) (cwV 2 hts g_sX12_stops_sX12_wallY_0 rfl rfl rfl (by decide +kernel) ⟨Nat.le_of_ble_eq_true rfl, Nat.le_of_ble_eq_true rfl⟩) (gp_preV (RX12, TX12, 104) 12 0 hPc hDc hK hN rfl rfl) rfl rfl hl.1 rfl (lv_room (Nat.le_of_ble_eq_true rfl)) dX12_stops_16 ⟨Nat.le_of_ble_eq_true rfl, Nat.le_of_ble_eq_true rfl⟩) hS (fun q _ h => hFc q h) hFc (fun r_5 u t H locs ht hvm hw hB hz1 hk1 hS => ?_)
  have hP := gp_joinU (wc := [(o_m ma m_ax m_ay m_bx m_by m_cx m_cy m_dx m_dy m_floor m_hand m_deep m_eyeX m_eyeY m_goalX m_goalY m_meetX m_meetY m_meetBy m_meetAlong m_taped m_at m_size m_ended m_bad m_badPlace m_fault m_faultPlace m_namePlace m_codes m_figures m_open m_last m_now m_from m_piled m_hasGrid m_gridN m_gridM m_gridX m_gridY m_gridDeep m_ownX m_ownY m_ownDeep m_joinMany m_acts), (aI (ma 15) (cy 1) 12 r_wallAx), (aI (ma 16) (cy 1) 12 r_wallAy), (aI (ma 17) (cy 1) 12 r_wallBx), (aI (ma 18) (cy 1) 12 r_wallBy), (aI (ma 19) (cy 3) 12 r_isPit)]) hP hD [0, 1, 2, 3, 4, 5] rfl hk1 ht hB
  have w_6 := hw
  refine lv_lstore (lv' := [(8, .long r_5), (6, .long y_4), (0, .ref (ma 200)), (1, .int w), (2, .long x), (4, .long y)]) hx hb dX12_stops_19 hl (by decide) rfl (fun ls hl => ?_)
  refine lv_ldc2 (v := 2) hx hb hown (hts (.constantLong RX12 108 2) (List.mem_of_getElem? (i := 1) rfl)) dX12_stops_21 ?_
  refine lv_aload_n hx hb dX12_stops_24 rfl (lv_at hl 2 rfl) ?_
  refine va_get (D := D) (ci := 12) (v := .ref (ma 17)) (C := RX12) (T := TX12) (N := 104) hx hb hts hiX12 hown hK hP 0 rfl rfl 17 (by decide) (hts (.fieldLink RX12 69 "GhostPaneModel" "wallBx" "[I") (List.mem_of_getElem? (i := 12) rfl)) (fun _ h9 => h9) rfl dX12_stops_25 ?_
  refine lv_iload_n hx hb dX12_stops_28 rfl (lv_at hl 3 rfl) ?_
  refine va_iald hx hb hK hP 3 1 rfl rfl (gp_in (hi := 11) q0 (by decide)) dX12_stops_29 ?_
  refine gp_fiP (fun z => sp_in z (-100) 100) (f_r_wallBx w.toNatClampNeg) (fun y_7 g_8 => ?_)
  refine lv_i2l (v := (Int32.toInt64 y_7)) hx hb dX12_stops_30 rfl ?_
  refine gp_fl (fun y_9 => ?_)
  refine lv_lmul hx hb dX12_stops_31 ?_
  refine gp_fl (fun y_10 => ?_)
  refine lv_lstore (lv' := [(10, .long y_10), (8, .long r_5), (6, .long y_4), (0, .ref (ma 200)), (1, .int w), (2, .long x), (4, .long y)]) hx hb dX12_stops_32 hl (by decide) rfl (fun ls hl => ?_)
  refine lv_aload_n hx hb dX12_stops_34 rfl (lv_at hl 3 rfl) ?_
  refine lv_iload_n hx hb dX12_stops_35 rfl (lv_at hl 4 rfl) ?_
  refine lv_iconst (v := 1) hx hb dX12_stops_36 (by decide) ?_
  have hPc := hP.sub (ws' := [(o_m ma m_ax m_ay m_bx m_by m_cx m_cy m_dx m_dy m_floor m_hand m_deep m_eyeX m_eyeY m_goalX m_goalY m_meetX m_meetY m_meetBy m_meetAlong m_taped m_at m_size m_ended m_bad m_badPlace m_fault m_faultPlace m_namePlace m_codes m_figures m_open m_last m_now m_from m_piled m_hasGrid m_gridN m_gridM m_gridX m_gridY m_gridDeep m_ownX m_ownY m_ownDeep m_joinMany m_acts), (aI (ma 15) (cy 1) 12 r_wallAx), (aI (ma 16) (cy 1) 12 r_wallAy), (aI (ma 17) (cy 1) 12 r_wallBx), (aI (ma 18) (cy 1) 12 r_wallBy), (aI (ma 19) (cy 3) 12 r_isPit)]) [0, 1, 2, 3, 4, 5] rfl
  have hDc := hD.sub (ws' := [(o_m ma m_ax m_ay m_bx m_by m_cx m_cy m_dx m_dy m_floor m_hand m_deep m_eyeX m_eyeY m_goalX m_goalY m_meetX m_meetY m_meetBy m_meetAlong m_taped m_at m_size m_ended m_bad m_badPlace m_fault m_faultPlace m_namePlace m_codes m_figures m_open m_last m_now m_from m_piled m_hasGrid m_gridN m_gridM m_gridX m_gridY m_gridDeep m_ownX m_ownY m_ownDeep m_joinMany m_acts), (aI (ma 15) (cy 1) 12 r_wallAx), (aI (ma 16) (cy 1) 12 r_wallAy), (aI (ma 17) (cy 1) 12 r_wallBx), (aI (ma 18) (cy 1) 12 r_wallBy), (aI (ma 19) (cy 3) 12 r_isPit)]) [0, 1, 2, 3, 4, 5] (by decide) rfl
  have hFc := va_free (wc := [(o_m ma m_ax m_ay m_bx m_by m_cx m_cy m_dx m_dy m_floor m_hand m_deep m_eyeX m_eyeY m_goalX m_goalY m_meetX m_meetY m_meetBy m_meetAlong m_taped m_at m_size m_ended m_bad m_badPlace m_fault m_faultPlace m_namePlace m_codes m_figures m_open m_last m_now m_from m_piled m_hasGrid m_gridN m_gridM m_gridX m_gridY m_gridDeep m_ownX m_ownY m_ownDeep m_joinMany m_acts), (aI (ma 15) (cy 1) 12 r_wallAx), (aI (ma 16) (cy 1) 12 r_wallAy), (aI (ma 17) (cy 1) 12 r_wallBx), (aI (ma 18) (cy 1) 12 r_wallBy), (aI (ma 19) (cy 3) 12 r_isPit)]) hD hS hA [0, 1, 2, 3, 4, 5] rfl
  refine va_calll (va_runV (As := [.int w, .int 1]) (rest := []) ⟨hx, hb, hml, hown, hts⟩ (sX12_wallY l D cy H.size ma m_ax m_ay m_bx m_by m_cx m_cy m_dx m_dy m_floor m_hand m_deep m_eyeX m_eyeY m_goalX m_goalY m_meetX m_meetY m_meetBy m_meetAlong m_taped m_at m_size m_ended m_bad m_badPlace m_fault m_faultPlace m_namePlace m_codes m_figures m_open m_last m_now m_from m_piled m_hasGrid m_gridN m_gridM m_gridX m_gridY m_gridDeep m_ownX m_ownY m_ownDeep m_joinMany m_acts r_wallAx r_wallAy r_wallBx r_wallBy r_isPit w 1 f_m_ax f_m_ay f_m_bx f_m_by f_m_cx f_m_cy f_m_dx f_m_dy f_m_floor f_m_hand f_m_deep f_m_taped f_m_at f_m_size f_m_codes f_m_figures f_m_open f_m_last f_m_joinMany f_m_acts f_r_wallAx f_r_wallAy f_r_wallBx f_r_wallBy q0) (cwV 2 hts g_sX12_stops_sX12_wallY_0 rfl rfl rfl (by decide +kernel) ⟨Nat.le_of_ble_eq_true rfl, Nat.le_of_ble_eq_true rfl⟩) (gp_preV (RX12, TX12, 104) 12 0 hPc hDc hK hN rfl rfl) rfl rfl hl.1 rfl (lv_room (Nat.le_of_ble_eq_true rfl)) dX12_stops_37 ⟨Nat.le_of_ble_eq_true rfl, Nat.le_of_ble_eq_true rfl⟩) hS (fun q _ h => hFc q h) hFc (fun r_11 u t H locs ht hvm hw hB hz1 hk1 hS => ?_)
  have hP := gp_joinU (wc := [(o_m ma m_ax m_ay m_bx m_by m_cx m_cy m_dx m_dy m_floor m_hand m_deep m_eyeX m_eyeY m_goalX m_goalY m_meetX m_meetY m_meetBy m_meetAlong m_taped m_at m_size m_ended m_bad m_badPlace m_fault m_faultPlace m_namePlace m_codes m_figures m_open m_last m_now m_from m_piled m_hasGrid m_gridN m_gridM m_gridX m_gridY m_gridDeep m_ownX m_ownY m_ownDeep m_joinMany m_acts), (aI (ma 15) (cy 1) 12 r_wallAx), (aI (ma 16) (cy 1) 12 r_wallAy), (aI (ma 17) (cy 1) 12 r_wallBx), (aI (ma 18) (cy 1) 12 r_wallBy), (aI (ma 19) (cy 3) 12 r_isPit)]) hP hD [0, 1, 2, 3, 4, 5] rfl hk1 ht hB
  have w_12 := hw
  refine lv_lstore (lv' := [(12, .long r_11), (10, .long y_10), (8, .long r_5), (6, .long y_4), (0, .ref (ma 200)), (1, .int w), (2, .long x), (4, .long y)]) hx hb dX12_stops_40 hl (by decide) rfl (fun ls hl => ?_)
  refine lv_aload_n hx hb dX12_stops_42 rfl (lv_at hl 4 rfl) ?_
  refine va_get (D := D) (ci := 12) (v := .long m_meetX) (C := RX12) (T := TX12) (N := 104) hx hb hts hiX12 hown hK hP 0 rfl rfl 29 (by decide) (hts (.fieldLink RX12 143 "GhostPaneModel" "meetX" "J") (List.mem_of_getElem? (i := 13) rfl)) (fun _ h9 => h9) rfl dX12_stops_43 ?_
  refine lv_lload_n hx hb dX12_stops_46 rfl (lv_at hl 6 rfl) ?_
  refine lv_aload_n hx hb dX12_stops_47 rfl (lv_at hl 4 rfl) ?_
  refine va_get (D := D) (ci := 12) (v := .long m_meetBy) (C := RX12) (T := TX12) (N := 104) hx hb hts hiX12 hown hK hP 0 rfl rfl 31 (by decide) (hts (.fieldLink RX12 140 "GhostPaneModel" "meetBy" "J") (List.mem_of_getElem? (i := 14) rfl)) (fun _ h9 => h9) rfl dX12_stops_48 ?_
  refine lv_lmul hx hb dX12_stops_51 ?_
  refine gp_fl (fun y_13 => ?_)
  refine lv_lsub hx hb dX12_stops_52 ?_
  refine gp_fl (fun y_14 => ?_)
  refine lv_lstore (lv' := [(14, .long y_14), (12, .long r_11), (10, .long y_10), (8, .long r_5), (6, .long y_4), (0, .ref (ma 200)), (1, .int w), (2, .long x), (4, .long y)]) hx hb dX12_stops_53 hl (by decide) rfl (fun ls hl => ?_)
  refine lv_aload_n hx hb dX12_stops_55 rfl (lv_at hl 5 rfl) ?_
  refine va_get (D := D) (ci := 12) (v := .long m_meetY) (C := RX12) (T := TX12) (N := 104) hx hb hts hiX12 hown hK hP 0 rfl rfl 30 (by decide) (hts (.fieldLink RX12 146 "GhostPaneModel" "meetY" "J") (List.mem_of_getElem? (i := 15) rfl)) (fun _ h9 => h9) rfl dX12_stops_56 ?_
  refine lv_lload hx hb dX12_stops_59 (lv_at hl 8 rfl) ?_
  refine lv_aload_n hx hb dX12_stops_61 rfl (lv_at hl 5 rfl) ?_
  refine va_get (D := D) (ci := 12) (v := .long m_meetBy) (C := RX12) (T := TX12) (N := 104) hx hb hts hiX12 hown hK hP 0 rfl rfl 31 (by decide) (hts (.fieldLink RX12 140 "GhostPaneModel" "meetBy" "J") (List.mem_of_getElem? (i := 14) rfl)) (fun _ h9 => h9) rfl dX12_stops_62 ?_
  refine lv_lmul hx hb dX12_stops_65 ?_
  refine gp_fl (fun y_15 => ?_)
  refine lv_lsub hx hb dX12_stops_66 ?_
  refine gp_fl (fun y_16 => ?_)
  refine lv_lstore (lv' := [(16, .long y_16), (14, .long y_14), (12, .long r_11), (10, .long y_10), (8, .long r_5), (6, .long y_4), (0, .ref (ma 200)), (1, .int w), (2, .long x), (4, .long y)]) hx hb dX12_stops_67 hl (by decide) rfl (fun ls hl => ?_)
  refine lv_lload hx hb dX12_stops_69 (lv_at hl 1 rfl) ?_
  refine lv_lload hx hb dX12_stops_71 (lv_at hl 4 rfl) ?_
  refine lv_lload hx hb dX12_stops_73 (lv_at hl 9 rfl) ?_
  refine lv_lsub hx hb dX12_stops_75 ?_
  refine gp_fl (fun y_17 => ?_)
  refine lv_lmul hx hb dX12_stops_76 ?_
  refine gp_fl (fun y_18 => ?_)
  refine lv_lload hx hb dX12_stops_77 (lv_at hl 0 rfl) ?_
  refine lv_lload hx hb dX12_stops_79 (lv_at hl 5 rfl) ?_
  refine lv_lload_n hx hb dX12_stops_81 rfl (lv_at hl 8 rfl) ?_
  refine lv_lsub hx hb dX12_stops_82 ?_
  refine gp_fl (fun y_19 => ?_)
  refine lv_lmul hx hb dX12_stops_83 ?_
  refine gp_fl (fun y_20 => ?_)
  refine lv_lsub hx hb dX12_stops_84 ?_
  refine gp_fl (fun y_21 => ?_)
  have hPc := hP.sub (ws' := []) [] rfl
  have hDc := hD.sub (ws' := []) [] (by decide) rfl
  have hFc := va_free (wc := []) hD hS hA [] rfl
  refine va_calli (va_runS (As := [.long y_21]) (rest := []) ⟨hx, hb, hml, hown, hts⟩ (sX12_sign l D cy H.size ma y_21) (va_cwS 1 hts g_sX12_stops_sX12_sign_1 rfl rfl rfl (by decide +kernel) ⟨Nat.le_of_ble_eq_true rfl, Nat.le_of_ble_eq_true rfl⟩) (gp_preS hPc hDc hK hN) rfl rfl hl.1 rfl (lv_room (Nat.le_of_ble_eq_true rfl)) dX12_stops_85 ⟨Nat.le_of_ble_eq_true rfl, Nat.le_of_ble_eq_true rfl⟩) hS (fun q _ h => hFc q h) hFc (fun r_22 u t H locs ht hvm hw hB hz1 hk1 hS => ?_)
  have hP := gp_joinU (wc := []) hP hD [] rfl hk1 ht hB
  refine lv_istore (lv' := [(18, .int r_22), (16, .long y_16), (14, .long y_14), (12, .long r_11), (10, .long y_10), (8, .long r_5), (6, .long y_4), (0, .ref (ma 200)), (1, .int w), (2, .long x), (4, .long y)]) hx hb dX12_stops_88 hl (by decide) rfl (fun ls hl => ?_)
  refine lv_lload hx hb dX12_stops_90 (lv_at hl 2 rfl) ?_
  refine lv_lload hx hb dX12_stops_92 (lv_at hl 3 rfl) ?_
  refine lv_lload hx hb dX12_stops_94 (lv_at hl 10 rfl) ?_
  refine lv_lsub hx hb dX12_stops_96 ?_
  refine gp_fl (fun y_23 => ?_)
  refine lv_lmul hx hb dX12_stops_97 ?_
  refine gp_fl (fun y_24 => ?_)
  refine lv_lload hx hb dX12_stops_98 (lv_at hl 1 rfl) ?_
  refine lv_lload hx hb dX12_stops_100 (lv_at hl 4 rfl) ?_
  refine lv_lload_n hx hb dX12_stops_102 rfl (lv_at hl 9 rfl) ?_
  refine lv_lsub hx hb dX12_stops_103 ?_
  refine gp_fl (fun y_25 => ?_)
  refine lv_lmul hx hb dX12_stops_104 ?_
  refine gp_fl (fun y_26 => ?_)
  refine lv_lsub hx hb dX12_stops_105 ?_
  refine gp_fl (fun y_27 => ?_)
  have hPc := hP.sub (ws' := []) [] rfl
  have hDc := hD.sub (ws' := []) [] (by decide) rfl
  have hFc := va_free (wc := []) hD hS hA [] rfl
  refine va_calli (va_runS (As := [.long y_27]) (rest := []) ⟨hx, hb, hml, hown, hts⟩ (sX12_sign l D cy H.size ma y_27) (va_cwS 1 hts g_sX12_stops_sX12_sign_1 rfl rfl rfl (by decide +kernel) ⟨Nat.le_of_ble_eq_true rfl, Nat.le_of_ble_eq_true rfl⟩) (gp_preS hPc hDc hK hN) rfl rfl hl.1 rfl (lv_room (Nat.le_of_ble_eq_true rfl)) dX12_stops_106 ⟨Nat.le_of_ble_eq_true rfl, Nat.le_of_ble_eq_true rfl⟩) hS (fun q _ h => hFc q h) hFc (fun r_28 u t H locs ht hvm hw hB hz1 hk1 hS => ?_)
  have hP := gp_joinU (wc := []) hP hD [] rfl hk1 ht hB
  refine lv_istore (lv' := [(19, .int r_28), (18, .int r_22), (16, .long y_16), (14, .long y_14), (12, .long r_11), (10, .long y_10), (8, .long r_5), (6, .long y_4), (0, .ref (ma 200)), (1, .int w), (2, .long x), (4, .long y)]) hx hb dX12_stops_109 hl (by decide) rfl (fun ls hl => ?_)
  refine lv_iload hx hb dX12_stops_111 (lv_at hl 1 rfl) ?_
  refine lv_iload hx hb dX12_stops_113 (lv_at hl 0 rfl) ?_
  refine lv_imul hx hb dX12_stops_115 ?_
  refine gp_fi (fun y_29 => ?_)
  refine lv_if_le (tgt := 121) hx hb dX12_stops_116 (by decide) (fun c_30 => ?_) (fun c_30 => ?_)
  · refine lv_lload hx hb dX12_stops_121 (lv_at hl 5 rfl) ?_
    refine lv_lload hx hb dX12_stops_123 (lv_at hl 7 rfl) ?_
    refine lv_lsub hx hb dX12_stops_125 ?_
    refine gp_fl (fun y_31 => ?_)
    refine lv_lstore (lv' := [(20, .long y_31), (19, .int r_28), (18, .int r_22), (16, .long y_16), (14, .long y_14), (12, .long r_11), (10, .long y_10), (8, .long r_5), (6, .long y_4), (0, .ref (ma 200)), (1, .int w), (2, .long x), (4, .long y)]) hx hb dX12_stops_126 hl (by decide) rfl (fun ls hl => ?_)
    refine lv_lload hx hb dX12_stops_128 (lv_at hl 5 rfl) ?_
    refine lv_lload hx hb dX12_stops_130 (lv_at hl 7 rfl) ?_
    refine lv_lsub hx hb dX12_stops_132 ?_
    refine gp_fl (fun y_32 => ?_)
    refine lv_lstore (lv' := [(22, .long y_32), (20, .long y_31), (19, .int r_28), (18, .int r_22), (16, .long y_16), (14, .long y_14), (12, .long r_11), (10, .long y_10), (8, .long r_5), (6, .long y_4), (0, .ref (ma 200)), (1, .int w), (2, .long x), (4, .long y)]) hx hb dX12_stops_133 hl (by decide) rfl (fun ls hl => ?_)
    refine lv_iload hx hb dX12_stops_135 (lv_at hl 3 rfl) ?_
    refine lv_if_ne (tgt := 145) hx hb dX12_stops_137 (by decide) (fun c_33 => ?_) (fun c_33 => ?_)
    · refine lv_lload hx hb dX12_stops_145 (lv_at hl 1 rfl) ?_
      refine lv_lload hx hb dX12_stops_147 (lv_at hl 13 rfl) ?_
      refine lv_lload hx hb dX12_stops_149 (lv_at hl 8 rfl) ?_
      refine lv_lsub hx hb dX12_stops_151 ?_
      refine gp_fl (fun y_34 => ?_)
      refine lv_lmul hx hb dX12_stops_152 ?_
      refine gp_fl (fun y_35 => ?_)
      refine lv_lload hx hb dX12_stops_153 (lv_at hl 0 rfl) ?_
      refine lv_lload_n hx hb dX12_stops_155 rfl (lv_at hl 12 rfl) ?_
      refine lv_lload hx hb dX12_stops_156 (lv_at hl 9 rfl) ?_
      refine lv_lsub hx hb dX12_stops_158 ?_
      refine gp_fl (fun y_36 => ?_)
      refine lv_lmul hx hb dX12_stops_159 ?_
      refine gp_fl (fun y_37 => ?_)
      refine lv_lsub hx hb dX12_stops_160 ?_
      refine gp_fl (fun y_38 => ?_)
      have hPc := hP.sub (ws' := []) [] rfl
      have hDc := hD.sub (ws' := []) [] (by decide) rfl
      have hFc := va_free (wc := []) hD hS hA [] rfl
      refine va_calli (va_runS (As := [.long y_38]) (rest := []) ⟨hx, hb, hml, hown, hts⟩ (sX12_sign l D cy H.size ma y_38) (va_cwS 1 hts g_sX12_stops_sX12_sign_1 rfl rfl rfl (by decide +kernel) ⟨Nat.le_of_ble_eq_true rfl, Nat.le_of_ble_eq_true rfl⟩) (gp_preS hPc hDc hK hN) rfl rfl hl.1 rfl (lv_room (Nat.le_of_ble_eq_true rfl)) dX12_stops_161 ⟨Nat.le_of_ble_eq_true rfl, Nat.le_of_ble_eq_true rfl⟩) hS (fun q _ h => hFc q h) hFc (fun r_39 u t H locs ht hvm hw hB hz1 hk1 hS => ?_)
      have hP := gp_joinU (wc := []) hP hD [] rfl hk1 ht hB
      refine lv_istore (lv' := [(24, .int r_39), (22, .long y_32), (20, .long y_31), (19, .int r_28), (18, .int r_22), (16, .long y_16), (14, .long y_14), (12, .long r_11), (10, .long y_10), (8, .long r_5), (6, .long y_4), (0, .ref (ma 200)), (1, .int w), (2, .long x), (4, .long y)]) hx hb dX12_stops_164 hl (by decide) rfl (fun ls hl => ?_)
      refine lv_lload hx hb dX12_stops_166 (lv_at hl 2 rfl) ?_
      refine lv_aload_n hx hb dX12_stops_168 rfl (lv_at hl 11 rfl) ?_
      refine va_get (D := D) (ci := 12) (v := .long m_meetY) (C := RX12) (T := TX12) (N := 104) hx hb hts hiX12 hown hK hP 0 rfl rfl 30 (by decide) (hts (.fieldLink RX12 146 "GhostPaneModel" "meetY" "J") (List.mem_of_getElem? (i := 15) rfl)) (fun _ h9 => h9) rfl dX12_stops_169 ?_
      refine lv_lload hx hb dX12_stops_172 (lv_at hl 9 rfl) ?_
      refine lv_aload_n hx hb dX12_stops_174 rfl (lv_at hl 11 rfl) ?_
      refine va_get (D := D) (ci := 12) (v := .long m_meetBy) (C := RX12) (T := TX12) (N := 104) hx hb hts hiX12 hown hK hP 0 rfl rfl 31 (by decide) (hts (.fieldLink RX12 140 "GhostPaneModel" "meetBy" "J") (List.mem_of_getElem? (i := 14) rfl)) (fun _ h9 => h9) rfl dX12_stops_175 ?_
      refine lv_lmul hx hb dX12_stops_178 ?_
      refine gp_fl (fun y_40 => ?_)
      refine lv_lsub hx hb dX12_stops_179 ?_
      refine gp_fl (fun y_41 => ?_)
      refine lv_lmul hx hb dX12_stops_180 ?_
      refine gp_fl (fun y_42 => ?_)
      refine lv_lload hx hb dX12_stops_181 (lv_at hl 1 rfl) ?_
      refine lv_aload_n hx hb dX12_stops_183 rfl (lv_at hl 11 rfl) ?_
      refine va_get (D := D) (ci := 12) (v := .long m_meetX) (C := RX12) (T := TX12) (N := 104) hx hb hts hiX12 hown hK hP 0 rfl rfl 29 (by decide) (hts (.fieldLink RX12 143 "GhostPaneModel" "meetX" "J") (List.mem_of_getElem? (i := 13) rfl)) (fun _ h9 => h9) rfl dX12_stops_184 ?_
      refine lv_lload hx hb dX12_stops_187 (lv_at hl 10 rfl) ?_
      refine lv_aload_n hx hb dX12_stops_189 rfl (lv_at hl 11 rfl) ?_
      refine va_get (D := D) (ci := 12) (v := .long m_meetBy) (C := RX12) (T := TX12) (N := 104) hx hb hts hiX12 hown hK hP 0 rfl rfl 31 (by decide) (hts (.fieldLink RX12 140 "GhostPaneModel" "meetBy" "J") (List.mem_of_getElem? (i := 14) rfl)) (fun _ h9 => h9) rfl dX12_stops_190 ?_
      refine lv_lmul hx hb dX12_stops_193 ?_
      refine gp_fl (fun y_43 => ?_)
      refine lv_lsub hx hb dX12_stops_194 ?_
      refine gp_fl (fun y_44 => ?_)
      refine lv_lmul hx hb dX12_stops_195 ?_
      refine gp_fl (fun y_45 => ?_)
      refine lv_lsub hx hb dX12_stops_196 ?_
      refine gp_fl (fun y_46 => ?_)
      have hPc := hP.sub (ws' := []) [] rfl
      have hDc := hD.sub (ws' := []) [] (by decide) rfl
      have hFc := va_free (wc := []) hD hS hA [] rfl
      refine va_calli (va_runS (As := [.long y_46]) (rest := []) ⟨hx, hb, hml, hown, hts⟩ (sX12_sign l D cy H.size ma y_46) (va_cwS 1 hts g_sX12_stops_sX12_sign_1 rfl rfl rfl (by decide +kernel) ⟨Nat.le_of_ble_eq_true rfl, Nat.le_of_ble_eq_true rfl⟩) (gp_preS hPc hDc hK hN) rfl rfl hl.1 rfl (lv_room (Nat.le_of_ble_eq_true rfl)) dX12_stops_197 ⟨Nat.le_of_ble_eq_true rfl, Nat.le_of_ble_eq_true rfl⟩) hS (fun q _ h => hFc q h) hFc (fun r_47 u t H locs ht hvm hw hB hz1 hk1 hS => ?_)
      have hP := gp_joinU (wc := []) hP hD [] rfl hk1 ht hB
      refine lv_istore (lv' := [(25, .int r_47), (24, .int r_39), (22, .long y_32), (20, .long y_31), (19, .int r_28), (18, .int r_22), (16, .long y_16), (14, .long y_14), (12, .long r_11), (10, .long y_10), (8, .long r_5), (6, .long y_4), (0, .ref (ma 200)), (1, .int w), (2, .long x), (4, .long y)]) hx hb dX12_stops_200 hl (by decide) rfl (fun ls hl => ?_)
      refine lv_iload hx hb dX12_stops_202 (lv_at hl 1 rfl) ?_
      refine lv_iload hx hb dX12_stops_204 (lv_at hl 0 rfl) ?_
      refine lv_imul hx hb dX12_stops_206 ?_
      refine gp_fi (fun y_48 => ?_)
      refine lv_if_ge (tgt := 214) hx hb dX12_stops_207 (by decide) (fun c_49 => ?_) (fun c_49 => ?_)
      · refine lv_iconst (v := 0) hx hb dX12_stops_214 (by decide) ?_
        exact W.zret (v := 0) hx hb hr narrow_b0 (fun t ht hW => ⟨⟨0, (), rfl, (show (0 : Int32) = 0 ∨ (0 : Int32) = 1 by decide), gp_end ht hP hD⟩, hS.F ht⟩) hS.2.2 dX12_stops_215
      · refine lv_iconst (v := 1) hx hb dX12_stops_210 (by decide) ?_
        refine lv_goto (tgt := 215) hx hb dX12_stops_211 (by decide) ?_
        exact W.zret (v := 1) hx hb hr narrow_b1 (fun t ht hW => ⟨⟨1, (), rfl, (show (1 : Int32) = 0 ∨ (1 : Int32) = 1 by decide), gp_end ht hP hD⟩, hS.F ht⟩) hS.2.2 dX12_stops_215
    · refine lv_iload hx hb dX12_stops_140 (lv_at hl 2 rfl) ?_
      refine lv_if_eq (tgt := 216) hx hb dX12_stops_142 (by decide) (fun c_50 => ?_) (fun c_50 => ?_)
      · have cut230 : ∀ (b24 : Int32) (H : Heap) (locs : List Loc) (ls : Array Slot), va_P D vwCl [(o_m ma m_ax m_ay m_bx m_by m_cx m_cy m_dx m_dy m_floor m_hand m_deep m_eyeX m_eyeY m_goalX m_goalY m_meetX m_meetY m_meetBy m_meetAlong m_taped m_at m_size m_ended m_bad m_badPlace m_fault m_faultPlace m_namePlace m_codes m_figures m_open m_last m_now m_from m_piled m_hasGrid m_gridN m_gridM m_gridX m_gridY m_gridDeep m_ownX m_ownY m_ownDeep m_joinMany m_acts), (aI (ma 15) (cy 1) 12 r_wallAx), (aI (ma 16) (cy 1) 12 r_wallAy), (aI (ma 17) (cy 1) 12 r_wallBx), (aI (ma 18) (cy 1) 12 r_wallBy), (aI (ma 19) (cy 3) 12 r_isPit)] H → va_D A [(o_m ma m_ax m_ay m_bx m_by m_cx m_cy m_dx m_dy m_floor m_hand m_deep m_eyeX m_eyeY m_goalX m_goalY m_meetX m_meetY m_meetBy m_meetAlong m_taped m_at m_size m_ended m_bad m_badPlace m_fault m_faultPlace m_namePlace m_codes m_figures m_open m_last m_now m_from m_piled m_hasGrid m_gridN m_gridM m_gridX m_gridY m_gridDeep m_ownX m_ownY m_ownDeep m_joinMany m_acts), (aI (ma 15) (cy 1) 12 r_wallAx), (aI (ma 16) (cy 1) 12 r_wallAy), (aI (ma 17) (cy 1) 12 r_wallBx), (aI (ma 18) (cy 1) 12 r_wallBy), (aI (ma 19) (cy 3) 12 r_isPit)] → va_S A s.heap H locs → lv_has ls 33 [(24, .int b24), (22, .long y_32), (20, .long y_31), (19, .int r_28), (18, .int r_22), (16, .long y_16), (14, .long y_14), (12, .long r_11), (10, .long y_10), (8, .long r_5), (6, .long y_4), (0, .ref (ma 200)), (1, .int w), (2, .long x), (4, .long y)] → W p l e (headSpec v_sX12_stops (({ frames := 1, cells := 0, slots := 0, locals := 23 } : Room))).room s m [.ref (ma 200), .int w, .long x, .long y].toArray below meth c H locs 0 0 (MQ below (va_Qi (fun (r : Int32) (u : Unit) => (r = 0 ∨ r = 1)) (fun u => gp_E D A [(o_m ma m_ax m_ay m_bx m_by m_cx m_cy m_dx m_dy m_floor m_hand m_deep m_eyeX m_eyeY m_goalX m_goalY m_meetX m_meetY m_meetBy m_meetAlong m_taped m_at m_size m_ended m_bad m_badPlace m_fault m_faultPlace m_namePlace m_codes m_figures m_open m_last m_now m_from m_piled m_hasGrid m_gridN m_gridM m_gridX m_gridY m_gridDeep m_ownX m_ownY m_ownDeep m_joinMany m_acts), (aI (ma 15) (cy 1) 12 r_wallAx), (aI (ma 16) (cy 1) 12 r_wallAy), (aI (ma 17) (cy 1) 12 r_wallBx), (aI (ma 18) (cy 1) 12 r_wallBy), (aI (ma 19) (cy 3) 12 r_isPit)]) A) [.ref (ma 200), .int w, .long x, .long y].toArray s 0 0 A) (F0 m 230 ls []) := by
          intro b24 H locs ls  hP hD hS hl
          have cut241 : ∀ (p0 : Int64) (H : Heap) (locs : List Loc) (ls : Array Slot), va_P D vwCl [(o_m ma m_ax m_ay m_bx m_by m_cx m_cy m_dx m_dy m_floor m_hand m_deep m_eyeX m_eyeY m_goalX m_goalY m_meetX m_meetY m_meetBy m_meetAlong m_taped m_at m_size m_ended m_bad m_badPlace m_fault m_faultPlace m_namePlace m_codes m_figures m_open m_last m_now m_from m_piled m_hasGrid m_gridN m_gridM m_gridX m_gridY m_gridDeep m_ownX m_ownY m_ownDeep m_joinMany m_acts), (aI (ma 15) (cy 1) 12 r_wallAx), (aI (ma 16) (cy 1) 12 r_wallAy), (aI (ma 17) (cy 1) 12 r_wallBx), (aI (ma 18) (cy 1) 12 r_wallBy), (aI (ma 19) (cy 3) 12 r_isPit)] H → va_D A [(o_m ma m_ax m_ay m_bx m_by m_cx m_cy m_dx m_dy m_floor m_hand m_deep m_eyeX m_eyeY m_goalX m_goalY m_meetX m_meetY m_meetBy m_meetAlong m_taped m_at m_size m_ended m_bad m_badPlace m_fault m_faultPlace m_namePlace m_codes m_figures m_open m_last m_now m_from m_piled m_hasGrid m_gridN m_gridM m_gridX m_gridY m_gridDeep m_ownX m_ownY m_ownDeep m_joinMany m_acts), (aI (ma 15) (cy 1) 12 r_wallAx), (aI (ma 16) (cy 1) 12 r_wallAy), (aI (ma 17) (cy 1) 12 r_wallBx), (aI (ma 18) (cy 1) 12 r_wallBy), (aI (ma 19) (cy 3) 12 r_isPit)] → va_S A s.heap H locs → lv_has ls 33 [(24, .int b24), (22, .long y_32), (20, .long y_31), (19, .int r_28), (18, .int r_22), (16, .long y_16), (14, .long y_14), (12, .long r_11), (10, .long y_10), (8, .long r_5), (6, .long y_4), (0, .ref (ma 200)), (1, .int w), (2, .long x), (4, .long y)] → W p l e (headSpec v_sX12_stops (({ frames := 1, cells := 0, slots := 0, locals := 23 } : Room))).room s m [.ref (ma 200), .int w, .long x, .long y].toArray below meth c H locs 0 0 (MQ below (va_Qi (fun (r : Int32) (u : Unit) => (r = 0 ∨ r = 1)) (fun u => gp_E D A [(o_m ma m_ax m_ay m_bx m_by m_cx m_cy m_dx m_dy m_floor m_hand m_deep m_eyeX m_eyeY m_goalX m_goalY m_meetX m_meetY m_meetBy m_meetAlong m_taped m_at m_size m_ended m_bad m_badPlace m_fault m_faultPlace m_namePlace m_codes m_figures m_open m_last m_now m_from m_piled m_hasGrid m_gridN m_gridM m_gridX m_gridY m_gridDeep m_ownX m_ownY m_ownDeep m_joinMany m_acts), (aI (ma 15) (cy 1) 12 r_wallAx), (aI (ma 16) (cy 1) 12 r_wallAy), (aI (ma 17) (cy 1) 12 r_wallBx), (aI (ma 18) (cy 1) 12 r_wallBy), (aI (ma 19) (cy 3) 12 r_isPit)]) A) [.ref (ma 200), .int w, .long x, .long y].toArray s 0 0 A) (F0 m 241 ls [.long p0]) := by
            intro p0 H locs ls  hP hD hS hl
            refine lv_aload_n hx hb dX12_stops_241 rfl (lv_at hl 11 rfl) ?_
            refine va_get (D := D) (ci := 12) (v := .long m_meetBy) (C := RX12) (T := TX12) (N := 104) hx hb hts hiX12 hown hK hP 0 rfl rfl 31 (by decide) (hts (.fieldLink RX12 140 "GhostPaneModel" "meetBy" "J") (List.mem_of_getElem? (i := 14) rfl)) (fun _ h9 => h9) rfl dX12_stops_242 ?_
            refine lv_lmul hx hb dX12_stops_245 ?_
            refine gp_fl (fun y_51 => ?_)
            refine lv_lstore (lv' := [(25, .long y_51), (24, .int b24), (22, .long y_32), (20, .long y_31), (19, .int r_28), (18, .int r_22), (16, .long y_16), (14, .long y_14), (12, .long r_11), (10, .long y_10), (8, .long r_5), (6, .long y_4), (0, .ref (ma 200)), (1, .int w), (2, .long x), (4, .long y)]) hx hb dX12_stops_246 hl (by decide) rfl (fun ls hl => ?_)
            have cut264 : ∀ (x0 : Int64) (H : Heap) (locs : List Loc) (ls : Array Slot), va_P D vwCl [(o_m ma m_ax m_ay m_bx m_by m_cx m_cy m_dx m_dy m_floor m_hand m_deep m_eyeX m_eyeY m_goalX m_goalY m_meetX m_meetY m_meetBy m_meetAlong m_taped m_at m_size m_ended m_bad m_badPlace m_fault m_faultPlace m_namePlace m_codes m_figures m_open m_last m_now m_from m_piled m_hasGrid m_gridN m_gridM m_gridX m_gridY m_gridDeep m_ownX m_ownY m_ownDeep m_joinMany m_acts), (aI (ma 15) (cy 1) 12 r_wallAx), (aI (ma 16) (cy 1) 12 r_wallAy), (aI (ma 17) (cy 1) 12 r_wallBx), (aI (ma 18) (cy 1) 12 r_wallBy), (aI (ma 19) (cy 3) 12 r_isPit)] H → va_D A [(o_m ma m_ax m_ay m_bx m_by m_cx m_cy m_dx m_dy m_floor m_hand m_deep m_eyeX m_eyeY m_goalX m_goalY m_meetX m_meetY m_meetBy m_meetAlong m_taped m_at m_size m_ended m_bad m_badPlace m_fault m_faultPlace m_namePlace m_codes m_figures m_open m_last m_now m_from m_piled m_hasGrid m_gridN m_gridM m_gridX m_gridY m_gridDeep m_ownX m_ownY m_ownDeep m_joinMany m_acts), (aI (ma 15) (cy 1) 12 r_wallAx), (aI (ma 16) (cy 1) 12 r_wallAy), (aI (ma 17) (cy 1) 12 r_wallBx), (aI (ma 18) (cy 1) 12 r_wallBy), (aI (ma 19) (cy 3) 12 r_isPit)] → va_S A s.heap H locs → lv_has ls 33 [(25, .long y_51), (24, .int b24), (22, .long y_32), (20, .long y_31), (19, .int r_28), (18, .int r_22), (16, .long y_16), (14, .long y_14), (12, .long r_11), (10, .long y_10), (8, .long r_5), (6, .long y_4), (0, .ref (ma 200)), (1, .int w), (2, .long x), (4, .long y)] → W p l e (headSpec v_sX12_stops (({ frames := 1, cells := 0, slots := 0, locals := 23 } : Room))).room s m [.ref (ma 200), .int w, .long x, .long y].toArray below meth c H locs 0 0 (MQ below (va_Qi (fun (r : Int32) (u : Unit) => (r = 0 ∨ r = 1)) (fun u => gp_E D A [(o_m ma m_ax m_ay m_bx m_by m_cx m_cy m_dx m_dy m_floor m_hand m_deep m_eyeX m_eyeY m_goalX m_goalY m_meetX m_meetY m_meetBy m_meetAlong m_taped m_at m_size m_ended m_bad m_badPlace m_fault m_faultPlace m_namePlace m_codes m_figures m_open m_last m_now m_from m_piled m_hasGrid m_gridN m_gridM m_gridX m_gridY m_gridDeep m_ownX m_ownY m_ownDeep m_joinMany m_acts), (aI (ma 15) (cy 1) 12 r_wallAx), (aI (ma 16) (cy 1) 12 r_wallAy), (aI (ma 17) (cy 1) 12 r_wallBx), (aI (ma 18) (cy 1) 12 r_wallBy), (aI (ma 19) (cy 3) 12 r_isPit)]) A) [.ref (ma 200), .int w, .long x, .long y].toArray s 0 0 A) (F0 m 264 ls [.long x0]) := by
              intro x0 H locs ls  hP hD hS hl
              refine lv_lstore (lv' := [(27, .long x0), (25, .long y_51), (24, .int b24), (22, .long y_32), (20, .long y_31), (19, .int r_28), (18, .int r_22), (16, .long y_16), (14, .long y_14), (12, .long r_11), (10, .long y_10), (8, .long r_5), (6, .long y_4), (0, .ref (ma 200)), (1, .int w), (2, .long x), (4, .long y)]) hx hb dX12_stops_264 hl (by decide) rfl (fun ls hl => ?_)
              have cut278 : ∀ (a0 : Int64) (H : Heap) (locs : List Loc) (ls : Array Slot), va_P D vwCl [(o_m ma m_ax m_ay m_bx m_by m_cx m_cy m_dx m_dy m_floor m_hand m_deep m_eyeX m_eyeY m_goalX m_goalY m_meetX m_meetY m_meetBy m_meetAlong m_taped m_at m_size m_ended m_bad m_badPlace m_fault m_faultPlace m_namePlace m_codes m_figures m_open m_last m_now m_from m_piled m_hasGrid m_gridN m_gridM m_gridX m_gridY m_gridDeep m_ownX m_ownY m_ownDeep m_joinMany m_acts), (aI (ma 15) (cy 1) 12 r_wallAx), (aI (ma 16) (cy 1) 12 r_wallAy), (aI (ma 17) (cy 1) 12 r_wallBx), (aI (ma 18) (cy 1) 12 r_wallBy), (aI (ma 19) (cy 3) 12 r_isPit)] H → va_D A [(o_m ma m_ax m_ay m_bx m_by m_cx m_cy m_dx m_dy m_floor m_hand m_deep m_eyeX m_eyeY m_goalX m_goalY m_meetX m_meetY m_meetBy m_meetAlong m_taped m_at m_size m_ended m_bad m_badPlace m_fault m_faultPlace m_namePlace m_codes m_figures m_open m_last m_now m_from m_piled m_hasGrid m_gridN m_gridM m_gridX m_gridY m_gridDeep m_ownX m_ownY m_ownDeep m_joinMany m_acts), (aI (ma 15) (cy 1) 12 r_wallAx), (aI (ma 16) (cy 1) 12 r_wallAy), (aI (ma 17) (cy 1) 12 r_wallBx), (aI (ma 18) (cy 1) 12 r_wallBy), (aI (ma 19) (cy 3) 12 r_isPit)] → va_S A s.heap H locs → lv_has ls 33 [(27, .long x0), (25, .long y_51), (24, .int b24), (22, .long y_32), (20, .long y_31), (19, .int r_28), (18, .int r_22), (16, .long y_16), (14, .long y_14), (12, .long r_11), (10, .long y_10), (8, .long r_5), (6, .long y_4), (0, .ref (ma 200)), (1, .int w), (2, .long x), (4, .long y)] → W p l e (headSpec v_sX12_stops (({ frames := 1, cells := 0, slots := 0, locals := 23 } : Room))).room s m [.ref (ma 200), .int w, .long x, .long y].toArray below meth c H locs 0 0 (MQ below (va_Qi (fun (r : Int32) (u : Unit) => (r = 0 ∨ r = 1)) (fun u => gp_E D A [(o_m ma m_ax m_ay m_bx m_by m_cx m_cy m_dx m_dy m_floor m_hand m_deep m_eyeX m_eyeY m_goalX m_goalY m_meetX m_meetY m_meetBy m_meetAlong m_taped m_at m_size m_ended m_bad m_badPlace m_fault m_faultPlace m_namePlace m_codes m_figures m_open m_last m_now m_from m_piled m_hasGrid m_gridN m_gridM m_gridX m_gridY m_gridDeep m_ownX m_ownY m_ownDeep m_joinMany m_acts), (aI (ma 15) (cy 1) 12 r_wallAx), (aI (ma 16) (cy 1) 12 r_wallAy), (aI (ma 17) (cy 1) 12 r_wallBx), (aI (ma 18) (cy 1) 12 r_wallBy), (aI (ma 19) (cy 3) 12 r_isPit)]) A) [.ref (ma 200), .int w, .long x, .long y].toArray s 0 0 A) (F0 m 278 ls [.long a0]) := by
                intro a0 H locs ls  hP hD hS hl
                refine lv_aload_n hx hb dX12_stops_278 rfl (lv_at hl 13 rfl) ?_
                refine va_get (D := D) (ci := 12) (v := .long m_meetBy) (C := RX12) (T := TX12) (N := 104) hx hb hts hiX12 hown hK hP 0 rfl rfl 31 (by decide) (hts (.fieldLink RX12 140 "GhostPaneModel" "meetBy" "J") (List.mem_of_getElem? (i := 14) rfl)) (fun _ h9 => h9) rfl dX12_stops_279 ?_
                refine lv_lmul hx hb dX12_stops_282 ?_
                refine gp_fl (fun y_52 => ?_)
                refine lv_lstore (lv' := [(29, .long y_52), (27, .long x0), (25, .long y_51), (24, .int b24), (22, .long y_32), (20, .long y_31), (19, .int r_28), (18, .int r_22), (16, .long y_16), (14, .long y_14), (12, .long r_11), (10, .long y_10), (8, .long r_5), (6, .long y_4), (0, .ref (ma 200)), (1, .int w), (2, .long x), (4, .long y)]) hx hb dX12_stops_283 hl (by decide) rfl (fun ls hl => ?_)
                have cut297 : ∀ (b0 : Int64) (H : Heap) (locs : List Loc) (ls : Array Slot), va_P D vwCl [(o_m ma m_ax m_ay m_bx m_by m_cx m_cy m_dx m_dy m_floor m_hand m_deep m_eyeX m_eyeY m_goalX m_goalY m_meetX m_meetY m_meetBy m_meetAlong m_taped m_at m_size m_ended m_bad m_badPlace m_fault m_faultPlace m_namePlace m_codes m_figures m_open m_last m_now m_from m_piled m_hasGrid m_gridN m_gridM m_gridX m_gridY m_gridDeep m_ownX m_ownY m_ownDeep m_joinMany m_acts), (aI (ma 15) (cy 1) 12 r_wallAx), (aI (ma 16) (cy 1) 12 r_wallAy), (aI (ma 17) (cy 1) 12 r_wallBx), (aI (ma 18) (cy 1) 12 r_wallBy), (aI (ma 19) (cy 3) 12 r_isPit)] H → va_D A [(o_m ma m_ax m_ay m_bx m_by m_cx m_cy m_dx m_dy m_floor m_hand m_deep m_eyeX m_eyeY m_goalX m_goalY m_meetX m_meetY m_meetBy m_meetAlong m_taped m_at m_size m_ended m_bad m_badPlace m_fault m_faultPlace m_namePlace m_codes m_figures m_open m_last m_now m_from m_piled m_hasGrid m_gridN m_gridM m_gridX m_gridY m_gridDeep m_ownX m_ownY m_ownDeep m_joinMany m_acts), (aI (ma 15) (cy 1) 12 r_wallAx), (aI (ma 16) (cy 1) 12 r_wallAy), (aI (ma 17) (cy 1) 12 r_wallBx), (aI (ma 18) (cy 1) 12 r_wallBy), (aI (ma 19) (cy 3) 12 r_isPit)] → va_S A s.heap H locs → lv_has ls 33 [(29, .long y_52), (27, .long x0), (25, .long y_51), (24, .int b24), (22, .long y_32), (20, .long y_31), (19, .int r_28), (18, .int r_22), (16, .long y_16), (14, .long y_14), (12, .long r_11), (10, .long y_10), (8, .long r_5), (6, .long y_4), (0, .ref (ma 200)), (1, .int w), (2, .long x), (4, .long y)] → W p l e (headSpec v_sX12_stops (({ frames := 1, cells := 0, slots := 0, locals := 23 } : Room))).room s m [.ref (ma 200), .int w, .long x, .long y].toArray below meth c H locs 0 0 (MQ below (va_Qi (fun (r : Int32) (u : Unit) => (r = 0 ∨ r = 1)) (fun u => gp_E D A [(o_m ma m_ax m_ay m_bx m_by m_cx m_cy m_dx m_dy m_floor m_hand m_deep m_eyeX m_eyeY m_goalX m_goalY m_meetX m_meetY m_meetBy m_meetAlong m_taped m_at m_size m_ended m_bad m_badPlace m_fault m_faultPlace m_namePlace m_codes m_figures m_open m_last m_now m_from m_piled m_hasGrid m_gridN m_gridM m_gridX m_gridY m_gridDeep m_ownX m_ownY m_ownDeep m_joinMany m_acts), (aI (ma 15) (cy 1) 12 r_wallAx), (aI (ma 16) (cy 1) 12 r_wallAy), (aI (ma 17) (cy 1) 12 r_wallBx), (aI (ma 18) (cy 1) 12 r_wallBy), (aI (ma 19) (cy 3) 12 r_isPit)]) A) [.ref (ma 200), .int w, .long x, .long y].toArray s 0 0 A) (F0 m 297 ls [.long b0]) := by
                  intro b0 H locs ls  hP hD hS hl
                  refine lv_aload_n hx hb dX12_stops_297 rfl (lv_at hl 14 rfl) ?_
                  refine va_get (D := D) (ci := 12) (v := .long m_meetBy) (C := RX12) (T := TX12) (N := 104) hx hb hts hiX12 hown hK hP 0 rfl rfl 31 (by decide) (hts (.fieldLink RX12 140 "GhostPaneModel" "meetBy" "J") (List.mem_of_getElem? (i := 14) rfl)) (fun _ h9 => h9) rfl dX12_stops_298 ?_
                  refine lv_lmul hx hb dX12_stops_301 ?_
                  refine gp_fl (fun y_53 => ?_)
                  refine lv_lstore (lv' := [(31, .long y_53), (29, .long y_52), (27, .long x0), (25, .long y_51), (24, .int b24), (22, .long y_32), (20, .long y_31), (19, .int r_28), (18, .int r_22), (16, .long y_16), (14, .long y_14), (12, .long r_11), (10, .long y_10), (8, .long r_5), (6, .long y_4), (0, .ref (ma 200)), (1, .int w), (2, .long x), (4, .long y)]) hx hb dX12_stops_302 hl (by decide) rfl (fun ls hl => ?_)
                  refine lv_lload hx hb dX12_stops_304 (lv_at hl 1 rfl) ?_
                  refine lv_lload hx hb dX12_stops_306 (lv_at hl 0 rfl) ?_
                  have hPc := hP.sub (ws' := []) [] rfl
                  have hDc := hD.sub (ws' := []) [] (by decide) rfl
                  have hFc := va_free (wc := []) hD hS hA [] rfl
                  refine va_calll (va_runS (As := [.long y_52, .long y_53]) (rest := []) ⟨hx, hb, hml, hown, hts⟩ (sX12_less l D cy H.size ma y_52 y_53) (va_cwS 2 hts g_sX12_stops_sX12_less_2 rfl rfl rfl (by decide +kernel) ⟨Nat.le_of_ble_eq_true rfl, Nat.le_of_ble_eq_true rfl⟩) (gp_preS hPc hDc hK hN) rfl rfl hl.1 rfl (lv_room (Nat.le_of_ble_eq_true rfl)) dX12_stops_308 ⟨Nat.le_of_ble_eq_true rfl, Nat.le_of_ble_eq_true rfl⟩) hS (fun q _ h => hFc q h) hFc (fun r_54 u t H locs ht hvm hw hB hz1 hk1 hS => ?_)
                  have hP := gp_joinU (wc := []) hP hD [] rfl hk1 ht hB
                  refine lv_lload hx hb dX12_stops_311 (lv_at hl 3 rfl) ?_
                  refine lv_lload hx hb dX12_stops_313 (lv_at hl 2 rfl) ?_
                  have hPc := hP.sub (ws' := []) [] rfl
                  have hDc := hD.sub (ws' := []) [] (by decide) rfl
                  have hFc := va_free (wc := []) hD hS hA [] rfl
                  refine va_calll (va_runS (As := [.long y_51, .long x0]) (rest := [.long r_54]) ⟨hx, hb, hml, hown, hts⟩ (sX12_more l D cy H.size ma y_51 x0) (va_cwS 2 hts g_sX12_stops_sX12_more_3 rfl rfl rfl (by decide +kernel) ⟨Nat.le_of_ble_eq_true rfl, Nat.le_of_ble_eq_true rfl⟩) (gp_preS hPc hDc hK hN) rfl rfl hl.1 rfl (lv_room (Nat.le_of_ble_eq_true rfl)) dX12_stops_315 ⟨Nat.le_of_ble_eq_true rfl, Nat.le_of_ble_eq_true rfl⟩) hS (fun q _ h => hFc q h) hFc (fun r_55 u t H locs ht hvm hw hB hz1 hk1 hS => ?_)
                  have hP := gp_joinU (wc := []) hP hD [] rfl hk1 ht hB
                  refine W.lcmp hx hb dX12_stops_318 ?_
                  refine lv_if_ge (tgt := 344) hx hb dX12_stops_319 (by decide) (fun c_56 => ?_) (fun c_56 => ?_)
                  · have c_56 : r_55 ≤ r_54 := gp_lcT.2.2.2.2.mp c_56
                    refine lv_iconst (v := 0) hx hb dX12_stops_344 (by decide) ?_
                    exact W.zret (v := 0) hx hb hr narrow_b0 (fun t ht hW => ⟨⟨0, (), rfl, (show (0 : Int32) = 0 ∨ (0 : Int32) = 1 by decide), gp_end ht hP hD⟩, hS.F ht⟩) hS.2.2 dX12_stops_345
                  · have c_56 : ¬ r_55 ≤ r_54 := fun z => c_56 (gp_lcT.2.2.2.2.mpr z)
                    refine lv_lload hx hb dX12_stops_322 (lv_at hl 1 rfl) ?_
                    refine lv_lload hx hb dX12_stops_324 (lv_at hl 0 rfl) ?_
                    have hPc := hP.sub (ws' := []) [] rfl
                    have hDc := hD.sub (ws' := []) [] (by decide) rfl
                    have hFc := va_free (wc := []) hD hS hA [] rfl
                    refine va_calll (va_runS (As := [.long y_52, .long y_53]) (rest := []) ⟨hx, hb, hml, hown, hts⟩ (sX12_more l D cy H.size ma y_52 y_53) (va_cwS 2 hts g_sX12_stops_sX12_more_3 rfl rfl rfl (by decide +kernel) ⟨Nat.le_of_ble_eq_true rfl, Nat.le_of_ble_eq_true rfl⟩) (gp_preS hPc hDc hK hN) rfl rfl hl.1 rfl (lv_room (Nat.le_of_ble_eq_true rfl)) dX12_stops_326 ⟨Nat.le_of_ble_eq_true rfl, Nat.le_of_ble_eq_true rfl⟩) hS (fun q _ h => hFc q h) hFc (fun r_57 u t H locs ht hvm hw hB hz1 hk1 hS => ?_)
                    have hP := gp_joinU (wc := []) hP hD [] rfl hk1 ht hB
                    refine lv_lload hx hb dX12_stops_329 (lv_at hl 3 rfl) ?_
                    refine lv_lload hx hb dX12_stops_331 (lv_at hl 2 rfl) ?_
                    have hPc := hP.sub (ws' := []) [] rfl
                    have hDc := hD.sub (ws' := []) [] (by decide) rfl
                    have hFc := va_free (wc := []) hD hS hA [] rfl
                    refine va_calll (va_runS (As := [.long y_51, .long x0]) (rest := [.long r_57]) ⟨hx, hb, hml, hown, hts⟩ (sX12_less l D cy H.size ma y_51 x0) (va_cwS 2 hts g_sX12_stops_sX12_less_2 rfl rfl rfl (by decide +kernel) ⟨Nat.le_of_ble_eq_true rfl, Nat.le_of_ble_eq_true rfl⟩) (gp_preS hPc hDc hK hN) rfl rfl hl.1 rfl (lv_room (Nat.le_of_ble_eq_true rfl)) dX12_stops_333 ⟨Nat.le_of_ble_eq_true rfl, Nat.le_of_ble_eq_true rfl⟩) hS (fun q _ h => hFc q h) hFc (fun r_58 u t H locs ht hvm hw hB hz1 hk1 hS => ?_)
                    have hP := gp_joinU (wc := []) hP hD [] rfl hk1 ht hB
                    refine W.lcmp hx hb dX12_stops_336 ?_
                    refine lv_if_le (tgt := 344) hx hb dX12_stops_337 (by decide) (fun c_59 => ?_) (fun c_59 => ?_)
                    · have c_59 : r_57 ≤ r_58 := gp_lcT.2.2.2.1.mp c_59
                      refine lv_iconst (v := 0) hx hb dX12_stops_344 (by decide) ?_
                      exact W.zret (v := 0) hx hb hr narrow_b0 (fun t ht hW => ⟨⟨0, (), rfl, (show (0 : Int32) = 0 ∨ (0 : Int32) = 1 by decide), gp_end ht hP hD⟩, hS.F ht⟩) hS.2.2 dX12_stops_345
                    · have c_59 : ¬ r_57 ≤ r_58 := fun z => c_59 (gp_lcT.2.2.2.1.mpr z)
                      refine lv_iconst (v := 1) hx hb dX12_stops_340 (by decide) ?_
                      refine lv_goto (tgt := 345) hx hb dX12_stops_341 (by decide) ?_
                      exact W.zret (v := 1) hx hb hr narrow_b1 (fun t ht hW => ⟨⟨1, (), rfl, (show (1 : Int32) = 0 ∨ (1 : Int32) = 1 by decide), gp_end ht hP hD⟩, hS.F ht⟩) hS.2.2 dX12_stops_345
                refine lv_iload hx hb dX12_stops_285 (lv_at hl 3 rfl) ?_
                refine lv_if_eq (tgt := 295) hx hb dX12_stops_287 (by decide) (fun c_60 => ?_) (fun c_60 => ?_)
                · refine lv_lload hx hb dX12_stops_295 (lv_at hl 10 rfl) ?_
                  exact cut297 r_11 H locs ls hP hD hS (lv_sub hl [0, 1, 2, 3, 4, 5, 6, 7, 8, 9, 10, 11, 12, 13, 14, 15, 16, 17] rfl)
                · refine lv_lload hx hb dX12_stops_290 (lv_at hl 11 rfl) ?_
                  refine lv_goto (tgt := 297) hx hb dX12_stops_292 (by decide) ?_
                  exact cut297 y_10 H locs ls hP hD hS (lv_sub hl [0, 1, 2, 3, 4, 5, 6, 7, 8, 9, 10, 11, 12, 13, 14, 15, 16, 17] rfl)
              refine lv_iload hx hb dX12_stops_266 (lv_at hl 2 rfl) ?_
              refine lv_if_eq (tgt := 276) hx hb dX12_stops_268 (by decide) (fun c_61 => ?_) (fun c_61 => ?_)
              · refine lv_lload hx hb dX12_stops_276 (lv_at hl 11 rfl) ?_
                exact cut278 r_5 H locs ls hP hD hS (lv_sub hl [0, 1, 2, 3, 4, 5, 6, 7, 8, 9, 10, 11, 12, 13, 14, 15, 16] rfl)
              · refine lv_lload hx hb dX12_stops_271 (lv_at hl 12 rfl) ?_
                refine lv_goto (tgt := 278) hx hb dX12_stops_273 (by decide) ?_
                exact cut278 y_4 H locs ls hP hD hS (lv_sub hl [0, 1, 2, 3, 4, 5, 6, 7, 8, 9, 10, 11, 12, 13, 14, 15, 16] rfl)
            refine lv_iload hx hb dX12_stops_248 (lv_at hl 1 rfl) ?_
            refine lv_if_eq (tgt := 260) hx hb dX12_stops_250 (by decide) (fun c_62 => ?_) (fun c_62 => ?_)
            · refine lv_aload_n hx hb dX12_stops_260 rfl (lv_at hl 12 rfl) ?_
              refine va_get (D := D) (ci := 12) (v := .long m_meetY) (C := RX12) (T := TX12) (N := 104) hx hb hts hiX12 hown hK hP 0 rfl rfl 30 (by decide) (hts (.fieldLink RX12 146 "GhostPaneModel" "meetY" "J") (List.mem_of_getElem? (i := 15) rfl)) (fun _ h9 => h9) rfl dX12_stops_261 ?_
              exact cut264 m_meetY H locs ls hP hD hS (lv_sub hl [0, 1, 2, 3, 4, 5, 6, 7, 8, 9, 10, 11, 12, 13, 14, 15] rfl)
            · refine lv_aload_n hx hb dX12_stops_253 rfl (lv_at hl 12 rfl) ?_
              refine va_get (D := D) (ci := 12) (v := .long m_meetX) (C := RX12) (T := TX12) (N := 104) hx hb hts hiX12 hown hK hP 0 rfl rfl 29 (by decide) (hts (.fieldLink RX12 143 "GhostPaneModel" "meetX" "J") (List.mem_of_getElem? (i := 13) rfl)) (fun _ h9 => h9) rfl dX12_stops_254 ?_
              refine lv_goto (tgt := 264) hx hb dX12_stops_257 (by decide) ?_
              exact cut264 m_meetX H locs ls hP hD hS (lv_sub hl [0, 1, 2, 3, 4, 5, 6, 7, 8, 9, 10, 11, 12, 13, 14, 15] rfl)
          refine lv_iload hx hb dX12_stops_230 (lv_at hl 0 rfl) ?_
          refine lv_if_eq (tgt := 239) hx hb dX12_stops_232 (by decide) (fun c_63 => ?_) (fun c_63 => ?_)
          · refine lv_lload hx hb dX12_stops_239 (lv_at hl 14 rfl) ?_
            exact cut241 y H locs ls hP hD hS (lv_sub hl [0, 1, 2, 3, 4, 5, 6, 7, 8, 9, 10, 11, 12, 13, 14] rfl)
          · refine lv_lload_n hx hb dX12_stops_235 rfl (lv_at hl 13 rfl) ?_
            refine lv_goto (tgt := 241) hx hb dX12_stops_236 (by decide) ?_
            exact cut241 x H locs ls hP hD hS (lv_sub hl [0, 1, 2, 3, 4, 5, 6, 7, 8, 9, 10, 11, 12, 13, 14] rfl)
        refine lv_lload hx hb dX12_stops_216 (lv_at hl 5 rfl) ?_
        refine lv_lconst (v := 0) hx hb dX12_stops_218 (by decide) ?_
        refine W.lcmp hx hb dX12_stops_219 ?_
        refine lv_if_eq (tgt := 227) hx hb dX12_stops_220 (by decide) (fun c_64 => ?_) (fun c_64 => ?_)
        · have c_64 : y_14 = 0 := gp_lcT.1.mp c_64
          refine lv_iconst (v := 0) hx hb dX12_stops_227 (by decide) ?_
          refine lv_istore (lv' := [(24, .int 0), (22, .long y_32), (20, .long y_31), (19, .int r_28), (18, .int r_22), (16, .long y_16), (14, .long y_14), (12, .long r_11), (10, .long y_10), (8, .long r_5), (6, .long y_4), (0, .ref (ma 200)), (1, .int w), (2, .long x), (4, .long y)]) hx hb dX12_stops_228 hl (by decide) rfl (fun ls hl => ?_)
          exact cut230 0 H locs ls hP hD hS (lv_sub hl [0, 1, 2, 3, 4, 5, 6, 7, 8, 9, 10, 11, 12, 13, 14] rfl)
        · have c_64 : ¬ y_14 = 0 := fun z => c_64 (gp_lcT.1.mpr z)
          refine lv_iconst (v := 1) hx hb dX12_stops_223 (by decide) ?_
          refine lv_goto (tgt := 228) hx hb dX12_stops_224 (by decide) ?_
          refine lv_istore (lv' := [(24, .int 1), (22, .long y_32), (20, .long y_31), (19, .int r_28), (18, .int r_22), (16, .long y_16), (14, .long y_14), (12, .long r_11), (10, .long y_10), (8, .long r_5), (6, .long y_4), (0, .ref (ma 200)), (1, .int w), (2, .long x), (4, .long y)]) hx hb dX12_stops_228 hl (by decide) rfl (fun ls hl => ?_)
          exact cut230 1 H locs ls hP hD hS (lv_sub hl [0, 1, 2, 3, 4, 5, 6, 7, 8, 9, 10, 11, 12, 13, 14] rfl)
      · refine lv_lload hx hb dX12_stops_145 (lv_at hl 1 rfl) ?_
        refine lv_lload hx hb dX12_stops_147 (lv_at hl 13 rfl) ?_
        refine lv_lload hx hb dX12_stops_149 (lv_at hl 8 rfl) ?_
        refine lv_lsub hx hb dX12_stops_151 ?_
        refine gp_fl (fun y_65 => ?_)
        refine lv_lmul hx hb dX12_stops_152 ?_
        refine gp_fl (fun y_66 => ?_)
        refine lv_lload hx hb dX12_stops_153 (lv_at hl 0 rfl) ?_
        refine lv_lload_n hx hb dX12_stops_155 rfl (lv_at hl 12 rfl) ?_
        refine lv_lload hx hb dX12_stops_156 (lv_at hl 9 rfl) ?_
        refine lv_lsub hx hb dX12_stops_158 ?_
        refine gp_fl (fun y_67 => ?_)
        refine lv_lmul hx hb dX12_stops_159 ?_
        refine gp_fl (fun y_68 => ?_)
        refine lv_lsub hx hb dX12_stops_160 ?_
        refine gp_fl (fun y_69 => ?_)
        have hPc := hP.sub (ws' := []) [] rfl
        have hDc := hD.sub (ws' := []) [] (by decide) rfl
        have hFc := va_free (wc := []) hD hS hA [] rfl
        refine va_calli (va_runS (As := [.long y_69]) (rest := []) ⟨hx, hb, hml, hown, hts⟩ (sX12_sign l D cy H.size ma y_69) (va_cwS 1 hts g_sX12_stops_sX12_sign_1 rfl rfl rfl (by decide +kernel) ⟨Nat.le_of_ble_eq_true rfl, Nat.le_of_ble_eq_true rfl⟩) (gp_preS hPc hDc hK hN) rfl rfl hl.1 rfl (lv_room (Nat.le_of_ble_eq_true rfl)) dX12_stops_161 ⟨Nat.le_of_ble_eq_true rfl, Nat.le_of_ble_eq_true rfl⟩) hS (fun q _ h => hFc q h) hFc (fun r_70 u t H locs ht hvm hw hB hz1 hk1 hS => ?_)
        have hP := gp_joinU (wc := []) hP hD [] rfl hk1 ht hB
        refine lv_istore (lv' := [(24, .int r_70), (22, .long y_32), (20, .long y_31), (19, .int r_28), (18, .int r_22), (16, .long y_16), (14, .long y_14), (12, .long r_11), (10, .long y_10), (8, .long r_5), (6, .long y_4), (0, .ref (ma 200)), (1, .int w), (2, .long x), (4, .long y)]) hx hb dX12_stops_164 hl (by decide) rfl (fun ls hl => ?_)
        refine lv_lload hx hb dX12_stops_166 (lv_at hl 2 rfl) ?_
        refine lv_aload_n hx hb dX12_stops_168 rfl (lv_at hl 11 rfl) ?_
        refine va_get (D := D) (ci := 12) (v := .long m_meetY) (C := RX12) (T := TX12) (N := 104) hx hb hts hiX12 hown hK hP 0 rfl rfl 30 (by decide) (hts (.fieldLink RX12 146 "GhostPaneModel" "meetY" "J") (List.mem_of_getElem? (i := 15) rfl)) (fun _ h9 => h9) rfl dX12_stops_169 ?_
        refine lv_lload hx hb dX12_stops_172 (lv_at hl 9 rfl) ?_
        refine lv_aload_n hx hb dX12_stops_174 rfl (lv_at hl 11 rfl) ?_
        refine va_get (D := D) (ci := 12) (v := .long m_meetBy) (C := RX12) (T := TX12) (N := 104) hx hb hts hiX12 hown hK hP 0 rfl rfl 31 (by decide) (hts (.fieldLink RX12 140 "GhostPaneModel" "meetBy" "J") (List.mem_of_getElem? (i := 14) rfl)) (fun _ h9 => h9) rfl dX12_stops_175 ?_
        refine lv_lmul hx hb dX12_stops_178 ?_
        refine gp_fl (fun y_71 => ?_)
        refine lv_lsub hx hb dX12_stops_179 ?_
        refine gp_fl (fun y_72 => ?_)
        refine lv_lmul hx hb dX12_stops_180 ?_
        refine gp_fl (fun y_73 => ?_)
        refine lv_lload hx hb dX12_stops_181 (lv_at hl 1 rfl) ?_
        refine lv_aload_n hx hb dX12_stops_183 rfl (lv_at hl 11 rfl) ?_
        refine va_get (D := D) (ci := 12) (v := .long m_meetX) (C := RX12) (T := TX12) (N := 104) hx hb hts hiX12 hown hK hP 0 rfl rfl 29 (by decide) (hts (.fieldLink RX12 143 "GhostPaneModel" "meetX" "J") (List.mem_of_getElem? (i := 13) rfl)) (fun _ h9 => h9) rfl dX12_stops_184 ?_
        refine lv_lload hx hb dX12_stops_187 (lv_at hl 10 rfl) ?_
        refine lv_aload_n hx hb dX12_stops_189 rfl (lv_at hl 11 rfl) ?_
        refine va_get (D := D) (ci := 12) (v := .long m_meetBy) (C := RX12) (T := TX12) (N := 104) hx hb hts hiX12 hown hK hP 0 rfl rfl 31 (by decide) (hts (.fieldLink RX12 140 "GhostPaneModel" "meetBy" "J") (List.mem_of_getElem? (i := 14) rfl)) (fun _ h9 => h9) rfl dX12_stops_190 ?_
        refine lv_lmul hx hb dX12_stops_193 ?_
        refine gp_fl (fun y_74 => ?_)
        refine lv_lsub hx hb dX12_stops_194 ?_
        refine gp_fl (fun y_75 => ?_)
        refine lv_lmul hx hb dX12_stops_195 ?_
        refine gp_fl (fun y_76 => ?_)
        refine lv_lsub hx hb dX12_stops_196 ?_
        refine gp_fl (fun y_77 => ?_)
        have hPc := hP.sub (ws' := []) [] rfl
        have hDc := hD.sub (ws' := []) [] (by decide) rfl
        have hFc := va_free (wc := []) hD hS hA [] rfl
        refine va_calli (va_runS (As := [.long y_77]) (rest := []) ⟨hx, hb, hml, hown, hts⟩ (sX12_sign l D cy H.size ma y_77) (va_cwS 1 hts g_sX12_stops_sX12_sign_1 rfl rfl rfl (by decide +kernel) ⟨Nat.le_of_ble_eq_true rfl, Nat.le_of_ble_eq_true rfl⟩) (gp_preS hPc hDc hK hN) rfl rfl hl.1 rfl (lv_room (Nat.le_of_ble_eq_true rfl)) dX12_stops_197 ⟨Nat.le_of_ble_eq_true rfl, Nat.le_of_ble_eq_true rfl⟩) hS (fun q _ h => hFc q h) hFc (fun r_78 u t H locs ht hvm hw hB hz1 hk1 hS => ?_)
        have hP := gp_joinU (wc := []) hP hD [] rfl hk1 ht hB
        refine lv_istore (lv' := [(25, .int r_78), (24, .int r_70), (22, .long y_32), (20, .long y_31), (19, .int r_28), (18, .int r_22), (16, .long y_16), (14, .long y_14), (12, .long r_11), (10, .long y_10), (8, .long r_5), (6, .long y_4), (0, .ref (ma 200)), (1, .int w), (2, .long x), (4, .long y)]) hx hb dX12_stops_200 hl (by decide) rfl (fun ls hl => ?_)
        refine lv_iload hx hb dX12_stops_202 (lv_at hl 1 rfl) ?_
        refine lv_iload hx hb dX12_stops_204 (lv_at hl 0 rfl) ?_
        refine lv_imul hx hb dX12_stops_206 ?_
        refine gp_fi (fun y_79 => ?_)
        refine lv_if_ge (tgt := 214) hx hb dX12_stops_207 (by decide) (fun c_80 => ?_) (fun c_80 => ?_)
        · refine lv_iconst (v := 0) hx hb dX12_stops_214 (by decide) ?_
          exact W.zret (v := 0) hx hb hr narrow_b0 (fun t ht hW => ⟨⟨0, (), rfl, (show (0 : Int32) = 0 ∨ (0 : Int32) = 1 by decide), gp_end ht hP hD⟩, hS.F ht⟩) hS.2.2 dX12_stops_215
        · refine lv_iconst (v := 1) hx hb dX12_stops_210 (by decide) ?_
          refine lv_goto (tgt := 215) hx hb dX12_stops_211 (by decide) ?_
          exact W.zret (v := 1) hx hb hr narrow_b1 (fun t ht hW => ⟨⟨1, (), rfl, (show (1 : Int32) = 0 ∨ (1 : Int32) = 1 by decide), gp_end ht hP hD⟩, hS.F ht⟩) hS.2.2 dX12_stops_215
  · refine lv_iconst (v := 0) hx hb dX12_stops_119 (by decide) ?_
    exact W.zret (v := 0) hx hb hr narrow_b0 (fun t ht hW => ⟨⟨0, (), rfl, (show (0 : Int32) = 0 ∨ (0 : Int32) = 1 by decide), gp_end ht hP hD⟩, hS.F ht⟩) hS.2.2 dX12_stops_120

theorem lf_sX12_stopping_1 (ii : Int32) (h1 : sp_in ii 0 12) (c_1 : ¬ 12 ≤ ii) : sp_in ii 0 11 := by
  first | grind | (simp only [sp_in, sp_pl, sp_far, sp_two] at *; grind)
theorem lf_sX12_stopping_2 (ii : Int32) (h1 : sp_in ii 0 12) (c_1 : ¬ 12 ≤ ii) : sp_in (ii + 1) 0 12 := by
  first | grind | (simp only [sp_in, sp_pl, sp_far, sp_two] at *; grind)
theorem lf_sX12_stopping_3 (ii : Int32) (h1 : sp_in ii 0 12) (c_1 : ¬ 12 ≤ ii) : ii < 12 := by
  first | grind | (simp only [sp_in, sp_pl, sp_far, sp_two] at *; grind)
theorem lf_sX12_stopping_4 (ii : Int32) (h1 : sp_in ii 0 12) (c_1 : ¬ 12 ≤ ii) : sp_in ii 0 11 := by
  first | grind | (simp only [sp_in, sp_pl, sp_far, sp_two] at *; grind)
theorem lf_sX12_stopping_5 (ii : Int32) (h1 : sp_in ii 0 12) (c_1 : ¬ 12 ≤ ii) : sp_in (ii + 1) 0 12 := by
  first | grind | (simp only [sp_in, sp_pl, sp_far, sp_two] at *; grind)
theorem lf_sX12_stopping_6 (ii : Int32) (h1 : sp_in ii 0 12) (c_1 : ¬ 12 ≤ ii) : ii < 12 := by
  first | grind | (simp only [sp_in, sp_pl, sp_far, sp_two] at *; grind)
theorem lf_sX12_stopping_7 (ii : Int32) (h1 : sp_in ii 0 12) (c_1 : ¬ 12 ≤ ii) : sp_in (ii + 1) 0 12 := by
  first | grind | (simp only [sp_in, sp_pl, sp_far, sp_two] at *; grind)
theorem lf_sX12_stopping_8 (ii : Int32) (h1 : sp_in ii 0 12) (c_1 : ¬ 12 ≤ ii) : ii < 12 := by
  first | grind | (simp only [sp_in, sp_pl, sp_far, sp_two] at *; grind)
def v_sX12_stopping : List Cond := .code yX12_stopping cX12_stopping 7 (some .int) :: (([.fieldLink RX12 60 "GhostPaneModel" "isWall" "[Z", .code yX12_stops cX12_stops 33 (some .boolean), .constantLong RX12 108 2, .fieldLink RX12 63 "GhostPaneModel" "wallAx" "[I", .code yX12_wallY cX12_wallY 3 (some .long), .fieldLink RX12 75 "GhostPaneModel" "isPit" "[Z", .fieldLink RX12 46 "GhostPaneModel" "deep" "I", .fieldLink RX12 66 "GhostPaneModel" "wallAy" "[I", .fieldLink RX12 72 "GhostPaneModel" "wallBy" "[I", .methodLink RX12 149 yX12_wallY, .instanceMethod yX12_wallY, .selects RX12 yX12_wallY yX12_wallY, .initialized RX12, .fieldLink RX12 69 "GhostPaneModel" "wallBx" "[I", .fieldLink RX12 143 "GhostPaneModel" "meetX" "J", .fieldLink RX12 140 "GhostPaneModel" "meetBy" "J", .fieldLink RX12 146 "GhostPaneModel" "meetY" "J", .code yX12_sign cX12_sign 2 (some .int), .methodLink RX12 153 yX12_sign, .static yX12_sign, .code yX12_less cX12_less 4 (some .long), .methodLink RX12 157 yX12_less, .static yX12_less, .code yX12_more cX12_more 4 (some .long), .methodLink RX12 160 yX12_more, .static yX12_more, .methodLink RX12 163 yX12_stops, .instanceMethod yX12_stops, .selects RX12 yX12_stops yX12_stops] : List Cond) ++ wsX120)
set_option maxRecDepth 20000 in
theorem gg_sX12_stopping_sX12_stops : GoodIn v_sX12_stopping v_sX12_stops := goodIn_ca (goodIn_r (.code yX12_stops cX12_stops 33 (some .boolean) :: [.constantLong RX12 108 2, .fieldLink RX12 63 "GhostPaneModel" "wallAx" "[I", .code yX12_wallY cX12_wallY 3 (some .long), .fieldLink RX12 75 "GhostPaneModel" "isPit" "[Z", .fieldLink RX12 46 "GhostPaneModel" "deep" "I", .fieldLink RX12 66 "GhostPaneModel" "wallAy" "[I", .fieldLink RX12 72 "GhostPaneModel" "wallBy" "[I", .methodLink RX12 149 yX12_wallY, .instanceMethod yX12_wallY, .selects RX12 yX12_wallY yX12_wallY, .initialized RX12, .fieldLink RX12 69 "GhostPaneModel" "wallBx" "[I", .fieldLink RX12 143 "GhostPaneModel" "meetX" "J", .fieldLink RX12 140 "GhostPaneModel" "meetBy" "J", .fieldLink RX12 146 "GhostPaneModel" "meetY" "J", .code yX12_sign cX12_sign 2 (some .int), .methodLink RX12 153 yX12_sign, .static yX12_sign, .code yX12_less cX12_less 4 (some .long), .methodLink RX12 157 yX12_less, .static yX12_less, .code yX12_more cX12_more 4 (some .long), .methodLink RX12 160 yX12_more, .static yX12_more]) [2, 3, 4, 5, 6, 7, 8, 9, 10, 11, 12, 13, 14, 15, 16, 17, 18, 19, 20, 21, 22, 23, 24, 25, 26] (by first | rfl | decide +kernel) (by decide +kernel)) (goodIn_sub (fun _ h => List.mem_cons_of_mem _ (List.mem_append_right _ h)) gwX12)
set_option maxRecDepth 20000 in
theorem g_sX12_stopping_sX12_stops_0 : GoodIn v_sX12_stopping (wsV RX12 163 RX12 yX12_stops v_sX12_stops) := goodIn_app (goodIn_r [.methodLink RX12 163 yX12_stops, .instanceMethod yX12_stops, .selects RX12 yX12_stops yX12_stops, .initialized RX12] [27, 28, 29, 13] rfl (by decide +kernel)) gg_sX12_stopping_sX12_stops
set_option maxHeartbeats 4000000 in
set_option maxRecDepth 100000 in
theorem sX12_stopping (l : Launch) (D : va_G) (cy : Nat → ClassId) (sz : Nat) (ma : Nat → Nat) (m_ax : Int32) (m_ay : Int32) (m_bx : Int32) (m_by : Int32) (m_cx : Int32) (m_cy : Int32) (m_dx : Int32) (m_dy : Int32) (m_floor : Int32) (m_hand : Int32) (m_deep : Int32) (m_eyeX : Int64) (m_eyeY : Int64) (m_goalX : Int64) (m_goalY : Int64) (m_meetX : Int64) (m_meetY : Int64) (m_meetBy : Int64) (m_meetAlong : Int64) (m_taped : Int32) (m_at : Int32) (m_size : Int32) (m_ended : Int32) (m_bad : Int32) (m_badPlace : Int32) (m_fault : Int32) (m_faultPlace : Int32) (m_namePlace : Int32) (m_codes : Int32) (m_figures : Int32) (m_open : Int32) (m_last : Int32) (m_now : Int32) (m_from : Int32) (m_piled : Int32) (m_hasGrid : Int32) (m_gridN : Int32) (m_gridM : Int32) (m_gridX : Int32) (m_gridY : Int32) (m_gridDeep : Int32) (m_ownX : Int32) (m_ownY : Int32) (m_ownDeep : Int32) (m_joinMany : Int32) (m_acts : Int32) (r_isWall : Nat → Int32) (r_wallAx : Nat → Int32) (r_wallAy : Nat → Int32) (r_wallBx : Nat → Int32) (r_wallBy : Nat → Int32) (r_isPit : Nat → Int32) (x : Int64) (y : Int64) (f_m_ax : sp_in m_ax (-100) 100) (f_m_ay : sp_in m_ay (-100) 100) (f_m_bx : sp_in m_bx (-100) 100) (f_m_by : sp_in m_by (-100) 100) (f_m_cx : sp_in m_cx (-100) 100) (f_m_cy : sp_in m_cy (-100) 100) (f_m_dx : sp_in m_dx (-100) 100) (f_m_dy : sp_in m_dy (-100) 100) (f_m_floor : sp_in m_floor (-100) 100) (f_m_hand : sp_in m_hand 0 50) (f_m_deep : sp_in m_deep 0 60) (f_m_taped : sp_in m_taped 0 600) (f_m_at : sp_in m_at 0 600) (f_m_size : sp_in m_size 0 600) (f_m_codes : sp_in m_codes 0 399) (f_m_figures : sp_in m_figures 0 12) (f_m_open : sp_in m_open 0 6) (f_m_last : sp_in m_last 0 240) (f_m_joinMany : sp_in m_joinMany 0 1000) (f_m_acts : sp_in m_acts 0 100) (f_r_wallAx : ∀ i, sp_in (r_wallAx i) (-100) 100) (f_r_wallAy : ∀ i, sp_in (r_wallAy i) (-100) 100) (f_r_wallBx : ∀ i, sp_in (r_wallBx i) (-100) 100) (f_r_wallBy : ∀ i, sp_in (r_wallBy i) (-100) 100) : Met l yX12_stopping v_sX12_stopping ({ frames := 2, cells := 0, slots := 0, locals := 75 } : Room) (va_Pc [.ref (ma 200), .long x, .long y] (gp_B D cy sz [(o_m ma m_ax m_ay m_bx m_by m_cx m_cy m_dx m_dy m_floor m_hand m_deep m_eyeX m_eyeY m_goalX m_goalY m_meetX m_meetY m_meetBy m_meetAlong m_taped m_at m_size m_ended m_bad m_badPlace m_fault m_faultPlace m_namePlace m_codes m_figures m_open m_last m_now m_from m_piled m_hasGrid m_gridN m_gridM m_gridX m_gridY m_gridDeep m_ownX m_ownY m_ownDeep m_joinMany m_acts), (aI (ma 14) (cy 3) 12 r_isWall), (aI (ma 15) (cy 1) 12 r_wallAx), (aI (ma 16) (cy 1) 12 r_wallAy), (aI (ma 17) (cy 1) 12 r_wallBx), (aI (ma 18) (cy 1) 12 r_wallBy), (aI (ma 19) (cy 3) 12 r_isPit)])) (va_Qi (fun (r : Int32) (u : Unit) => True) (fun u => gp_E D (va_A [(o_m ma m_ax m_ay m_bx m_by m_cx m_cy m_dx m_dy m_floor m_hand m_deep m_eyeX m_eyeY m_goalX m_goalY m_meetX m_meetY m_meetBy m_meetAlong m_taped m_at m_size m_ended m_bad m_badPlace m_fault m_faultPlace m_namePlace m_codes m_figures m_open m_last m_now m_from m_piled m_hasGrid m_gridN m_gridM m_gridX m_gridY m_gridDeep m_ownX m_ownY m_ownDeep m_joinMany m_acts), (aI (ma 14) (cy 3) 12 r_isWall), (aI (ma 15) (cy 1) 12 r_wallAx), (aI (ma 16) (cy 1) 12 r_wallAy), (aI (ma 17) (cy 1) 12 r_wallBx), (aI (ma 18) (cy 1) 12 r_wallBy), (aI (ma 19) (cy 3) 12 r_isPit)] sz) [(o_m ma m_ax m_ay m_bx m_by m_cx m_cy m_dx m_dy m_floor m_hand m_deep m_eyeX m_eyeY m_goalX m_goalY m_meetX m_meetY m_meetBy m_meetAlong m_taped m_at m_size m_ended m_bad m_badPlace m_fault m_faultPlace m_namePlace m_codes m_figures m_open m_last m_now m_from m_piled m_hasGrid m_gridN m_gridM m_gridX m_gridY m_gridDeep m_ownX m_ownY m_ownDeep m_joinMany m_acts), (aI (ma 14) (cy 3) 12 r_isWall), (aI (ma 15) (cy 1) 12 r_wallAx), (aI (ma 16) (cy 1) 12 r_wallAy), (aI (ma 17) (cy 1) 12 r_wallBx), (aI (ma 18) (cy 1) 12 r_wallBy), (aI (ma 19) (cy 3) 12 r_isPit)]) (va_A [(o_m ma m_ax m_ay m_bx m_by m_cx m_cy m_dx m_dy m_floor m_hand m_deep m_eyeX m_eyeY m_goalX m_goalY m_meetX m_meetY m_meetBy m_meetAlong m_taped m_at m_size m_ended m_bad m_badPlace m_fault m_faultPlace m_namePlace m_codes m_figures m_open m_last m_now m_from m_piled m_hasGrid m_gridN m_gridM m_gridX m_gridY m_gridDeep m_ownX m_ownY m_ownDeep m_joinMany m_acts), (aI (ma 14) (cy 3) 12 r_isWall), (aI (ma 15) (cy 1) 12 r_wallAx), (aI (ma 16) (cy 1) 12 r_wallAy), (aI (ma 17) (cy 1) 12 r_wallBx), (aI (ma 18) (cy 1) 12 r_wallBy), (aI (ma 19) (cy 3) 12 r_isPit)] sz)) 0 0 (va_A [(o_m ma m_ax m_ay m_bx m_by m_cx m_cy m_dx m_dy m_floor m_hand m_deep m_eyeX m_eyeY m_goalX m_goalY m_meetX m_meetY m_meetBy m_meetAlong m_taped m_at m_size m_ended m_bad m_badPlace m_fault m_faultPlace m_namePlace m_codes m_figures m_open m_last m_now m_from m_piled m_hasGrid m_gridN m_gridM m_gridX m_gridY m_gridDeep m_ownX m_ownY m_ownDeep m_joinMany m_acts), (aI (ma 14) (cy 3) 12 r_isWall), (aI (ma 15) (cy 1) 12 r_wallAx), (aI (ma 16) (cy 1) 12 r_wallAy), (aI (ma 17) (cy 1) 12 r_wallBx), (aI (ma 18) (cy 1) 12 r_wallBy), (aI (ma 19) (cy 3) 12 r_isPit)] sz) := by
  refine gp_met (Qc := fun A => va_Qi (fun (r : Int32) (u : Unit) => True) (fun u => gp_E D A [(o_m ma m_ax m_ay m_bx m_by m_cx m_cy m_dx m_dy m_floor m_hand m_deep m_eyeX m_eyeY m_goalX m_goalY m_meetX m_meetY m_meetBy m_meetAlong m_taped m_at m_size m_ended m_bad m_badPlace m_fault m_faultPlace m_namePlace m_codes m_figures m_open m_last m_now m_from m_piled m_hasGrid m_gridN m_gridM m_gridX m_gridY m_gridDeep m_ownX m_ownY m_ownDeep m_joinMany m_acts), (aI (ma 14) (cy 3) 12 r_isWall), (aI (ma 15) (cy 1) 12 r_wallAx), (aI (ma 16) (cy 1) 12 r_wallAy), (aI (ma 17) (cy 1) 12 r_wallBx), (aI (ma 18) (cy 1) 12 r_wallBy), (aI (ma 19) (cy 3) 12 r_isPit)]) A) (cc := cX12_stopping) (maxL := 7) (ret := (some .int)) (by decide) rfl (Nat.le_of_ble_eq_true rfl) ?_
  intro p e s m below meth c A ls H hx hb hml hr hlocks hts hown hin hK hN hS hP hD hA hl
  have hown : s.vm.findClass RX12 = some m.cls := hown
  have hl : lv_has ls 7 [(0, .ref (ma 200)), (1, .long x), (3, .long y)] := hl
  have hiX12 : ∀ w ∈ u_ws RX12 TX12 104, w ∈ v_sX12_stopping := fun _ h => List.mem_cons_of_mem _ (List.mem_append_right _ h)
  refine lv_iconst (v := 0) hx hb dX12_stopping_0 (by decide) ?_
  refine lv_istore (lv' := [(5, .int 0), (0, .ref (ma 200)), (1, .long x), (3, .long y)]) hx hb dX12_stopping_1 hl (by decide) rfl (fun ls hl => ?_)
  refine lv_iconst (v := 0) hx hb dX12_stopping_3 (by decide) ?_
  refine lv_istore (lv' := [(6, .int 0), (5, .int 0), (0, .ref (ma 200)), (1, .long x), (3, .long y)]) hx hb dX12_stopping_4 hl (by decide) rfl (fun ls hl => ?_)
  have key6 : ∀ (fu : Nat) (ii : Int32) (bi : Int32) (H : Heap) (locs : List Loc) (ls : Array Slot), (h1 : sp_in ii 0 12) → (12 - ii.toInt).toNat < fu → va_P D vwCl [(o_m ma m_ax m_ay m_bx m_by m_cx m_cy m_dx m_dy m_floor m_hand m_deep m_eyeX m_eyeY m_goalX m_goalY m_meetX m_meetY m_meetBy m_meetAlong m_taped m_at m_size m_ended m_bad m_badPlace m_fault m_faultPlace m_namePlace m_codes m_figures m_open m_last m_now m_from m_piled m_hasGrid m_gridN m_gridM m_gridX m_gridY m_gridDeep m_ownX m_ownY m_ownDeep m_joinMany m_acts), (aI (ma 14) (cy 3) 12 r_isWall), (aI (ma 15) (cy 1) 12 r_wallAx), (aI (ma 16) (cy 1) 12 r_wallAy), (aI (ma 17) (cy 1) 12 r_wallBx), (aI (ma 18) (cy 1) 12 r_wallBy), (aI (ma 19) (cy 3) 12 r_isPit)] H → va_D A [(o_m ma m_ax m_ay m_bx m_by m_cx m_cy m_dx m_dy m_floor m_hand m_deep m_eyeX m_eyeY m_goalX m_goalY m_meetX m_meetY m_meetBy m_meetAlong m_taped m_at m_size m_ended m_bad m_badPlace m_fault m_faultPlace m_namePlace m_codes m_figures m_open m_last m_now m_from m_piled m_hasGrid m_gridN m_gridM m_gridX m_gridY m_gridDeep m_ownX m_ownY m_ownDeep m_joinMany m_acts), (aI (ma 14) (cy 3) 12 r_isWall), (aI (ma 15) (cy 1) 12 r_wallAx), (aI (ma 16) (cy 1) 12 r_wallAy), (aI (ma 17) (cy 1) 12 r_wallBx), (aI (ma 18) (cy 1) 12 r_wallBy), (aI (ma 19) (cy 3) 12 r_isPit)] → va_S A s.heap H locs → lv_has ls 7 [(6, .int ii), (5, .int bi), (0, .ref (ma 200)), (1, .long x), (3, .long y)] → W p l e (headSpec v_sX12_stopping (({ frames := 2, cells := 0, slots := 0, locals := 75 } : Room))).room s m [.ref (ma 200), .long x, .long y].toArray below meth c H locs 0 0 (MQ below (va_Qi (fun (r : Int32) (u : Unit) => True) (fun u => gp_E D A [(o_m ma m_ax m_ay m_bx m_by m_cx m_cy m_dx m_dy m_floor m_hand m_deep m_eyeX m_eyeY m_goalX m_goalY m_meetX m_meetY m_meetBy m_meetAlong m_taped m_at m_size m_ended m_bad m_badPlace m_fault m_faultPlace m_namePlace m_codes m_figures m_open m_last m_now m_from m_piled m_hasGrid m_gridN m_gridM m_gridX m_gridY m_gridDeep m_ownX m_ownY m_ownDeep m_joinMany m_acts), (aI (ma 14) (cy 3) 12 r_isWall), (aI (ma 15) (cy 1) 12 r_wallAx), (aI (ma 16) (cy 1) 12 r_wallAy), (aI (ma 17) (cy 1) 12 r_wallBx), (aI (ma 18) (cy 1) 12 r_wallBy), (aI (ma 19) (cy 3) 12 r_isPit)]) A) [.ref (ma 200), .long x, .long y].toArray s 0 0 A) (F0 m 6 ls []) := by
    intro fu
    induction fu with
    | zero => intro ii bi H locs ls h1 hfu; exact absurd hfu (Nat.not_lt_zero _)
    | succ fu ih =>
      intro ii bi H locs ls h1 hfu hP hD hS hl
      refine lv_iload hx hb dX12_stopping_6 (lv_at hl 0 rfl) ?_
      refine lv_bipush (v := 12) hx hb dX12_stopping_8 (by decide) ?_
      refine lv_icmp_ge (tgt := 49) hx hb dX12_stopping_10 (by decide) (fun c_1 => ?_) (fun c_1 => ?_)
      · refine lv_iload hx hb dX12_stopping_49 (lv_at hl 1 rfl) ?_
        exact W.iret (v := bi) hx hb hr (fun t ht hW => ⟨⟨bi, (), rfl, trivial, gp_end ht hP hD⟩, hS.F ht⟩) hS.2.2 dX12_stopping_51
      · refine lv_aload_n hx hb dX12_stopping_13 rfl (lv_at hl 2 rfl) ?_
        refine va_get (D := D) (ci := 12) (v := .ref (ma 14)) (C := RX12) (T := TX12) (N := 104) hx hb hts hiX12 hown hK hP 0 rfl rfl 14 (by decide) (hts (.fieldLink RX12 60 "GhostPaneModel" "isWall" "[Z") (List.mem_of_getElem? (i := 1) rfl)) (fun _ h9 => h9) rfl dX12_stopping_14 ?_
        refine lv_iload hx hb dX12_stopping_17 (lv_at hl 0 rfl) ?_
        refine va_zald hx hb hK hP 1 3 rfl rfl (gp_in (hi := 11) (lf_sX12_stopping_1 ii h1 c_1) (by decide)) dX12_stopping_19 ?_
        refine gp_fi (fun y_2 => ?_)
        refine lv_if_eq (tgt := 43) hx hb dX12_stopping_20 (by decide) (fun c_3 => ?_) (fun c_3 => ?_)
        · refine lv_iinc (v := (ii + 1)) (lv' := [(6, .int (ii + 1)), (5, .int bi), (0, .ref (ma 200)), (1, .long x), (3, .long y)]) hx hb dX12_stopping_43 hl (k := 0) rfl rfl (by decide) rfl (fun ls hl => ?_)
          refine lv_goto (tgt := 6) hx hb dX12_stopping_46 (by decide) ?_
          exact ih (ii + 1) bi H locs ls (lf_sX12_stopping_2 ii h1 c_1) (Nat.lt_of_lt_of_le (gp_mdec (b := 12) (lf_sX12_stopping_3 ii h1 c_1)) (Nat.le_of_lt_succ hfu)) hP hD hS (lv_sub hl [0, 1, 2, 3, 4] rfl)
        · refine lv_aload_n hx hb dX12_stopping_23 rfl (lv_at hl 2 rfl) ?_
          refine lv_iload hx hb dX12_stopping_24 (lv_at hl 0 rfl) ?_
          refine lv_lload_n hx hb dX12_stopping_26 rfl (lv_at hl 3 rfl) ?_
          refine lv_lload_n hx hb dX12_stopping_27 rfl (lv_at hl 4 rfl) ?_
          have hPc := hP.sub (ws' := [(o_m ma m_ax m_ay m_bx m_by m_cx m_cy m_dx m_dy m_floor m_hand m_deep m_eyeX m_eyeY m_goalX m_goalY m_meetX m_meetY m_meetBy m_meetAlong m_taped m_at m_size m_ended m_bad m_badPlace m_fault m_faultPlace m_namePlace m_codes m_figures m_open m_last m_now m_from m_piled m_hasGrid m_gridN m_gridM m_gridX m_gridY m_gridDeep m_ownX m_ownY m_ownDeep m_joinMany m_acts), (aI (ma 15) (cy 1) 12 r_wallAx), (aI (ma 16) (cy 1) 12 r_wallAy), (aI (ma 17) (cy 1) 12 r_wallBx), (aI (ma 18) (cy 1) 12 r_wallBy), (aI (ma 19) (cy 3) 12 r_isPit)]) [0, 2, 3, 4, 5, 6] rfl
          have hDc := hD.sub (ws' := [(o_m ma m_ax m_ay m_bx m_by m_cx m_cy m_dx m_dy m_floor m_hand m_deep m_eyeX m_eyeY m_goalX m_goalY m_meetX m_meetY m_meetBy m_meetAlong m_taped m_at m_size m_ended m_bad m_badPlace m_fault m_faultPlace m_namePlace m_codes m_figures m_open m_last m_now m_from m_piled m_hasGrid m_gridN m_gridM m_gridX m_gridY m_gridDeep m_ownX m_ownY m_ownDeep m_joinMany m_acts), (aI (ma 15) (cy 1) 12 r_wallAx), (aI (ma 16) (cy 1) 12 r_wallAy), (aI (ma 17) (cy 1) 12 r_wallBx), (aI (ma 18) (cy 1) 12 r_wallBy), (aI (ma 19) (cy 3) 12 r_isPit)]) [0, 2, 3, 4, 5, 6] (by decide) rfl
          have hFc := va_free (wc := [(o_m ma m_ax m_ay m_bx m_by m_cx m_cy m_dx m_dy m_floor m_hand m_deep m_eyeX m_eyeY m_goalX m_goalY m_meetX m_meetY m_meetBy m_meetAlong m_taped m_at m_size m_ended m_bad m_badPlace m_fault m_faultPlace m_namePlace m_codes m_figures m_open m_last m_now m_from m_piled m_hasGrid m_gridN m_gridM m_gridX m_gridY m_gridDeep m_ownX m_ownY m_ownDeep m_joinMany m_acts), (aI (ma 15) (cy 1) 12 r_wallAx), (aI (ma 16) (cy 1) 12 r_wallAy), (aI (ma 17) (cy 1) 12 r_wallBx), (aI (ma 18) (cy 1) 12 r_wallBy), (aI (ma 19) (cy 3) 12 r_isPit)]) hD hS hA [0, 2, 3, 4, 5, 6] rfl
          refine va_calli (va_runV (As := [.int ii, .long x, .long y]) (rest := []) ⟨hx, hb, hml, hown, hts⟩ (sX12_stops l D cy H.size ma m_ax m_ay m_bx m_by m_cx m_cy m_dx m_dy m_floor m_hand m_deep m_eyeX m_eyeY m_goalX m_goalY m_meetX m_meetY m_meetBy m_meetAlong m_taped m_at m_size m_ended m_bad m_badPlace m_fault m_faultPlace m_namePlace m_codes m_figures m_open m_last m_now m_from m_piled m_hasGrid m_gridN m_gridM m_gridX m_gridY m_gridDeep m_ownX m_ownY m_ownDeep m_joinMany m_acts r_wallAx r_wallAy r_wallBx r_wallBy r_isPit ii x y f_m_ax f_m_ay f_m_bx f_m_by f_m_cx f_m_cy f_m_dx f_m_dy f_m_floor f_m_hand f_m_deep f_m_taped f_m_at f_m_size f_m_codes f_m_figures f_m_open f_m_last f_m_joinMany f_m_acts f_r_wallAx f_r_wallAy f_r_wallBx f_r_wallBy (lf_sX12_stopping_4 ii h1 c_1)) (cwV 3 hts g_sX12_stopping_sX12_stops_0 rfl rfl rfl (by decide +kernel) ⟨Nat.le_of_ble_eq_true rfl, Nat.le_of_ble_eq_true rfl⟩) (gp_preV (RX12, TX12, 104) 12 0 hPc hDc hK hN rfl rfl) rfl rfl hl.1 rfl (lv_room (Nat.le_of_ble_eq_true rfl)) dX12_stopping_28 ⟨Nat.le_of_ble_eq_true rfl, Nat.le_of_ble_eq_true rfl⟩) hS (fun q _ h => hFc q h) hFc (fun r_4 u t H locs ht hvm hw hB hz1 hk1 hS => ?_)
          have hP := gp_joinU (wc := [(o_m ma m_ax m_ay m_bx m_by m_cx m_cy m_dx m_dy m_floor m_hand m_deep m_eyeX m_eyeY m_goalX m_goalY m_meetX m_meetY m_meetBy m_meetAlong m_taped m_at m_size m_ended m_bad m_badPlace m_fault m_faultPlace m_namePlace m_codes m_figures m_open m_last m_now m_from m_piled m_hasGrid m_gridN m_gridM m_gridX m_gridY m_gridDeep m_ownX m_ownY m_ownDeep m_joinMany m_acts), (aI (ma 15) (cy 1) 12 r_wallAx), (aI (ma 16) (cy 1) 12 r_wallAy), (aI (ma 17) (cy 1) 12 r_wallBx), (aI (ma 18) (cy 1) 12 r_wallBy), (aI (ma 19) (cy 3) 12 r_isPit)]) hP hD [0, 2, 3, 4, 5, 6] rfl hk1 ht hB
          have w_5 := hw
          refine lv_if_eq (tgt := 43) hx hb dX12_stopping_31 (by decide) (fun c_6 => ?_) (fun c_6 => ?_)
          · refine lv_iinc (v := (ii + 1)) (lv' := [(6, .int (ii + 1)), (5, .int bi), (0, .ref (ma 200)), (1, .long x), (3, .long y)]) hx hb dX12_stopping_43 hl (k := 0) rfl rfl (by decide) rfl (fun ls hl => ?_)
            refine lv_goto (tgt := 6) hx hb dX12_stopping_46 (by decide) ?_
            exact ih (ii + 1) bi H locs ls (lf_sX12_stopping_5 ii h1 c_1) (Nat.lt_of_lt_of_le (gp_mdec (b := 12) (lf_sX12_stopping_6 ii h1 c_1)) (Nat.le_of_lt_succ hfu)) hP hD hS (lv_sub hl [0, 1, 2, 3, 4] rfl)
          · refine lv_iload hx hb dX12_stopping_34 (lv_at hl 1 rfl) ?_
            refine lv_iconst (v := 1) hx hb dX12_stopping_36 (by decide) ?_
            refine lv_iload hx hb dX12_stopping_37 (lv_at hl 0 rfl) ?_
            refine lv_ishl hx hb dX12_stopping_39 ?_
            refine gp_fi (fun y_7 => ?_)
            refine lv_ior hx hb dX12_stopping_40 ?_
            refine gp_fi (fun y_8 => ?_)
            refine lv_istore (lv' := [(5, .int y_8), (6, .int ii), (0, .ref (ma 200)), (1, .long x), (3, .long y)]) hx hb dX12_stopping_41 hl (by decide) rfl (fun ls hl => ?_)
            refine lv_iinc (v := (ii + 1)) (lv' := [(6, .int (ii + 1)), (5, .int y_8), (0, .ref (ma 200)), (1, .long x), (3, .long y)]) hx hb dX12_stopping_43 hl (k := 1) rfl rfl (by decide) rfl (fun ls hl => ?_)
            refine lv_goto (tgt := 6) hx hb dX12_stopping_46 (by decide) ?_
            exact ih (ii + 1) y_8 H locs ls (lf_sX12_stopping_7 ii h1 c_1) (Nat.lt_of_lt_of_le (gp_mdec (b := 12) (lf_sX12_stopping_8 ii h1 c_1)) (Nat.le_of_lt_succ hfu)) hP hD hS (lv_sub hl [0, 1, 2, 3, 4] rfl)
  exact key6 ((12 - (0 : Int32).toInt).toNat + 1) 0 0 H [] ls (show sp_in 0 0 12 by decide) (Nat.lt_succ_self _) hP hD hS (lv_sub hl [0, 1, 2, 3, 4] rfl)
