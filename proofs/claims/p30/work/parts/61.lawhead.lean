/-! THE CLAIM OUT OF ONE WALK OF THE LAW'S BODY. Your part is whole_start (and what it stands on); all else here is the same for every law, but numbers. -/
def R_law : String := "GhostPaneLaw"
def lw_P (b : Addr) (xs : List Int32) (args : Array Value) (s : State) : Prop := args = #[.ref b] ∧ s.IntsAt b xs ∧ xs.length ≤ 3584 ∧ (Jvm.Cond.and given_1 narrow_1).before args s = true
def lw_Q (_ : Array Value) (s : State) (o : Outcome) (t : State) : Prop := o = .returned (some (.int 1)) ∧ Framed s o t [] 600000 7302250
def lw_Z (below : List Frame) (a : Array Value) (s : State) : State → Prop := fun t => ∃ o, t.status = .running ∧ Ended t below o ∧ lw_Q a s o t
/-- the law's own end, with 1 on the stack, nothing written that was there before, its room as the claim has it -/
theorem lw_ret {p : Program} {l : Launch} {e : Env} {s : State} {m : MethodId} {below : List Frame} {meth : Method} {c : Code} {b : Nat} (hx : p.tables.exec = Jvm.exec) (hb : c.code = code) (hr : meth.sig.returnType = ret) (hlocks : meth.locks = false) {pc : Nat} {H : Heap} {ls : Array Slot} (hdg : decode code pc = .ok (.ireturn, 1)) : W p l e room_1 s m #[Value.ref b] below meth c H [] 600000 7302250 (lw_Z below #[Value.ref b] s) (F0 m pc ls [.int 1]) := by
  intro T hT X
  obtain ⟨fs, hret, hrun, hended, hW, hframe⟩ := X.leave (v := some (.int 1)) (hlocks := hlocks) (fun h => by rw [hr] at h; cases h)
  have hmeth' : T.vm.method? m = some meth := X.method'
  refine ⟨T.setFrames fs, ?_, .returned (some (.int 1)), hrun, hended, rfl, ⟨_, rfl⟩, hW, hframe⟩
  jvm_step X.here [X.here.top, hx, hb, hdg, hmeth', hr, ret, narrow_b1]
  (try refine ⟨rfl, ?_⟩); (try refine ⟨rfl, ?_⟩)
  first | (intro acts; rw [hret _ acts rfl rfl rfl]) | rw [hret _ _ rfl rfl rfl]
  exact Steps.refl _
/-- what holds at the law's entry: the machine, the code, the tables' words (any of lw_tbl by 'hts w (by decide +kernel)'), the script of L ints xs at the cell b, what the Statement gives of the start (any of its parts by flat_of_before) -/
def lw_At (p : Program) (s : State) (m : MethodId) (meth : Method) (c : Code) (b L : Nat) (xs : Nat → Int32) : Prop :=
  p.tables.exec = Jvm.exec ∧ c.code = code ∧ meth.sig.returnType = ret ∧ c.maxLocals = 4 ∧ s.vm.findClass R_law = some m.cls ∧ (∀ w ∈ lw_tbl, w.before #[Value.ref b] s = true) ∧ va_X b L xs s s.heap ∧ b < s.heap.size ∧ meth.locks = false ∧ (Jvm.Cond.and given_1 narrow_1).before #[Value.ref b] s = true
theorem gp_sw0_32 {x : Int32} (h0 : ¬ x = 0) (h1 : ¬ x = 1) (h2 : ¬ x = 2) (h3 : ¬ x = 3) (h4 : ¬ x = 4) (h5 : ¬ x = 5) (h6 : ¬ x = 6) (h7 : ¬ x = 7) (h8 : ¬ x = 8) (h9 : ¬ x = 9) (h10 : ¬ x = 10) (h11 : ¬ x = 11) (h12 : ¬ x = 12) (h13 : ¬ x = 13) (h14 : ¬ x = 14) (h15 : ¬ x = 15) (h16 : ¬ x = 16) (h17 : ¬ x = 17) (h18 : ¬ x = 18) (h19 : ¬ x = 19) (h20 : ¬ x = 20) (h21 : ¬ x = 21) (h22 : ¬ x = 22) (h23 : ¬ x = 23) (h24 : ¬ x = 24) (h25 : ¬ x = 25) (h26 : ¬ x = 26) (h27 : ¬ x = 27) (h28 : ¬ x = 28) (h29 : ¬ x = 29) (h30 : ¬ x = 30) (h31 : ¬ x = 31) (h32 : ¬ x = 32) : x.toInt < 0 ∨ 32 < x.toInt := by
  have a0 := lv_neT h0 (a := 0) (by decide)
  have a1 := lv_neT h1 (a := 1) (by decide)
  have a2 := lv_neT h2 (a := 2) (by decide)
  have a3 := lv_neT h3 (a := 3) (by decide)
  have a4 := lv_neT h4 (a := 4) (by decide)
  have a5 := lv_neT h5 (a := 5) (by decide)
  have a6 := lv_neT h6 (a := 6) (by decide)
  have a7 := lv_neT h7 (a := 7) (by decide)
  have a8 := lv_neT h8 (a := 8) (by decide)
  have a9 := lv_neT h9 (a := 9) (by decide)
  have a10 := lv_neT h10 (a := 10) (by decide)
  have a11 := lv_neT h11 (a := 11) (by decide)
  have a12 := lv_neT h12 (a := 12) (by decide)
  have a13 := lv_neT h13 (a := 13) (by decide)
  have a14 := lv_neT h14 (a := 14) (by decide)
  have a15 := lv_neT h15 (a := 15) (by decide)
  have a16 := lv_neT h16 (a := 16) (by decide)
  have a17 := lv_neT h17 (a := 17) (by decide)
  have a18 := lv_neT h18 (a := 18) (by decide)
  have a19 := lv_neT h19 (a := 19) (by decide)
  have a20 := lv_neT h20 (a := 20) (by decide)
  have a21 := lv_neT h21 (a := 21) (by decide)
  have a22 := lv_neT h22 (a := 22) (by decide)
  have a23 := lv_neT h23 (a := 23) (by decide)
  have a24 := lv_neT h24 (a := 24) (by decide)
  have a25 := lv_neT h25 (a := 25) (by decide)
  have a26 := lv_neT h26 (a := 26) (by decide)
  have a27 := lv_neT h27 (a := 27) (by decide)
  have a28 := lv_neT h28 (a := 28) (by decide)
  have a29 := lv_neT h29 (a := 29) (by decide)
  have a30 := lv_neT h30 (a := 30) (by decide)
  have a31 := lv_neT h31 (a := 31) (by decide)
  have a32 := lv_neT h32 (a := 32) (by decide)
  omega
theorem gp_swP {D : va_G} {X Y : va_W} {H : Heap} (h : va_P D vwCl (X ++ Y) H) : va_P D vwCl (Y ++ X) H := by
  intro k q hq
  rcases List.mem_append.mp (List.mem_of_getElem? hq) with hm | hm
  · obtain ⟨i, hi⟩ := List.getElem?_of_mem (List.mem_append_right X hm)
    exact h i q hi
  · obtain ⟨i, hi⟩ := List.getElem?_of_mem (List.mem_append_left Y hm)
    exact h i q hi
theorem gp_swD {A : Nat → Prop} {X Y : va_W} (h : va_D A (X ++ Y)) : va_D A (Y ++ X) := by
  refine ⟨fun i j p q hi hj he => ?_, fun k q hq => ?_⟩
  · have loc : ∀ (k : Nat) (z : Nat × va_E), (Y ++ X)[k]? = some z → (X ++ Y)[if k < Y.length then X.length + k else k - Y.length]? = some z ∧ k < Y.length + X.length := by
      intro k z hz
      have hk := (List.getElem?_eq_some_iff.mp hz).1
      rw [List.length_append] at hk
      by_cases h1 : k < Y.length
      · rw [if_pos h1, List.getElem?_append_right (by omega)]
        rw [List.getElem?_append_left h1] at hz
        exact ⟨by rw [Nat.add_sub_cancel_left]; exact hz, hk⟩
      · rw [if_neg h1, List.getElem?_append_left (by omega)]
        rw [List.getElem?_append_right (by omega)] at hz
        exact ⟨hz, hk⟩
    obtain ⟨a1, a2⟩ := loc i p hi
    obtain ⟨b1, b2⟩ := loc j q hj
    have := h.1 _ _ p q a1 b1 he
    split at this <;> split at this <;> omega
  · rcases List.mem_append.mp (List.mem_of_getElem? hq) with hm | hm
    · obtain ⟨i, hi⟩ := List.getElem?_of_mem (List.mem_append_right X hm)
      exact h.2 i q hi
    · obtain ⟨i, hi⟩ := List.getElem?_of_mem (List.mem_append_left Y hm)
      exact h.2 i q hi
theorem gp_cbca {n sx sy m0 sd ax ay bx b2 dp : Int32} (h : sp_pl ax ay) : gp_cb n sx sy m0 sd ax ay bx b2 dp ↔ (0 < n ∧ 0 < m0 ∧ gp_ca n sx sy m0 sd ax ay bx b2 dp) := by
  unfold gp_cb gp_ca
  constructor
  · rintro ⟨h1, h2, h3, h4⟩
    refine ⟨h2, h3, fun i a b => ?_, h4⟩
    obtain ⟨_, g2, g3⟩ := h1 i a b
    refine ⟨g2, fun z => ?_⟩
    rcases g3 with g | g
    · exact g z.1.symm
    · exact g z.2.symm
  · rintro ⟨h2, h3, h1, h4⟩
    refine ⟨fun i a b => ?_, h2, h3, h4⟩
    obtain ⟨g2, g3⟩ := h1 i a b
    refine ⟨h, g2, ?_⟩
    by_cases e : ax = bx + i * sx
    · exact Or.inr fun z => g3 ⟨e.symm, z.symm⟩
    · exact Or.inl e
theorem gp_tk {n sx sy m0 sd ax ay bx b2 dp k : Int32} (hn : sp_in n 1 6) (hm : sp_in m0 1 6) (hsd : sp_in sd 0 20) (hdp : sp_in dp 0 60) (h0 : 0 ≤ k) (hk : k < n * m0) (hc : gp_ca n sx sy m0 sd ax ay bx b2 dp) : sp_pl (bx + k / m0 * sx) (b2 + k / m0 * sy) ∧ ¬ (bx + k / m0 * sx = ax ∧ b2 + k / m0 * sy = ay) ∧ dp + k % m0 * sd ≤ 60 := by
  obtain ⟨e1, e2⟩ := gp_dv h0 hm
  obtain ⟨n1, n2⟩ := gp_inT hn
  obtain ⟨g1, g2⟩ := gp_inT hm
  obtain ⟨s1, s2⟩ := gp_inT hsd
  obtain ⟨d1, d2⟩ := gp_inT hdp
  have k1 := Int32.le_iff_toInt_le.mp h0
  have k2 := Int32.lt_iff_toInt_lt.mp hk
  have c0 : (0 : Int32).toInt = 0 := by decide
  have c1 : (1 : Int32).toInt = 1 := by decide
  have c6 : (6 : Int32).toInt = 6 := by decide
  have c20 : (20 : Int32).toInt = 20 := by decide
  have c60 : (60 : Int32).toInt = 60 := by decide
  obtain ⟨p1, p2, p3⟩ := gp_prI (a := n) (b := m0) (A := 6) (B := 6) (by omega) (by omega) (by omega) (by omega) (by decide)
  rw [p1] at k2
  have l1 : 0 ≤ k.toInt / m0.toInt := Int.ediv_nonneg (by omega) (by omega)
  have l2 : k.toInt / m0.toInt < n.toInt := Int.ediv_lt_of_lt_mul (by omega) k2
  have i0 : 0 ≤ k / m0 := Int32.le_iff_toInt_le.mpr (by omega)
  have i1 : k / m0 < n := Int32.lt_iff_toInt_lt.mpr (by omega)
  obtain ⟨h1, h2⟩ := hc
  refine ⟨(h1 _ i0 i1).1, (h1 _ i0 i1).2, ?_⟩
  have r1 := Int.emod_nonneg k.toInt (show m0.toInt ≠ 0 by omega)
  have r2 := Int.emod_lt_of_pos k.toInt (show 0 < m0.toInt by omega)
  have em : (m0 - 1).toInt = m0.toInt - 1 := by
    rw [Int32.toInt_sub, c1]
    exact gp_bm3 (by omega) (by omega)
  obtain ⟨q1, q2, q3⟩ := gp_prI (a := m0 - 1) (b := sd) (A := 5) (B := 20) (by omega) (by omega) (by omega) (by omega) (by decide)
  obtain ⟨w1, w2, w3⟩ := gp_prI (a := k % m0) (b := sd) (A := 5) (B := 20) (by omega) (by omega) (by omega) (by omega) (by decide)
  rw [em] at q1 q2 q3
  rw [e2] at w1 w2 w3
  have mono : k.toInt % m0.toInt * sd.toInt ≤ (m0.toInt - 1) * sd.toInt := Int.mul_le_mul_of_nonneg_right (by omega) (by omega)
  have a1 : (dp + (m0 - 1) * sd).toInt = dp.toInt + (m0.toInt - 1) * sd.toInt := by
    rw [Int32.toInt_add, q1]
    exact gp_bm3 (by omega) (by omega)
  have a2 : (dp + k % m0 * sd).toInt = dp.toInt + k.toInt % m0.toInt * sd.toInt := by
    rw [Int32.toInt_add, w1]
    exact gp_bm3 (by omega) (by omega)
  have h3 := Int32.le_iff_toInt_le.mp h2
  exact Int32.le_iff_toInt_le.mpr (by omega)
theorem gp_clne {i j : Int32} (hi : 0 ≤ i) (hj : 0 ≤ j) (h : ¬ i = j) : i.toNatClampNeg ≠ j.toNatClampNeg := by
  intro z
  have a := gp_nT hi
  have b := gp_nT hj
  exact h (Int32.toInt_inj.mp (by omega))
theorem gp_rpT {tg sw : Nat → Int32} {a v : Int32} (ha : sp_in a 0 99) (h : ∀ i : Int32, 1 ≤ i → i ≤ a → (tg i.toNatClampNeg = 0 ↔ ¬ sw i.toNatClampNeg = -1)) (hv : ¬ v = -1) : ∀ i : Int32, 1 ≤ i → i ≤ a + 1 → (upd tg (a + 1).toNatClampNeg 0 i.toNatClampNeg = 0 ↔ ¬ upd sw (a + 1).toNatClampNeg v i.toNatClampNeg = -1) := by
  intro i h1 h2
  by_cases e : i = a + 1
  · subst e; simp only [gp_updE]; simp [hv]
  · have ne := gp_clne (i := i) (j := a + 1) (by grind) (by grind) e
    simp only [gp_updN ne]
    exact h i h1 (by grind)
theorem gp_rpV {vo va : Nat → Int32} {a : Int32} (ha : sp_in a 0 99) (h : ∀ i : Int32, 1 ≤ i → i ≤ a → (vo i.toNatClampNeg = 0 ↔ va i.toNatClampNeg = 0)) (hz : ∀ i : Int32, a < i → i ≤ 100 → vo i.toNatClampNeg = 0) : ∀ i : Int32, 1 ≤ i → i ≤ a + 1 → (vo i.toNatClampNeg = 0 ↔ upd va (a + 1).toNatClampNeg 0 i.toNatClampNeg = 0) := by
  intro i h1 h2
  by_cases e : i = a + 1
  · subst e; simp only [gp_updE]; exact ⟨fun _ => trivial, fun _ => hz _ (by grind) (by grind)⟩
  · have ne := gp_clne (i := i) (j := a + 1) (by grind) (by grind) e
    simp only [gp_updN ne]
    exact h i h1 (by grind)
theorem gp_vdT {tg sw : Nat → Int32} {a k : Int32} (ha : sp_in a 0 99) (hk : sp_in k 1 100) (h : ∀ i : Int32, 1 ≤ i → i ≤ a → (tg i.toNatClampNeg = 0 ↔ ¬ sw i.toNatClampNeg = -1)) : ∀ i : Int32, 1 ≤ i → i ≤ a + 1 → (upd tg (a + 1).toNatClampNeg k i.toNatClampNeg = 0 ↔ ¬ upd sw (a + 1).toNatClampNeg (-1) i.toNatClampNeg = -1) := by
  intro i h1 h2
  by_cases e : i = a + 1
  · subst e; simp only [gp_updE]; have hk0 : ¬ k = 0 := by grind
    simp [hk0]
  · have ne := gp_clne (i := i) (j := a + 1) (by grind) (by grind) e
    simp only [gp_updN ne]
    exact h i h1 (by grind)
theorem gp_vdV {vo va : Nat → Int32} {a k : Int32} (ha : sp_in a 0 99) (hk : sp_in k 1 a) (h : ∀ i : Int32, 1 ≤ i → i ≤ a → (vo i.toNatClampNeg = 0 ↔ va i.toNatClampNeg = 0)) (hz : ∀ i : Int32, a < i → i ≤ 100 → vo i.toNatClampNeg = 0) : ∀ i : Int32, 1 ≤ i → i ≤ a + 1 → (upd vo k.toNatClampNeg 1 i.toNatClampNeg = 0 ↔ upd (upd va (a + 1).toNatClampNeg 0) k.toNatClampNeg (a + 1) i.toNatClampNeg = 0) := by
  intro i h1 h2
  by_cases ek : i = k
  · subst ek; simp only [gp_updE]; exact ⟨fun z => absurd z (by decide), fun z => absurd z (by grind)⟩
  · have nk := gp_clne (i := i) (j := k) (by grind) (by grind) ek
    simp only [gp_updN nk]
    by_cases e : i = a + 1
    · subst e; simp only [gp_updE]; exact ⟨fun _ => trivial, fun _ => hz _ (by grind) (by grind)⟩
    · have ne := gp_clne (i := i) (j := a + 1) (by grind) (by grind) e
      simp only [gp_updN ne]
      exact h i h1 (by grind)
theorem gp_vdZ {vo : Nat → Int32} {a k : Int32} (ha : sp_in a 0 99) (hk : sp_in k 1 a) (hz : ∀ i : Int32, a < i → i ≤ 100 → vo i.toNatClampNeg = 0) : ∀ i : Int32, a + 1 < i → i ≤ 100 → upd vo k.toNatClampNeg 1 i.toNatClampNeg = 0 := by
  intro i h1 h2
  have nk := gp_clne (i := i) (j := k) (by grind) (by grind) (by grind)
  rw [gp_updN nk]
  exact hz i (by grind) h2
theorem gp_rpZ {vo : Nat → Int32} {a : Int32} (ha : sp_in a 0 99) (hz : ∀ i : Int32, a < i → i ≤ 100 → vo i.toNatClampNeg = 0) : ∀ i : Int32, a + 1 < i → i ≤ 100 → vo i.toNatClampNeg = 0 := fun i h1 h2 => hz i (by grind) h2
theorem gp_gridR {n sx sy m0 sd ax ay bx b2 dp r1 r2 gn gx gy gm gd mh mn mx my mm md : Int32} (hpl : sp_pl ax ay)
    (P1 : ((sp_in n 1 6 ∧ sp_in sx (-20) 20 ∧ sp_in sy (-20) 20 ∧ sp_in m0 1 6 ∧ sp_in sd 0 20 ∧ gp_cb n sx sy m0 sd ax ay bx b2 dp) ∧ r1 = n * m0 ∧ gn = n ∧ gx = sx ∧ gy = sy ∧ gm = m0 ∧ gd = sd) ∨ (¬ (sp_in n 1 6 ∧ sp_in sx (-20) 20 ∧ sp_in sy (-20) 20 ∧ sp_in m0 1 6 ∧ sp_in sd 0 20 ∧ gp_cb n sx sy m0 sd ax ay bx b2 dp) ∧ r1 = (-1) ∧ gn = 0 ∧ gm = 0))
    (P2 : ((sp_in n 1 6 ∧ sp_in sx (-20) 20 ∧ sp_in sy (-20) 20 ∧ sp_in m0 1 6 ∧ sp_in sd 0 20 ∧ gp_ca n sx sy m0 sd ax ay bx b2 dp) ∧ r2 = n * m0 ∧ mh = 1 ∧ mn = n ∧ mx = sx ∧ my = sy ∧ mm = m0 ∧ md = sd) ∨ (¬ (sp_in n 1 6 ∧ sp_in sx (-20) 20 ∧ sp_in sy (-20) 20 ∧ sp_in m0 1 6 ∧ sp_in sd 0 20 ∧ gp_ca n sx sy m0 sd ax ay bx b2 dp) ∧ r2 = (-1) ∧ mh = 0)) : r1 = r2 ∧ ((mh = 0 ∧ gn = 0 ∧ gm = 0) ∨ (mh = 1 ∧ gn = mn ∧ gx = mx ∧ gy = my ∧ gm = mm ∧ gd = md)) := by
  have e := gp_cbca (n := n) (sx := sx) (sy := sy) (m0 := m0) (sd := sd) (bx := bx) (b2 := b2) (dp := dp) hpl
  have e2 : (sp_in n 1 6 ∧ sp_in sx (-20) 20 ∧ sp_in sy (-20) 20 ∧ sp_in m0 1 6 ∧ sp_in sd 0 20 ∧ gp_cb n sx sy m0 sd ax ay bx b2 dp) ↔ (sp_in n 1 6 ∧ sp_in sx (-20) 20 ∧ sp_in sy (-20) 20 ∧ sp_in m0 1 6 ∧ sp_in sd 0 20 ∧ gp_ca n sx sy m0 sd ax ay bx b2 dp) := by
    constructor
    · rintro ⟨a1, a2, a3, a4, a5, a6⟩
      exact ⟨a1, a2, a3, a4, a5, (e.mp a6).2.2⟩
    · rintro ⟨a1, a2, a3, a4, a5, a6⟩
      exact ⟨a1, a2, a3, a4, a5, e.mpr ⟨by grind, by grind, a6⟩⟩
  rcases P1 with ⟨h1, rfl, rfl, rfl, rfl, rfl, rfl⟩ | ⟨h1, rfl, rfl, rfl⟩
  · rcases P2 with ⟨h2, rfl, rfl, rfl, rfl, rfl, rfl, rfl⟩ | ⟨h2, _⟩
    · exact ⟨rfl, Or.inr ⟨rfl, rfl, rfl, rfl, rfl, rfl⟩⟩
    · exact absurd (e2.mp h1) h2
  · rcases P2 with ⟨h2, _⟩ | ⟨h2, rfl, rfl⟩
    · exact absurd (e2.mpr h2) h1
    · exact ⟨rfl, Or.inl ⟨rfl, rfl, rfl⟩⟩
theorem gp_takeR {gn gx gy gm gd ax ay bx b2 dp mh mn mx my mm md k r1 r2 gn' gm' bx1 by1 dp1 mh' bx2 by2 dp2 : Int32} (hg : ((mh = 0 ∧ gn = 0 ∧ gm = 0) ∨ (mh = 1 ∧ gn = mn ∧ gx = mx ∧ gy = my ∧ gm = mm ∧ gd = md))) (hgf : ¬ mh = 0 → sp_in mn 1 6 ∧ sp_in mm 1 6 ∧ sp_in md 0 20) (hpl : sp_pl ax ay) (hdp : sp_in dp 0 60)
    (P1 : ((0 ≤ k ∧ k < gn * gm ∧ gp_cb gn gx gy gm gd ax ay bx b2 dp) ∧ r1 = 1 ∧ gn' = 0 ∧ gm' = 0 ∧ bx1 = bx + (if 0 < gm then k / gm else 0) * gx ∧ by1 = b2 + (if 0 < gm then k / gm else 0) * gy ∧ dp1 = dp + (k - (if 0 < gm then k / gm else 0) * gm) * gd) ∨ (¬ (0 ≤ k ∧ k < gn * gm ∧ gp_cb gn gx gy gm gd ax ay bx b2 dp) ∧ r1 = 0 ∧ gn' = gn ∧ gm' = gm ∧ bx1 = bx ∧ by1 = b2 ∧ dp1 = dp))
    (P2 : (r2 = 1 ∧ (¬ mh = 0 ∧ 0 ≤ k ∧ k < mn * mm ∧ gp_ca mn mx my mm md ax ay bx b2 dp) ∧ (sp_pl (bx + k / mm * mx) (b2 + k / mm * my) ∧ ¬ ((bx + k / mm * mx) = ax ∧ (b2 + k / mm * my) = ay) ∧ (dp + k % mm * md) ≤ 60) ∧ mh' = 0 ∧ bx2 = (bx + k / mm * mx) ∧ by2 = (b2 + k / mm * my) ∧ dp2 = (dp + k % mm * md)) ∨ (r2 = 0 ∧ ¬ ((¬ mh = 0 ∧ 0 ≤ k ∧ k < mn * mm ∧ gp_ca mn mx my mm md ax ay bx b2 dp) ∧ (sp_pl (bx + k / mm * mx) (b2 + k / mm * my) ∧ ¬ ((bx + k / mm * mx) = ax ∧ (b2 + k / mm * my) = ay) ∧ (dp + k % mm * md) ≤ 60)) ∧ mh' = mh ∧ bx2 = bx ∧ by2 = b2 ∧ dp2 = dp)) : r1 = r2 ∧ bx1 = bx2 ∧ by1 = by2 ∧ dp1 = dp2 ∧ ((mh' = 0 ∧ gn' = 0 ∧ gm' = 0) ∨ (mh' = 1 ∧ gn' = mn ∧ gx = mx ∧ gy = my ∧ gm' = mm ∧ gd = md)) := by
  rcases hg with ⟨g1, g2, g3⟩ | ⟨g1, g2, g3, g4, g5, g6⟩
  · have n1 : ¬ (0 ≤ k ∧ k < gn * gm ∧ gp_cb gn gx gy gm gd ax ay bx b2 dp) := by
      rintro ⟨a1, a2, _⟩
      rw [g2] at a2
      have e0 : (0 : Int32) * gm = 0 := by grind
      rw [e0] at a2
      grind
    rcases P1 with ⟨h, _⟩ | ⟨_, rfl, rfl, rfl, rfl, rfl, rfl⟩
    · exact absurd h n1
    · rcases P2 with ⟨_, h, _⟩ | ⟨rfl, _, rfl, rfl, rfl, rfl⟩
      · exact absurd g1 h.1
      · exact ⟨rfl, rfl, rfl, rfl, Or.inl ⟨g1, g2, g3⟩⟩
  · subst g2 g3 g4 g5 g6
    have h1 : ¬ mh = 0 := by rw [g1]; decide
    obtain ⟨b1, b2', b3⟩ := hgf h1
    have e := gp_cbca (n := gn) (sx := gx) (sy := gy) (m0 := gm) (sd := gd) (bx := bx) (b2 := b2) (dp := dp) hpl
    rcases P1 with ⟨⟨a1, a2, a3⟩, rfl, rfl, rfl, rfl, rfl, rfl⟩ | ⟨hn, rfl, rfl, rfl, rfl, rfl, rfl⟩
    · have ca := (e.mp a3).2.2
      have tk := gp_tk b1 b2' b3 hdp a1 a2 ca
      rcases P2 with ⟨rfl, _, _, rfl, rfl, rfl, rfl⟩ | ⟨_, h, _⟩
      · have hp : 0 < gm := by grind
        rw [gp_rm a1 b2', if_pos hp]
        exact ⟨rfl, rfl, rfl, rfl, Or.inl ⟨rfl, rfl, rfl⟩⟩
      · exact absurd ⟨⟨h1, a1, a2, ca⟩, tk⟩ h
    · rcases P2 with ⟨_, ⟨_, a1, a2, a3⟩, _⟩ | ⟨rfl, _, rfl, rfl, rfl, rfl⟩
      · exact absurd ⟨a1, a2, e.mpr ⟨by grind, by grind, a3⟩⟩ hn
      · exact ⟨rfl, rfl, rfl, rfl, Or.inr ⟨g1, rfl, rfl, rfl, rfl, rfl⟩⟩
theorem gp_repR {sx cn sv a r1 r2 a' b' : Int32} {tg tg' sw sw' va va' vo : Nat → Int32} (ha : sp_in a 0 100) (hsv : ¬ sv = -1) (h1 : (∀ i : Int32, 1 ≤ i → i ≤ a → ((tg i.toNatClampNeg) = 0 ↔ ¬ (sw i.toNatClampNeg) = (-1)))) (h2 : (∀ i : Int32, 1 ≤ i → i ≤ a → ((vo i.toNatClampNeg) = 0 ↔ (va i.toNatClampNeg) = 0))) (h3 : (∀ i : Int32, a < i → i ≤ 100 → (vo i.toNatClampNeg) = 0))
    (P1 : (sp_in sx 0 7 ∧ sp_in cn 0 240 ∧ ¬ 100 ≤ a ∧ r1 = a + 1 ∧ a' = a + 1 ∧ tg' = upd tg (a + 1).toNatClampNeg 0) ∨ (¬ (sp_in sx 0 7 ∧ sp_in cn 0 240 ∧ ¬ 100 ≤ a) ∧ r1 = (-1) ∧ a' = a ∧ tg' = tg))
    (P2 : (sp_in sx 0 7 ∧ sp_in cn 0 240 ∧ ¬ a = 100 ∧ r2 = a + 1 ∧ b' = a + 1 ∧ sw' = upd sw (a + 1).toNatClampNeg sv ∧ va' = upd va (a + 1).toNatClampNeg 0) ∨ (¬ (sp_in sx 0 7 ∧ sp_in cn 0 240 ∧ ¬ a = 100) ∧ r2 = (-1) ∧ b' = a ∧ sw' = sw ∧ va' = va)) : r1 = r2 ∧ a' = b' ∧ (∀ i : Int32, 1 ≤ i → i ≤ b' → ((tg' i.toNatClampNeg) = 0 ↔ ¬ (sw' i.toNatClampNeg) = (-1))) ∧ (∀ i : Int32, 1 ≤ i → i ≤ b' → ((vo i.toNatClampNeg) = 0 ↔ (va' i.toNatClampNeg) = 0)) ∧ (∀ i : Int32, b' < i → i ≤ 100 → (vo i.toNatClampNeg) = 0) := by
  have e : (¬ 100 ≤ a) ↔ ¬ a = 100 := by grind
  rcases P1 with ⟨c1, c2, c3, rfl, rfl, rfl⟩ | ⟨c1, rfl, rfl, rfl⟩
  · rcases P2 with ⟨_, _, _, rfl, rfl, rfl, rfl⟩ | ⟨d1, _⟩
    · have ha' : sp_in a 0 99 := by grind
      exact ⟨rfl, rfl, gp_rpT ha' h1 hsv, gp_rpV ha' h2 h3, gp_rpZ ha' h3⟩
    · exact absurd ⟨c1, c2, e.mp c3⟩ d1
  · rcases P2 with ⟨d1, d2, d3, _⟩ | ⟨_, rfl, rfl, rfl, rfl⟩
    · exact absurd ⟨d1, d2, e.mpr d3⟩ c1
    · exact ⟨rfl, rfl, h1, h2, h3⟩
theorem gp_voidR {act a r1 r2 a' b' : Int32} {tg tg' sw sw' va va' vo vo' : Nat → Int32} (ha : sp_in a 0 100) (h1 : (∀ i : Int32, 1 ≤ i → i ≤ a → ((tg i.toNatClampNeg) = 0 ↔ ¬ (sw i.toNatClampNeg) = (-1)))) (h2 : (∀ i : Int32, 1 ≤ i → i ≤ a → ((vo i.toNatClampNeg) = 0 ↔ (va i.toNatClampNeg) = 0))) (h3 : (∀ i : Int32, a < i → i ≤ 100 → (vo i.toNatClampNeg) = 0))
    (P1 : ((¬ 100 ≤ a ∧ 1 ≤ act ∧ act ≤ a ∧ (tg act.toNatClampNeg) = 0 ∧ (vo act.toNatClampNeg) = 0) ∧ r1 = a + 1 ∧ a' = a + 1 ∧ tg' = upd tg (a + 1).toNatClampNeg act ∧ vo' = upd vo act.toNatClampNeg 1) ∨ (¬ (¬ 100 ≤ a ∧ 1 ≤ act ∧ act ≤ a ∧ (tg act.toNatClampNeg) = 0 ∧ (vo act.toNatClampNeg) = 0) ∧ r1 = (-1) ∧ a' = a ∧ tg' = tg ∧ vo' = vo))
    (P2 : ((sp_in act 1 a ∧ ¬ (sw act.toNatClampNeg) = (-1) ∧ (va act.toNatClampNeg) = 0 ∧ ¬ a = 100) ∧ r2 = a + 1 ∧ b' = a + 1 ∧ sw' = upd sw (a + 1).toNatClampNeg (-1) ∧ va' = upd (upd va (a + 1).toNatClampNeg 0) act.toNatClampNeg (a + 1)) ∨ (¬ (sp_in act 1 a ∧ ¬ (sw act.toNatClampNeg) = (-1) ∧ (va act.toNatClampNeg) = 0 ∧ ¬ a = 100) ∧ r2 = (-1) ∧ b' = a ∧ sw' = sw ∧ va' = va)) : r1 = r2 ∧ a' = b' ∧ (∀ i : Int32, 1 ≤ i → i ≤ b' → ((tg' i.toNatClampNeg) = 0 ↔ ¬ (sw' i.toNatClampNeg) = (-1))) ∧ (∀ i : Int32, 1 ≤ i → i ≤ b' → ((vo' i.toNatClampNeg) = 0 ↔ (va' i.toNatClampNeg) = 0)) ∧ (∀ i : Int32, b' < i → i ≤ 100 → (vo' i.toNatClampNeg) = 0) := by
  have e : (¬ 100 ≤ a ∧ 1 ≤ act ∧ act ≤ a ∧ (tg act.toNatClampNeg) = 0 ∧ (vo act.toNatClampNeg) = 0) ↔ (sp_in act 1 a ∧ ¬ (sw act.toNatClampNeg) = (-1) ∧ (va act.toNatClampNeg) = 0 ∧ ¬ a = 100) := by
    constructor
    · rintro ⟨c1, c2, c3, c4, c5⟩
      exact ⟨⟨c2, c3⟩, (h1 act c2 c3).mp c4, (h2 act c2 c3).mp c5, by grind⟩
    · rintro ⟨⟨c2, c3⟩, c4, c5, c6⟩
      exact ⟨by grind, c2, c3, (h1 act c2 c3).mpr c4, (h2 act c2 c3).mpr c5⟩
  rcases P1 with ⟨c1, rfl, rfl, rfl, rfl⟩ | ⟨c1, rfl, rfl, rfl, rfl⟩
  · rcases P2 with ⟨d1, rfl, rfl, rfl, rfl⟩ | ⟨d1, _⟩
    · have ha' : sp_in a 0 99 := by grind
      have hk : sp_in act 1 a := d1.1
      exact ⟨rfl, rfl, gp_vdT ha' (by grind) h1, gp_vdV ha' hk h2 h3, gp_vdZ ha' hk h3⟩
    · exact absurd (e.mp c1) d1
  · rcases P2 with ⟨d1, _⟩ | ⟨_, rfl, rfl, rfl, rfl⟩
    · exact absurd (e.mpr d1) c1
    · exact ⟨rfl, rfl, h1, h2, h3⟩
theorem gp_bm {z : Int} (h1 : -9223372036854775808 ≤ z) (h2 : z < 9223372036854775808) : z.bmod (2 ^ 64) = z := Int.bmod_eq_of_le (by omega) (by omega)
theorem gp_half {z : Int64} (h1 : -4611686018427387904 ≤ z.toInt) (h2 : z.toInt < 4611686018427387904) : (2 * z) / 2 = z := by
  apply Int64.toInt_inj.mp
  rw [Int64.toInt_div, Int64.toInt_mul]
  have e2 : (2 : Int64).toInt = 2 := by decide
  rw [e2, gp_bm (z := 2 * z.toInt) (by omega) (by omega)]
  have e3 : (2 * z.toInt).tdiv 2 = z.toInt := by rw [Int.mul_comm]; exact Int.mul_tdiv_cancel _ (by decide)
  rw [e3]
  exact gp_bm (by omega) (by omega)
theorem gp_farI {px py : Int32} (h : sp_far px py) : -200 ≤ px.toInt ∧ px.toInt ≤ 200 ∧ -200 ≤ py.toInt ∧ py.toInt ≤ 200 := by
  obtain ⟨⟨h1, h2⟩, h3, h4⟩ := h
  rw [Int32.le_iff_toInt_le] at h1 h2 h3 h4
  have e1 : (-200 : Int32).toInt = -200 := by decide
  have e2 : (200 : Int32).toInt = 200 := by decide
  rw [e1] at h1 h3
  rw [e2] at h2 h4
  exact ⟨h1, h2, h3, h4⟩
theorem gp_zI {a b u v c d : Int64} {A B : Int} (ha : a.toInt = A) (hb : b.toInt = B) (hA : -200 ≤ A ∧ A ≤ 200) (hB : -200 ≤ B ∧ B ≤ 200) (hu : -200 ≤ u.toInt ∧ u.toInt ≤ 200) (hv : -200 ≤ v.toInt ∧ v.toInt ≤ 200) (hc : -200 ≤ c.toInt ∧ c.toInt ≤ 200) (hd : -200 ≤ d.toInt ∧ d.toInt ≤ 200) : -4611686018427387904 ≤ ((a - u) * c + (b - v) * d).toInt ∧ ((a - u) * c + (b - v) * d).toInt < 4611686018427387904 := by
  have e1 : (a - u).toInt = A - u.toInt := by rw [Int64.toInt_sub, ha]; exact gp_bm (by omega) (by omega)
  have e2 : (b - v).toInt = B - v.toInt := by rw [Int64.toInt_sub, hb]; exact gp_bm (by omega) (by omega)
  have m : ∀ {p q : Int}, -400 ≤ p → p ≤ 400 → -200 ≤ q → q ≤ 200 → -80000 ≤ p * q ∧ p * q ≤ 80000 := fun {p q} h1 h2 h3 h4 => by
    have := Int.mul_le_mul_of_nonneg_left (a := 0) (b := 1) (c := 1) (by decide) (by decide)
    have hp : p.natAbs ≤ 400 := by omega
    have hq : q.natAbs ≤ 200 := by omega
    have hm : (p * q).natAbs ≤ 80000 := by rw [Int.natAbs_mul]; exact Nat.mul_le_mul hp hq
    omega
  have m1 := m (p := A - u.toInt) (q := c.toInt) (by omega) (by omega) hc.1 hc.2
  have m2 := m (p := B - v.toInt) (q := d.toInt) (by omega) (by omega) hd.1 hd.2
  have e3 : ((a - u) * c).toInt = (A - u.toInt) * c.toInt := by rw [Int64.toInt_mul, e1]; exact gp_bm (by omega) (by omega)
  have e4 : ((b - v) * d).toInt = (B - v.toInt) * d.toInt := by rw [Int64.toInt_mul, e2]; exact gp_bm (by omega) (by omega)
  have e5 : ((a - u) * c + (b - v) * d).toInt = (A - u.toInt) * c.toInt + (B - v.toInt) * d.toInt := by rw [Int64.toInt_add, e3, e4]; exact gp_bm (by omega) (by omega)
  rw [e5]
  omega
theorem gp_d64 {a b : Int32} (ha : sp_in a (-100) 100) (hb : sp_in b (-100) 100) : Int32.toInt64 (a - b) = Int32.toInt64 a - Int32.toInt64 b ∧ (-200 ≤ (Int32.toInt64 (a - b)).toInt ∧ (Int32.toInt64 (a - b)).toInt ≤ 200) := by
  obtain ⟨a1, a2⟩ := gp_inT ha
  obtain ⟨b1, b2⟩ := gp_inT hb
  have c1 : (-100 : Int32).toInt = -100 := by decide
  have c2 : (100 : Int32).toInt = 100 := by decide
  have e : (a - b).toInt = a.toInt - b.toInt := by rw [Int32.toInt_sub]; exact gp_bm3 (by omega) (by omega)
  refine ⟨Int64.toInt_inj.mp ?_, ?_, ?_⟩
  · rw [Int32.toInt_toInt64, Int64.toInt_sub, Int32.toInt_toInt64, Int32.toInt_toInt64, e]
    exact (gp_bm (by omega) (by omega)).symm
  · rw [Int32.toInt_toInt64, e]; omega
  · rw [Int32.toInt_toInt64, e]; omega
theorem gp_b64 {a : Int32} (ha : sp_in a (-100) 100) : -200 ≤ (Int32.toInt64 a).toInt ∧ (Int32.toInt64 a).toInt ≤ 200 := by
  obtain ⟨a1, a2⟩ := gp_inT ha
  have c1 : (-100 : Int32).toInt = -100 := by decide
  have c2 : (100 : Int32).toInt = 100 := by decide
  rw [Int32.toInt_toInt64]
  omega
theorem gp_h0 {X Y A B C E : Int64} (h : -4611686018427387904 ≤ ((X - A) * C + (Y - B) * E).toInt ∧ ((X - A) * C + (Y - B) * E).toInt < 4611686018427387904) : ((2 * X - 2 * A) * C + (2 * Y - 2 * B) * E) / 2 = (X - A) * C + (Y - B) * E := by
  have e : (2 * X - 2 * A) * C + (2 * Y - 2 * B) * E = 2 * ((X - A) * C + (Y - B) * E) := by grind
  rw [e]
  exact gp_half h.1 h.2
theorem gp_ofR {x y what ax ay bx b2 : Int32} {r1 r2 gx gy gc ge gl : Int64} (hax : sp_in ax (-100) 100) (hay : sp_in ay (-100) 100) (hbx : sp_in bx (-100) 100) (hb2 : sp_in b2 (-100) 100)
    (P1 : (¬ sp_far x y ∧ r1 = (-100000000)) ∨ (sp_far x y ∧ gx = 2 * Int32.toInt64 ax ∧ gy = 2 * Int32.toInt64 ay ∧ gc = Int32.toInt64 (bx - ax) ∧ ge = Int32.toInt64 (b2 - ay) ∧ gl = Int32.toInt64 (bx - ax) * Int32.toInt64 (bx - ax) + Int32.toInt64 (b2 - ay) * Int32.toInt64 (b2 - ay) ∧ ((what = 0 ∧ r1 = ((2 * Int32.toInt64 x - gx) * gc + (2 * Int32.toInt64 y - gy) * ge) / 2) ∨ (what = 1 ∧ r1 = ((2 * Int32.toInt64 y - gy) * gc - (2 * Int32.toInt64 x - gx) * ge) / 2) ∨ (what = 2 ∧ r1 = gl) ∨ (what = 3 ∧ r1 = gl * Int32.toInt64 x + ((2 * Int32.toInt64 y - gy) * gc - (2 * Int32.toInt64 x - gx) * ge) * ge) ∨ (what = 4 ∧ r1 = gl * Int32.toInt64 y - ((2 * Int32.toInt64 y - gy) * gc - (2 * Int32.toInt64 x - gx) * ge) * gc) ∨ (¬ what = 0 ∧ ¬ what = 1 ∧ ¬ what = 2 ∧ ¬ what = 3 ∧ ¬ what = 4 ∧ r1 = (-100000000)))))
    (P2 : (¬ sp_far x y ∧ r2 = (-100000000)) ∨ (sp_far x y ∧ ((what = 0 ∧ r2 = ((Int32.toInt64 x - Int32.toInt64 ax) * Int32.toInt64 (bx - ax) + (Int32.toInt64 y - Int32.toInt64 ay) * Int32.toInt64 (b2 - ay))) ∨ (what = 1 ∧ r2 = (-(Int32.toInt64 x - Int32.toInt64 ax) * Int32.toInt64 (b2 - ay) + (Int32.toInt64 y - Int32.toInt64 ay) * Int32.toInt64 (bx - ax))) ∨ (what = 2 ∧ r2 = ((Int32.toInt64 bx - Int32.toInt64 ax) * Int32.toInt64 (bx - ax) + (Int32.toInt64 b2 - Int32.toInt64 ay) * Int32.toInt64 (b2 - ay))) ∨ (what = 3 ∧ r2 = (Int32.toInt64 x * ((Int32.toInt64 bx - Int32.toInt64 ax) * Int32.toInt64 (bx - ax) + (Int32.toInt64 b2 - Int32.toInt64 ay) * Int32.toInt64 (b2 - ay)) + 2 * (-(Int32.toInt64 x - Int32.toInt64 ax) * Int32.toInt64 (b2 - ay) + (Int32.toInt64 y - Int32.toInt64 ay) * Int32.toInt64 (bx - ax)) * Int32.toInt64 (b2 - ay))) ∨ (what = 4 ∧ r2 = (Int32.toInt64 y * ((Int32.toInt64 bx - Int32.toInt64 ax) * Int32.toInt64 (bx - ax) + (Int32.toInt64 b2 - Int32.toInt64 ay) * Int32.toInt64 (b2 - ay)) - 2 * (-(Int32.toInt64 x - Int32.toInt64 ax) * Int32.toInt64 (b2 - ay) + (Int32.toInt64 y - Int32.toInt64 ay) * Int32.toInt64 (bx - ax)) * Int32.toInt64 (bx - ax))) ∨ (¬ what = 0 ∧ ¬ what = 1 ∧ ¬ what = 2 ∧ ¬ what = 3 ∧ ¬ what = 4 ∧ r2 = (-100000000))))) : r1 = r2 := by
  obtain ⟨d1, d2⟩ := gp_d64 hbx hax
  obtain ⟨f1, f2⟩ := gp_d64 hb2 hay
  have a2 := gp_b64 hax
  have b2' := gp_b64 hay
  rcases P1 with ⟨p0, rfl⟩ | ⟨p0, rfl, rfl, rfl, rfl, rfl, P1⟩
  · rcases P2 with ⟨_, rfl⟩ | ⟨q0, _⟩
    · rfl
    · exact absurd q0 p0
  · rcases P2 with ⟨q0, _⟩ | ⟨_, P2⟩
    · exact absurd p0 q0
    · obtain ⟨x1, x2, y1, y2⟩ := gp_farI p0
      have z1 := gp_zI (a := Int32.toInt64 x) (b := Int32.toInt64 y) (u := Int32.toInt64 ax) (v := Int32.toInt64 ay) (c := Int32.toInt64 (bx - ax)) (d := Int32.toInt64 (b2 - ay)) (Int32.toInt_toInt64 x) (Int32.toInt_toInt64 y) ⟨x1, x2⟩ ⟨y1, y2⟩ a2 b2' d2 f2
      have en : -200 ≤ (-Int32.toInt64 (b2 - ay)).toInt ∧ (-Int32.toInt64 (b2 - ay)).toInt ≤ 200 := by
        rw [Int64.toInt_neg, gp_bm (by omega) (by omega)]; omega
      have z2 := gp_zI (a := Int32.toInt64 y) (b := Int32.toInt64 x) (u := Int32.toInt64 ay) (v := Int32.toInt64 ax) (c := Int32.toInt64 (bx - ax)) (d := -Int32.toInt64 (b2 - ay)) (Int32.toInt_toInt64 y) (Int32.toInt_toInt64 x) ⟨y1, y2⟩ ⟨x1, x2⟩ b2' a2 d2 en
      have g1 := gp_h0 z1
      have g2 := gp_h0 z2
      clear z1 z2 en a2 b2' d2 f2 x1 x2 y1 y2 p0
      have g3 : ((2 * Int32.toInt64 y - 2 * Int32.toInt64 ay) * Int32.toInt64 (bx - ax) - (2 * Int32.toInt64 x - 2 * Int32.toInt64 ax) * Int32.toInt64 (b2 - ay)) / 2 = -(Int32.toInt64 x - Int32.toInt64 ax) * Int32.toInt64 (b2 - ay) + (Int32.toInt64 y - Int32.toInt64 ay) * Int32.toInt64 (bx - ax) := by
        have q1 : (2 * Int32.toInt64 y - 2 * Int32.toInt64 ay) * Int32.toInt64 (bx - ax) - (2 * Int32.toInt64 x - 2 * Int32.toInt64 ax) * Int32.toInt64 (b2 - ay) = (2 * Int32.toInt64 y - 2 * Int32.toInt64 ay) * Int32.toInt64 (bx - ax) + (2 * Int32.toInt64 x - 2 * Int32.toInt64 ax) * -Int32.toInt64 (b2 - ay) := by clear g1 g2; grind
        rw [q1, g2]
        clear g1 g2 q1
        grind
      generalize Int32.toInt64 (bx - ax) = C at *
      generalize Int32.toInt64 (b2 - ay) = E at *
      generalize Int32.toInt64 x = X at *
      generalize Int32.toInt64 y = Y at *
      generalize Int32.toInt64 ax = A at *
      generalize Int32.toInt64 ay = B at *
      generalize Int32.toInt64 bx = G at *
      generalize Int32.toInt64 b2 = K at *
      subst d1 f1
      rcases P1 with ⟨rfl, rfl⟩ | ⟨rfl, rfl⟩ | ⟨rfl, rfl⟩ | ⟨rfl, rfl⟩ | ⟨rfl, rfl⟩ | ⟨n0, n1, n2, n3, n4, rfl⟩
      · rcases P2 with ⟨_, rfl⟩ | ⟨q, _⟩ | ⟨q, _⟩ | ⟨q, _⟩ | ⟨q, _⟩ | ⟨q, _⟩
        · exact g1
        all_goals exact absurd q (by decide)
      · rcases P2 with ⟨q, _⟩ | ⟨_, rfl⟩ | ⟨q, _⟩ | ⟨q, _⟩ | ⟨q, _⟩ | ⟨_, q, _⟩
        · exact absurd q (by decide)
        · exact g3
        all_goals exact absurd q (by decide)
      · rcases P2 with ⟨q, _⟩ | ⟨q, _⟩ | ⟨_, rfl⟩ | ⟨q, _⟩ | ⟨q, _⟩ | ⟨_, _, q, _⟩
        · exact absurd q (by decide)
        · exact absurd q (by decide)
        · rfl
        all_goals exact absurd q (by decide)
      · rcases P2 with ⟨q, _⟩ | ⟨q, _⟩ | ⟨q, _⟩ | ⟨_, rfl⟩ | ⟨q, _⟩ | ⟨_, _, _, q, _⟩
        · exact absurd q (by decide)
        · exact absurd q (by decide)
        · exact absurd q (by decide)
        · clear g1 g2 g3; grind
        all_goals exact absurd q (by decide)
      · rcases P2 with ⟨q, _⟩ | ⟨q, _⟩ | ⟨q, _⟩ | ⟨q, _⟩ | ⟨_, rfl⟩ | ⟨_, _, _, _, q, _⟩
        · exact absurd q (by decide)
        · exact absurd q (by decide)
        · exact absurd q (by decide)
        · exact absurd q (by decide)
        · clear g1 g2 g3; grind
        · exact absurd q (by decide)
      · rcases P2 with ⟨q, _⟩ | ⟨q, _⟩ | ⟨q, _⟩ | ⟨q, _⟩ | ⟨q, _⟩ | ⟨_, _, _, _, _, rfl⟩
        · exact absurd q n0
        · exact absurd q n1
        · exact absurd q n2
        · exact absurd q n3
        · exact absurd q n4
        · rfl
set_option maxRecDepth 100000 in
def lw_G (D : va_G) (cy : Nat → ClassId) (A : Nat → Prop) (xa ma : Nat → Nat) (H : Heap) : Prop := ∀ C : Prop, (∀ (tape_length : Int32) (tape_fault : Int32) (tape_faultPlace : Int32) (tape_wordFrom : Int32) (tape_wordTo : Int32) (tape_at : Int32) (bytes : Nat → Int32) (parser_depth : Int32) (parser_told : Int32) (code_size : Int32) (ckind : Nat → Int32) (cfirst : Nat → Int32) (csecond : Nat → Int32) (po : Nat → Nat) (pg : Nat → Nat) (walk_last : Int32) (walk_frames : Int32) (spot : Nat → Int32) (height : Nat → Int32) (lit : Nat → Int32) (backTo : Nat → Int32) (timesLeft : Nat → Int32) (room_ax : Int32) (room_ay : Int32) (room_bx : Int32) (room_by : Int32) (room_cx : Int32) (room_cy : Int32) (room_dx : Int32) (room_dy : Int32) (room_floor : Int32) (room_hand : Int32) (room_deep : Int32) (seatThere : Nat → Int32) (eyeX : Nat → Int32) (eyeY : Nat → Int32) (wallThere : Nat → Int32) (ofPit : Nat → Int32) (thingThere : Nat → Int32) (show_feetX : Int32) (show_feetY : Int32) (show_groundY : Int32) (glass_len : Int64) (glass_deep : Int32) (glass_ax2 : Int64) (glass_ay2 : Int64) (glass_cx : Int64) (glass_cy : Int64) (glass_along : Int64) (glass_whole : Int64) (glass_xTimes : Int64) (glass_yTimes : Int64) (glass_fromX2 : Int64) (glass_fromY2 : Int64) (glass_goX : Int64) (glass_goY : Int64) (stands : Nat → Int32) (grid_n : Int32) (grid_sx : Int32) (grid_sy : Int32) (grid_m : Int32) (grid_sd : Int32) (joints_found : Int32) (places : Nat → Int32) (face : Nat → Int32) (banned : Nat → Int32) (book_acts : Int32) (sums : Nat → Int32) (seatOf : Nat → Int32) (countOf : Nat → Int32) (sawIt : Nat → Int32) (voided : Nat → Int32) (target : Nat → Int32) (least : Nat → Int32) (likeliest : Nat → Int32) (rw : Nat → Nat → Int32) (rb : Nat → Nat → Int32) (ge : Nat → Nat → Int64) (b_start : Nat → Int32) (b_times : Nat → Int32) (b_counts : Nat → Int32) (b_spot : Nat → Int32) (b_light : Nat → Int32) (b_nameFrom : Nat → Int32) (b_nameTo : Nat → Int32) (m_ax : Int32) (m_ay : Int32) (m_bx : Int32) (m_by : Int32) (m_cx : Int32) (m_cy : Int32) (m_dx : Int32) (m_dy : Int32) (m_floor : Int32) (m_hand : Int32) (m_deep : Int32) (m_eyeX : Int64) (m_eyeY : Int64) (m_goalX : Int64) (m_goalY : Int64) (m_meetX : Int64) (m_meetY : Int64) (m_meetBy : Int64) (m_meetAlong : Int64) (m_taped : Int32) (m_at : Int32) (m_size : Int32) (m_ended : Int32) (m_bad : Int32) (m_badPlace : Int32) (m_fault : Int32) (m_faultPlace : Int32) (m_namePlace : Int32) (m_codes : Int32) (m_figures : Int32) (m_open : Int32) (m_last : Int32) (m_now : Int32) (m_from : Int32) (m_piled : Int32) (m_hasGrid : Int32) (m_gridN : Int32) (m_gridM : Int32) (m_gridX : Int32) (m_gridY : Int32) (m_gridDeep : Int32) (m_ownX : Int32) (m_ownY : Int32) (m_ownDeep : Int32) (m_joinMany : Int32) (m_acts : Int32) (r_isSeat : Nat → Int32) (r_seatX : Nat → Int32) (r_seatY : Nat → Int32) (r_isWall : Nat → Int32) (r_wallAx : Nat → Int32) (r_wallAy : Nat → Int32) (r_wallBx : Nat → Int32) (r_wallBy : Nat → Int32) (r_isPit : Nat → Int32) (r_isThing : Nat → Int32) (r_fromX : Nat → Int32) (r_toX : Nat → Int32) (r_fromY : Nat → Int32) (r_toY : Nat → Int32) (r_tape : Nat → Int32) (r_atWord : Nat → Int32) (r_goWord : Nat → Int32) (r_toWord : Nat → Int32) (r_inWord : Nat → Int32) (r_stayWord : Nat → Int32) (r_riseWord : Nat → Int32) (r_lightWord : Nat → Int32) (r_onWord : Nat → Int32) (r_offWord : Nat → Int32) (r_repeatWord : Nat → Int32) (r_figureWord : Nat → Int32) (r_doWord : Nat → Int32) (r_code : Nat → Int32) (r_first : Nat → Int32) (r_second : Nat → Int32) (r_endOf : Nat → Int32) (r_countsOf : Nat → Int32) (r_atOf : Nat → Int32) (r_lightOf : Nat → Int32) (r_figureName : Nat → Int64) (r_figureCode : Nat → Int32) (r_openCode : Nat → Int32) (r_openCounts : Nat → Int32) (r_openAt : Nat → Int32) (r_openLight : Nat → Int32) (r_openName : Nat → Int64) (r_place : Nat → Int32) (r_height : Nat → Int32) (r_light : Nat → Int32) (r_pileStart : Nat → Int32) (r_pileEnd : Nat → Int32) (r_pileLeft : Nat → Int32) (r_pileAfter : Nat → Int32) (r_joinAt : Nat → Int32) (r_isSeen : Nat → Int32) (r_newJoin : Nat → Int32) (r_actSeat : Nat → Int32) (r_actCount : Nat → Int32) (r_actSaw : Nat → Int32) (r_voidAt : Nat → Int32) (r_quarrel : Nat → Int32) (r_fewest : Nat → Int32) (r_likely : Nat → Int32), (sp_in tape_length 0 600) → (sp_in tape_wordFrom 0 600) → (sp_in tape_wordTo 0 600) → (sp_in tape_at 0 600) → (sp_in parser_depth 0 6) → (sp_in parser_told 0 12) → (sp_in code_size 0 128) → (∀ i, sp_in (csecond i) (-1) 200) → (∀ i, po i < 19) → (∀ i, pg i < 19) → (sp_in walk_last 0 240) → (sp_in walk_frames 0 80) → (∀ i, 0 ≤ (backTo i)) → (sp_in joints_found 0 1000) → (sp_in book_acts 0 100) → (∀ i, sp_in (b_start i) 0 128) → (∀ i, sp_in (b_times i) (-1) 20) → (∀ i, (b_counts i) ≤ 241) → (∀ i, sp_in (b_light i) (-1) 200) → (∀ i, sp_in (b_nameFrom i) 0 600) → (∀ i, sp_in (b_nameTo i) 0 600) → (sp_in m_ax (-100) 100) → (sp_in m_ay (-100) 100) → (sp_in m_bx (-100) 100) → (sp_in m_by (-100) 100) → (sp_in m_cx (-100) 100) → (sp_in m_cy (-100) 100) → (sp_in m_dx (-100) 100) → (sp_in m_dy (-100) 100) → (sp_in m_floor (-100) 100) → (sp_in m_hand 0 50) → (sp_in m_deep 0 60) → (sp_in m_taped 0 600) → (sp_in m_at 0 600) → (sp_in m_size 0 600) → (sp_in m_codes 0 399) → (sp_in m_figures 0 12) → (sp_in m_open 0 6) → (sp_in m_last 0 240) → (sp_in m_joinMany 0 1000) → (sp_in m_acts 0 100) → (∀ i, sp_in (r_seatX i) (-100) 100) → (∀ i, sp_in (r_seatY i) (-100) 100) → (∀ i, sp_in (r_wallAx i) (-100) 100) → (∀ i, sp_in (r_wallAy i) (-100) 100) → (∀ i, sp_in (r_wallBx i) (-100) 100) → (∀ i, sp_in (r_wallBy i) (-100) 100) → (∀ i, sp_in (r_endOf i) 0 400) → (∀ i, sp_in (r_countsOf i) 0 1000000) → (∀ i, sp_in (r_atOf i) (-1) 9999) → (∀ i, sp_in (r_figureCode i) 0 399) → (∀ i, sp_in (r_openCode i) 0 399) → (∀ i, sp_in (r_openCounts i) 0 1000000) → (∀ i, sp_in (r_openAt i) (-1) 9999) → (∀ i, sp_in (r_place i) 0 9999) → (∀ i, sp_in (r_height i) 0 40) → (∀ i, sp_in (r_pileStart i) 0 400) → (∀ i, sp_in (r_pileEnd i) 0 400) → (∀ i, sp_in (r_pileAfter i) 0 400) → (∀ i, sp_in (r_actSeat i) 0 7) → (tape_length = m_taped) → (room_ax = m_ax) → (room_ay = m_ay) → (room_bx = m_bx) → (room_by = m_by) → (room_cx = m_cx) → (room_cy = m_cy) → (room_dx = m_dx) → (room_dy = m_dy) → (room_floor = m_floor) → (room_hand = m_hand) → (room_deep = m_deep) → (seatThere = r_isSeat) → (wallThere = r_isWall) → (thingThere = r_isThing) → (eyeX = r_seatX) → (eyeY = r_seatY) → (ofPit = r_isPit) → ((m_hasGrid = 0 ∧ grid_n = 0 ∧ grid_m = 0) ∨ (m_hasGrid = 1 ∧ grid_n = m_gridN ∧ grid_sx = m_gridX ∧ grid_sy = m_gridY ∧ grid_m = m_gridM ∧ grid_sd = m_gridDeep)) → (book_acts = m_acts) → (∀ i : Int32, 1 ≤ i → i ≤ m_acts → ((target i.toNatClampNeg) = 0 ↔ ¬ (r_actSaw i.toNatClampNeg) = (-1))) → (∀ i : Int32, 1 ≤ i → i ≤ m_acts → ((voided i.toNatClampNeg) = 0 ↔ (r_voidAt i.toNatClampNeg) = 0)) → (∀ i : Int32, m_acts < i → i ≤ 100 → (voided i.toNatClampNeg) = 0) → (gp_inj po pg) → (¬ (m_ax = m_bx ∧ m_ay = m_by)) → (¬ m_hasGrid = 0 → sp_in m_gridN 1 6 ∧ sp_in m_gridM 1 6 ∧ sp_in m_gridDeep 0 20) → va_P D vwCl ((((([(o_gp xa), (o_tape xa tape_length tape_fault tape_faultPlace tape_wordFrom tape_wordTo tape_at), (aI (xa 2) (cy 0) 600 bytes), (o_parser xa parser_depth parser_told), (o_code xa code_size), (aI (xa 39) (cy 1) 128 ckind), (aI (xa 40) (cy 1) 128 cfirst), (aI (xa 41) (cy 1) 128 csecond), (aR (xa 5) (cy 5) 7 (fun i => some (xa (200 + po i)))), (aR (xa 38) (cy 5) 12 (fun i => some (xa (200 + pg i)))), (o_walk xa walk_last walk_frames), (aI (xa 8) (cy 1) 241 spot), (aI (xa 9) (cy 1) 241 height), (aI (xa 10) (cy 3) 241 lit), (aI (xa 42) (cy 1) 80 backTo), (aI (xa 43) (cy 1) 80 timesLeft), (o_room xa room_ax room_ay room_bx room_by room_cx room_cy room_dx room_dy room_floor room_hand room_deep), (aI (xa 12) (cy 3) 8 seatThere), (aI (xa 13) (cy 1) 8 eyeX), (aI (xa 14) (cy 1) 8 eyeY), (aI (xa 15) (cy 3) 12 wallThere), (aR (xa 16) (cy 6) 12 (fun i => if i < 12 then some (xa (100 + i)) else none)), (aI (xa 17) (cy 3) 12 ofPit), (aI (xa 18) (cy 3) 8 thingThere), (aR (xa 19) (cy 6) 8 (fun i => if i < 8 then some (xa (120 + i)) else none)), (o_show xa show_feetX show_feetY show_groundY), (o_glass xa glass_len glass_deep glass_ax2 glass_ay2 glass_cx glass_cy glass_along glass_whole glass_xTimes glass_yTimes glass_fromX2 glass_fromY2 glass_goX glass_goY), (aR (xa 22) (cy 7) 12 (fun i => if i < 12 then some (xa (140 + i)) else none)), (aI (xa 23) (cy 3) 12 stands), (o_grid xa grid_n grid_sx grid_sy grid_m grid_sd), (o_joints xa joints_found), (aI (xa 26) (cy 1) 1000 places), (aI (xa 27) (cy 3) 1001 face), (aI (xa 28) (cy 3) 1001 banned), (o_book xa book_acts), (aI (xa 30) (cy 1) 101 sums), (aI (xa 31) (cy 1) 101 seatOf), (aI (xa 32) (cy 1) 101 countOf), (aI (xa 33) (cy 3) 101 sawIt), (aI (xa 34) (cy 3) 101 voided), (aI (xa 35) (cy 1) 101 target), (aI (xa 36) (cy 1) 101 least), (aI (xa 37) (cy 1) 101 likeliest)] ++ gp_R 12 (fun i => aI (xa (100 + i)) (cy 1) 4 (rw i))) ++ gp_R 8 (fun i => aI (xa (120 + i)) (cy 1) 4 (rb i))) ++ gp_R 12 (fun i => aJ (xa (140 + i)) (cy 2) 4 (ge i))) ++ gp_R 19 (fun i => oX0 xa i (b_start i) (b_times i) (b_counts i) (b_spot i) (b_light i) (b_nameFrom i) (b_nameTo i))) ++ [(o_m ma m_ax m_ay m_bx m_by m_cx m_cy m_dx m_dy m_floor m_hand m_deep m_eyeX m_eyeY m_goalX m_goalY m_meetX m_meetY m_meetBy m_meetAlong m_taped m_at m_size m_ended m_bad m_badPlace m_fault m_faultPlace m_namePlace m_codes m_figures m_open m_last m_now m_from m_piled m_hasGrid m_gridN m_gridM m_gridX m_gridY m_gridDeep m_ownX m_ownY m_ownDeep m_joinMany m_acts), (aI (ma 11) (cy 3) 8 r_isSeat), (aI (ma 12) (cy 1) 8 r_seatX), (aI (ma 13) (cy 1) 8 r_seatY), (aI (ma 14) (cy 3) 12 r_isWall), (aI (ma 15) (cy 1) 12 r_wallAx), (aI (ma 16) (cy 1) 12 r_wallAy), (aI (ma 17) (cy 1) 12 r_wallBx), (aI (ma 18) (cy 1) 12 r_wallBy), (aI (ma 19) (cy 3) 12 r_isPit), (aI (ma 20) (cy 3) 8 r_isThing), (aI (ma 21) (cy 1) 8 r_fromX), (aI (ma 22) (cy 1) 8 r_toX), (aI (ma 23) (cy 1) 8 r_fromY), (aI (ma 24) (cy 1) 8 r_toY), (aI (ma 33) (cy 1) 600 r_tape), (aI (ma 43) (cy 4) 2 r_atWord), (aI (ma 44) (cy 4) 2 r_goWord), (aI (ma 45) (cy 4) 2 r_toWord), (aI (ma 46) (cy 4) 2 r_inWord), (aI (ma 47) (cy 4) 4 r_stayWord), (aI (ma 48) (cy 4) 4 r_riseWord), (aI (ma 49) (cy 4) 5 r_lightWord), (aI (ma 50) (cy 4) 2 r_onWord), (aI (ma 51) (cy 4) 3 r_offWord), (aI (ma 52) (cy 4) 6 r_repeatWord), (aI (ma 53) (cy 4) 6 r_figureWord), (aI (ma 54) (cy 4) 2 r_doWord), (aI (ma 56) (cy 1) 400 r_code), (aI (ma 57) (cy 1) 400 r_first), (aI (ma 58) (cy 1) 400 r_second), (aI (ma 59) (cy 1) 400 r_endOf), (aI (ma 60) (cy 1) 400 r_countsOf), (aI (ma 61) (cy 1) 400 r_atOf), (aI (ma 62) (cy 1) 400 r_lightOf), (aJ (ma 64) (cy 2) 12 r_figureName), (aI (ma 65) (cy 1) 12 r_figureCode), (aI (ma 67) (cy 1) 8 r_openCode), (aI (ma 68) (cy 1) 8 r_openCounts), (aI (ma 69) (cy 1) 8 r_openAt), (aI (ma 70) (cy 1) 8 r_openLight), (aJ (ma 71) (cy 2) 8 r_openName), (aI (ma 73) (cy 1) 241 r_place), (aI (ma 74) (cy 1) 241 r_height), (aI (ma 75) (cy 1) 241 r_light), (aI (ma 78) (cy 1) 128 r_pileStart), (aI (ma 79) (cy 1) 128 r_pileEnd), (aI (ma 80) (cy 1) 128 r_pileLeft), (aI (ma 81) (cy 1) 128 r_pileAfter), (aI (ma 93) (cy 1) 1000 r_joinAt), (aI (ma 94) (cy 3) 1001 r_isSeen), (aI (ma 95) (cy 1) 1000 r_newJoin), (aI (ma 97) (cy 1) 101 r_actSeat), (aI (ma 98) (cy 1) 101 r_actCount), (aI (ma 99) (cy 1) 101 r_actSaw), (aI (ma 100) (cy 1) 101 r_voidAt), (aI (ma 101) (cy 1) 101 r_quarrel), (aI (ma 102) (cy 1) 101 r_fewest), (aI (ma 103) (cy 1) 101 r_likely)]) H → va_D A ((((([(o_gp xa), (o_tape xa tape_length tape_fault tape_faultPlace tape_wordFrom tape_wordTo tape_at), (aI (xa 2) (cy 0) 600 bytes), (o_parser xa parser_depth parser_told), (o_code xa code_size), (aI (xa 39) (cy 1) 128 ckind), (aI (xa 40) (cy 1) 128 cfirst), (aI (xa 41) (cy 1) 128 csecond), (aR (xa 5) (cy 5) 7 (fun i => some (xa (200 + po i)))), (aR (xa 38) (cy 5) 12 (fun i => some (xa (200 + pg i)))), (o_walk xa walk_last walk_frames), (aI (xa 8) (cy 1) 241 spot), (aI (xa 9) (cy 1) 241 height), (aI (xa 10) (cy 3) 241 lit), (aI (xa 42) (cy 1) 80 backTo), (aI (xa 43) (cy 1) 80 timesLeft), (o_room xa room_ax room_ay room_bx room_by room_cx room_cy room_dx room_dy room_floor room_hand room_deep), (aI (xa 12) (cy 3) 8 seatThere), (aI (xa 13) (cy 1) 8 eyeX), (aI (xa 14) (cy 1) 8 eyeY), (aI (xa 15) (cy 3) 12 wallThere), (aR (xa 16) (cy 6) 12 (fun i => if i < 12 then some (xa (100 + i)) else none)), (aI (xa 17) (cy 3) 12 ofPit), (aI (xa 18) (cy 3) 8 thingThere), (aR (xa 19) (cy 6) 8 (fun i => if i < 8 then some (xa (120 + i)) else none)), (o_show xa show_feetX show_feetY show_groundY), (o_glass xa glass_len glass_deep glass_ax2 glass_ay2 glass_cx glass_cy glass_along glass_whole glass_xTimes glass_yTimes glass_fromX2 glass_fromY2 glass_goX glass_goY), (aR (xa 22) (cy 7) 12 (fun i => if i < 12 then some (xa (140 + i)) else none)), (aI (xa 23) (cy 3) 12 stands), (o_grid xa grid_n grid_sx grid_sy grid_m grid_sd), (o_joints xa joints_found), (aI (xa 26) (cy 1) 1000 places), (aI (xa 27) (cy 3) 1001 face), (aI (xa 28) (cy 3) 1001 banned), (o_book xa book_acts), (aI (xa 30) (cy 1) 101 sums), (aI (xa 31) (cy 1) 101 seatOf), (aI (xa 32) (cy 1) 101 countOf), (aI (xa 33) (cy 3) 101 sawIt), (aI (xa 34) (cy 3) 101 voided), (aI (xa 35) (cy 1) 101 target), (aI (xa 36) (cy 1) 101 least), (aI (xa 37) (cy 1) 101 likeliest)] ++ gp_R 12 (fun i => aI (xa (100 + i)) (cy 1) 4 (rw i))) ++ gp_R 8 (fun i => aI (xa (120 + i)) (cy 1) 4 (rb i))) ++ gp_R 12 (fun i => aJ (xa (140 + i)) (cy 2) 4 (ge i))) ++ gp_R 19 (fun i => oX0 xa i (b_start i) (b_times i) (b_counts i) (b_spot i) (b_light i) (b_nameFrom i) (b_nameTo i))) ++ [(o_m ma m_ax m_ay m_bx m_by m_cx m_cy m_dx m_dy m_floor m_hand m_deep m_eyeX m_eyeY m_goalX m_goalY m_meetX m_meetY m_meetBy m_meetAlong m_taped m_at m_size m_ended m_bad m_badPlace m_fault m_faultPlace m_namePlace m_codes m_figures m_open m_last m_now m_from m_piled m_hasGrid m_gridN m_gridM m_gridX m_gridY m_gridDeep m_ownX m_ownY m_ownDeep m_joinMany m_acts), (aI (ma 11) (cy 3) 8 r_isSeat), (aI (ma 12) (cy 1) 8 r_seatX), (aI (ma 13) (cy 1) 8 r_seatY), (aI (ma 14) (cy 3) 12 r_isWall), (aI (ma 15) (cy 1) 12 r_wallAx), (aI (ma 16) (cy 1) 12 r_wallAy), (aI (ma 17) (cy 1) 12 r_wallBx), (aI (ma 18) (cy 1) 12 r_wallBy), (aI (ma 19) (cy 3) 12 r_isPit), (aI (ma 20) (cy 3) 8 r_isThing), (aI (ma 21) (cy 1) 8 r_fromX), (aI (ma 22) (cy 1) 8 r_toX), (aI (ma 23) (cy 1) 8 r_fromY), (aI (ma 24) (cy 1) 8 r_toY), (aI (ma 33) (cy 1) 600 r_tape), (aI (ma 43) (cy 4) 2 r_atWord), (aI (ma 44) (cy 4) 2 r_goWord), (aI (ma 45) (cy 4) 2 r_toWord), (aI (ma 46) (cy 4) 2 r_inWord), (aI (ma 47) (cy 4) 4 r_stayWord), (aI (ma 48) (cy 4) 4 r_riseWord), (aI (ma 49) (cy 4) 5 r_lightWord), (aI (ma 50) (cy 4) 2 r_onWord), (aI (ma 51) (cy 4) 3 r_offWord), (aI (ma 52) (cy 4) 6 r_repeatWord), (aI (ma 53) (cy 4) 6 r_figureWord), (aI (ma 54) (cy 4) 2 r_doWord), (aI (ma 56) (cy 1) 400 r_code), (aI (ma 57) (cy 1) 400 r_first), (aI (ma 58) (cy 1) 400 r_second), (aI (ma 59) (cy 1) 400 r_endOf), (aI (ma 60) (cy 1) 400 r_countsOf), (aI (ma 61) (cy 1) 400 r_atOf), (aI (ma 62) (cy 1) 400 r_lightOf), (aJ (ma 64) (cy 2) 12 r_figureName), (aI (ma 65) (cy 1) 12 r_figureCode), (aI (ma 67) (cy 1) 8 r_openCode), (aI (ma 68) (cy 1) 8 r_openCounts), (aI (ma 69) (cy 1) 8 r_openAt), (aI (ma 70) (cy 1) 8 r_openLight), (aJ (ma 71) (cy 2) 8 r_openName), (aI (ma 73) (cy 1) 241 r_place), (aI (ma 74) (cy 1) 241 r_height), (aI (ma 75) (cy 1) 241 r_light), (aI (ma 78) (cy 1) 128 r_pileStart), (aI (ma 79) (cy 1) 128 r_pileEnd), (aI (ma 80) (cy 1) 128 r_pileLeft), (aI (ma 81) (cy 1) 128 r_pileAfter), (aI (ma 93) (cy 1) 1000 r_joinAt), (aI (ma 94) (cy 3) 1001 r_isSeen), (aI (ma 95) (cy 1) 1000 r_newJoin), (aI (ma 97) (cy 1) 101 r_actSeat), (aI (ma 98) (cy 1) 101 r_actCount), (aI (ma 99) (cy 1) 101 r_actSaw), (aI (ma 100) (cy 1) 101 r_voidAt), (aI (ma 101) (cy 1) 101 r_quarrel), (aI (ma 102) (cy 1) 101 r_fewest), (aI (ma 103) (cy 1) 101 r_likely)]) → C) → C
set_option maxRecDepth 100000 in
theorem lw_Gi {D : va_G} {cy : Nat → ClassId} {A : Nat → Prop} {xa ma : Nat → Nat} {H : Heap} (tape_length : Int32) (tape_fault : Int32) (tape_faultPlace : Int32) (tape_wordFrom : Int32) (tape_wordTo : Int32) (tape_at : Int32) (bytes : Nat → Int32) (parser_depth : Int32) (parser_told : Int32) (code_size : Int32) (ckind : Nat → Int32) (cfirst : Nat → Int32) (csecond : Nat → Int32) (po : Nat → Nat) (pg : Nat → Nat) (walk_last : Int32) (walk_frames : Int32) (spot : Nat → Int32) (height : Nat → Int32) (lit : Nat → Int32) (backTo : Nat → Int32) (timesLeft : Nat → Int32) (room_ax : Int32) (room_ay : Int32) (room_bx : Int32) (room_by : Int32) (room_cx : Int32) (room_cy : Int32) (room_dx : Int32) (room_dy : Int32) (room_floor : Int32) (room_hand : Int32) (room_deep : Int32) (seatThere : Nat → Int32) (eyeX : Nat → Int32) (eyeY : Nat → Int32) (wallThere : Nat → Int32) (ofPit : Nat → Int32) (thingThere : Nat → Int32) (show_feetX : Int32) (show_feetY : Int32) (show_groundY : Int32) (glass_len : Int64) (glass_deep : Int32) (glass_ax2 : Int64) (glass_ay2 : Int64) (glass_cx : Int64) (glass_cy : Int64) (glass_along : Int64) (glass_whole : Int64) (glass_xTimes : Int64) (glass_yTimes : Int64) (glass_fromX2 : Int64) (glass_fromY2 : Int64) (glass_goX : Int64) (glass_goY : Int64) (stands : Nat → Int32) (grid_n : Int32) (grid_sx : Int32) (grid_sy : Int32) (grid_m : Int32) (grid_sd : Int32) (joints_found : Int32) (places : Nat → Int32) (face : Nat → Int32) (banned : Nat → Int32) (book_acts : Int32) (sums : Nat → Int32) (seatOf : Nat → Int32) (countOf : Nat → Int32) (sawIt : Nat → Int32) (voided : Nat → Int32) (target : Nat → Int32) (least : Nat → Int32) (likeliest : Nat → Int32) (rw : Nat → Nat → Int32) (rb : Nat → Nat → Int32) (ge : Nat → Nat → Int64) (b_start : Nat → Int32) (b_times : Nat → Int32) (b_counts : Nat → Int32) (b_spot : Nat → Int32) (b_light : Nat → Int32) (b_nameFrom : Nat → Int32) (b_nameTo : Nat → Int32) (m_ax : Int32) (m_ay : Int32) (m_bx : Int32) (m_by : Int32) (m_cx : Int32) (m_cy : Int32) (m_dx : Int32) (m_dy : Int32) (m_floor : Int32) (m_hand : Int32) (m_deep : Int32) (m_eyeX : Int64) (m_eyeY : Int64) (m_goalX : Int64) (m_goalY : Int64) (m_meetX : Int64) (m_meetY : Int64) (m_meetBy : Int64) (m_meetAlong : Int64) (m_taped : Int32) (m_at : Int32) (m_size : Int32) (m_ended : Int32) (m_bad : Int32) (m_badPlace : Int32) (m_fault : Int32) (m_faultPlace : Int32) (m_namePlace : Int32) (m_codes : Int32) (m_figures : Int32) (m_open : Int32) (m_last : Int32) (m_now : Int32) (m_from : Int32) (m_piled : Int32) (m_hasGrid : Int32) (m_gridN : Int32) (m_gridM : Int32) (m_gridX : Int32) (m_gridY : Int32) (m_gridDeep : Int32) (m_ownX : Int32) (m_ownY : Int32) (m_ownDeep : Int32) (m_joinMany : Int32) (m_acts : Int32) (r_isSeat : Nat → Int32) (r_seatX : Nat → Int32) (r_seatY : Nat → Int32) (r_isWall : Nat → Int32) (r_wallAx : Nat → Int32) (r_wallAy : Nat → Int32) (r_wallBx : Nat → Int32) (r_wallBy : Nat → Int32) (r_isPit : Nat → Int32) (r_isThing : Nat → Int32) (r_fromX : Nat → Int32) (r_toX : Nat → Int32) (r_fromY : Nat → Int32) (r_toY : Nat → Int32) (r_tape : Nat → Int32) (r_atWord : Nat → Int32) (r_goWord : Nat → Int32) (r_toWord : Nat → Int32) (r_inWord : Nat → Int32) (r_stayWord : Nat → Int32) (r_riseWord : Nat → Int32) (r_lightWord : Nat → Int32) (r_onWord : Nat → Int32) (r_offWord : Nat → Int32) (r_repeatWord : Nat → Int32) (r_figureWord : Nat → Int32) (r_doWord : Nat → Int32) (r_code : Nat → Int32) (r_first : Nat → Int32) (r_second : Nat → Int32) (r_endOf : Nat → Int32) (r_countsOf : Nat → Int32) (r_atOf : Nat → Int32) (r_lightOf : Nat → Int32) (r_figureName : Nat → Int64) (r_figureCode : Nat → Int32) (r_openCode : Nat → Int32) (r_openCounts : Nat → Int32) (r_openAt : Nat → Int32) (r_openLight : Nat → Int32) (r_openName : Nat → Int64) (r_place : Nat → Int32) (r_height : Nat → Int32) (r_light : Nat → Int32) (r_pileStart : Nat → Int32) (r_pileEnd : Nat → Int32) (r_pileLeft : Nat → Int32) (r_pileAfter : Nat → Int32) (r_joinAt : Nat → Int32) (r_isSeen : Nat → Int32) (r_newJoin : Nat → Int32) (r_actSeat : Nat → Int32) (r_actCount : Nat → Int32) (r_actSaw : Nat → Int32) (r_voidAt : Nat → Int32) (r_quarrel : Nat → Int32) (r_fewest : Nat → Int32) (r_likely : Nat → Int32) (f_tape_length : sp_in tape_length 0 600) (f_tape_wordFrom : sp_in tape_wordFrom 0 600) (f_tape_wordTo : sp_in tape_wordTo 0 600) (f_tape_at : sp_in tape_at 0 600) (f_parser_depth : sp_in parser_depth 0 6) (f_parser_told : sp_in parser_told 0 12) (f_code_size : sp_in code_size 0 128) (f_csecond : ∀ i, sp_in (csecond i) (-1) 200) (f_po : ∀ i, po i < 19) (f_pg : ∀ i, pg i < 19) (f_walk_last : sp_in walk_last 0 240) (f_walk_frames : sp_in walk_frames 0 80) (f_backTo : ∀ i, 0 ≤ (backTo i)) (f_joints_found : sp_in joints_found 0 1000) (f_book_acts : sp_in book_acts 0 100) (f_b_start : ∀ i, sp_in (b_start i) 0 128) (f_b_times : ∀ i, sp_in (b_times i) (-1) 20) (f_b_counts : ∀ i, (b_counts i) ≤ 241) (f_b_light : ∀ i, sp_in (b_light i) (-1) 200) (f_b_nameFrom : ∀ i, sp_in (b_nameFrom i) 0 600) (f_b_nameTo : ∀ i, sp_in (b_nameTo i) 0 600) (f_m_ax : sp_in m_ax (-100) 100) (f_m_ay : sp_in m_ay (-100) 100) (f_m_bx : sp_in m_bx (-100) 100) (f_m_by : sp_in m_by (-100) 100) (f_m_cx : sp_in m_cx (-100) 100) (f_m_cy : sp_in m_cy (-100) 100) (f_m_dx : sp_in m_dx (-100) 100) (f_m_dy : sp_in m_dy (-100) 100) (f_m_floor : sp_in m_floor (-100) 100) (f_m_hand : sp_in m_hand 0 50) (f_m_deep : sp_in m_deep 0 60) (f_m_taped : sp_in m_taped 0 600) (f_m_at : sp_in m_at 0 600) (f_m_size : sp_in m_size 0 600) (f_m_codes : sp_in m_codes 0 399) (f_m_figures : sp_in m_figures 0 12) (f_m_open : sp_in m_open 0 6) (f_m_last : sp_in m_last 0 240) (f_m_joinMany : sp_in m_joinMany 0 1000) (f_m_acts : sp_in m_acts 0 100) (f_r_seatX : ∀ i, sp_in (r_seatX i) (-100) 100) (f_r_seatY : ∀ i, sp_in (r_seatY i) (-100) 100) (f_r_wallAx : ∀ i, sp_in (r_wallAx i) (-100) 100) (f_r_wallAy : ∀ i, sp_in (r_wallAy i) (-100) 100) (f_r_wallBx : ∀ i, sp_in (r_wallBx i) (-100) 100) (f_r_wallBy : ∀ i, sp_in (r_wallBy i) (-100) 100) (f_r_endOf : ∀ i, sp_in (r_endOf i) 0 400) (f_r_countsOf : ∀ i, sp_in (r_countsOf i) 0 1000000) (f_r_atOf : ∀ i, sp_in (r_atOf i) (-1) 9999) (f_r_figureCode : ∀ i, sp_in (r_figureCode i) 0 399) (f_r_openCode : ∀ i, sp_in (r_openCode i) 0 399) (f_r_openCounts : ∀ i, sp_in (r_openCounts i) 0 1000000) (f_r_openAt : ∀ i, sp_in (r_openAt i) (-1) 9999) (f_r_place : ∀ i, sp_in (r_place i) 0 9999) (f_r_height : ∀ i, sp_in (r_height i) 0 40) (f_r_pileStart : ∀ i, sp_in (r_pileStart i) 0 400) (f_r_pileEnd : ∀ i, sp_in (r_pileEnd i) 0 400) (f_r_pileAfter : ∀ i, sp_in (r_pileAfter i) 0 400) (f_r_actSeat : ∀ i, sp_in (r_actSeat i) 0 7) (rl_tape : tape_length = m_taped) (rl_ax : room_ax = m_ax) (rl_ay : room_ay = m_ay) (rl_bx : room_bx = m_bx) (rl_by : room_by = m_by) (rl_cx : room_cx = m_cx) (rl_cy : room_cy = m_cy) (rl_dx : room_dx = m_dx) (rl_dy : room_dy = m_dy) (rl_floor : room_floor = m_floor) (rl_hand : room_hand = m_hand) (rl_deep : room_deep = m_deep) (rl_s0 : seatThere = r_isSeat) (rl_s1 : wallThere = r_isWall) (rl_s2 : thingThere = r_isThing) (rl_s3 : eyeX = r_seatX) (rl_s4 : eyeY = r_seatY) (rl_s5 : ofPit = r_isPit) (rl_grid : (m_hasGrid = 0 ∧ grid_n = 0 ∧ grid_m = 0) ∨ (m_hasGrid = 1 ∧ grid_n = m_gridN ∧ grid_sx = m_gridX ∧ grid_sy = m_gridY ∧ grid_m = m_gridM ∧ grid_sd = m_gridDeep)) (rl_acts : book_acts = m_acts) (rl_tg : ∀ i : Int32, 1 ≤ i → i ≤ m_acts → ((target i.toNatClampNeg) = 0 ↔ ¬ (r_actSaw i.toNatClampNeg) = (-1))) (rl_vo : ∀ i : Int32, 1 ≤ i → i ≤ m_acts → ((voided i.toNatClampNeg) = 0 ↔ (r_voidAt i.toNatClampNeg) = 0)) (rl_vz : ∀ i : Int32, m_acts < i → i ≤ 100 → (voided i.toNatClampNeg) = 0) (rl_inj : gp_inj po pg) (rl_nd : ¬ (m_ax = m_bx ∧ m_ay = m_by)) (rl_gf : ¬ m_hasGrid = 0 → sp_in m_gridN 1 6 ∧ sp_in m_gridM 1 6 ∧ sp_in m_gridDeep 0 20) (hP : va_P D vwCl ((((([(o_gp xa), (o_tape xa tape_length tape_fault tape_faultPlace tape_wordFrom tape_wordTo tape_at), (aI (xa 2) (cy 0) 600 bytes), (o_parser xa parser_depth parser_told), (o_code xa code_size), (aI (xa 39) (cy 1) 128 ckind), (aI (xa 40) (cy 1) 128 cfirst), (aI (xa 41) (cy 1) 128 csecond), (aR (xa 5) (cy 5) 7 (fun i => some (xa (200 + po i)))), (aR (xa 38) (cy 5) 12 (fun i => some (xa (200 + pg i)))), (o_walk xa walk_last walk_frames), (aI (xa 8) (cy 1) 241 spot), (aI (xa 9) (cy 1) 241 height), (aI (xa 10) (cy 3) 241 lit), (aI (xa 42) (cy 1) 80 backTo), (aI (xa 43) (cy 1) 80 timesLeft), (o_room xa room_ax room_ay room_bx room_by room_cx room_cy room_dx room_dy room_floor room_hand room_deep), (aI (xa 12) (cy 3) 8 seatThere), (aI (xa 13) (cy 1) 8 eyeX), (aI (xa 14) (cy 1) 8 eyeY), (aI (xa 15) (cy 3) 12 wallThere), (aR (xa 16) (cy 6) 12 (fun i => if i < 12 then some (xa (100 + i)) else none)), (aI (xa 17) (cy 3) 12 ofPit), (aI (xa 18) (cy 3) 8 thingThere), (aR (xa 19) (cy 6) 8 (fun i => if i < 8 then some (xa (120 + i)) else none)), (o_show xa show_feetX show_feetY show_groundY), (o_glass xa glass_len glass_deep glass_ax2 glass_ay2 glass_cx glass_cy glass_along glass_whole glass_xTimes glass_yTimes glass_fromX2 glass_fromY2 glass_goX glass_goY), (aR (xa 22) (cy 7) 12 (fun i => if i < 12 then some (xa (140 + i)) else none)), (aI (xa 23) (cy 3) 12 stands), (o_grid xa grid_n grid_sx grid_sy grid_m grid_sd), (o_joints xa joints_found), (aI (xa 26) (cy 1) 1000 places), (aI (xa 27) (cy 3) 1001 face), (aI (xa 28) (cy 3) 1001 banned), (o_book xa book_acts), (aI (xa 30) (cy 1) 101 sums), (aI (xa 31) (cy 1) 101 seatOf), (aI (xa 32) (cy 1) 101 countOf), (aI (xa 33) (cy 3) 101 sawIt), (aI (xa 34) (cy 3) 101 voided), (aI (xa 35) (cy 1) 101 target), (aI (xa 36) (cy 1) 101 least), (aI (xa 37) (cy 1) 101 likeliest)] ++ gp_R 12 (fun i => aI (xa (100 + i)) (cy 1) 4 (rw i))) ++ gp_R 8 (fun i => aI (xa (120 + i)) (cy 1) 4 (rb i))) ++ gp_R 12 (fun i => aJ (xa (140 + i)) (cy 2) 4 (ge i))) ++ gp_R 19 (fun i => oX0 xa i (b_start i) (b_times i) (b_counts i) (b_spot i) (b_light i) (b_nameFrom i) (b_nameTo i))) ++ [(o_m ma m_ax m_ay m_bx m_by m_cx m_cy m_dx m_dy m_floor m_hand m_deep m_eyeX m_eyeY m_goalX m_goalY m_meetX m_meetY m_meetBy m_meetAlong m_taped m_at m_size m_ended m_bad m_badPlace m_fault m_faultPlace m_namePlace m_codes m_figures m_open m_last m_now m_from m_piled m_hasGrid m_gridN m_gridM m_gridX m_gridY m_gridDeep m_ownX m_ownY m_ownDeep m_joinMany m_acts), (aI (ma 11) (cy 3) 8 r_isSeat), (aI (ma 12) (cy 1) 8 r_seatX), (aI (ma 13) (cy 1) 8 r_seatY), (aI (ma 14) (cy 3) 12 r_isWall), (aI (ma 15) (cy 1) 12 r_wallAx), (aI (ma 16) (cy 1) 12 r_wallAy), (aI (ma 17) (cy 1) 12 r_wallBx), (aI (ma 18) (cy 1) 12 r_wallBy), (aI (ma 19) (cy 3) 12 r_isPit), (aI (ma 20) (cy 3) 8 r_isThing), (aI (ma 21) (cy 1) 8 r_fromX), (aI (ma 22) (cy 1) 8 r_toX), (aI (ma 23) (cy 1) 8 r_fromY), (aI (ma 24) (cy 1) 8 r_toY), (aI (ma 33) (cy 1) 600 r_tape), (aI (ma 43) (cy 4) 2 r_atWord), (aI (ma 44) (cy 4) 2 r_goWord), (aI (ma 45) (cy 4) 2 r_toWord), (aI (ma 46) (cy 4) 2 r_inWord), (aI (ma 47) (cy 4) 4 r_stayWord), (aI (ma 48) (cy 4) 4 r_riseWord), (aI (ma 49) (cy 4) 5 r_lightWord), (aI (ma 50) (cy 4) 2 r_onWord), (aI (ma 51) (cy 4) 3 r_offWord), (aI (ma 52) (cy 4) 6 r_repeatWord), (aI (ma 53) (cy 4) 6 r_figureWord), (aI (ma 54) (cy 4) 2 r_doWord), (aI (ma 56) (cy 1) 400 r_code), (aI (ma 57) (cy 1) 400 r_first), (aI (ma 58) (cy 1) 400 r_second), (aI (ma 59) (cy 1) 400 r_endOf), (aI (ma 60) (cy 1) 400 r_countsOf), (aI (ma 61) (cy 1) 400 r_atOf), (aI (ma 62) (cy 1) 400 r_lightOf), (aJ (ma 64) (cy 2) 12 r_figureName), (aI (ma 65) (cy 1) 12 r_figureCode), (aI (ma 67) (cy 1) 8 r_openCode), (aI (ma 68) (cy 1) 8 r_openCounts), (aI (ma 69) (cy 1) 8 r_openAt), (aI (ma 70) (cy 1) 8 r_openLight), (aJ (ma 71) (cy 2) 8 r_openName), (aI (ma 73) (cy 1) 241 r_place), (aI (ma 74) (cy 1) 241 r_height), (aI (ma 75) (cy 1) 241 r_light), (aI (ma 78) (cy 1) 128 r_pileStart), (aI (ma 79) (cy 1) 128 r_pileEnd), (aI (ma 80) (cy 1) 128 r_pileLeft), (aI (ma 81) (cy 1) 128 r_pileAfter), (aI (ma 93) (cy 1) 1000 r_joinAt), (aI (ma 94) (cy 3) 1001 r_isSeen), (aI (ma 95) (cy 1) 1000 r_newJoin), (aI (ma 97) (cy 1) 101 r_actSeat), (aI (ma 98) (cy 1) 101 r_actCount), (aI (ma 99) (cy 1) 101 r_actSaw), (aI (ma 100) (cy 1) 101 r_voidAt), (aI (ma 101) (cy 1) 101 r_quarrel), (aI (ma 102) (cy 1) 101 r_fewest), (aI (ma 103) (cy 1) 101 r_likely)]) H) (hD : va_D A ((((([(o_gp xa), (o_tape xa tape_length tape_fault tape_faultPlace tape_wordFrom tape_wordTo tape_at), (aI (xa 2) (cy 0) 600 bytes), (o_parser xa parser_depth parser_told), (o_code xa code_size), (aI (xa 39) (cy 1) 128 ckind), (aI (xa 40) (cy 1) 128 cfirst), (aI (xa 41) (cy 1) 128 csecond), (aR (xa 5) (cy 5) 7 (fun i => some (xa (200 + po i)))), (aR (xa 38) (cy 5) 12 (fun i => some (xa (200 + pg i)))), (o_walk xa walk_last walk_frames), (aI (xa 8) (cy 1) 241 spot), (aI (xa 9) (cy 1) 241 height), (aI (xa 10) (cy 3) 241 lit), (aI (xa 42) (cy 1) 80 backTo), (aI (xa 43) (cy 1) 80 timesLeft), (o_room xa room_ax room_ay room_bx room_by room_cx room_cy room_dx room_dy room_floor room_hand room_deep), (aI (xa 12) (cy 3) 8 seatThere), (aI (xa 13) (cy 1) 8 eyeX), (aI (xa 14) (cy 1) 8 eyeY), (aI (xa 15) (cy 3) 12 wallThere), (aR (xa 16) (cy 6) 12 (fun i => if i < 12 then some (xa (100 + i)) else none)), (aI (xa 17) (cy 3) 12 ofPit), (aI (xa 18) (cy 3) 8 thingThere), (aR (xa 19) (cy 6) 8 (fun i => if i < 8 then some (xa (120 + i)) else none)), (o_show xa show_feetX show_feetY show_groundY), (o_glass xa glass_len glass_deep glass_ax2 glass_ay2 glass_cx glass_cy glass_along glass_whole glass_xTimes glass_yTimes glass_fromX2 glass_fromY2 glass_goX glass_goY), (aR (xa 22) (cy 7) 12 (fun i => if i < 12 then some (xa (140 + i)) else none)), (aI (xa 23) (cy 3) 12 stands), (o_grid xa grid_n grid_sx grid_sy grid_m grid_sd), (o_joints xa joints_found), (aI (xa 26) (cy 1) 1000 places), (aI (xa 27) (cy 3) 1001 face), (aI (xa 28) (cy 3) 1001 banned), (o_book xa book_acts), (aI (xa 30) (cy 1) 101 sums), (aI (xa 31) (cy 1) 101 seatOf), (aI (xa 32) (cy 1) 101 countOf), (aI (xa 33) (cy 3) 101 sawIt), (aI (xa 34) (cy 3) 101 voided), (aI (xa 35) (cy 1) 101 target), (aI (xa 36) (cy 1) 101 least), (aI (xa 37) (cy 1) 101 likeliest)] ++ gp_R 12 (fun i => aI (xa (100 + i)) (cy 1) 4 (rw i))) ++ gp_R 8 (fun i => aI (xa (120 + i)) (cy 1) 4 (rb i))) ++ gp_R 12 (fun i => aJ (xa (140 + i)) (cy 2) 4 (ge i))) ++ gp_R 19 (fun i => oX0 xa i (b_start i) (b_times i) (b_counts i) (b_spot i) (b_light i) (b_nameFrom i) (b_nameTo i))) ++ [(o_m ma m_ax m_ay m_bx m_by m_cx m_cy m_dx m_dy m_floor m_hand m_deep m_eyeX m_eyeY m_goalX m_goalY m_meetX m_meetY m_meetBy m_meetAlong m_taped m_at m_size m_ended m_bad m_badPlace m_fault m_faultPlace m_namePlace m_codes m_figures m_open m_last m_now m_from m_piled m_hasGrid m_gridN m_gridM m_gridX m_gridY m_gridDeep m_ownX m_ownY m_ownDeep m_joinMany m_acts), (aI (ma 11) (cy 3) 8 r_isSeat), (aI (ma 12) (cy 1) 8 r_seatX), (aI (ma 13) (cy 1) 8 r_seatY), (aI (ma 14) (cy 3) 12 r_isWall), (aI (ma 15) (cy 1) 12 r_wallAx), (aI (ma 16) (cy 1) 12 r_wallAy), (aI (ma 17) (cy 1) 12 r_wallBx), (aI (ma 18) (cy 1) 12 r_wallBy), (aI (ma 19) (cy 3) 12 r_isPit), (aI (ma 20) (cy 3) 8 r_isThing), (aI (ma 21) (cy 1) 8 r_fromX), (aI (ma 22) (cy 1) 8 r_toX), (aI (ma 23) (cy 1) 8 r_fromY), (aI (ma 24) (cy 1) 8 r_toY), (aI (ma 33) (cy 1) 600 r_tape), (aI (ma 43) (cy 4) 2 r_atWord), (aI (ma 44) (cy 4) 2 r_goWord), (aI (ma 45) (cy 4) 2 r_toWord), (aI (ma 46) (cy 4) 2 r_inWord), (aI (ma 47) (cy 4) 4 r_stayWord), (aI (ma 48) (cy 4) 4 r_riseWord), (aI (ma 49) (cy 4) 5 r_lightWord), (aI (ma 50) (cy 4) 2 r_onWord), (aI (ma 51) (cy 4) 3 r_offWord), (aI (ma 52) (cy 4) 6 r_repeatWord), (aI (ma 53) (cy 4) 6 r_figureWord), (aI (ma 54) (cy 4) 2 r_doWord), (aI (ma 56) (cy 1) 400 r_code), (aI (ma 57) (cy 1) 400 r_first), (aI (ma 58) (cy 1) 400 r_second), (aI (ma 59) (cy 1) 400 r_endOf), (aI (ma 60) (cy 1) 400 r_countsOf), (aI (ma 61) (cy 1) 400 r_atOf), (aI (ma 62) (cy 1) 400 r_lightOf), (aJ (ma 64) (cy 2) 12 r_figureName), (aI (ma 65) (cy 1) 12 r_figureCode), (aI (ma 67) (cy 1) 8 r_openCode), (aI (ma 68) (cy 1) 8 r_openCounts), (aI (ma 69) (cy 1) 8 r_openAt), (aI (ma 70) (cy 1) 8 r_openLight), (aJ (ma 71) (cy 2) 8 r_openName), (aI (ma 73) (cy 1) 241 r_place), (aI (ma 74) (cy 1) 241 r_height), (aI (ma 75) (cy 1) 241 r_light), (aI (ma 78) (cy 1) 128 r_pileStart), (aI (ma 79) (cy 1) 128 r_pileEnd), (aI (ma 80) (cy 1) 128 r_pileLeft), (aI (ma 81) (cy 1) 128 r_pileAfter), (aI (ma 93) (cy 1) 1000 r_joinAt), (aI (ma 94) (cy 3) 1001 r_isSeen), (aI (ma 95) (cy 1) 1000 r_newJoin), (aI (ma 97) (cy 1) 101 r_actSeat), (aI (ma 98) (cy 1) 101 r_actCount), (aI (ma 99) (cy 1) 101 r_actSaw), (aI (ma 100) (cy 1) 101 r_voidAt), (aI (ma 101) (cy 1) 101 r_quarrel), (aI (ma 102) (cy 1) 101 r_fewest), (aI (ma 103) (cy 1) 101 r_likely)])) : lw_G D cy A xa ma H := by
  intro C k
  exact k tape_length tape_fault tape_faultPlace tape_wordFrom tape_wordTo tape_at bytes parser_depth parser_told code_size ckind cfirst csecond po pg walk_last walk_frames spot height lit backTo timesLeft room_ax room_ay room_bx room_by room_cx room_cy room_dx room_dy room_floor room_hand room_deep seatThere eyeX eyeY wallThere ofPit thingThere show_feetX show_feetY show_groundY glass_len glass_deep glass_ax2 glass_ay2 glass_cx glass_cy glass_along glass_whole glass_xTimes glass_yTimes glass_fromX2 glass_fromY2 glass_goX glass_goY stands grid_n grid_sx grid_sy grid_m grid_sd joints_found places face banned book_acts sums seatOf countOf sawIt voided target least likeliest rw rb ge b_start b_times b_counts b_spot b_light b_nameFrom b_nameTo m_ax m_ay m_bx m_by m_cx m_cy m_dx m_dy m_floor m_hand m_deep m_eyeX m_eyeY m_goalX m_goalY m_meetX m_meetY m_meetBy m_meetAlong m_taped m_at m_size m_ended m_bad m_badPlace m_fault m_faultPlace m_namePlace m_codes m_figures m_open m_last m_now m_from m_piled m_hasGrid m_gridN m_gridM m_gridX m_gridY m_gridDeep m_ownX m_ownY m_ownDeep m_joinMany m_acts r_isSeat r_seatX r_seatY r_isWall r_wallAx r_wallAy r_wallBx r_wallBy r_isPit r_isThing r_fromX r_toX r_fromY r_toY r_tape r_atWord r_goWord r_toWord r_inWord r_stayWord r_riseWord r_lightWord r_onWord r_offWord r_repeatWord r_figureWord r_doWord r_code r_first r_second r_endOf r_countsOf r_atOf r_lightOf r_figureName r_figureCode r_openCode r_openCounts r_openAt r_openLight r_openName r_place r_height r_light r_pileStart r_pileEnd r_pileLeft r_pileAfter r_joinAt r_isSeen r_newJoin r_actSeat r_actCount r_actSaw r_voidAt r_quarrel r_fewest r_likely f_tape_length f_tape_wordFrom f_tape_wordTo f_tape_at f_parser_depth f_parser_told f_code_size f_csecond f_po f_pg f_walk_last f_walk_frames f_backTo f_joints_found f_book_acts f_b_start f_b_times f_b_counts f_b_light f_b_nameFrom f_b_nameTo f_m_ax f_m_ay f_m_bx f_m_by f_m_cx f_m_cy f_m_dx f_m_dy f_m_floor f_m_hand f_m_deep f_m_taped f_m_at f_m_size f_m_codes f_m_figures f_m_open f_m_last f_m_joinMany f_m_acts f_r_seatX f_r_seatY f_r_wallAx f_r_wallAy f_r_wallBx f_r_wallBy f_r_endOf f_r_countsOf f_r_atOf f_r_figureCode f_r_openCode f_r_openCounts f_r_openAt f_r_place f_r_height f_r_pileStart f_r_pileEnd f_r_pileAfter f_r_actSeat rl_tape rl_ax rl_ay rl_bx rl_by rl_cx rl_cy rl_dx rl_dy rl_floor rl_hand rl_deep rl_s0 rl_s1 rl_s2 rl_s3 rl_s4 rl_s5 rl_grid rl_acts rl_tg rl_vo rl_vz rl_inj rl_nd rl_gf hP hD
