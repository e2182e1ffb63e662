/-! the reference's walk, step by step -/
theorem gp_runB {cd f1 f2 eo co fc ps pe pl pa : Nat → Int32} {cz p c n w : Nat} (h : gp_run cd f1 f2 eo co fc ps pe pl pa cz p c n w) (hc : (p = 0 ∧ c < cz) ∨ ∃ p', p = p' + 1 ∧ c ≠ (pe p').toNatClampNeg) : c < cz ∨ ∃ p', p = p' + 1 ∧ c < (pe p').toNatClampNeg := by
  cases p with
  | zero =>
    rcases hc with h | ⟨p', h, _⟩
    · exact Or.inl h.2
    · omega
  | succ p =>
    obtain ⟨q, d, n1, w1, n2, w2, n3, w3, hd, g1, _⟩ := h
    have hne : c ≠ (pe p).toNatClampNeg := by
      rcases hc with h | ⟨p', h, h2⟩
      · omega
      · have : p' = p := by omega
        subst this
        exact h2
    refine Or.inr ⟨p, rfl, ?_⟩
    cases q with
    | zero => exact absurd g1.1 hne
    | succ q =>
      rcases g1 with g | g
      · exact absurd g.1 hne
      · exact g.1
def gp_go (cd f1 f2 eo co fc ps pe pl pa : Nat → Int32) (cz c p now : Int32) (w : Nat) : Prop := 0 ≤ c ∧ sp_in p 0 100 ∧ sp_in now 0 240 ∧ ∃ n : Nat, now.toInt + n ≤ 240 ∧ gp_run cd f1 f2 eo co fc ps pe pl pa cz.toNatClampNeg p.toNatClampNeg c.toNatClampNeg n w
def gp_it (cd f1 f2 co fc : Nat → Int32) (cc now p : Int32) (n1 : Nat) : Prop := (gp_ft cd f1 f2 co fc cc.toNatClampNeg n1 ∧ now.toInt + n1 ≤ 240) ∨ (n1 = 0 ∧ sp_in p 0 127 ∧ ∃ (b : Nat) (t : Int32), gp_be cd f1 co fc cc.toNatClampNeg b t)
def gp_cr (cd f1 f2 eo co fc : Nat → Int32) (cc : Int32) (n1 : Nat) (p p' : Int32) (ps pe pl pa ps' pe' pl' pa' : Nat → Int32) (r : Int32) : Prop :=
  (gp_ft cd f1 f2 co fc cc.toNatClampNeg n1 ∧ p' = p ∧ ps' = ps ∧ pe' = pe ∧ pl' = pl ∧ pa' = pa ∧ r.toNatClampNeg = gp_nx cd eo cc.toNatClampNeg) ∨
  (n1 = 0 ∧ ∃ (b : Nat) (t z : Int32), gp_be cd f1 co fc cc.toNatClampNeg b t ∧ p' = p + 1 ∧ ps' = upd ps p.toNatClampNeg r ∧ r.toNatClampNeg = b + 1 ∧ pe' = upd pe p.toNatClampNeg (eo b) ∧ pl' = upd pl p.toNatClampNeg t ∧ pa' = upd pa p.toNatClampNeg z ∧ z.toNatClampNeg = gp_nx cd eo cc.toNatClampNeg)
/-- a flat item and a block don't stand in one place -/
theorem gp_ftbe {cd f1 f2 co fc : Nat → Int32} {a n b : Nat} {t : Int32} (h1 : gp_ft cd f1 f2 co fc a n) (h2 : gp_be cd f1 co fc a b t) : False := by
  unfold gp_ft at h1
  unfold gp_be at h2
  grind
theorem gp_ftft {cd f1 f2 co fc : Nat → Int32} {a n m : Nat} (h1 : gp_ft cd f1 f2 co fc a n) (h2 : gp_ft cd f1 f2 co fc a m) : n = m := by
  unfold gp_ft at h1 h2
  grind
theorem gp_bebe {cd f1 co fc : Nat → Int32} {a b b' : Nat} {t t' : Int32} (h1 : gp_be cd f1 co fc a b t) (h2 : gp_be cd f1 co fc a b' t') : b = b' ∧ t = t' := by
  unfold gp_be at h1 h2
  grind
theorem gp_goI {cd f1 f2 eo co fc ps pe pl pa : Nat → Int32} {cz c p now : Int32} {w : Nat} (h : gp_go cd f1 f2 eo co fc ps pe pl pa cz c p now w) (hz : sp_in cz 0 399) (hpe : ∀ i, sp_in (pe i) 0 400) (hc : (¬ 0 < p ∧ c < cz) ∨ (0 < p ∧ ¬ c = pe (p - 1).toNatClampNeg)) :
    sp_in c 0 399 ∧ ∃ n1 : Nat, gp_it cd f1 f2 co fc c now p n1 ∧ ∀ (now' p' r : Int32) (ps' pe' pl' pa' : Nat → Int32), gp_cr cd f1 f2 eo co fc c n1 p p' ps pe pl pa ps' pe' pl' pa' r → now'.toInt = now.toInt + n1 → 0 ≤ r → ∃ w', w' < w ∧ gp_go cd f1 f2 eo co fc ps' pe' pl' pa' cz r p' now' w' := by
  obtain ⟨h0, hp, hn, n, hle, hr⟩ := h
  have c0 : (0 : Int32).toInt = 0 := by decide
  have c240 : (240 : Int32).toInt = 240 := by decide
  have c399 : (399 : Int32).toInt = 399 := by decide
  have c400 : (400 : Int32).toInt = 400 := by decide
  have hn1 := Int32.le_iff_toInt_le.mp hn.1
  have ec := gp_nT h0
  have ep := gp_nT hp.1
  have ez := gp_nT hz.1
  have hz2 := Int32.le_iff_toInt_le.mp hz.2
  have hc' : (p.toNatClampNeg = 0 ∧ c.toNatClampNeg < cz.toNatClampNeg) ∨ ∃ p', p.toNatClampNeg = p' + 1 ∧ c.toNatClampNeg ≠ (pe p').toNatClampNeg := by
    rcases hc with ⟨a, b⟩ | ⟨a, b⟩
    · refine Or.inl ⟨?_, gp_clLt h0 b⟩
      have : p = 0 := by grind
      rw [this]; decide
    · have e := gp_clP (a := p) (by grind) (by grind)
      refine Or.inr ⟨(p - 1).toNatClampNeg, e.symm, fun z => b ?_⟩
      have e2 := gp_nT (hpe (p - 1).toNatClampNeg).1
      exact Int32.toInt_inj.mp (by omega)
  have hb := gp_runB hr hc'
  have hcc : sp_in c 0 399 := by
    refine ⟨h0, Int32.le_iff_toInt_le.mpr ?_⟩
    rcases hb with h | ⟨p', _, h⟩
    · omega
    · have e2 := gp_nT (hpe p').1
      have := Int32.le_iff_toInt_le.mp (hpe p').2
      omega
  refine ⟨hcc, ?_⟩
  rcases gp_runI hr hc' with ⟨n1, hf, hnn, w', hw', hr'⟩ | ⟨b, t, hbe, hp100, hnext⟩
  · refine ⟨n1, Or.inl ⟨hf, by omega⟩, fun now' p' r ps' pe' pl' pa' hcr hnow hr0 => ?_⟩
    rcases hcr with ⟨_, rfl, rfl, rfl, rfl, rfl, e⟩ | ⟨_, b, t, z, hbe, _⟩
    · refine ⟨w', hw', hr0, hp, ⟨Int32.le_iff_toInt_le.mpr (by omega), Int32.le_iff_toInt_le.mpr (by omega)⟩, n - n1, by omega, ?_⟩
      rw [e]
      exact hr'
    · exact (gp_ftbe hf hbe).elim
  · refine ⟨0, Or.inr ⟨rfl, by grind, b, t, hbe⟩, fun now' p' r ps' pe' pl' pa' hcr hnow hr0 => ?_⟩
    rcases hcr with ⟨hf, _⟩ | ⟨_, b', t', z, hbe', rfl, rfl, e1, rfl, rfl, rfl, e2⟩
    · exact (gp_ftbe hf hbe).elim
    · obtain ⟨rfl, rfl⟩ := gp_bebe hbe hbe'
      have hpl : p < 100 := by
        refine Int32.lt_iff_toInt_lt.mpr ?_
        have : (100 : Int32).toInt = 100 := by decide
        omega
      obtain ⟨w', hw', hr'⟩ := hnext (upd ps p.toNatClampNeg r) (upd pe p.toNatClampNeg (eo b)) (upd pl p.toNatClampNeg t) (upd pa p.toNatClampNeg z) (fun i hi => ⟨gp_updN (by omega), gp_updN (by omega), gp_updN (by omega), gp_updN (by omega)⟩) (by rw [gp_updE]; exact e1) gp_updE gp_updE (by rw [gp_updE]; exact e2)
      have hnow2 : now' = now := Int32.toInt_inj.mp (by omega)
      rw [hnow2]
      refine ⟨w', hw', hr0, by grind, hn, n, hle, ?_⟩
      rw [gp_clS hp.1 (by grind), e1]
      exact hr'
theorem gp_goE {cd f1 f2 eo co fc ps pe pl pa pl' : Nat → Int32} {cz c p now : Int32} {w : Nat} (h : gp_go cd f1 f2 eo co fc ps pe pl pa cz c p now w) (hp0 : 0 < p) (hc : c = pe (p - 1).toNatClampNeg) (hps : ∀ i, sp_in (ps i) 0 400) (e1 : pl' = upd pl (p - 1).toNatClampNeg (pl (p - 1).toNatClampNeg - 1)) (h1 : 0 < pl' (p - 1).toNatClampNeg) : ∃ w', w' < w ∧ gp_go cd f1 f2 eo co fc ps pe pl' pa cz (ps (p - 1).toNatClampNeg) p now w' := by
  obtain ⟨h0, hp, hn, n, hle, hr⟩ := h
  have e := gp_clP (a := p) (by grind) (by grind)
  generalize hk : (p - 1).toNatClampNeg = k at *
  rw [← e, hc] at hr
  have hl1 : 1 ≤ (pl k).toNatClampNeg := by
    obtain ⟨q, d, n1, w1, n2, w2, n3, w3, hd, g1, g2, g3, _⟩ := hr
    exact g3
  have hpos : 1 ≤ pl k := by
    refine Int32.le_iff_toInt_le.mpr ?_
    have c1 : (1 : Int32).toInt = 1 := by decide
    have : 1 ≤ (pl k).toInt.toNat := hl1
    omega
  have e2 : pl' k = pl k - 1 := by rw [e1]; exact gp_updE
  have hbig : (pl k).toInt < 2147483648 := Int32.toInt_lt (pl k)
  have e3 : (pl k - 1).toInt = (pl k).toInt - 1 := by
    have c1 : (1 : Int32).toInt = 1 := by decide
    have := Int32.le_iff_toInt_le.mp hpos
    rw [Int32.toInt_sub, c1]
    exact Int.bmod_eq_of_le (by omega) (by omega)
  have hp2 : 0 < (pl k).toInt - 1 := by
    rw [e2] at h1
    have := Int32.lt_iff_toInt_lt.mp h1
    have c0 : (0 : Int32).toInt = 0 := by decide
    omega
  have e4 : (pl' k).toNatClampNeg + 1 = (pl k).toNatClampNeg := by
    rw [e2]
    show (pl k - 1).toInt.toNat + 1 = (pl k).toInt.toNat
    omega
  have hl2 : 2 ≤ (pl k).toNatClampNeg := by
    show 2 ≤ (pl k).toInt.toNat
    omega
  obtain ⟨w', hw', hr'⟩ := gp_runE hr hl2 e4 (fun i hi => by rw [e1]; exact gp_updN (by omega))
  refine ⟨w', hw', (hps k).1, hp, hn, n, hle, ?_⟩
  rw [← e]
  exact hr'
theorem gp_goX {cd f1 f2 eo co fc ps pe pl pa pl' : Nat → Int32} {cz c p now : Int32} {w : Nat} (h : gp_go cd f1 f2 eo co fc ps pe pl pa cz c p now w) (hp0 : 0 < p) (hc : c = pe (p - 1).toNatClampNeg) (hpa : ∀ i, sp_in (pa i) 0 400) (e1 : pl' = upd pl (p - 1).toNatClampNeg (pl (p - 1).toNatClampNeg - 1)) (h1 : ¬ 0 < pl' (p - 1).toNatClampNeg) : ∃ w', w' < w ∧ gp_go cd f1 f2 eo co fc ps pe pl' pa cz (pa (p - 1).toNatClampNeg) (p - 1) now w' := by
  obtain ⟨h0, hp, hn, n, hle, hr⟩ := h
  have e := gp_clP (a := p) (by grind) (by grind)
  have hpm : sp_in (p - 1) 0 100 := by grind
  unfold gp_go
  generalize hk : (p - 1).toNatClampNeg = k at *
  rw [← e, hc] at hr
  have hl1 : 1 ≤ (pl k).toNatClampNeg := by
    obtain ⟨q, d, n1, w1, n2, w2, n3, w3, hd, g1, g2, g3, _⟩ := hr
    exact g3
  have hpos : 1 ≤ pl k := by
    refine Int32.le_iff_toInt_le.mpr ?_
    have c1 : (1 : Int32).toInt = 1 := by decide
    have : 1 ≤ (pl k).toInt.toNat := hl1
    omega
  have e2 : pl' k = pl k - 1 := by rw [e1]; exact gp_updE
  have e3 : (pl k - 1).toInt = (pl k).toInt - 1 := by
    have c1 : (1 : Int32).toInt = 1 := by decide
    have := Int32.le_iff_toInt_le.mp hpos
    have hbig : (pl k).toInt < 2147483648 := Int32.toInt_lt (pl k)
    rw [Int32.toInt_sub, c1]
    exact Int.bmod_eq_of_le (by omega) (by omega)
  have hp2 : ¬ 0 < (pl k).toInt - 1 := by
    intro z
    refine h1 ?_
    rw [e2]
    refine Int32.lt_iff_toInt_lt.mpr ?_
    have c0 : (0 : Int32).toInt = 0 := by decide
    omega
  have hl2 : (pl k).toNatClampNeg ≤ 1 := by
    show (pl k).toInt.toNat ≤ 1
    omega
  obtain ⟨w', hw', hr'⟩ := gp_runX (pl' := pl') hr hl2 (fun i hi => by rw [e1]; exact gp_updN (by omega))
  exact ⟨w', hw', (hpa k).1, hpm, hn, n, hle, hr'⟩
theorem gp_go0 {cd f1 f2 eo co fc ok oc ps pe pl pa : Nat → Int32} {cz op fg : Int32} (h : gp_rd cz.toNatClampNeg op.toNatClampNeg fg.toNatClampNeg cd f1 f2 eo co fc ok oc) (ho : op = 0) (h2 : oc 0 ≤ 240) : ∃ w, gp_go cd f1 f2 eo co fc ps pe pl pa cz 0 0 0 w := by
  subst ho
  have e : (0 : Int32).toNatClampNeg = 0 := by decide
  rw [e] at h
  obtain ⟨n, w, hn, hr⟩ := gp_rdE (ps := ps) (pe := pe) (pl := pl) (pa := pa) h h2
  have c0 : (0 : Int32).toInt = 0 := by decide
  refine ⟨w, by decide, by decide, by decide, n, by omega, ?_⟩
  rw [e]
  exact hr
/-- a place between two places -/
theorem gp_mvI {f t i k : Int} (hf : 0 ≤ f ∧ f ≤ 9999) (ht : 0 ≤ t ∧ t ≤ 9999) (hi : 1 ≤ i ∧ i ≤ k) : 0 ≤ f + (t - f) * i / k ∧ f + (t - f) * i / k ≤ 9999 := by
  have hk : 0 < k := by omega
  by_cases h : f ≤ t
  · have a1 : 0 ≤ (t - f) * i := Int.mul_nonneg (by omega) (by omega)
    have a2 : (t - f) * i ≤ (t - f) * k := Int.mul_le_mul_of_nonneg_left hi.2 (by omega)
    have b1 : 0 ≤ (t - f) * i / k := Int.ediv_nonneg a1 (by omega)
    have b2 : (t - f) * i / k ≤ t - f := by
      have := Int.ediv_le_ediv hk a2
      rw [Int.mul_ediv_cancel _ (by omega)] at this
      exact this
    omega
  · have a1 : (t - f) * i ≤ 0 := by
      have := Int.mul_nonneg (a := f - t) (b := i) (by omega) (by omega)
      have e : (t - f) * i = -((f - t) * i) := by rw [← Int.neg_mul]; congr 1; omega
      omega
    have a2 : (t - f) * k ≤ (t - f) * i := by
      have := Int.mul_le_mul_of_nonneg_left hi.2 (show 0 ≤ f - t by omega)
      have e1 : (t - f) * i = -((f - t) * i) := by rw [← Int.neg_mul]; congr 1; omega
      have e2 : (t - f) * k = -((f - t) * k) := by rw [← Int.neg_mul]; congr 1; omega
      omega
    have b1 : t - f ≤ (t - f) * i / k := by
      have := Int.ediv_le_ediv hk a2
      rw [Int.mul_ediv_cancel _ (by omega)] at this
      exact this
    have b2 : (t - f) * i / k ≤ 0 := by
      have := Int.ediv_le_ediv hk a1
      simpa using this
    omega
theorem gp_mv0 {f t i : Int32} (hf : sp_in f 0 9999) (ht : sp_in t 0 1000) (hi : sp_in i 1 200) : (t - f).toInt = t.toInt - f.toInt ∧ ((t - f) * i).toInt = (t.toInt - f.toInt) * i.toInt ∧ sp_in ((t - f) * i) (-2000000) 2000000 := by
  obtain ⟨f1, f2⟩ := gp_inT hf
  obtain ⟨t1, t2⟩ := gp_inT ht
  obtain ⟨i1, i2⟩ := gp_inT hi
  have c0 : (0 : Int32).toInt = 0 := by decide
  have c1 : (1 : Int32).toInt = 1 := by decide
  have c2 : (200 : Int32).toInt = 200 := by decide
  have c3 : (1000 : Int32).toInt = 1000 := by decide
  have c4 : (9999 : Int32).toInt = 9999 := by decide
  have c5 : (-2000000 : Int32).toInt = -2000000 := by decide
  have c6 : (2000000 : Int32).toInt = 2000000 := by decide
  have e : (t - f).toInt = t.toInt - f.toInt := by
    rw [Int32.toInt_sub]
    exact gp_bm3 (by omega) (by omega)
  obtain ⟨e2, l1, l2⟩ := gp_prI (a := t - f) (b := i) (A := 9999) (B := 200) (by omega) (by omega) (by omega) (by omega) (by decide)
  rw [e] at e2 l1 l2
  exact ⟨e, e2, gp_inF (by omega) (by omega)⟩
theorem gp_mv {f t i k q : Int32} (hf : sp_in f 0 9999) (ht : sp_in t 0 1000) (hi : 1 ≤ i) (hik : i ≤ k) (hk : k ≤ 200) (hq : q.toInt = ((t - f) * i).toInt / k.toInt) : sp_in (f + q) 0 9999 := by
  obtain ⟨e, e2, _⟩ := gp_mv0 hf ht (show sp_in i 1 200 by grind)
  obtain ⟨f1, f2⟩ := gp_inT hf
  obtain ⟨t1, t2⟩ := gp_inT ht
  have i1 := Int32.le_iff_toInt_le.mp hi
  have i2 := Int32.le_iff_toInt_le.mp hik
  have c0 : (0 : Int32).toInt = 0 := by decide
  have c1 : (1 : Int32).toInt = 1 := by decide
  have c3 : (1000 : Int32).toInt = 1000 := by decide
  have c4 : (9999 : Int32).toInt = 9999 := by decide
  rw [e2] at hq
  obtain ⟨k1, k2⟩ := gp_mvI (f := f.toInt) (t := t.toInt) (i := i.toInt) (k := k.toInt) ⟨by omega, by omega⟩ ⟨by omega, by omega⟩ ⟨by omega, by omega⟩
  have e3 : (f + q).toInt = f.toInt + q.toInt := by
    rw [Int32.toInt_add]
    exact gp_bm3 (by omega) (by omega)
  exact gp_inF (by omega) (by omega)
theorem gp_rs {h i k : Int32} (hh : sp_in h 1 40) (hi : 1 ≤ i) (hik : i ≤ k) (hk : sp_in k 2 40) : sp_in (4 * h * i * (k - i) / (k * k)) 0 40 := by
  obtain ⟨h1, h2⟩ := gp_inT hh
  obtain ⟨k1, k2⟩ := gp_inT hk
  have i1 := Int32.le_iff_toInt_le.mp hi
  have i2 := Int32.le_iff_toInt_le.mp hik
  have c0 : (0 : Int32).toInt = 0 := by decide
  have c1 : (1 : Int32).toInt = 1 := by decide
  have c2 : (2 : Int32).toInt = 2 := by decide
  have c4 : (4 : Int32).toInt = 4 := by decide
  have c40 : (40 : Int32).toInt = 40 := by decide
  obtain ⟨e1, l1, l2⟩ := gp_prI (a := 4) (b := h) (A := 4) (B := 40) (by omega) (by omega) (by omega) (by omega) (by decide)
  rw [c4] at e1 l1 l2
  obtain ⟨e2, l3, l4⟩ := gp_prI (a := 4 * h) (b := i) (A := 160) (B := 40) (by omega) (by omega) (by omega) (by omega) (by decide)
  rw [e1] at e2 l3 l4
  have e3 : (k - i).toInt = k.toInt - i.toInt := by
    rw [Int32.toInt_sub]
    exact gp_bm3 (by omega) (by omega)
  obtain ⟨e4, l5, l6⟩ := gp_prI (a := 4 * h * i) (b := k - i) (A := 6400) (B := 40) (by omega) (by omega) (by omega) (by omega) (by decide)
  rw [e2, e3] at e4 l5 l6
  obtain ⟨e5, l7, l8⟩ := gp_prI (a := k) (b := k) (A := 40) (B := 40) (by omega) (by omega) (by omega) (by omega) (by decide)
  generalize hH : h.toInt = H at *
  generalize hI : i.toInt = I at *
  generalize hK : k.toInt = K at *
  have n1 : 0 ≤ 4 * H * I * (K - I) := Int.mul_nonneg (Int.mul_nonneg (by omega) (by omega)) (by omega)
  have kk : 0 < K * K := Int.mul_pos (by omega) (by omega)
  have key : 4 * H * I * (K - I) ≤ H * (K * K) := by
    have sq : 0 ≤ (K - 2 * I) * (K - 2 * I) := by
      by_cases hs : 0 ≤ K - 2 * I
      · exact Int.mul_nonneg hs hs
      · have := Int.mul_nonneg (a := 2 * I - K) (b := 2 * I - K) (by omega) (by omega)
        have e : (K - 2 * I) * (K - 2 * I) = (2 * I - K) * (2 * I - K) := by rw [← Int.neg_mul_neg]; congr 1 <;> omega
        omega
    have hq : 4 * I * (K - I) ≤ K * K := by grind
    have hm := Int.mul_le_mul_of_nonneg_left hq (show 0 ≤ H by omega)
    have e : H * (4 * I * (K - I)) = 4 * H * I * (K - I) := by grind
    omega
  have q1 : 0 ≤ 4 * H * I * (K - I) / (K * K) := Int.ediv_nonneg n1 (by omega)
  have q2 : 4 * H * I * (K - I) / (K * K) ≤ H := by
    have := Int.ediv_le_ediv kk key
    rw [Int.mul_ediv_cancel _ (by omega)] at this
    exact this
  have ed : (4 * h * i * (k - i) / (k * k)).toInt = 4 * H * I * (K - I) / (K * K) := by
    rw [Int32.toInt_div, e4, e5, Int.tdiv_eq_ediv_of_nonneg n1]
    exact gp_bm3 (by omega) (by omega)
  exact gp_inF (by omega) (by omega)
