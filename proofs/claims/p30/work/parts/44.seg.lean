/-! the reference's code: what stands between two places of it, and the pile of its walk -/
/-- items that go no deeper: n counts -/
def gp_ft (cd f1 f2 co fc : Nat → Int32) (a n : Nat) : Prop :=
  (cd a = 1 ∧ sp_in (f1 a) 0 1000 ∧ n = 0) ∨ (cd a = 5 ∧ n = 0) ∨ (cd a = 2 ∧ sp_in (f1 a) 0 1000 ∧ sp_in (f2 a) 1 200 ∧ n = (f2 a).toNatClampNeg) ∨ (cd a = 3 ∧ sp_in (f1 a) 1 200 ∧ n = (f1 a).toNatClampNeg) ∨ (cd a = 4 ∧ sp_in (f1 a) 1 40 ∧ sp_in (f2 a) 2 40 ∧ n = (f2 a).toNatClampNeg) ∨ (cd a = 7 ∧ n = 0) ∨ (cd a = 6 ∧ (f1 a = 0 ∨ co a = 0) ∧ n = 0) ∨ (cd a = 8 ∧ sp_in (f1 a) 0 11 ∧ co (fc (f1 a).toNatClampNeg).toNatClampNeg = 0 ∧ n = 0)
/-- items that are a block: block b, t times -/
def gp_be (cd f1 co fc : Nat → Int32) (a b : Nat) (t : Int32) : Prop :=
  (cd a = 6 ∧ sp_in (f1 a) 1 20 ∧ ¬ co a = 0 ∧ b = a ∧ t = f1 a) ∨ (cd a = 8 ∧ sp_in (f1 a) 0 11 ∧ ¬ co (fc (f1 a).toNatClampNeg).toNatClampNeg = 0 ∧ b = (fc (f1 a).toNatClampNeg).toNatClampNeg ∧ t = 1)
/-- the place behind an item -/
def gp_nx (cd eo : Nat → Int32) (a : Nat) : Nat := if cd a = 6 ∨ cd a = 7 then (eo a).toNatClampNeg else a + 1
/-- figures that an item names are told, and what it names is settled -/
def gp_kn (Q : Nat → Prop) (F : Nat) (cd f1 fc : Nat → Int32) (a : Nat) : Prop := Q a ∧ (cd a = 8 → (f1 a).toNatClampNeg < F ∧ Q (fc (f1 a).toNatClampNeg).toNatClampNeg)
/-- a .. b: n counts, w steps, at most d blocks deep; q: how long it takes to see that -/
def gp_sg (Q : Nat → Prop) (F : Nat) (cd f1 f2 eo co fc : Nat → Int32) : Nat → Nat → Nat → Nat → Nat → Nat → Prop
  | 0, a, b, n, w, _ => a = b ∧ n = 0 ∧ w = 0
  | q + 1, a, b, n, w, d => (a = b ∧ n = 0 ∧ w = 0) ∨ (a < b ∧ gp_kn Q F cd f1 fc a ∧ ∃ n1 w1 n2 w2 : Nat, n = n1 + n2 ∧ w = w1 + w2 ∧ gp_sg Q F cd f1 f2 eo co fc q (gp_nx cd eo a) b n2 w2 d ∧
      ((gp_ft cd f1 f2 co fc a n1 ∧ w1 = 1) ∨ (∃ (b' : Nat) (t : Int32) (n3 w3 d' : Nat), gp_be cd f1 co fc a b' t ∧ d' + 1 ≤ d ∧ gp_sg Q F cd f1 f2 eo co fc q (b' + 1) (eo b').toNatClampNeg n3 w3 d' ∧ n1 = t.toNatClampNeg * n3 ∧ w1 = 1 + t.toNatClampNeg * (w3 + 1))))
theorem gp_sgM {Q Q' : Nat → Prop} {F F' : Nat} {cd f1 f2 eo co fc cd' f1' f2' eo' co' fc' : Nat → Int32} (hQ : ∀ i, Q i → Q' i) (hF : F ≤ F') (e1 : ∀ i, Q i → cd' i = cd i) (e2 : ∀ i, Q i → f1' i = f1 i) (e3 : ∀ i, Q i → f2' i = f2 i) (e4 : ∀ i, Q i → eo' i = eo i) (e5 : ∀ i, Q i → co' i = co i) (e6 : ∀ i, i < F → fc' i = fc i) :
    ∀ (q q' a b n w d d' : Nat), q ≤ q' → d ≤ d' → gp_sg Q F cd f1 f2 eo co fc q a b n w d → gp_sg Q' F' cd' f1' f2' eo' co' fc' q' a b n w d' := by
  intro q
  induction q with
  | zero =>
    intro q' a b n w d d' _ _ h
    cases q' with
    | zero => exact h
    | succ q' => exact Or.inl h
  | succ q ih =>
    intro q' a b n w d d' hq hd h
    cases q' with
    | zero => omega
    | succ q' =>
      rcases h with h | ⟨hab, ⟨hk, hk2⟩, n1, w1, n2, w2, hn, hw, hs, hi⟩
      · exact Or.inl h
      · have c1 := e1 a hk
        have c2 := e2 a hk
        have c3 := e3 a hk
        have c4 := e4 a hk
        have c5 := e5 a hk
        refine Or.inr ⟨hab, ⟨hQ a hk, fun h8 => ?_⟩, n1, w1, n2, w2, hn, hw, ?_, ?_⟩
        · rw [c1] at h8
          obtain ⟨g1, g2⟩ := hk2 h8
          rw [c2, e6 _ g1]
          exact ⟨by omega, hQ _ g2⟩
        · have : gp_nx cd' eo' a = gp_nx cd eo a := by unfold gp_nx; rw [c1, c4]
          rw [this]
          exact ih q' _ b n2 w2 d d' (by omega) hd hs
        · rcases hi with ⟨hf, hw1⟩ | ⟨b', t, n3, w3, d3, hb, hd3, hs3, hn1, hw1⟩
          · refine Or.inl ⟨?_, hw1⟩
            unfold gp_ft at hf ⊢
            rw [c1, c2, c3, c5]
            rcases hf with h | h | h | h | h | h | h | h
            · exact Or.inl h
            · exact Or.inr (Or.inl h)
            · exact Or.inr (Or.inr (Or.inl h))
            · exact Or.inr (Or.inr (Or.inr (Or.inl h)))
            · exact Or.inr (Or.inr (Or.inr (Or.inr (Or.inl h))))
            · exact Or.inr (Or.inr (Or.inr (Or.inr (Or.inr (Or.inl h)))))
            · exact Or.inr (Or.inr (Or.inr (Or.inr (Or.inr (Or.inr (Or.inl h))))))
            · obtain ⟨g1, g2⟩ := hk2 h.1
              rw [e6 _ g1, e5 _ g2]
              exact Or.inr (Or.inr (Or.inr (Or.inr (Or.inr (Or.inr (Or.inr h))))))
          · have hb' : gp_be cd' f1' co' fc' a b' t ∧ eo' b' = eo b' := by
              unfold gp_be at hb ⊢
              rw [c1, c2, c5]
              rcases hb with h | h
              · exact ⟨Or.inl h, by rw [h.2.2.2.1]; exact c4⟩
              · obtain ⟨g1, g2⟩ := hk2 h.1
                rw [e6 _ g1, e5 _ g2]
                exact ⟨Or.inr h, by rw [h.2.2.2.1]; exact e4 _ g2⟩
            refine Or.inr ⟨b', t, n3, w3, d3, hb'.1, by omega, ?_, hn1, hw1⟩
            rw [hb'.2]
            exact ih q' _ _ n3 w3 d3 d3 (by omega) (Nat.le_refl _) hs3
theorem gp_sgU {Q : Nat → Prop} {F : Nat} {cd f1 f2 eo co fc : Nat → Int32} {q q' a b n w d d' : Nat} (hq : q ≤ q') (hd : d ≤ d') (h : gp_sg Q F cd f1 f2 eo co fc q a b n w d) : gp_sg Q F cd f1 f2 eo co fc q' a b n w d' :=
  gp_sgM (fun _ h => h) (Nat.le_refl _) (fun _ _ => rfl) (fun _ _ => rfl) (fun _ _ => rfl) (fun _ _ => rfl) (fun _ _ => rfl) (fun _ _ => rfl) q q' a b n w d d' hq hd h
theorem gp_sgA {Q : Nat → Prop} {F : Nat} {cd f1 f2 eo co fc : Nat → Int32} {q' b c n' w' d : Nat} (hbc : b ≤ c) (h2 : gp_sg Q F cd f1 f2 eo co fc q' b c n' w' d) :
    ∀ (q a n w : Nat), gp_sg Q F cd f1 f2 eo co fc q a b n w d → gp_sg Q F cd f1 f2 eo co fc (q + q') a c (n + n') (w + w') d := by
  intro q
  induction q with
  | zero =>
    intro a n w h
    obtain ⟨rfl, rfl, rfl⟩ := h
    simpa using h2
  | succ q ih =>
    intro a n w h
    rcases h with ⟨rfl, rfl, rfl⟩ | ⟨hab, hk, n1, w1, n2, w2, rfl, rfl, hs, hi⟩
    · rw [Nat.zero_add, Nat.zero_add]
      exact gp_sgU (by omega) (Nat.le_refl _) h2
    · have e : q + 1 + q' = (q + q') + 1 := by omega
      rw [e]
      refine Or.inr ⟨by omega, hk, n1, w1, n2 + n', w2 + w', by omega, by omega, ih _ _ _ hs, ?_⟩
      rcases hi with h | ⟨b', t, n3, w3, d3, hb, hd3, hs3, hn1, hw1⟩
      · exact Or.inl h
      · exact Or.inr ⟨b', t, n3, w3, d3, hb, hd3, gp_sgU (by omega) (Nat.le_refl _) hs3, hn1, hw1⟩
theorem gp_sg1 {Q : Nat → Prop} {F : Nat} {cd f1 f2 eo co fc : Nat → Int32} {a b n d : Nat} (hab : a < b) (hk : gp_kn Q F cd f1 fc a) (hx : gp_nx cd eo a = b) (hf : gp_ft cd f1 f2 co fc a n) : gp_sg Q F cd f1 f2 eo co fc 1 a b n 1 d :=
  Or.inr ⟨hab, hk, n, 1, 0, 0, rfl, rfl, ⟨hx, rfl, rfl⟩, Or.inl ⟨hf, rfl⟩⟩
theorem gp_sg2 {Q : Nat → Prop} {F : Nat} {cd f1 f2 eo co fc : Nat → Int32} {a b b' n3 w3 d' d q : Nat} {t : Int32} (hab : a < b) (hk : gp_kn Q F cd f1 fc a) (hx : gp_nx cd eo a = b) (hb : gp_be cd f1 co fc a b' t) (hd : d' + 1 ≤ d) (hs : gp_sg Q F cd f1 f2 eo co fc q (b' + 1) (eo b').toNatClampNeg n3 w3 d') : gp_sg Q F cd f1 f2 eo co fc (q + 1) a b (t.toNatClampNeg * n3) (1 + t.toNatClampNeg * (w3 + 1)) d := by
  refine Or.inr ⟨hab, hk, t.toNatClampNeg * n3, 1 + t.toNatClampNeg * (w3 + 1), 0, 0, rfl, rfl, ?_, Or.inr ⟨b', t, n3, w3, d', hb, hd, hs, rfl, rfl⟩⟩
  cases q with
  | zero => exact ⟨hx, rfl, rfl⟩
  | succ q => exact Or.inl ⟨hx, rfl, rfl⟩
/-- the walk: what is left to do, under a pile of p blocks -/
def gp_run (cd f1 f2 eo co fc ps pe pl pa : Nat → Int32) (cz : Nat) : Nat → Nat → Nat → Nat → Prop
  | 0, c, n, w => ∃ q d : Nat, d ≤ 100 ∧ gp_sg (fun _ => True) 12 cd f1 f2 eo co fc q c cz n w d
  | p + 1, c, n, w => ∃ q d n1 w1 n2 w2 n3 w3 : Nat, d + (p + 1) ≤ 100 ∧ gp_sg (fun _ => True) 12 cd f1 f2 eo co fc q c (pe p).toNatClampNeg n1 w1 d ∧ gp_sg (fun _ => True) 12 cd f1 f2 eo co fc q (ps p).toNatClampNeg (pe p).toNatClampNeg n2 w2 d ∧ 1 ≤ (pl p).toNatClampNeg ∧ gp_run cd f1 f2 eo co fc ps pe pl pa cz p (pa p).toNatClampNeg n3 w3 ∧ n = n1 + ((pl p).toNatClampNeg - 1) * n2 + n3 ∧ w = w1 + 1 + ((pl p).toNatClampNeg - 1) * (w2 + 1) + w3
theorem gp_runF {cd f1 f2 eo co fc ps pe pl pa ps' pe' pl' pa' : Nat → Int32} {cz : Nat} : ∀ (p c n w : Nat), (∀ i, i < p → ps' i = ps i ∧ pe' i = pe i ∧ pl' i = pl i ∧ pa' i = pa i) → gp_run cd f1 f2 eo co fc ps pe pl pa cz p c n w → gp_run cd f1 f2 eo co fc ps' pe' pl' pa' cz p c n w := by
  intro p
  induction p with
  | zero => intro c n w _ h; exact h
  | succ p ih =>
    intro c n w he h
    obtain ⟨q, d, n1, w1, n2, w2, n3, w3, hd, h1, h2, h3, h4, hn, hw⟩ := h
    obtain ⟨a1, a2, a3, a4⟩ := he p (Nat.lt_succ_self p)
    refine ⟨q, d, n1, w1, n2, w2, n3, w3, hd, ?_, ?_, ?_, ?_, ?_, ?_⟩
    · rw [a2]; exact h1
    · rw [a1, a2]; exact h2
    · rw [a3]; exact h3
    · rw [a4]; exact ih _ _ _ (fun i hi => he i (by omega)) h4
    · rw [a3]; exact hn
    · rw [a3]; exact hw
/-- the place c, where the innermost block ends: once more -/
theorem gp_runE {cd f1 f2 eo co fc ps pe pl pa : Nat → Int32} {cz p n w : Nat} (h : gp_run cd f1 f2 eo co fc ps pe pl pa cz (p + 1) (pe p).toNatClampNeg n w) (h1 : 2 ≤ (pl p).toNatClampNeg) {pl' : Nat → Int32} (e1 : (pl' p).toNatClampNeg + 1 = (pl p).toNatClampNeg) (e2 : ∀ i, i < p → pl' i = pl i) : ∃ w', w' < w ∧ gp_run cd f1 f2 eo co fc ps pe pl' pa cz (p + 1) (ps p).toNatClampNeg n w' := by
  obtain ⟨q, d, n1, w1, n2, w2, n3, w3, hd, g1, g2, g3, g4, hn, hw⟩ := h
  have hz : n1 = 0 ∧ w1 = 0 := by
    cases q with
    | zero => exact ⟨g1.2.1, g1.2.2⟩
    | succ q =>
      rcases g1 with g | g
      · exact ⟨g.2.1, g.2.2⟩
      · omega
  obtain ⟨rfl, rfl⟩ := hz
  generalize hL : (pl p).toNatClampNeg = L at *
  generalize hL' : (pl' p).toNatClampNeg = L' at *
  obtain ⟨k, rfl⟩ : ∃ k, L' = k + 1 := ⟨L' - 1, by omega⟩
  subst e1
  refine ⟨w2 + 1 + k * (w2 + 1) + w3, ?_, q, d, n2, w2, n2, w2, n3, w3, hd, g2, g2, by omega, gp_runF p _ _ _ (fun i hi => ⟨rfl, rfl, e2 i hi, rfl⟩) g4, ?_, ?_⟩
  · rw [hw]
    have : (k + 1 + 1 - 1) * (w2 + 1) = k * (w2 + 1) + (w2 + 1) := by
      rw [Nat.add_sub_cancel, Nat.succ_mul]
    omega
  · rw [hn]
    have : (k + 1 + 1 - 1) * n2 = k * n2 + n2 := by rw [Nat.add_sub_cancel, Nat.succ_mul]
    have e3 : (k + 1 - 1) * n2 = k * n2 := by rw [Nat.add_sub_cancel]
    rw [hL']
    omega
  · rw [hL', Nat.add_sub_cancel]
theorem gp_runX {cd f1 f2 eo co fc ps pe pl pa : Nat → Int32} {cz p n w : Nat} (h : gp_run cd f1 f2 eo co fc ps pe pl pa cz (p + 1) (pe p).toNatClampNeg n w) (h1 : (pl p).toNatClampNeg ≤ 1) {pl' : Nat → Int32} (e2 : ∀ i, i < p → pl' i = pl i) : ∃ w', w' < w ∧ gp_run cd f1 f2 eo co fc ps pe pl' pa cz p (pa p).toNatClampNeg n w' := by
  obtain ⟨q, d, n1, w1, n2, w2, n3, w3, hd, g1, g2, g3, g4, hn, hw⟩ := h
  have hz : n1 = 0 ∧ w1 = 0 := by
    cases q with
    | zero => exact ⟨g1.2.1, g1.2.2⟩
    | succ q =>
      rcases g1 with g | g
      · exact ⟨g.2.1, g.2.2⟩
      · omega
  obtain ⟨rfl, rfl⟩ := hz
  have e : (pl p).toNatClampNeg - 1 = 0 := by omega
  rw [e] at hn hw
  refine ⟨w3, by omega, ?_⟩
  have : n = n3 := by omega
  rw [this]
  exact gp_runF p _ _ _ (fun i hi => ⟨rfl, rfl, e2 i hi, rfl⟩) g4
/-- an item ahead: it is flat, or a block -/
theorem gp_runI {cd f1 f2 eo co fc ps pe pl pa : Nat → Int32} {cz p c n w : Nat} (h : gp_run cd f1 f2 eo co fc ps pe pl pa cz p c n w) (hc : (p = 0 ∧ c < cz) ∨ ∃ p', p = p' + 1 ∧ c ≠ (pe p').toNatClampNeg) :
    (∃ n1, gp_ft cd f1 f2 co fc c n1 ∧ n1 ≤ n ∧ ∃ w', w' < w ∧ gp_run cd f1 f2 eo co fc ps pe pl pa cz p (gp_nx cd eo c) (n - n1) w') ∨
    (∃ (b : Nat) (t : Int32), gp_be cd f1 co fc c b t ∧ p < 100 ∧ ∀ ps' pe' pl' pa' : Nat → Int32, (∀ i, i < p → ps' i = ps i ∧ pe' i = pe i ∧ pl' i = pl i ∧ pa' i = pa i) → (ps' p).toNatClampNeg = b + 1 → pe' p = eo b → pl' p = t → (pa' p).toNatClampNeg = gp_nx cd eo c → ∃ w', w' < w ∧ gp_run cd f1 f2 eo co fc ps' pe' pl' pa' cz (p + 1) (b + 1) n w') := by
  have ht : ∀ {b : Nat} {t : Int32}, gp_be cd f1 co fc c b t → 1 ≤ t.toNatClampNeg := by
    intro b t hb
    rcases hb with h | h
    · rw [h.2.2.2.2]
      have := h.2.1.1
      have e0 : (1 : Int32).toInt = 1 := by decide
      have h1 := Int32.le_iff_toInt_le.mp this
      show 1 ≤ (f1 c).toInt.toNat
      omega
    · rw [h.2.2.2.2]; decide
  cases p with
  | zero =>
    obtain ⟨q, d, hd, g⟩ := h
    have hcz : c < cz := by
      rcases hc with h | ⟨p', h, _⟩
      · exact h.2
      · omega
    cases q with
    | zero => have := g.1; omega
    | succ q =>
      rcases g with g | ⟨_, _, n1, w1, n2, w2, rfl, rfl, hs, hi⟩
      · have := g.1; omega
      · rcases hi with ⟨hf, rfl⟩ | ⟨b', t, n3, w3, d3, hb, hd3, hs3, rfl, rfl⟩
        · exact Or.inl ⟨n1, hf, by omega, w2, by omega, q, d, hd, by rw [Nat.add_sub_cancel_left]; exact hs⟩
        · refine Or.inr ⟨b', t, hb, by omega, fun ps' pe' pl' pa' _ k1 k2 k3 k4 => ?_⟩
          have h1 := ht hb
          obtain ⟨k, hk⟩ : ∃ k, t.toNatClampNeg = k + 1 := ⟨t.toNatClampNeg - 1, by omega⟩
          refine ⟨w3 + 1 + k * (w3 + 1) + w2, ?_, q, d3, n3, w3, n3, w3, n2, w2, (show d3 + (0 + 1) ≤ 100 by omega), by rw [k2]; exact hs3, by rw [k1, k2]; exact hs3, by rw [k3]; omega, ⟨q, d, hd, by rw [k4]; exact hs⟩, ?_, ?_⟩
          · rw [hk, Nat.succ_mul]; omega
          · rw [k3, hk, Nat.succ_mul, Nat.add_sub_cancel]; omega
          · rw [k3, hk, Nat.add_sub_cancel]
  | succ p =>
    obtain ⟨q, d, n1, w1, n2, w2, n3, w3, hd, g1, g2, g3, g4, hn, hw⟩ := h
    have hne : c ≠ (pe p).toNatClampNeg := by
      rcases hc with h | ⟨p', h, h2⟩
      · omega
      · have : p' = p := by omega
        subst this
        exact h2
    cases q with
    | zero => exact absurd g1.1 hne
    | succ q =>
      rcases g1 with g | ⟨_, _, m1, x1, m2, x2, rfl, rfl, hs, hi⟩
      · exact absurd g.1 hne
      · rcases hi with ⟨hf, rfl⟩ | ⟨b', t, m3, x3, d3, hb, hd3, hs3, rfl, rfl⟩
        · exact Or.inl ⟨m1, hf, by omega, x2 + 1 + ((pl p).toNatClampNeg - 1) * (w2 + 1) + w3, by omega, q + 1, d, m2, x2, n2, w2, n3, w3, hd, gp_sgU (by omega) (Nat.le_refl _) hs, g2, g3, g4, by omega, rfl⟩
        · refine Or.inr ⟨b', t, hb, by omega, fun ps' pe' pl' pa' he k1 k2 k3 k4 => ?_⟩
          have h1 := ht hb
          obtain ⟨k, hk⟩ : ∃ k, t.toNatClampNeg = k + 1 := ⟨t.toNatClampNeg - 1, by omega⟩
          obtain ⟨a1, a2, a3, a4⟩ := he p (Nat.lt_succ_self p)
          refine ⟨x3 + 1 + k * (x3 + 1) + (x2 + 1 + ((pl p).toNatClampNeg - 1) * (w2 + 1) + w3), ?_, q, d3, m3, x3, m3, x3, m2 + ((pl p).toNatClampNeg - 1) * n2 + n3, x2 + 1 + ((pl p).toNatClampNeg - 1) * (w2 + 1) + w3, by omega, by rw [k2]; exact hs3, by rw [k1, k2]; exact hs3, by rw [k3]; omega, ?_, ?_, ?_⟩
          · rw [hw, hk, Nat.succ_mul]; omega
          · rw [k4]
            refine ⟨q + 1, d, m2, x2, n2, w2, n3, w3, hd, by rw [a2]; exact gp_sgU (by omega) (Nat.le_refl _) hs, by rw [a1, a2]; exact g2, by rw [a3]; exact g3, by rw [a4]; exact gp_runF p _ _ _ (fun i hi => he i (by omega)) g4, by rw [a3], by rw [a3]⟩
          · rw [hn, k3, hk, Nat.succ_mul, Nat.add_sub_cancel]; omega
          · rw [k3, hk, Nat.add_sub_cancel]
