/-! the reference's reading: what it keeps while no fault is found -/
def gp_Qs (cz op : Nat) (ok : Nat → Int32) : Nat → Prop := fun i => i < cz ∧ ∀ k : Nat, 1 ≤ k → k ≤ op → i ≠ (ok k).toNatClampNeg
def gp_la (ok : Nat → Int32) (k : Nat) : Nat := if k = 0 then 0 else (ok k).toNatClampNeg + 1
def gp_lz (cz op : Nat) (ok : Nat → Int32) (k : Nat) : Nat := if k = op then cz else (ok (k + 1)).toNatClampNeg
def gp_rd (cz op fg : Nat) (cd f1 f2 eo co fc ok oc : Nat → Int32) : Prop :=
  (fg ≤ 12 ∧ op ≤ 6) ∧ (∀ k : Nat, 1 ≤ k → k ≤ op → (ok k).toNatClampNeg < cz ∧ ((cd (ok k).toNatClampNeg = 6 ∧ sp_in (f1 (ok k).toNatClampNeg) 0 20) ∨ (cd (ok k).toNatClampNeg = 7 ∧ k = 1 ∧ fg < 12))) ∧
  (∀ j k : Nat, 1 ≤ j → j < k → k ≤ op → (ok j).toNatClampNeg < (ok k).toNatClampNeg) ∧
  (∀ k : Nat, k ≤ op → gp_la ok k ≤ gp_lz cz op ok k ∧ ∃ q n w : Nat, gp_sg (gp_Qs cz op ok) fg cd f1 f2 eo co fc q (gp_la ok k) (gp_lz cz op ok k) n w (7 * fg + 6 - k) ∧ (oc k).toInt = min 1000000 (n : Int)) ∧
  (∀ f : Nat, f < fg → gp_Qs cz op ok (fc f).toNatClampNeg ∧ ∃ q n w : Nat, gp_sg (gp_Qs cz op ok) fg cd f1 f2 eo co fc q ((fc f).toNatClampNeg + 1) (eo (fc f).toNatClampNeg).toNatClampNeg n w (7 * f + 5) ∧ (co (fc f).toNatClampNeg).toInt = min 1000000 (n : Int))
theorem gp_rd0 {cd f1 f2 eo co fc ok oc : Nat → Int32} (h : oc 0 = 0) : gp_rd 0 0 0 cd f1 f2 eo co fc ok oc := by
  refine ⟨⟨by omega, by omega⟩, fun k h1 h2 => by omega, fun j k h1 h2 h3 => by omega, fun k hk => ?_, fun f hf => by omega⟩
  have : k = 0 := by omega
  subst this
  refine ⟨by simp [gp_la, gp_lz], 0, 0, 0, ⟨by simp [gp_la, gp_lz], rfl, rfl⟩, ?_⟩
  rw [h]
  decide
theorem gp_updN {f : Nat → Int32} {k i : Nat} {v : Int32} (h : i ≠ k) : upd f k v i = f i := by unfold upd; rw [if_neg h]
theorem gp_updE {f : Nat → Int32} {k : Nat} {v : Int32} : upd f k v k = v := by unfold upd; rw [if_pos rfl]
/-- an item more on the level that is open -/
theorem gp_rdJ {cz op fg : Nat} {cd f1 f2 eo co fc ok oc cd' f1' f2' oc' : Nat → Int32} (h : gp_rd cz op fg cd f1 f2 eo co fc ok oc) (e1 : ∀ i, i ≠ cz → cd' i = cd i) (e2 : ∀ i, i ≠ cz → f1' i = f1 i) (e3 : ∀ i, i ≠ cz → f2' i = f2 i) (e4 : ∀ k, k ≠ op → oc' k = oc k)
    {qi n1 w1 : Nat} (hi : gp_sg (gp_Qs (cz + 1) op ok) fg cd' f1' f2' eo co fc qi cz (cz + 1) n1 w1 (7 * fg + 6 - op)) (e5 : (oc' op).toInt = min 1000000 ((oc op).toInt + n1)) : gp_rd (cz + 1) op fg cd' f1' f2' eo co fc ok oc' := by
  obtain ⟨hb, h1, h2, h3, h4⟩ := h
  have hQ : ∀ i, gp_Qs cz op ok i → gp_Qs (cz + 1) op ok i := fun i hi => ⟨by have := hi.1; omega, hi.2⟩
  have hne : ∀ i, gp_Qs cz op ok i → i ≠ cz := fun i hi => by have := hi.1; omega
  have mono : ∀ {q a b n w d : Nat}, gp_sg (gp_Qs cz op ok) fg cd f1 f2 eo co fc q a b n w d → gp_sg (gp_Qs (cz + 1) op ok) fg cd' f1' f2' eo co fc q a b n w d := fun {q a b n w d} hs =>
    gp_sgM hQ (Nat.le_refl _) (fun i hi => e1 i (hne i hi)) (fun i hi => e2 i (hne i hi)) (fun i hi => e3 i (hne i hi)) (fun _ _ => rfl) (fun _ _ => rfl) (fun _ _ => rfl) q q a b n w d d (Nat.le_refl _) (Nat.le_refl _) hs
  refine ⟨hb, fun k k1 k2 => ?_, h2, fun k hk => ?_, fun f hf => ?_⟩
  · obtain ⟨g1, g2⟩ := h1 k k1 k2
    refine ⟨by omega, ?_⟩
    rw [e1 _ (by omega), e2 _ (by omega)]
    exact g2
  · obtain ⟨g1, q, n, w, g2, g3⟩ := h3 k hk
    by_cases hko : k = op
    · subst hko
      have ez : gp_lz cz k ok k = cz := by simp [gp_lz]
      have ez' : gp_lz (cz + 1) k ok k = cz + 1 := by simp [gp_lz]
      rw [ez] at g1 g2
      rw [ez']
      refine ⟨by omega, q + qi, n + n1, w + w1, gp_sgA (by omega) hi q _ n w (mono g2), ?_⟩
      rw [e5, g3]
      push_cast
      omega
    · have ez : gp_lz (cz + 1) op ok k = gp_lz cz op ok k := by simp [gp_lz, hko]
      rw [ez, e4 k hko]
      exact ⟨g1, q, n, w, mono g2, g3⟩
  · obtain ⟨g1, q, n, w, g2, g3⟩ := h4 f hf
    exact ⟨hQ _ g1, q, n, w, mono g2, g3⟩
/-- a flat item, or a figure done -/
theorem gp_rdI {cz op fg : Nat} {cd f1 f2 eo co fc ok oc oc' : Nat → Int32} {x y z : Int32} (h : gp_rd cz op fg cd f1 f2 eo co fc ok oc) (hx : ¬ x = 6 ∧ ¬ x = 7 ∧ ¬ x = 8) {n1 : Nat} (hf : gp_ft (upd cd cz x) (upd f1 cz y) (upd f2 cz z) co fc cz n1) (e4 : ∀ k, k ≠ op → oc' k = oc k) (e5 : (oc' op).toInt = min 1000000 ((oc op).toInt + n1)) : gp_rd (cz + 1) op fg (upd cd cz x) (upd f1 cz y) (upd f2 cz z) eo co fc ok oc' := by
  refine gp_rdJ h (fun i hi => gp_updN hi) (fun i hi => gp_updN hi) (fun i hi => gp_updN hi) e4 (qi := 1) (w1 := 1) (gp_sg1 (by omega) ⟨⟨by omega, fun k k1 k2 => ?_⟩, fun h8 => ?_⟩ ?_ hf) e5
  · have := (h.2.1 k k1 k2).1; omega
  · rw [gp_updE] at h8; exact absurd h8 hx.2.2
  · unfold gp_nx; rw [gp_updE, if_neg (fun z => z.elim hx.1 hx.2.1)]
theorem gp_rdD {cz op fg : Nat} {cd f1 f2 eo co fc ok oc oc' : Nat → Int32} {y z : Int32} (h : gp_rd cz op fg cd f1 f2 eo co fc ok oc) (hy : sp_in y 0 11) (hyf : y.toNatClampNeg < fg) (e4 : ∀ k, k ≠ op → oc' k = oc k) (e5 : (oc' op).toInt = min 1000000 ((oc op).toInt + (co (fc y.toNatClampNeg).toNatClampNeg).toInt)) : gp_rd (cz + 1) op fg (upd cd cz 8) (upd f1 cz y) (upd f2 cz z) eo co fc ok oc' := by
  obtain ⟨g1, q, n, w, g2, g3⟩ := h.2.2.2.2 _ hyf
  have hop := h.1.2
  have hQ : ∀ i, gp_Qs cz op ok i → gp_Qs (cz + 1) op ok i := fun i hi => ⟨by have := hi.1; omega, hi.2⟩
  have hne : ∀ i, gp_Qs cz op ok i → i ≠ cz := fun i hi => by have := hi.1; omega
  have hk : gp_kn (gp_Qs (cz + 1) op ok) fg (upd cd cz 8) (upd f1 cz y) fc cz := ⟨⟨by omega, fun k k1 k2 => by have := (h.2.1 k k1 k2).1; omega⟩, fun _ => by rw [gp_updE]; exact ⟨hyf, hQ _ g1⟩⟩
  have hx : gp_nx (upd cd cz 8) eo cz = cz + 1 := by unfold gp_nx; rw [gp_updE, if_neg (by decide)]
  by_cases hc0 : co (fc y.toNatClampNeg).toNatClampNeg = 0
  · refine gp_rdJ h (fun i hi => gp_updN hi) (fun i hi => gp_updN hi) (fun i hi => gp_updN hi) e4 (qi := 1) (w1 := 1) (n1 := 0) (gp_sg1 (by omega) hk hx ?_) ?_
    · unfold gp_ft
      simp only [gp_updE]
      exact Or.inr (Or.inr (Or.inr (Or.inr (Or.inr (Or.inr (Or.inr ⟨trivial, hy, hc0, trivial⟩))))))
    · rw [e5, hc0]; rfl
  · have hs := gp_sgM hQ (Nat.le_refl _) (fun i hi => gp_updN (f := cd) (v := 8) (hne i hi)) (fun i hi => gp_updN (f := f1) (v := y) (hne i hi)) (fun i hi => gp_updN (f := f2) (v := z) (hne i hi)) (fun _ _ => rfl) (fun _ _ => rfl) (fun _ _ => rfl) q q _ _ n w _ _ (Nat.le_refl _) (Nat.le_refl _) g2
    have hb : gp_be (upd cd cz 8) (upd f1 cz y) co fc cz (fc y.toNatClampNeg).toNatClampNeg 1 := by
      unfold gp_be
      simp only [gp_updE]
      exact Or.inr ⟨trivial, hy, hc0, trivial, trivial⟩
    refine gp_rdJ h (fun i hi => gp_updN hi) (fun i hi => gp_updN hi) (fun i hi => gp_updN hi) e4 (gp_sg2 (by omega) hk hx hb (by omega) hs) ?_
    rw [e5, g3]
    have e1 : (1 : Int32).toNatClampNeg = 1 := by decide
    rw [e1, Nat.one_mul]
    have h3 := h.2.2.2.1 op (Nat.le_refl _)
    obtain ⟨_, q', n', w', _, h3'⟩ := h3
    rw [h3']
    omega
/-- a block is opened -/
theorem gp_rdO {cz op fg : Nat} {cd f1 f2 eo co fc ok oc ok' oc' : Nat → Int32} {x y z : Int32} (h : gp_rd cz op fg cd f1 f2 eo co fc ok oc) (hop : op < 6) (hx : (x = 6 ∧ sp_in y 0 20) ∨ (x = 7 ∧ op = 0 ∧ fg < 12)) (e1 : (ok' (op + 1)).toNatClampNeg = cz) (e2 : ∀ k, k ≠ op + 1 → ok' k = ok k) (e3 : oc' (op + 1) = 0) (e4 : ∀ k, k ≠ op + 1 → oc' k = oc k) : gp_rd (cz + 1) (op + 1) fg (upd cd cz x) (upd f1 cz y) (upd f2 cz z) eo co fc ok' oc' := by
  obtain ⟨hb, h1, h2, h3, h4⟩ := h
  have hQ : ∀ i, gp_Qs cz op ok i → gp_Qs (cz + 1) (op + 1) ok' i := fun i hi => ⟨by have := hi.1; omega, fun k k1 k2 => by
    by_cases hk : k = op + 1
    · subst hk; rw [e1]; have := hi.1; omega
    · rw [e2 k hk]; exact hi.2 k k1 (by omega)⟩
  have hne : ∀ i, gp_Qs cz op ok i → i ≠ cz := fun i hi => by have := hi.1; omega
  have mono : ∀ {q a b n w d : Nat}, gp_sg (gp_Qs cz op ok) fg cd f1 f2 eo co fc q a b n w d → gp_sg (gp_Qs (cz + 1) (op + 1) ok') fg (upd cd cz x) (upd f1 cz y) (upd f2 cz z) eo co fc q a b n w d := fun {q a b n w d} hs =>
    gp_sgM hQ (Nat.le_refl _) (fun i hi => gp_updN (hne i hi)) (fun i hi => gp_updN (hne i hi)) (fun i hi => gp_updN (hne i hi)) (fun _ _ => rfl) (fun _ _ => rfl) (fun _ _ => rfl) q q a b n w d d (Nat.le_refl _) (Nat.le_refl _) hs
  refine ⟨⟨hb.1, by omega⟩, fun k k1 k2 => ?_, fun j k j1 jk k2 => ?_, fun k hk => ?_, fun f hf => ?_⟩
  · by_cases hk : k = op + 1
    · subst hk
      rw [e1, gp_updE, gp_updE]
      refine ⟨by omega, ?_⟩
      rcases hx with ⟨a, b⟩ | ⟨a, b, c⟩
      · exact Or.inl ⟨a, b⟩
      · exact Or.inr ⟨a, by omega, c⟩
    · obtain ⟨g1, g2⟩ := h1 k k1 (by omega)
      rw [e2 k hk, gp_updN (by omega), gp_updN (by omega)]
      exact ⟨by omega, g2⟩
  · by_cases hk : k = op + 1
    · subst hk
      rw [e1, e2 j (by omega)]
      exact (h1 j j1 (by omega)).1
    · rw [e2 k hk, e2 j (by omega)]
      exact h2 j k j1 jk (by omega)
  · by_cases hk2 : k = op + 1
    · subst hk2
      have ea : gp_la ok' (op + 1) = cz + 1 := by simp [gp_la, e1]
      have ez : gp_lz (cz + 1) (op + 1) ok' (op + 1) = cz + 1 := by simp [gp_lz]
      rw [ea, ez]
      refine ⟨Nat.le_refl _, 0, 0, 0, ⟨rfl, rfl, rfl⟩, ?_⟩
      rw [e3]; decide
    · obtain ⟨g1, q, n, w, g2, g3⟩ := h3 k (by omega)
      have ea : gp_la ok' k = gp_la ok k := by unfold gp_la; rw [e2 k hk2]
      have ez : gp_lz (cz + 1) (op + 1) ok' k = gp_lz cz op ok k := by
        unfold gp_lz
        rw [if_neg hk2]
        by_cases hko : k = op
        · subst hko; rw [if_pos rfl, e1]
        · rw [if_neg hko, e2 (k + 1) (by omega)]
      rw [ea, ez, e4 k hk2]
      exact ⟨g1, q, n, w, mono g2, g3⟩
  · obtain ⟨g1, q, n, w, g2, g3⟩ := h4 f hf
    exact ⟨hQ _ g1, q, n, w, mono g2, g3⟩
/-- a block is closed: what its head tells becomes settled -/
theorem gp_rdS {cz op fg : Nat} {cd f1 f2 eo co fc ok oc : Nat → Int32} (h : gp_rd cz (op + 1) fg cd f1 f2 eo co fc ok oc) {e v : Int32} {fc' : Nat → Int32} (hf : ∀ i, i < fg → fc' i = fc i) {F : Nat} (hF : fg ≤ F) :
    (∀ i, gp_Qs cz (op + 1) ok i → gp_Qs cz op ok i) ∧ gp_Qs cz op ok (ok (op + 1)).toNatClampNeg ∧ ∀ {q a b n w d d' : Nat}, d ≤ d' → gp_sg (gp_Qs cz (op + 1) ok) fg cd f1 f2 eo co fc q a b n w d → gp_sg (gp_Qs cz op ok) F cd f1 f2 (upd eo (ok (op + 1)).toNatClampNeg e) (upd co (ok (op + 1)).toNatClampNeg v) fc' q a b n w d' := by
  obtain ⟨hb, h1, h2, h3, h4⟩ := h
  have hQ : ∀ i, gp_Qs cz (op + 1) ok i → gp_Qs cz op ok i := fun i hi => ⟨hi.1, fun k k1 k2 => hi.2 k k1 (by omega)⟩
  have hne : ∀ i, gp_Qs cz (op + 1) ok i → i ≠ (ok (op + 1)).toNatClampNeg := fun i hi => hi.2 (op + 1) (by omega) (by omega)
  refine ⟨hQ, ⟨(h1 (op + 1) (by omega) (by omega)).1, fun k k1 k2 => ?_⟩, fun {q a b n w d d'} hd hs => ?_⟩
  · have := h2 k (op + 1) k1 (by omega) (by omega)
    omega
  · exact gp_sgM hQ hF (fun _ _ => rfl) (fun _ _ => rfl) (fun _ _ => rfl) (fun i hi => gp_updN (hne i hi)) (fun i hi => gp_updN (hne i hi)) hf q q a b n w d d' (Nat.le_refl _) hd hs
theorem gp_rdF {cz fg : Nat} {cd f1 f2 eo co fc ok oc eo' co' fc' : Nat → Int32} {e v : Int32} (h : gp_rd cz 1 fg cd f1 f2 eo co fc ok oc) (hc : cd (ok 1).toNatClampNeg = 7) (he : e.toNatClampNeg = cz) (hv : v = oc 1) (e1 : eo' = upd eo (ok 1).toNatClampNeg e) (e2 : co' = upd co (ok 1).toNatClampNeg v) (e3 : fc' fg = ok 1) (e4 : ∀ i, i < fg → fc' i = fc i) : gp_rd cz 0 (fg + 1) cd f1 f2 eo' co' fc' ok oc := by
  subst e1 e2 hv
  obtain ⟨hQ, hq, mono⟩ := gp_rdS h (e := e) (v := oc 1) e4 (F := fg + 1) (by omega)
  obtain ⟨hb, h1, h2, h3, h4⟩ := h
  have hfg : fg < 12 := by
    rcases (h1 1 (by omega) (by omega)).2 with g | g
    · rw [hc] at g; exact absurd g.1 (by decide)
    · exact g.2.2
  have hcz := (h1 1 (by omega) (by omega)).1
  refine ⟨⟨by omega, by omega⟩, fun k k1 k2 => by omega, fun j k j1 jk k2 => by omega, fun k hk => ?_, fun f hf => ?_⟩
  · have hk0 : k = 0 := by omega
    subst hk0
    obtain ⟨g1, q, n, w, g2, g3⟩ := h3 0 (by omega)
    have ea : gp_la ok 0 = 0 := by simp [gp_la]
    have ez : gp_lz cz 1 ok 0 = (ok 1).toNatClampNeg := by simp [gp_lz]
    have ez' : gp_lz cz 0 ok 0 = cz := by simp [gp_lz]
    rw [ea, ez] at g2
    rw [ea, ez']
    have hi : gp_sg (gp_Qs cz 0 ok) (fg + 1) cd f1 f2 (upd eo (ok 1).toNatClampNeg e) (upd co (ok 1).toNatClampNeg (oc 1)) fc' 1 (ok 1).toNatClampNeg cz 0 1 (7 * (fg + 1) + 6 - 0) := by
      refine gp_sg1 hcz ⟨hq, fun h8 => ?_⟩ ?_ ?_
      · rw [hc] at h8; exact absurd h8 (by decide)
      · unfold gp_nx; rw [if_pos (Or.inr hc), gp_updE]; exact he
      · exact Or.inr (Or.inr (Or.inr (Or.inr (Or.inr (Or.inl ⟨hc, rfl⟩)))))
    refine ⟨by omega, q + 1, n + 0, w + 1, gp_sgA (by omega) hi q _ n w (mono (by omega) g2), ?_⟩
    rw [g3]; rfl
  · by_cases hff : f = fg
    · subst hff
      rw [e3]
      obtain ⟨g1, q, n, w, g2, g3⟩ := h3 1 (by omega)
      have ea : gp_la ok 1 = (ok 1).toNatClampNeg + 1 := by simp [gp_la]
      have ez : gp_lz cz 1 ok 1 = cz := by simp [gp_lz]
      rw [ea, ez] at g2
      refine ⟨hq, q, n, w, ?_, ?_⟩
      · rw [gp_updE, he]
        exact mono (by omega) g2
      · rw [gp_updE]; exact g3
    · obtain ⟨g1, q, n, w, g2, g3⟩ := h4 f (by omega)
      rw [e4 f (by omega)]
      have hne : (fc f).toNatClampNeg ≠ (ok 1).toNatClampNeg := g1.2 1 (by omega) (by omega)
      refine ⟨hQ _ g1, q, n, w, ?_, ?_⟩
      · rw [gp_updN hne]
        exact mono (Nat.le_refl _) g2
      · rw [gp_updN hne]; exact g3
theorem gp_minA {n nb t : Nat} (ht : 1 ≤ t) : min 1000000 (min 1000000 (n : Int) + min 1000000 (min 1000000 (nb : Int) * (t : Int))) = min 1000000 (((n + t * nb : Nat)) : Int) := by
  by_cases h : (nb : Int) ≤ 1000000
  · have e : min 1000000 (nb : Int) = nb := by omega
    rw [e]
    have e2 : ((n + t * nb : Nat) : Int) = n + nb * t := by push_cast; rw [Int.mul_comm]
    rw [e2]
    have hx0 : 0 ≤ (nb : Int) * (t : Int) := Int.mul_nonneg (by omega) (by omega)
    generalize (nb : Int) * (t : Int) = x at hx0
    omega
  · have e : min 1000000 (nb : Int) = 1000000 := by omega
    rw [e]
    have h1 : (1000000 : Int) ≤ 1000000 * (t : Int) := by omega
    have h2 : nb ≤ t * nb := Nat.le_mul_of_pos_left _ (by omega)
    omega
theorem gp_rdR {cz op fg : Nat} {cd f1 f2 eo co fc ok oc eo' co' oc' : Nat → Int32} {e v : Int32} (h : gp_rd cz (op + 1) fg cd f1 f2 eo co fc ok oc) (hc : cd (ok (op + 1)).toNatClampNeg = 6) (he : e.toNatClampNeg = cz) (hv : v = oc (op + 1)) (e1 : eo' = upd eo (ok (op + 1)).toNatClampNeg e) (e2 : co' = upd co (ok (op + 1)).toNatClampNeg v) (e4 : ∀ k, k ≠ op → oc' k = oc k)
    (e5 : (f1 (ok (op + 1)).toNatClampNeg = 0 ∧ oc' op = oc op) ∨ (¬ f1 (ok (op + 1)).toNatClampNeg = 0 ∧ (oc' op).toInt = min 1000000 ((oc op).toInt + min 1000000 ((oc (op + 1)).toInt * (f1 (ok (op + 1)).toNatClampNeg).toInt)))) : gp_rd cz op fg cd f1 f2 eo' co' fc ok oc' := by
  subst e1 e2 hv
  obtain ⟨hQ, hq, mono⟩ := gp_rdS h (e := e) (v := oc (op + 1)) (fun _ _ => rfl) (F := fg) (Nat.le_refl _)
  obtain ⟨hb, h1, h2, h3, h4⟩ := h
  have hcz := (h1 (op + 1) (by omega) (by omega)).1
  have ht : sp_in (f1 (ok (op + 1)).toNatClampNeg) 0 20 := by
    rcases (h1 (op + 1) (by omega) (by omega)).2 with g | g
    · exact g.2
    · rw [hc] at g; exact absurd g.1 (by decide)
  refine ⟨⟨hb.1, by omega⟩, fun k k1 k2 => h1 k k1 (by omega), fun j k j1 jk k2 => h2 j k j1 jk (by omega), fun k hk => ?_, fun f hf => ?_⟩
  · by_cases hko : k = op
    · subst hko
      obtain ⟨g1, q, n, w, g2, g3⟩ := h3 k (by omega)
      obtain ⟨b1, qb, nb, wb, b2, b3⟩ := h3 (k + 1) (by omega)
      have ez : gp_lz cz (k + 1) ok k = (ok (k + 1)).toNatClampNeg := by simp [gp_lz]
      have ez' : gp_lz cz k ok k = cz := by simp [gp_lz]
      have ea : gp_la ok (k + 1) = (ok (k + 1)).toNatClampNeg + 1 := by simp [gp_la]
      have ez2 : gp_lz cz (k + 1) ok (k + 1) = cz := by simp [gp_lz]
      rw [ez] at g1 g2
      rw [ea, ez2] at b2
      rw [ez']
      have hk : gp_kn (gp_Qs cz k ok) fg cd f1 fc (ok (k + 1)).toNatClampNeg := ⟨hq, fun h8 => by rw [hc] at h8; exact absurd h8 (by decide)⟩
      have hx : gp_nx cd (upd eo (ok (k + 1)).toNatClampNeg e) (ok (k + 1)).toNatClampNeg = cz := by unfold gp_nx; rw [if_pos (Or.inl hc), gp_updE]; exact he
      by_cases hz : f1 (ok (k + 1)).toNatClampNeg = 0 ∨ oc (k + 1) = 0
      · have hi : gp_sg (gp_Qs cz k ok) fg cd f1 f2 (upd eo (ok (k + 1)).toNatClampNeg e) (upd co (ok (k + 1)).toNatClampNeg (oc (k + 1))) fc 1 (ok (k + 1)).toNatClampNeg cz 0 1 (7 * fg + 6 - k) := by
          refine gp_sg1 hcz hk hx ?_
          unfold gp_ft
          rw [gp_updE]
          exact Or.inr (Or.inr (Or.inr (Or.inr (Or.inr (Or.inr (Or.inl ⟨hc, hz, rfl⟩))))))
        refine ⟨by omega, q + 1, n + 0, w + 1, gp_sgA (by omega) hi q _ n w (mono (by omega) g2), ?_⟩
        rcases e5 with ⟨_, e5⟩ | ⟨e5, e6⟩
        · rw [e5, g3]; rfl
        · have hz0 : oc (k + 1) = 0 := hz.resolve_left e5
          rw [e6, g3, hz0]
          have : (0 : Int32).toInt = 0 := by decide
          rw [this, Int.zero_mul]
          omega
      · have ht1 : sp_in (f1 (ok (k + 1)).toNatClampNeg) 1 20 := by grind
        have hi := gp_sg2 (Q := gp_Qs cz k ok) (F := fg) (cd := cd) (f1 := f1) (f2 := f2) (eo := upd eo (ok (k + 1)).toNatClampNeg e) (co := upd co (ok (k + 1)).toNatClampNeg (oc (k + 1))) (fc := fc) (d := 7 * fg + 6 - k) (d' := 7 * fg + 6 - (k + 1)) (q := qb) (n3 := nb) (w3 := wb) hcz hk hx (b' := (ok (k + 1)).toNatClampNeg) (t := f1 (ok (k + 1)).toNatClampNeg) (by
          unfold gp_be
          rw [gp_updE]
          exact Or.inl ⟨hc, ht1, fun z => hz (Or.inr z), rfl, rfl⟩) (by omega) (by rw [gp_updE, he]; exact mono (Nat.le_refl _) b2)
        refine ⟨by omega, _, _, _, gp_sgA (by omega) hi q _ n w (mono (by omega) g2), ?_⟩
        rcases e5 with ⟨e5, _⟩ | ⟨_, e6⟩
        · exact absurd (Or.inl e5) hz
        · have e7 : (f1 (ok (k + 1)).toNatClampNeg).toInt = ((f1 (ok (k + 1)).toNatClampNeg).toNatClampNeg : Int) := by
            have := Int32.le_iff_toInt_le.mp ht.1
            have e0 : (0 : Int32).toInt = 0 := by decide
            show (f1 (ok (k + 1)).toNatClampNeg).toInt = (((f1 (ok (k + 1)).toNatClampNeg).toInt.toNat : Nat) : Int)
            omega
          have e8 : 1 ≤ (f1 (ok (k + 1)).toNatClampNeg).toNatClampNeg := by
            have := Int32.le_iff_toInt_le.mp ht1.1
            have e0 : (1 : Int32).toInt = 1 := by decide
            omega
          rw [e6, g3, b3, e7]
          exact gp_minA e8
    · obtain ⟨g1, q, n, w, g2, g3⟩ := h3 k (by omega)
      have ez : gp_lz cz op ok k = gp_lz cz (op + 1) ok k := by
        unfold gp_lz
        rw [if_neg hko, if_neg (by omega)]
      rw [ez, e4 k hko]
      exact ⟨g1, q, n, w, mono (by omega) g2, g3⟩
  · obtain ⟨g1, q, n, w, g2, g3⟩ := h4 f hf
    have hne : (fc f).toNatClampNeg ≠ (ok (op + 1)).toNatClampNeg := g1.2 (op + 1) (by omega) (by omega)
    refine ⟨hQ _ g1, q, n, w, ?_, ?_⟩
    · rw [gp_updN hne]
      exact mono (Nat.le_refl _) g2
    · rw [gp_updN hne]; exact g3
theorem gp_rdE {cz fg : Nat} {cd f1 f2 eo co fc ok oc ps pe pl pa : Nat → Int32} (h : gp_rd cz 0 fg cd f1 f2 eo co fc ok oc) (h2 : oc 0 ≤ 240) : ∃ n w, n ≤ 240 ∧ gp_run cd f1 f2 eo co fc ps pe pl pa cz 0 0 n w := by
  obtain ⟨hb, h1, _, h3, h4⟩ := h
  obtain ⟨g1, q, n, w, g2, g3⟩ := h3 0 (by omega)
  have ea : gp_la ok 0 = 0 := by simp [gp_la]
  have ez : gp_lz cz 0 ok 0 = cz := by simp [gp_lz]
  rw [ea, ez] at g2
  have e0 : (240 : Int32).toInt = 240 := by decide
  have := Int32.le_iff_toInt_le.mp h2
  refine ⟨n, w, by omega, q, 7 * fg + 6 - 0, by omega, ?_⟩
  exact gp_sgM (fun _ _ => trivial) hb.1 (fun _ _ => rfl) (fun _ _ => rfl) (fun _ _ => rfl) (fun _ _ => rfl) (fun _ _ => rfl) (fun _ _ => rfl) q q 0 cz n w _ _ (Nat.le_refl _) (Nat.le_refl _) g2
