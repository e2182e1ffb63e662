/-- rows for generic states -/
abbrev aI (a : Nat) (c : ClassId) (n : Nat) (f : Nat → Int32) : Nat × va_E := (a, .inl (c, n, .inl f))
abbrev aJ (a : Nat) (c : ClassId) (n : Nat) (f : Nat → Int64) : Nat × va_E := (a, .inl (c, n, .inr (.inl f)))
abbrev aR (a : Nat) (c : ClassId) (n : Nat) (f : Nat → Option Nat) : Nat × va_E := (a, .inl (c, n, .inr (.inr (.inr (.inr f)))))
def gp_sets : va_W → List Nat → va_W → va_W
  | ws, i :: is, e :: es => gp_sets (ws.set i e) is es
  | ws, _, _ => ws
theorem gp_sets_get (is : List Nat) : ∀ (ws es : va_W), is.length = es.length → ∀ (j : Nat) (q : Nat × va_E), (gp_sets ws is es)[j]? = some q → (∃ k : Nat, is[k]? = some j ∧ es[k]? = some q) ∨ (j ∉ is ∧ ws[j]? = some q) := by
  induction is with
  | nil => intro ws es h j q hq; cases es with
    | nil => exact Or.inr ⟨by simp, hq⟩
    | cons _ _ => cases h
  | cons i is ih => intro ws es h j q hq; cases es with
    | nil => cases h
    | cons e es =>
      have h' : is.length = es.length := by simpa using h
      rcases ih (ws.set i e) es h' j q hq with ⟨k, h1, h2⟩ | ⟨h1, h2⟩
      · exact Or.inl ⟨k + 1, by simpa using h1, by simpa using h2⟩
      · rw [List.getElem?_set] at h2
        by_cases hij : i = j
        · rw [if_pos hij] at h2
          by_cases hl : i < ws.length
          · rw [if_pos hl] at h2
            exact Or.inl ⟨0, by simp [hij], by simpa using h2⟩
          · rw [if_neg hl] at h2; cases h2
        · rw [if_neg hij] at h2
          exact Or.inr ⟨by simp; exact ⟨fun z => hij z.symm, h1⟩, h2⟩
theorem gp_joinS {A0 : Nat → Prop} {D : va_G} {ws wc w1 : va_W} {H H1 : Heap} {t : State} (hP : va_P D vwCl ws H) (hD : va_D A0 ws) (is : List Nat) (hC : is.map (fun i => ws[i]?) = wc.map some) (ha : w1.map (fun q => q.1) = wc.map (fun q => q.1))
    (hk : ∀ q : Nat, q < H.size → ¬ va_A wc H.size q → H1[q]? = H[q]?) (ht : t.heap = H1) (hB : gp_E D (va_A wc H.size) w1 t) : va_P D vwCl (gp_sets ws is w1) H1 ∧ va_D A0 (gp_sets ws is w1) := by
  subst ht
  have hl : is.length = w1.length := by
    have h1 := congrArg List.length hC
    have h2 := congrArg List.length ha
    simp at h1 h2
    omega
  have hat : ∀ (j k : Nat) (q : Nat × va_E), is[k]? = some j → w1[k]? = some q → ∃ q0 : Nat × va_E, ws[j]? = some q0 ∧ wc[k]? = some q0 ∧ q0.1 = q.1 := by
    intro j k q h1 h2
    have h3 := congrArg (fun z => z[k]?) hC
    have h4 := congrArg (fun z => z[k]?) ha
    simp [h1] at h3
    simp [h2] at h4
    cases hw : wc[k]? with
    | none => rw [hw] at h3; simp at h3
    | some q0 =>
      rw [hw] at h3 h4
      simp at h3 h4
      exact ⟨q0, h3, rfl, h4.symm⟩
  have hadr : ∀ (j : Nat) (q : Nat × va_E), (gp_sets ws is w1)[j]? = some q → ∃ q0 : Nat × va_E, ws[j]? = some q0 ∧ q0.1 = q.1 := by
    intro j q hq
    rcases gp_sets_get is ws w1 hl j q hq with ⟨k, h1, h2⟩ | ⟨h1, h2⟩
    · obtain ⟨q0, h3, _, h5⟩ := hat j k q h1 h2
      exact ⟨q0, h3, h5⟩
    · exact ⟨q, h2, rfl⟩
  refine ⟨fun j q hq => ?_, fun i j p q hi hj he => ?_, fun k q hq => ?_⟩
  · rcases gp_sets_get is ws w1 hl j q hq with ⟨k, h1, h2⟩ | ⟨h1, h2⟩
    · exact hB.1 k q h2
    · have h3 := hP j q h2
      refine h3.kept (hk q.1 h3.lt ?_)
      rintro (⟨k, e, hke⟩ | hsz)
      · have h4 := congrArg (fun z => z[k]?) hC
        simp [hke] at h4
        cases hi : is[k]? with
        | none => rw [hi] at h4; simp at h4
        | some i =>
          rw [hi] at h4
          simp at h4
          have := hD.1 j i q _ h2 h4 rfl
          subst this
          exact h1 (List.mem_of_getElem? hi)
      · exact absurd h3.lt (by omega)
  · obtain ⟨p0, h1, h2⟩ := hadr i p hi
    obtain ⟨q0, h3, h4⟩ := hadr j q hj
    exact hD.1 i j p0 q0 h1 h3 (by rw [h2, h4, he])
  · obtain ⟨q0, h1, h2⟩ := hadr k q hq
    rw [← h2]
    exact hD.2 k q0 h1
section GPF
variable {p : Program} {l : Launch} {e : Env} {R : Room} {s : State} {m : MethodId} {args : Array Value} {below : List Frame} {meth : Method} {c : Code} {H : Heap} {locs : List Loc} {cells slots : Nat} {Q : State → Prop} {pc : Nat} {ls : Array Slot} {rest : List Value}
theorem gp_fi {x : Int32} (k : ∀ y : Int32, W p l e R s m args below meth c H locs cells slots Q (F0 m pc ls (.int y :: rest))) : W p l e R s m args below meth c H locs cells slots Q (F0 m pc ls (.int x :: rest)) := k x
theorem gp_fl {x : Int64} (k : ∀ y : Int64, W p l e R s m args below meth c H locs cells slots Q (F0 m pc ls (.long y :: rest))) : W p l e R s m args below meth c H locs cells slots Q (F0 m pc ls (.long x :: rest)) := k x
theorem gp_fiP {x : Int32} (P : Int32 → Prop) (h : P x) (k : ∀ y : Int32, P y → W p l e R s m args below meth c H locs cells slots Q (F0 m pc ls (.int y :: rest))) : W p l e R s m args below meth c H locs cells slots Q (F0 m pc ls (.int x :: rest)) := k x h
theorem gp_flP {x : Int64} (P : Int64 → Prop) (h : P x) (k : ∀ y : Int64, P y → W p l e R s m args below meth c H locs cells slots Q (F0 m pc ls (.long y :: rest))) : W p l e R s m args below meth c H locs cells slots Q (F0 m pc ls (.long x :: rest)) := k x h
end GPF
theorem gp_allU {P : Int32 → Prop} {f : Nat → Int32} {k : Nat} {v : Int32} (h : ∀ i, P (f i)) (hv : P v) : ∀ i, P (upd f k v i) := by
  intro i
  unfold upd
  split
  · exact hv
  · exact h i
theorem gp_nz {v : Int32} (h : v = 0 ∨ v = 1) : narrow .boolean (.int v) = .int v := by
  rcases h with h | h <;> subst h <;> rfl
theorem gp_lcT {x y : Int64} : (lg_cmp x y = 0 ↔ x = y) ∧ (lg_cmp x y < 0 ↔ x < y) ∧ (0 < lg_cmp x y ↔ y < x) ∧ (lg_cmp x y ≤ 0 ↔ x ≤ y) ∧ (0 ≤ lg_cmp x y ↔ y ≤ x) := ⟨lg_cmp_eq x y, lg_cmp_lt x y, lg_cmp_gt x y, lg_cmp_le x y, lg_cmp_ge x y⟩
theorem gp_mdec {a b : Int32} (h : a < b) : (b.toInt - (a + 1).toInt).toNat < (b.toInt - a.toInt).toNat := by
  have h1 := Int32.lt_iff_toInt_lt.mp h
  have h2 := Int32.toInt_lt b
  have h3 := Int32.le_toInt a
  have e : (a + 1).toInt = a.toInt + 1 := by
    rw [Int32.toInt_add]
    have e1 : (1 : Int32).toInt = 1 := by decide
    rw [e1]
    exact Int.bmod_eq_of_le (by omega) (by omega)
  rw [e]
  omega
abbrev oX0 (xa : Nat → Nat) (i : Nat) (f0 f1 f2 f3 f4 f5 f6 : Int32) : Nat × va_E := (xa (200 + i), .inr (0, [.int f0, .int f1, .int f2, .int f3, .int f4, .int f5, .int f6]))
theorem gp_P1 {D : va_G} {ws : va_W} {H : Heap} {i : Nat} {e : Nat × va_E} (hP : va_P D vwCl ws H) (h : ws[i]? = some e) : va_P D vwCl [e] H := by
  intro k q hq
  cases k with
  | zero => simp at hq; subst hq; exact hP i e h
  | succ k => simp at hq
theorem gp_D1 {A : Nat → Prop} {ws : va_W} {i : Nat} {e : Nat × va_E} (hD : va_D A ws) (h : ws[i]? = some e) : va_D A [e] := by
  refine ⟨?_, ?_⟩
  · intro a b p q ha hb _
    cases a with
    | zero => cases b with
      | zero => rfl
      | succ b => simp at hb
    | succ a => simp at ha
  · intro k q hq
    cases k with
    | zero => simp at hq; subst hq; exact hD.2 i e h
    | succ k => simp at hq
theorem gp_appL {X Y : va_W} {j : Nat} {e : Nat × va_E} (h : X[j]? = some e) : (X ++ Y)[j]? = some e := by
  rw [List.getElem?_append_left (List.getElem?_eq_some_iff.mp h).1]
  exact h
theorem gp_updself (f : Nat → Int32) (w i : Nat) : upd f w (f w) i = f i := by
  unfold upd
  split
  · next h => rw [h]
  · rfl
theorem gp_RsetB {X : va_W} {k w : Nat} {xa : Nat → Nat} {f0 f1 f2 f3 f4 f5 f6 : Nat → Int32} {v0 v1 v2 v3 v4 v5 v6 : Int32} (hk : X.length = k) (h : w < 19) : (X ++ gp_R 19 (fun i => oX0 xa i (f0 i) (f1 i) (f2 i) (f3 i) (f4 i) (f5 i) (f6 i))).set (k + w) (oX0 xa w v0 v1 v2 v3 v4 v5 v6) = X ++ gp_R 19 (fun i => oX0 xa i (upd f0 w v0 i) (upd f1 w v1 i) (upd f2 w v2 i) (upd f3 w v3 i) (upd f4 w v4 i) (upd f5 w v5 i) (upd f6 w v6 i)) := by
  rw [gp_Rset hk h]
  refine congrArg (fun z => X ++ gp_R 19 z) (funext fun i => ?_)
  by_cases e : i = w
  · subst e; simp [va_up, upd]
  · simp [va_up, upd, e]
theorem gp_upb {xa po : Nat → Nat} {k w : Nat} : va_up (fun i => some (xa (200 + po i))) k (some (xa (200 + w))) = fun i => some (xa (200 + va_up po k w i)) := by
  funext i
  unfold va_up
  split <;> rfl
theorem gp_mdec2 {a b : Int32} (h : a < b) : ((b + (-1)).toInt - a.toInt).toNat < (b.toInt - a.toInt).toNat := by
  have h1 := Int32.lt_iff_toInt_lt.mp h
  have h2 := Int32.toInt_lt b
  have h3 := Int32.le_toInt a
  have e : (b + (-1)).toInt = b.toInt - 1 := by
    rw [Int32.toInt_add]
    have e1 : (-1 : Int32).toInt = -1 := by decide
    rw [e1]
    exact Int.bmod_eq_of_le (by omega) (by omega)
  rw [e]
  omega
theorem gp_mdec3 {i : Int32} (h : 0 < i) : (i + (-1)).toInt.toNat < i.toInt.toNat := by
  have h1 := gp_mdec2 h
  have e1 : (0 : Int32).toInt = 0 := by decide
  rw [e1] at h1
  simpa using h1
theorem gp_joinU {A0 : Nat → Prop} {D : va_G} {ws wc : va_W} {H H1 : Heap} {t : State} (hP : va_P D vwCl ws H) (hD : va_D A0 ws) (is : List Nat) (hC : is.map (fun i => ws[i]?) = wc.map some)
    (hk : ∀ q : Nat, q < H.size → ¬ va_A wc H.size q → H1[q]? = H[q]?) (ht : t.heap = H1) (hB : gp_E D (va_A wc H.size) wc t) : va_P D vwCl ws H1 := by
  subst ht
  intro j q hj
  have h3 := hP j q hj
  by_cases hA : va_A wc H.size q.1
  · rcases hA with ⟨k, e, hke⟩ | hsz
    · have h4 := congrArg (fun z => z[k]?) hC
      simp [hke] at h4
      cases hi : is[k]? with
      | none => rw [hi] at h4; simp at h4
      | some i =>
        rw [hi] at h4
        simp at h4
        have e1 := hD.1 j i q _ hj h4 rfl
        subst e1
        rw [hj] at h4
        have e2 : q = (q.1, e) := Option.some.inj h4
        rw [e2]
        exact hB.1 k _ hke
    · exact absurd h3.lt (by omega)
  · exact h3.kept (hk q.1 h3.lt hA)
theorem gp_subP {D : va_G} {ws wc : va_W} {H : Heap} (hP : va_P D vwCl ws H) (is : List Nat) (hC : is.map (fun i => ws[i]?) = wc.map some) : va_P D vwCl wc H := by
  intro k q hq
  have h := congrArg (fun z => z[k]?) hC
  simp [hq] at h
  cases hi : is[k]? with
  | none => rw [hi] at h; simp at h
  | some i =>
    rw [hi] at h
    simp at h
    exact hP i q h
theorem gp_hC2 {ws : va_W} {i j : Nat} {a b : Nat × va_E} (h1 : ws[i]? = some a) (h2 : ws[j]? = some b) : [i, j].map (fun i => ws[i]?) = [a, b].map some := by simp [h1, h2]
theorem gp_D2 {A : Nat → Prop} {ws : va_W} {i j : Nat} {a b : Nat × va_E} (hD : va_D A ws) (hij : i ≠ j) (h1 : ws[i]? = some a) (h2 : ws[j]? = some b) : va_D A [a, b] := by
  refine hD.sub [i, j] ?_ (gp_hC2 h1 h2)
  simp [va_nd, hij]
theorem gp_mdec8 {a : Int32} (h : ¬ a < 0) : ((a + (-8)).toInt + 8).toNat < (a.toInt + 8).toNat := by
  have h1 : ¬ a.toInt < (0 : Int32).toInt := fun z => h (Int32.lt_iff_toInt_lt.mpr z)
  have e0 : (0 : Int32).toInt = 0 := by decide
  have h2 := Int32.toInt_lt a
  have e : (a + (-8)).toInt = a.toInt - 8 := by
    rw [Int32.toInt_add]
    have e1 : (-8 : Int32).toInt = -8 := by decide
    rw [e1]
    exact Int.bmod_eq_of_le (by omega) (by omega)
  rw [e]
  omega
theorem gp_sq {x : Int32} (h1 : 0 < x) (h2 : x ≤ 200) : ¬ x * x = 0 := by
  intro h
  have a1 := Int32.lt_iff_toInt_lt.mp h1
  have a2 := Int32.le_iff_toInt_le.mp h2
  have e0 : (0 : Int32).toInt = 0 := by decide
  have e1 : (200 : Int32).toInt = 200 := by decide
  rw [e0] at a1
  rw [e1] at a2
  have h3 := congrArg Int32.toInt h
  rw [Int32.toInt_mul, e0] at h3
  have b1 : 1 ≤ x.toInt * x.toInt := by
    have h1 : (1 : Int) ≤ x.toInt := by omega
    have := Int.mul_le_mul h1 h1 (by omega) (by omega)
    omega
  have b2 : x.toInt * x.toInt ≤ 40000 := by
    have := Int.mul_le_mul a2 a2 (by omega) (by omega)
    omega
  rw [Int.bmod_eq_of_le (by omega) (by omega)] at h3
  omega
theorem gp_sets2 {is : List Nat} : ∀ {js : List Nat} {ws es fs : va_W}, is.length = es.length → gp_sets ws (is ++ js) (es ++ fs) = gp_sets (gp_sets ws is es) js fs := by
  induction is with
  | nil => intro js ws es fs h; cases es with
    | nil => rfl
    | cons _ _ => cases h
  | cons i is ih => intro js ws es fs h; cases es with
    | nil => cases h
    | cons e es => exact ih (by simpa using h)
theorem gp_setsL {is : List Nat} : ∀ {X Y es : va_W}, is.all (fun i => decide (i < X.length)) = true → gp_sets (X ++ Y) is es = gp_sets X is es ++ Y := by
  induction is with
  | nil => intro X Y es _; cases es <;> rfl
  | cons i is ih => intro X Y es h; cases es with
    | nil => rfl
    | cons e es =>
      simp only [List.all_cons, Bool.and_eq_true, decide_eq_true_eq] at h
      show gp_sets ((X ++ Y).set i e) is es = gp_sets (X.set i e) is es ++ Y
      rw [List.set_append_left _ _ h.1]
      exact ih (by rw [List.length_set]; exact h.2)
abbrev gp_rg (k n : Nat) : List Nat := (List.range n).map (fun i => k + i)
theorem gp_setsB {n : Nat} : ∀ {X : va_W} {k : Nat} {g g' : Nat → Nat × va_E}, X.length = k → gp_sets (X ++ gp_R n g) (gp_rg k n) (gp_R n g') = X ++ gp_R n g' := by
  induction n with
  | zero => intro X k g g' _; rfl
  | succ n ih =>
    intro X k g g' hk
    have e1 : ∀ h : Nat → Nat × va_E, gp_R (n + 1) h = gp_R n h ++ [h n] := fun h => by simp [gp_R, List.range_succ]
    have e2 : gp_rg k (n + 1) = gp_rg k n ++ [k + n] := by simp [gp_rg, List.range_succ]
    rw [e1 g, e1 g', e2, gp_sets2 (by simp), ← List.append_assoc, gp_setsL (by simp [hk]), ih hk]
    show ((X ++ gp_R n g') ++ [g n]).set (k + n) (g' n) = X ++ (gp_R n g' ++ [g' n])
    rw [List.set_append_right _ _ (by simp [hk]), ← List.append_assoc]
    simp [hk]
theorem gp_st1 {ws A1 A2 es fs : va_W} {is js : List Nat} (hl : is.length = es.length) (h1 : gp_sets ws is es = A1) (h2 : gp_sets A1 js fs = A2) : gp_sets ws (is ++ js) (es ++ fs) = A2 := by rw [gp_sets2 hl, h1, h2]
theorem gp_stL {X X' Y es : va_W} {is : List Nat} (hlt : is.all (fun i => decide (i < X.length)) = true) (h : gp_sets X is es = X') : gp_sets (X ++ Y) is es = X' ++ Y := by rw [gp_setsL hlt, h]
theorem gp_hCX {X Y wc : va_W} {is : List Nat} (h : is.map (fun i => X[i]?) = wc.map some) : is.map (fun i => (X ++ Y)[i]?) = wc.map some := by
  apply List.ext_getElem?
  intro j
  have hj := congrArg (fun z => z[j]?) h
  simp only [List.getElem?_map] at hj ⊢
  cases hi : is[j]? with
  | none => rw [hi] at hj; simpa using hj
  | some i =>
    rw [hi] at hj
    cases hw : wc[j]? with
    | none => rw [hw] at hj; simp at hj
    | some q =>
      rw [hw] at hj
      simp only [Option.map_some, Option.some.injEq] at hj ⊢
      exact gp_appL hj
theorem gp_hCB {ws wc : va_W} {is : List Nat} {k n : Nat} {g : Nat → Nat × va_E} (h : is.map (fun i => ws[i]?) = wc.map some) (hb : ∀ w : Nat, w < n → ws[k + w]? = some (g w)) : (is ++ gp_rg k n).map (fun i => ws[i]?) = (wc ++ gp_R n g).map some := by
  rw [List.map_append, List.map_append, h]
  refine congrArg (fun z => _ ++ z) ?_
  simp only [gp_rg, gp_R, List.map_map]
  refine List.map_congr_left fun w hw => ?_
  exact hb w (List.mem_range.mp hw)
theorem gp_hCr {ws wc : va_W} {is : List Nat} {q : Nat} {e : Nat × va_E} (h : is.map (fun i => ws[i]?) = wc.map some) (h2 : ws[q]? = some e) : (is ++ [q]).map (fun i => ws[i]?) = (wc ++ [e]).map some := by
  rw [List.map_append, List.map_append, h]
  simp [h2]
theorem gp_haB {X1 X2 : va_W} {n : Nat} {g g' : Nat → Nat × va_E} (h : X1.map (fun q => q.1) = X2.map (fun q => q.1)) (hg : ∀ i, (g i).1 = (g' i).1) : (X1 ++ gp_R n g).map (fun q => q.1) = (X2 ++ gp_R n g').map (fun q => q.1) := by
  rw [List.map_append, List.map_append, h]
  refine congrArg (fun z => _ ++ z) ?_
  simp only [gp_R, List.map_map]
  exact List.map_congr_left fun w _ => hg w
theorem gp_joinE {A0 : Nat → Prop} {D : va_G} {ws wc w1 nws : va_W} {H H1 : Heap} {t : State} (hP : va_P D vwCl ws H) (hD : va_D A0 ws) (is : List Nat) (hC : is.map (fun i => ws[i]?) = wc.map some) (ha : w1.map (fun q => q.1) = wc.map (fun q => q.1))
    (hk : ∀ q : Nat, q < H.size → ¬ va_A wc H.size q → H1[q]? = H[q]?) (ht : t.heap = H1) (hB : gp_E D (va_A wc H.size) w1 t) (hE : gp_sets ws is w1 = nws) : va_P D vwCl nws H1 ∧ va_D A0 nws := by
  subst hE
  exact gp_joinS hP hD is hC ha hk ht hB
theorem gp_sD {A : Nat → Prop} {D : va_G} {ws : va_W} {H : Heap} (_ : va_P D vwCl ws H) (hD : va_D A ws) : va_D A ws := hD
theorem gp_joinM {A0 : Nat → Prop} {D : va_G} {ws wc w1 wr nws : va_W} {H H1 : Heap} {t : State} (hP : va_P D vwCl ws H) (hD : va_D A0 ws) (is js : List Nat) (n : Nat) (hC : is.map (fun i => ws[i]?) = wc.map some) (ha : w1.map (fun q => q.1) = wc.map (fun q => q.1))
    (hk : ∀ q : Nat, q < H.size → ¬ va_A wc H.size q → H1[q]? = H[q]?) (ht : t.heap = H1) (hB : gp_E D (va_A wc H.size) w1 t) (hn : nws.length = n) (hC1 : is.map (fun i => nws[i]?) = w1.map some) (hR : js.map (fun i => ws[i]?) = wr.map some) (hR1 : js.map (fun i => nws[i]?) = wr.map some) (hc : (List.range n).all (fun j => is.contains j || js.contains j) = true) : va_P D vwCl nws H1 ∧ va_D A0 nws := by
  subst ht
  have at1 : ∀ {ks : List Nat} {X Y : va_W}, ks.map (fun i => X[i]?) = Y.map some → ∀ (k j : Nat), ks[k]? = some j → ∃ q : Nat × va_E, X[j]? = some q ∧ Y[k]? = some q := by
    intro ks X Y h k j hj
    have h3 := congrArg (fun z => z[k]?) h
    simp only [List.getElem?_map, hj, Option.map_some] at h3
    cases hy : Y[k]? with
    | none => rw [hy] at h3; simp at h3
    | some q =>
      rw [hy] at h3
      simp at h3
      exact ⟨q, h3, rfl⟩
  have look : ∀ (j : Nat) (q : Nat × va_E), nws[j]? = some q → (∃ k : Nat, is[k]? = some j ∧ w1[k]? = some q ∧ ∃ q0 : Nat × va_E, ws[j]? = some q0 ∧ wc[k]? = some q0 ∧ q0.1 = q.1) ∨ (j ∉ is ∧ ws[j]? = some q) := by
    intro j q hq
    have hj : j < n := by rw [← hn]; exact (List.getElem?_eq_some_iff.mp hq).1
    by_cases hm : j ∈ is
    · obtain ⟨k, hk'⟩ := List.getElem?_of_mem hm
      obtain ⟨q1, a1, a2⟩ := at1 hC1 k j hk'
      rw [hq] at a1
      cases a1
      obtain ⟨q0, b1, b2⟩ := at1 hC k j hk'
      refine Or.inl ⟨k, hk', a2, q0, b1, b2, ?_⟩
      have h4 := congrArg (fun z => z[k]?) ha
      simp only [List.getElem?_map, a2, b2, Option.map_some, Option.some.injEq] at h4
      exact h4.symm
    · have h5 := List.all_eq_true.mp hc j (List.mem_range.mpr hj)
      have hjs : j ∈ js := by
        rcases Bool.or_eq_true _ _ |>.mp h5 with h | h
        · exact absurd (List.contains_iff_mem.mp h) hm
        · exact List.contains_iff_mem.mp h
      obtain ⟨k, hk'⟩ := List.getElem?_of_mem hjs
      obtain ⟨q1, a1, a2⟩ := at1 hR1 k j hk'
      rw [hq] at a1
      cases a1
      obtain ⟨q0, b1, b2⟩ := at1 hR k j hk'
      rw [a2] at b2
      cases b2
      exact Or.inr ⟨hm, b1⟩
  refine ⟨fun j q hq => ?_, fun i j p q hi hj he => ?_, fun k q hq => ?_⟩
  · rcases look j q hq with ⟨k, _, h2, _⟩ | ⟨h1, h2⟩
    · exact hB.1 k q h2
    · have h3 := hP j q h2
      refine h3.kept (hk q.1 h3.lt ?_)
      rintro (⟨k, e, hke⟩ | hsz)
      · have h4 := congrArg (fun z => z[k]?) hC
        simp [hke] at h4
        cases hi : is[k]? with
        | none => rw [hi] at h4; simp at h4
        | some i =>
          rw [hi] at h4
          simp at h4
          have := hD.1 j i q _ h2 h4 rfl
          subst this
          exact h1 (List.mem_of_getElem? hi)
      · exact absurd h3.lt (by omega)
  · have adr : ∀ (j : Nat) (q : Nat × va_E), nws[j]? = some q → ∃ q0 : Nat × va_E, ws[j]? = some q0 ∧ q0.1 = q.1 := fun j q hq => by
      rcases look j q hq with ⟨k, _, _, q0, h1, _, h2⟩ | ⟨_, h2⟩
      · exact ⟨q0, h1, h2⟩
      · exact ⟨q, h2, rfl⟩
    obtain ⟨p0, h1, h2⟩ := adr i p hi
    obtain ⟨q0, h3, h4⟩ := adr j q hj
    exact hD.1 i j p0 q0 h1 h3 (by rw [h2, h4, he])
  · rcases look k q hq with ⟨_, _, _, q0, h1, _, h2⟩ | ⟨_, h2⟩
    · rw [← h2]
      exact hD.2 k q0 h1
    · exact hD.2 k q h2
theorem gp_hCY {X Y wc : va_W} {is : List Nat} {k : Nat} (h : is.map (fun i => X[i]?) = wc.map some) (hk : X.length = k) : (is ++ gp_rg k Y.length).map (fun i => (X ++ Y)[i]?) = (wc ++ Y).map some := by
  rw [List.map_append, List.map_append, gp_hCX h]
  refine congrArg (fun z => _ ++ z) ?_
  apply List.ext_getElem?
  intro j
  simp only [gp_rg, List.map_map, List.getElem?_map]
  by_cases hj : j < Y.length
  · rw [List.getElem?_range hj]
    simp only [Option.map_some, Function.comp]
    rw [List.getElem?_append_right (by omega), hk, Nat.add_sub_cancel_left, List.getElem?_eq_getElem hj]
    rfl
  · rw [List.getElem?_eq_none (by simp; omega), List.getElem?_eq_none (by omega)]
    rfl
theorem gp_joinMY {A0 : Nat → Prop} {D : va_G} {ws wc w1 wr nws Y : va_W} {H H1 : Heap} {t : State} (hP : va_P D vwCl (ws ++ Y) H) (hD : va_D A0 (ws ++ Y)) (is js : List Nat) (n : Nat) (hC : is.map (fun i => ws[i]?) = wc.map some) (ha : w1.map (fun q => q.1) = wc.map (fun q => q.1))
    (hk : ∀ q : Nat, q < H.size → ¬ va_A wc H.size q → H1[q]? = H[q]?) (ht : t.heap = H1) (hB : gp_E D (va_A wc H.size) w1 t) (hw : ws.length = n) (hn : nws.length = n) (hC1 : is.map (fun i => nws[i]?) = w1.map some) (hR : js.map (fun i => ws[i]?) = wr.map some) (hR1 : js.map (fun i => nws[i]?) = wr.map some) (hc : (List.range n).all (fun j => is.contains j || js.contains j) = true) : va_P D vwCl (nws ++ Y) H1 ∧ va_D A0 (nws ++ Y) := by
  refine gp_joinM (wr := wr ++ Y) hP hD is (js ++ gp_rg n Y.length) (n + Y.length) (gp_hCX hC) ha hk ht hB (by rw [List.length_append, hn]) (gp_hCX hC1) (gp_hCY hR hw) (gp_hCY hR1 hn) ?_
  refine List.all_eq_true.mpr fun j hj => ?_
  have hj2 := List.mem_range.mp hj
  by_cases h : j < n
  · have h5 := List.all_eq_true.mp hc j (List.mem_range.mpr h)
    rcases Bool.or_eq_true _ _ |>.mp h5 with h | h
    · exact Bool.or_eq_true _ _ |>.mpr (Or.inl h)
    · exact Bool.or_eq_true _ _ |>.mpr (Or.inr (List.contains_iff_mem.mpr (List.mem_append_left _ (List.contains_iff_mem.mp h))))
  · refine Bool.or_eq_true _ _ |>.mpr (Or.inr (List.contains_iff_mem.mpr (List.mem_append_right _ ?_)))
    exact List.mem_map.mpr ⟨j - n, List.mem_range.mpr (by omega), by omega⟩
abbrev o_gp (xa : Nat → Nat)  : Nat × va_E := ((xa 0), .inr (11, [.ref (xa 1), .ref (xa 3), .ref (xa 7), .ref (xa 11), .ref (xa 20), .ref (xa 24), .ref (xa 25), .ref (xa 29)]))
abbrev o_tape (xa : Nat → Nat) (f0 : Int32) (f1 : Int32) (f2 : Int32) (f3 : Int32) (f4 : Int32) (f5 : Int32) : Nat × va_E := ((xa 1), .inr (9, [.int f0, .int f1, .int f2, .int f3, .int f4, .int f5, .ref (xa 2)]))
abbrev o_parser (xa : Nat → Nat) (f4 : Int32) (f5 : Int32) : Nat × va_E := ((xa 3), .inr (6, [.ref (xa 4), .ref (xa 1), .ref (xa 5), .ref (xa 38), .int f4, .int f5]))
abbrev o_code (xa : Nat → Nat) (f0 : Int32) : Nat × va_E := ((xa 4), .inr (2, [.int f0, .ref (xa 39), .ref (xa 40), .ref (xa 41)]))
abbrev o_walk (xa : Nat → Nat) (f0 : Int32) (f6 : Int32) : Nat × va_E := ((xa 7), .inr (10, [.int f0, .ref (xa 8), .ref (xa 9), .ref (xa 10), .ref (xa 42), .ref (xa 43), .int f6]))
abbrev o_room (xa : Nat → Nat) (f0 : Int32) (f1 : Int32) (f2 : Int32) (f3 : Int32) (f4 : Int32) (f5 : Int32) (f6 : Int32) (f7 : Int32) (f8 : Int32) (f9 : Int32) (f10 : Int32) : Nat × va_E := ((xa 11), .inr (7, [.int f0, .int f1, .int f2, .int f3, .int f4, .int f5, .int f6, .int f7, .int f8, .int f9, .int f10, .ref (xa 12), .ref (xa 13), .ref (xa 14), .ref (xa 15), .ref (xa 16), .ref (xa 17), .ref (xa 18), .ref (xa 19)]))
abbrev o_show (xa : Nat → Nat) (f1 : Int32) (f2 : Int32) (f3 : Int32) : Nat × va_E := ((xa 20), .inr (8, [.ref (xa 21), .int f1, .int f2, .int f3, .ref (xa 11), .ref (xa 7)]))
abbrev o_glass (xa : Nat → Nat) (f0 : Int64) (f1 : Int32) (f4 : Int64) (f5 : Int64) (f6 : Int64) (f7 : Int64) (f8 : Int64) (f9 : Int64) (f10 : Int64) (f11 : Int64) (f12 : Int64) (f13 : Int64) (f14 : Int64) (f15 : Int64) : Nat × va_E := ((xa 21), .inr (3, [.long f0, .int f1, .ref (xa 22), .ref (xa 23), .long f4, .long f5, .long f6, .long f7, .long f8, .long f9, .long f10, .long f11, .long f12, .long f13, .long f14, .long f15]))
abbrev o_grid (xa : Nat → Nat) (f0 : Int32) (f1 : Int32) (f2 : Int32) (f3 : Int32) (f4 : Int32) : Nat × va_E := ((xa 24), .inr (4, [.int f0, .int f1, .int f2, .int f3, .int f4]))
abbrev o_joints (xa : Nat → Nat) (f0 : Int32) : Nat × va_E := ((xa 25), .inr (5, [.int f0, .ref (xa 26), .ref (xa 27), .ref (xa 28)]))
abbrev o_book (xa : Nat → Nat) (f0 : Int32) : Nat × va_E := ((xa 29), .inr (1, [.int f0, .ref (xa 30), .ref (xa 31), .ref (xa 32), .ref (xa 33), .ref (xa 34), .ref (xa 35), .ref (xa 36), .ref (xa 37)]))
