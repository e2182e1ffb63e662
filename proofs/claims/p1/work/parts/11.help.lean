theorem lf_kX11_within_1 (v : Int32) (lo : Int32) (hi : Int32) (c_1 : v < lo) : ¬ (sp_in v lo hi) := by
  first | grind | (simp only [sp_in, sp_pl, sp_far, sp_two] at *; grind)
theorem lf_kX11_within_2 (v : Int32) (lo : Int32) (hi : Int32) (c_1 : ¬ v < lo) (c_2 : hi < v) : ¬ (sp_in v lo hi) := by
  first | grind | (simp only [sp_in, sp_pl, sp_far, sp_two] at *; grind)
theorem lf_kX11_within_3 (v : Int32) (lo : Int32) (hi : Int32) (c_1 : ¬ v < lo) (c_2 : ¬ hi < v) : sp_in v lo hi := by
  first | grind | (simp only [sp_in, sp_pl, sp_far, sp_two] at *; grind)
def v_kX11_within : List Cond := .code yX11_within cX11_within 3 (some .boolean) :: ([])
set_option maxHeartbeats 4000000 in
set_option maxRecDepth 100000 in
theorem kX11_within (l : Launch) (D : va_G) (cy : Nat → ClassId) (sz : Nat) (v : Int32) (lo : Int32) (hi : Int32) : Met l yX11_within v_kX11_within ({ frames := 0, cells := 0, slots := 0, locals := 0 } : Room) (va_Pc [.int v, .int lo, .int hi] (gp_B D cy sz [])) (va_Qi (fun (r : Int32) (u : Unit) => (r = 1 ∧ (sp_in v lo hi)) ∨ (r = 0 ∧ ¬ (sp_in v lo hi))) (fun u => gp_E D (va_A [] sz) []) (va_A [] sz)) 0 0 (va_A [] sz) := by
  refine gp_met (Qc := fun A => va_Qi (fun (r : Int32) (u : Unit) => (r = 1 ∧ (sp_in v lo hi)) ∨ (r = 0 ∧ ¬ (sp_in v lo hi))) (fun u => gp_E D A []) A) (cc := cX11_within) (maxL := 3) (ret := (some .boolean)) (by decide) rfl (Nat.le_of_ble_eq_true rfl) ?_
  intro p e s m below meth c A ls H hx hb hml hr hlocks hts hown hin hK hN hS hP hD hA hl
  have hown : s.vm.findClass RX11 = some m.cls := hown
  have hl : lv_has ls 3 [(0, .int v), (1, .int lo), (2, .int hi)] := hl
  refine lv_iload_n hx hb dX11_within_0 rfl (lv_at hl 0 rfl) ?_
  refine lv_iload_n hx hb dX11_within_1 rfl (lv_at hl 1 rfl) ?_
  refine lv_icmp_lt (tgt := 14) hx hb dX11_within_2 (by decide) (fun c_1 => ?_) (fun c_1 => ?_)
  · refine lv_iconst (v := 0) hx hb dX11_within_14 (by decide) ?_
    exact W.zret (v := 0) hx hb hr narrow_b0 (fun t ht hW => ⟨⟨0, (), rfl, Or.inr ⟨rfl, (lf_kX11_within_1 v lo hi c_1)⟩, gp_end ht (hP.sub (ws' := []) [] rfl) (hD.sub (ws' := []) [] (by decide) rfl)⟩, hS.F ht⟩) hS.2.2 dX11_within_15
  · refine lv_iload_n hx hb dX11_within_5 rfl (lv_at hl 0 rfl) ?_
    refine lv_iload_n hx hb dX11_within_6 rfl (lv_at hl 2 rfl) ?_
    refine lv_icmp_gt (tgt := 14) hx hb dX11_within_7 (by decide) (fun c_2 => ?_) (fun c_2 => ?_)
    · refine lv_iconst (v := 0) hx hb dX11_within_14 (by decide) ?_
      exact W.zret (v := 0) hx hb hr narrow_b0 (fun t ht hW => ⟨⟨0, (), rfl, Or.inr ⟨rfl, (lf_kX11_within_2 v lo hi c_1 c_2)⟩, gp_end ht (hP.sub (ws' := []) [] rfl) (hD.sub (ws' := []) [] (by decide) rfl)⟩, hS.F ht⟩) hS.2.2 dX11_within_15
    · refine lv_iconst (v := 1) hx hb dX11_within_10 (by decide) ?_
      refine lv_goto (tgt := 15) hx hb dX11_within_11 (by decide) ?_
      exact W.zret (v := 1) hx hb hr narrow_b1 (fun t ht hW => ⟨⟨1, (), rfl, Or.inl ⟨rfl, (lf_kX11_within_3 v lo hi c_1 c_2)⟩, gp_end ht (hP.sub (ws' := []) [] rfl) (hD.sub (ws' := []) [] (by decide) rfl)⟩, hS.F ht⟩) hS.2.2 dX11_within_15

theorem lf_kX11_isPlace_1 (x : Int32) (y : Int32) (p_2 : sp_in x (-100) 100) (p_5 : sp_in y (-100) 100) : sp_pl x y := by
  first | grind | (simp only [sp_in, sp_pl, sp_far, sp_two] at *; grind)
theorem lf_kX11_isPlace_2 (x : Int32) (y : Int32) (p_2 : sp_in x (-100) 100) (p_5 : ¬ sp_in y (-100) 100) : ¬ (sp_pl x y) := by
  first | grind | (simp only [sp_in, sp_pl, sp_far, sp_two] at *; grind)
theorem lf_kX11_isPlace_3 (x : Int32) (y : Int32) (p_2 : ¬ sp_in x (-100) 100) : ¬ (sp_pl x y) := by
  first | grind | (simp only [sp_in, sp_pl, sp_far, sp_two] at *; grind)
def v_kX11_isPlace : List Cond := .code yX11_isPlace cX11_isPlace 2 (some .boolean) :: ([.code yX11_within cX11_within 3 (some .boolean), .methodLink RX11 109 yX11_within, .static yX11_within, .initialized RX11])
set_option maxRecDepth 20000 in
theorem gg_kX11_isPlace_kX11_within : GoodIn v_kX11_isPlace v_kX11_within := goodIn_r (.code yX11_within cX11_within 3 (some .boolean) :: []) [1] rfl (by decide +kernel)
set_option maxRecDepth 20000 in
theorem g_kX11_isPlace_kX11_within_0 : GoodIn v_kX11_isPlace (va_wsS RX11 109 yX11_within v_kX11_within) := goodIn_app (goodIn_r [.methodLink RX11 109 yX11_within, .static yX11_within, .initialized RX11] [2, 3, 4] rfl (by decide +kernel)) gg_kX11_isPlace_kX11_within
set_option maxHeartbeats 4000000 in
set_option maxRecDepth 100000 in
theorem kX11_isPlace (l : Launch) (D : va_G) (cy : Nat → ClassId) (sz : Nat) (x : Int32) (y : Int32) : Met l yX11_isPlace v_kX11_isPlace ({ frames := 1, cells := 0, slots := 0, locals := 22 } : Room) (va_Pc [.int x, .int y] (gp_B D cy sz [])) (va_Qi (fun (r : Int32) (u : Unit) => (r = 1 ∧ (sp_pl x y)) ∨ (r = 0 ∧ ¬ (sp_pl x y))) (fun u => gp_E D (va_A [] sz) []) (va_A [] sz)) 0 0 (va_A [] sz) := by
  refine gp_met (Qc := fun A => va_Qi (fun (r : Int32) (u : Unit) => (r = 1 ∧ (sp_pl x y)) ∨ (r = 0 ∧ ¬ (sp_pl x y))) (fun u => gp_E D A []) A) (cc := cX11_isPlace) (maxL := 2) (ret := (some .boolean)) (by decide) rfl (Nat.le_of_ble_eq_true rfl) ?_
  intro p e s m below meth c A ls H hx hb hml hr hlocks hts hown hin hK hN hS hP hD hA hl
  have hown : s.vm.findClass RX11 = some m.cls := hown
  have hl : lv_has ls 2 [(0, .int x), (1, .int y)] := hl
  refine lv_iload_n hx hb dX11_isPlace_0 rfl (lv_at hl 0 rfl) ?_
  refine lv_bipush (v := (-100)) hx hb dX11_isPlace_1 (by decide) ?_
  refine lv_bipush (v := 100) hx hb dX11_isPlace_3 (by decide) ?_
  have hPc := hP.sub (ws' := []) [] rfl
  have hDc := hD.sub (ws' := []) [] (by decide) rfl
  have hFc := va_free (wc := []) hD hS hA [] rfl
  refine va_calli (va_runS (As := [.int x, .int (-100), .int 100]) (rest := []) ⟨hx, hb, hml, hown, hts⟩ (kX11_within l D cy H.size x (-100) 100) (va_cwS 3 hts g_kX11_isPlace_kX11_within_0 rfl rfl rfl (by decide +kernel) ⟨Nat.le_of_ble_eq_true rfl, Nat.le_of_ble_eq_true rfl⟩) (gp_preS hPc hDc hK hN) rfl rfl hl.1 rfl (lv_room (Nat.le_of_ble_eq_true rfl)) dX11_isPlace_5 ⟨Nat.le_of_ble_eq_true rfl, Nat.le_of_ble_eq_true rfl⟩) hS (fun q _ h => hFc q h) hFc (fun r_1 u t H locs ht hvm hw hB hz1 hk1 hS => ?_)
  obtain ⟨hP, hD⟩ := gp_join (wr := []) (w1 := []) hP hD [] [] rfl rfl (by decide) (by decide) hk1 hFc ht hB
  have hP : va_P D vwCl [] H := hP
  have hD : va_D A [] := hD
  rcases hw with ⟨rfl, p_2⟩ | ⟨rfl, p_2⟩
  · refine lv_if_eq (tgt := 26) hx hb dX11_isPlace_8 (by decide) (fun c_3 => absurd c_3 (by decide)) (fun c_3 => ?_)
    refine lv_iload_n hx hb dX11_isPlace_11 rfl (lv_at hl 1 rfl) ?_
    refine lv_bipush (v := (-100)) hx hb dX11_isPlace_12 (by decide) ?_
    refine lv_bipush (v := 100) hx hb dX11_isPlace_14 (by decide) ?_
    have hPc := hP.sub (ws' := []) [] rfl
    have hDc := hD.sub (ws' := []) [] (by decide) rfl
    have hFc := va_free (wc := []) hD hS hA [] rfl
    refine va_calli (va_runS (As := [.int y, .int (-100), .int 100]) (rest := []) ⟨hx, hb, hml, hown, hts⟩ (kX11_within l D cy H.size y (-100) 100) (va_cwS 3 hts g_kX11_isPlace_kX11_within_0 rfl rfl rfl (by decide +kernel) ⟨Nat.le_of_ble_eq_true rfl, Nat.le_of_ble_eq_true rfl⟩) (gp_preS hPc hDc hK hN) rfl rfl hl.1 rfl (lv_room (Nat.le_of_ble_eq_true rfl)) dX11_isPlace_16 ⟨Nat.le_of_ble_eq_true rfl, Nat.le_of_ble_eq_true rfl⟩) hS (fun q _ h => hFc q h) hFc (fun r_4 u t H locs ht hvm hw hB hz1 hk1 hS => ?_)
    obtain ⟨hP, hD⟩ := gp_join (wr := []) (w1 := []) hP hD [] [] rfl rfl (by decide) (by decide) hk1 hFc ht hB
    have hP : va_P D vwCl [] H := hP
    have hD : va_D A [] := hD
    rcases hw with ⟨rfl, p_5⟩ | ⟨rfl, p_5⟩
    · refine lv_if_eq (tgt := 26) hx hb dX11_isPlace_19 (by decide) (fun c_6 => absurd c_6 (by decide)) (fun c_6 => ?_)
      refine lv_iconst (v := 1) hx hb dX11_isPlace_22 (by decide) ?_
      refine lv_goto (tgt := 27) hx hb dX11_isPlace_23 (by decide) ?_
      exact W.zret (v := 1) hx hb hr narrow_b1 (fun t ht hW => ⟨⟨1, (), rfl, Or.inl ⟨rfl, (lf_kX11_isPlace_1 x y p_2 p_5)⟩, gp_end ht (hP.sub (ws' := []) [] rfl) (hD.sub (ws' := []) [] (by decide) rfl)⟩, hS.F ht⟩) hS.2.2 dX11_isPlace_27
    · refine lv_if_eq (tgt := 26) hx hb dX11_isPlace_19 (by decide) (fun c_7 => ?_) (fun c_7 => absurd (by decide) c_7)
      refine lv_iconst (v := 0) hx hb dX11_isPlace_26 (by decide) ?_
      exact W.zret (v := 0) hx hb hr narrow_b0 (fun t ht hW => ⟨⟨0, (), rfl, Or.inr ⟨rfl, (lf_kX11_isPlace_2 x y p_2 p_5)⟩, gp_end ht (hP.sub (ws' := []) [] rfl) (hD.sub (ws' := []) [] (by decide) rfl)⟩, hS.F ht⟩) hS.2.2 dX11_isPlace_27
  · refine lv_if_eq (tgt := 26) hx hb dX11_isPlace_8 (by decide) (fun c_8 => ?_) (fun c_8 => absurd (by decide) c_8)
    refine lv_iconst (v := 0) hx hb dX11_isPlace_26 (by decide) ?_
    exact W.zret (v := 0) hx hb hr narrow_b0 (fun t ht hW => ⟨⟨0, (), rfl, Or.inr ⟨rfl, (lf_kX11_isPlace_3 x y p_2)⟩, gp_end ht (hP.sub (ws' := []) [] rfl) (hD.sub (ws' := []) [] (by decide) rfl)⟩, hS.F ht⟩) hS.2.2 dX11_isPlace_27

theorem lf_kX11_isFarPlace_1 (x : Int32) (y : Int32) (p_2 : sp_in x (-200) 200) (p_5 : sp_in y (-200) 200) : sp_far x y := by
  first | grind | (simp only [sp_in, sp_pl, sp_far, sp_two] at *; grind)
theorem lf_kX11_isFarPlace_2 (x : Int32) (y : Int32) (p_2 : sp_in x (-200) 200) (p_5 : ¬ sp_in y (-200) 200) : ¬ (sp_far x y) := by
  first | grind | (simp only [sp_in, sp_pl, sp_far, sp_two] at *; grind)
theorem lf_kX11_isFarPlace_3 (x : Int32) (y : Int32) (p_2 : ¬ sp_in x (-200) 200) : ¬ (sp_far x y) := by
  first | grind | (simp only [sp_in, sp_pl, sp_far, sp_two] at *; grind)
def v_kX11_isFarPlace : List Cond := .code yX11_isFarPlace cX11_isFarPlace 2 (some .boolean) :: ([.code yX11_within cX11_within 3 (some .boolean), .methodLink RX11 109 yX11_within, .static yX11_within, .initialized RX11])
set_option maxRecDepth 20000 in
theorem gg_kX11_isFarPlace_kX11_within : GoodIn v_kX11_isFarPlace v_kX11_within := goodIn_r (.code yX11_within cX11_within 3 (some .boolean) :: []) [1] rfl (by decide +kernel)
set_option maxRecDepth 20000 in
theorem g_kX11_isFarPlace_kX11_within_0 : GoodIn v_kX11_isFarPlace (va_wsS RX11 109 yX11_within v_kX11_within) := goodIn_app (goodIn_r [.methodLink RX11 109 yX11_within, .static yX11_within, .initialized RX11] [2, 3, 4] rfl (by decide +kernel)) gg_kX11_isFarPlace_kX11_within
set_option maxHeartbeats 4000000 in
set_option maxRecDepth 100000 in
theorem kX11_isFarPlace (l : Launch) (D : va_G) (cy : Nat → ClassId) (sz : Nat) (x : Int32) (y : Int32) : Met l yX11_isFarPlace v_kX11_isFarPlace ({ frames := 1, cells := 0, slots := 0, locals := 22 } : Room) (va_Pc [.int x, .int y] (gp_B D cy sz [])) (va_Qi (fun (r : Int32) (u : Unit) => (r = 1 ∧ (sp_far x y)) ∨ (r = 0 ∧ ¬ (sp_far x y))) (fun u => gp_E D (va_A [] sz) []) (va_A [] sz)) 0 0 (va_A [] sz) := by
  refine gp_met (Qc := fun A => va_Qi (fun (r : Int32) (u : Unit) => (r = 1 ∧ (sp_far x y)) ∨ (r = 0 ∧ ¬ (sp_far x y))) (fun u => gp_E D A []) A) (cc := cX11_isFarPlace) (maxL := 2) (ret := (some .boolean)) (by decide) rfl (Nat.le_of_ble_eq_true rfl) ?_
  intro p e s m below meth c A ls H hx hb hml hr hlocks hts hown hin hK hN hS hP hD hA hl
  have hown : s.vm.findClass RX11 = some m.cls := hown
  have hl : lv_has ls 2 [(0, .int x), (1, .int y)] := hl
  refine lv_iload_n hx hb dX11_isFarPlace_0 rfl (lv_at hl 0 rfl) ?_
  refine lv_sipush (v := (-200)) hx hb dX11_isFarPlace_1 (by decide) ?_
  refine lv_sipush (v := 200) hx hb dX11_isFarPlace_4 (by decide) ?_
  have hPc := hP.sub (ws' := []) [] rfl
  have hDc := hD.sub (ws' := []) [] (by decide) rfl
  have hFc := va_free (wc := []) hD hS hA [] rfl
  refine va_calli (va_runS (As := [.int x, .int (-200), .int 200]) (rest := []) ⟨hx, hb, hml, hown, hts⟩ (kX11_within l D cy H.size x (-200) 200) (va_cwS 3 hts g_kX11_isFarPlace_kX11_within_0 rfl rfl rfl (by decide +kernel) ⟨Nat.le_of_ble_eq_true rfl, Nat.le_of_ble_eq_true rfl⟩) (gp_preS hPc hDc hK hN) rfl rfl hl.1 rfl (lv_room (Nat.le_of_ble_eq_true rfl)) dX11_isFarPlace_7 ⟨Nat.le_of_ble_eq_true rfl, Nat.le_of_ble_eq_true rfl⟩) hS (fun q _ h => hFc q h) hFc (fun r_1 u t H locs ht hvm hw hB hz1 hk1 hS => ?_)
  obtain ⟨hP, hD⟩ := gp_join (wr := []) (w1 := []) hP hD [] [] rfl rfl (by decide) (by decide) hk1 hFc ht hB
  have hP : va_P D vwCl [] H := hP
  have hD : va_D A [] := hD
  rcases hw with ⟨rfl, p_2⟩ | ⟨rfl, p_2⟩
  · refine lv_if_eq (tgt := 30) hx hb dX11_isFarPlace_10 (by decide) (fun c_3 => absurd c_3 (by decide)) (fun c_3 => ?_)
    refine lv_iload_n hx hb dX11_isFarPlace_13 rfl (lv_at hl 1 rfl) ?_
    refine lv_sipush (v := (-200)) hx hb dX11_isFarPlace_14 (by decide) ?_
    refine lv_sipush (v := 200) hx hb dX11_isFarPlace_17 (by decide) ?_
    have hPc := hP.sub (ws' := []) [] rfl
    have hDc := hD.sub (ws' := []) [] (by decide) rfl
    have hFc := va_free (wc := []) hD hS hA [] rfl
    refine va_calli (va_runS (As := [.int y, .int (-200), .int 200]) (rest := []) ⟨hx, hb, hml, hown, hts⟩ (kX11_within l D cy H.size y (-200) 200) (va_cwS 3 hts g_kX11_isFarPlace_kX11_within_0 rfl rfl rfl (by decide +kernel) ⟨Nat.le_of_ble_eq_true rfl, Nat.le_of_ble_eq_true rfl⟩) (gp_preS hPc hDc hK hN) rfl rfl hl.1 rfl (lv_room (Nat.le_of_ble_eq_true rfl)) dX11_isFarPlace_20 ⟨Nat.le_of_ble_eq_true rfl, Nat.le_of_ble_eq_true rfl⟩) hS (fun q _ h => hFc q h) hFc (fun r_4 u t H locs ht hvm hw hB hz1 hk1 hS => ?_)
    obtain ⟨hP, hD⟩ := gp_join (wr := []) (w1 := []) hP hD [] [] rfl rfl (by decide) (by decide) hk1 hFc ht hB
    have hP : va_P D vwCl [] H := hP
    have hD : va_D A [] := hD
    rcases hw with ⟨rfl, p_5⟩ | ⟨rfl, p_5⟩
    · refine lv_if_eq (tgt := 30) hx hb dX11_isFarPlace_23 (by decide) (fun c_6 => absurd c_6 (by decide)) (fun c_6 => ?_)
      refine lv_iconst (v := 1) hx hb dX11_isFarPlace_26 (by decide) ?_
      refine lv_goto (tgt := 31) hx hb dX11_isFarPlace_27 (by decide) ?_
      exact W.zret (v := 1) hx hb hr narrow_b1 (fun t ht hW => ⟨⟨1, (), rfl, Or.inl ⟨rfl, (lf_kX11_isFarPlace_1 x y p_2 p_5)⟩, gp_end ht (hP.sub (ws' := []) [] rfl) (hD.sub (ws' := []) [] (by decide) rfl)⟩, hS.F ht⟩) hS.2.2 dX11_isFarPlace_31
    · refine lv_if_eq (tgt := 30) hx hb dX11_isFarPlace_23 (by decide) (fun c_7 => ?_) (fun c_7 => absurd (by decide) c_7)
      refine lv_iconst (v := 0) hx hb dX11_isFarPlace_30 (by decide) ?_
      exact W.zret (v := 0) hx hb hr narrow_b0 (fun t ht hW => ⟨⟨0, (), rfl, Or.inr ⟨rfl, (lf_kX11_isFarPlace_2 x y p_2 p_5)⟩, gp_end ht (hP.sub (ws' := []) [] rfl) (hD.sub (ws' := []) [] (by decide) rfl)⟩, hS.F ht⟩) hS.2.2 dX11_isFarPlace_31
  · refine lv_if_eq (tgt := 30) hx hb dX11_isFarPlace_10 (by decide) (fun c_8 => ?_) (fun c_8 => absurd (by decide) c_8)
    refine lv_iconst (v := 0) hx hb dX11_isFarPlace_30 (by decide) ?_
    exact W.zret (v := 0) hx hb hr narrow_b0 (fun t ht hW => ⟨⟨0, (), rfl, Or.inr ⟨rfl, (lf_kX11_isFarPlace_3 x y p_2)⟩, gp_end ht (hP.sub (ws' := []) [] rfl) (hD.sub (ws' := []) [] (by decide) rfl)⟩, hS.F ht⟩) hS.2.2 dX11_isFarPlace_31

theorem lf_kX11_isStretch_1 (ax : Int32) (ay : Int32) (bx : Int32) (b2 : Int32) (p_2 : sp_pl ax ay) (p_5 : sp_pl bx b2) (c_7 : ¬ ax = bx) : sp_two ax ay bx b2 := by
  first | grind | (simp only [sp_in, sp_pl, sp_far, sp_two] at *; grind)
theorem lf_kX11_isStretch_2 (ax : Int32) (ay : Int32) (bx : Int32) (b2 : Int32) (p_2 : sp_pl ax ay) (p_5 : sp_pl bx b2) (c_7 : ax = bx) (c_8 : ay = b2) : ¬ (sp_two ax ay bx b2) := by
  first | grind | (simp only [sp_in, sp_pl, sp_far, sp_two] at *; grind)
theorem lf_kX11_isStretch_3 (ax : Int32) (ay : Int32) (bx : Int32) (b2 : Int32) (p_2 : sp_pl ax ay) (p_5 : sp_pl bx b2) (c_7 : ax = bx) (c_8 : ¬ ay = b2) : sp_two ax ay bx b2 := by
  first | grind | (simp only [sp_in, sp_pl, sp_far, sp_two] at *; grind)
theorem lf_kX11_isStretch_4 (ax : Int32) (ay : Int32) (bx : Int32) (b2 : Int32) (p_2 : sp_pl ax ay) (p_5 : ¬ sp_pl bx b2) : ¬ (sp_two ax ay bx b2) := by
  first | grind | (simp only [sp_in, sp_pl, sp_far, sp_two] at *; grind)
theorem lf_kX11_isStretch_5 (ax : Int32) (ay : Int32) (bx : Int32) (b2 : Int32) (p_2 : ¬ sp_pl ax ay) : ¬ (sp_two ax ay bx b2) := by
  first | grind | (simp only [sp_in, sp_pl, sp_far, sp_two] at *; grind)
def v_kX11_isStretch : List Cond := .code yX11_isStretch cX11_isStretch 4 (some .boolean) :: ([.code yX11_isPlace cX11_isPlace 2 (some .boolean), .code yX11_within cX11_within 3 (some .boolean), .methodLink RX11 109 yX11_within, .static yX11_within, .initialized RX11, .methodLink RX11 122 yX11_isPlace, .static yX11_isPlace])
set_option maxRecDepth 20000 in
theorem gg_kX11_isStretch_kX11_isPlace : GoodIn v_kX11_isStretch v_kX11_isPlace := goodIn_r (.code yX11_isPlace cX11_isPlace 2 (some .boolean) :: [.code yX11_within cX11_within 3 (some .boolean), .methodLink RX11 109 yX11_within, .static yX11_within, .initialized RX11]) [1, 2, 3, 4, 5] rfl (by decide +kernel)
set_option maxRecDepth 20000 in
theorem g_kX11_isStretch_kX11_isPlace_0 : GoodIn v_kX11_isStretch (va_wsS RX11 122 yX11_isPlace v_kX11_isPlace) := goodIn_app (goodIn_r [.methodLink RX11 122 yX11_isPlace, .static yX11_isPlace, .initialized RX11] [6, 7, 5] rfl (by decide +kernel)) gg_kX11_isStretch_kX11_isPlace
set_option maxHeartbeats 4000000 in
set_option maxRecDepth 100000 in
theorem kX11_isStretch (l : Launch) (D : va_G) (cy : Nat → ClassId) (sz : Nat) (ax : Int32) (ay : Int32) (bx : Int32) (b2 : Int32) : Met l yX11_isStretch v_kX11_isStretch ({ frames := 2, cells := 0, slots := 0, locals := 43 } : Room) (va_Pc [.int ax, .int ay, .int bx, .int b2] (gp_B D cy sz [])) (va_Qi (fun (r : Int32) (u : Unit) => (r = 1 ∧ (sp_two ax ay bx b2)) ∨ (r = 0 ∧ ¬ (sp_two ax ay bx b2))) (fun u => gp_E D (va_A [] sz) []) (va_A [] sz)) 0 0 (va_A [] sz) := by
  refine gp_met (Qc := fun A => va_Qi (fun (r : Int32) (u : Unit) => (r = 1 ∧ (sp_two ax ay bx b2)) ∨ (r = 0 ∧ ¬ (sp_two ax ay bx b2))) (fun u => gp_E D A []) A) (cc := cX11_isStretch) (maxL := 4) (ret := (some .boolean)) (by decide) rfl (Nat.le_of_ble_eq_true rfl) ?_
  intro p e s m below meth c A ls H hx hb hml hr hlocks hts hown hin hK hN hS hP hD hA hl
  have hown : s.vm.findClass RX11 = some m.cls := hown
  have hl : lv_has ls 4 [(0, .int ax), (1, .int ay), (2, .int bx), (3, .int b2)] := hl
  refine lv_iload_n hx hb dX11_isStretch_0 rfl (lv_at hl 0 rfl) ?_
  refine lv_iload_n hx hb dX11_isStretch_1 rfl (lv_at hl 1 rfl) ?_
  have hPc := hP.sub (ws' := []) [] rfl
  have hDc := hD.sub (ws' := []) [] (by decide) rfl
  have hFc := va_free (wc := []) hD hS hA [] rfl
  refine va_calli (va_runS (As := [.int ax, .int ay]) (rest := []) ⟨hx, hb, hml, hown, hts⟩ (kX11_isPlace l D cy H.size ax ay) (va_cwS 2 hts g_kX11_isStretch_kX11_isPlace_0 rfl rfl rfl (by decide +kernel) ⟨Nat.le_of_ble_eq_true rfl, Nat.le_of_ble_eq_true rfl⟩) (gp_preS hPc hDc hK hN) rfl rfl hl.1 rfl (lv_room (Nat.le_of_ble_eq_true rfl)) dX11_isStretch_2 ⟨Nat.le_of_ble_eq_true rfl, Nat.le_of_ble_eq_true rfl⟩) hS (fun q _ h => hFc q h) hFc (fun r_1 u t H locs ht hvm hw hB hz1 hk1 hS => ?_)
  obtain ⟨hP, hD⟩ := gp_join (wr := []) (w1 := []) hP hD [] [] rfl rfl (by decide) (by decide) hk1 hFc ht hB
  have hP : va_P D vwCl [] H := hP
  have hD : va_D A [] := hD
  rcases hw with ⟨rfl, p_2⟩ | ⟨rfl, p_2⟩
  · refine lv_if_eq (tgt := 30) hx hb dX11_isStretch_5 (by decide) (fun c_3 => absurd c_3 (by decide)) (fun c_3 => ?_)
    refine lv_iload_n hx hb dX11_isStretch_8 rfl (lv_at hl 2 rfl) ?_
    refine lv_iload_n hx hb dX11_isStretch_9 rfl (lv_at hl 3 rfl) ?_
    have hPc := hP.sub (ws' := []) [] rfl
    have hDc := hD.sub (ws' := []) [] (by decide) rfl
    have hFc := va_free (wc := []) hD hS hA [] rfl
    refine va_calli (va_runS (As := [.int bx, .int b2]) (rest := []) ⟨hx, hb, hml, hown, hts⟩ (kX11_isPlace l D cy H.size bx b2) (va_cwS 2 hts g_kX11_isStretch_kX11_isPlace_0 rfl rfl rfl (by decide +kernel) ⟨Nat.le_of_ble_eq_true rfl, Nat.le_of_ble_eq_true rfl⟩) (gp_preS hPc hDc hK hN) rfl rfl hl.1 rfl (lv_room (Nat.le_of_ble_eq_true rfl)) dX11_isStretch_10 ⟨Nat.le_of_ble_eq_true rfl, Nat.le_of_ble_eq_true rfl⟩) hS (fun q _ h => hFc q h) hFc (fun r_4 u t H locs ht hvm hw hB hz1 hk1 hS => ?_)
    obtain ⟨hP, hD⟩ := gp_join (wr := []) (w1 := []) hP hD [] [] rfl rfl (by decide) (by decide) hk1 hFc ht hB
    have hP : va_P D vwCl [] H := hP
    have hD : va_D A [] := hD
    rcases hw with ⟨rfl, p_5⟩ | ⟨rfl, p_5⟩
    · refine lv_if_eq (tgt := 30) hx hb dX11_isStretch_13 (by decide) (fun c_6 => absurd c_6 (by decide)) (fun c_6 => ?_)
      refine lv_iload_n hx hb dX11_isStretch_16 rfl (lv_at hl 0 rfl) ?_
      refine lv_iload_n hx hb dX11_isStretch_17 rfl (lv_at hl 2 rfl) ?_
      refine lv_icmp_ne (tgt := 26) hx hb dX11_isStretch_18 (by decide) (fun c_7 => ?_) (fun c_7 => ?_)
      · refine lv_iconst (v := 1) hx hb dX11_isStretch_26 (by decide) ?_
        refine lv_goto (tgt := 31) hx hb dX11_isStretch_27 (by decide) ?_
        exact W.zret (v := 1) hx hb hr narrow_b1 (fun t ht hW => ⟨⟨1, (), rfl, Or.inl ⟨rfl, (lf_kX11_isStretch_1 ax ay bx b2 p_2 p_5 c_7)⟩, gp_end ht (hP.sub (ws' := []) [] rfl) (hD.sub (ws' := []) [] (by decide) rfl)⟩, hS.F ht⟩) hS.2.2 dX11_isStretch_31
      · refine lv_iload_n hx hb dX11_isStretch_21 rfl (lv_at hl 1 rfl) ?_
        refine lv_iload_n hx hb dX11_isStretch_22 rfl (lv_at hl 3 rfl) ?_
        refine lv_icmp_eq (tgt := 30) hx hb dX11_isStretch_23 (by decide) (fun c_8 => ?_) (fun c_8 => ?_)
        · refine lv_iconst (v := 0) hx hb dX11_isStretch_30 (by decide) ?_
          exact W.zret (v := 0) hx hb hr narrow_b0 (fun t ht hW => ⟨⟨0, (), rfl, Or.inr ⟨rfl, (lf_kX11_isStretch_2 ax ay bx b2 p_2 p_5 c_7 c_8)⟩, gp_end ht (hP.sub (ws' := []) [] rfl) (hD.sub (ws' := []) [] (by decide) rfl)⟩, hS.F ht⟩) hS.2.2 dX11_isStretch_31
        · refine lv_iconst (v := 1) hx hb dX11_isStretch_26 (by decide) ?_
          refine lv_goto (tgt := 31) hx hb dX11_isStretch_27 (by decide) ?_
          exact W.zret (v := 1) hx hb hr narrow_b1 (fun t ht hW => ⟨⟨1, (), rfl, Or.inl ⟨rfl, (lf_kX11_isStretch_3 ax ay bx b2 p_2 p_5 c_7 c_8)⟩, gp_end ht (hP.sub (ws' := []) [] rfl) (hD.sub (ws' := []) [] (by decide) rfl)⟩, hS.F ht⟩) hS.2.2 dX11_isStretch_31
    · refine lv_if_eq (tgt := 30) hx hb dX11_isStretch_13 (by decide) (fun c_9 => ?_) (fun c_9 => absurd (by decide) c_9)
      refine lv_iconst (v := 0) hx hb dX11_isStretch_30 (by decide) ?_
      exact W.zret (v := 0) hx hb hr narrow_b0 (fun t ht hW => ⟨⟨0, (), rfl, Or.inr ⟨rfl, (lf_kX11_isStretch_4 ax ay bx b2 p_2 p_5)⟩, gp_end ht (hP.sub (ws' := []) [] rfl) (hD.sub (ws' := []) [] (by decide) rfl)⟩, hS.F ht⟩) hS.2.2 dX11_isStretch_31
  · refine lv_if_eq (tgt := 30) hx hb dX11_isStretch_5 (by decide) (fun c_10 => ?_) (fun c_10 => absurd (by decide) c_10)
    refine lv_iconst (v := 0) hx hb dX11_isStretch_30 (by decide) ?_
    exact W.zret (v := 0) hx hb hr narrow_b0 (fun t ht hW => ⟨⟨0, (), rfl, Or.inr ⟨rfl, (lf_kX11_isStretch_5 ax ay bx b2 p_2)⟩, gp_end ht (hP.sub (ws' := []) [] rfl) (hD.sub (ws' := []) [] (by decide) rfl)⟩, hS.F ht⟩) hS.2.2 dX11_isStretch_31

theorem lf_kX12_isIn_1 (v : Int32) (lo : Int32) (hi : Int32) (c_1 : v < lo) : ¬ (sp_in v lo hi) := by
  first | grind | (simp only [sp_in, sp_pl, sp_far, sp_two] at *; grind)
theorem lf_kX12_isIn_2 (v : Int32) (lo : Int32) (hi : Int32) (c_1 : ¬ v < lo) (c_2 : hi < v) : ¬ (sp_in v lo hi) := by
  first | grind | (simp only [sp_in, sp_pl, sp_far, sp_two] at *; grind)
theorem lf_kX12_isIn_3 (v : Int32) (lo : Int32) (hi : Int32) (c_1 : ¬ v < lo) (c_2 : ¬ hi < v) : sp_in v lo hi := by
  first | grind | (simp only [sp_in, sp_pl, sp_far, sp_two] at *; grind)
def v_kX12_isIn : List Cond := .code yX12_isIn cX12_isIn 3 (some .boolean) :: ([])
set_option maxHeartbeats 4000000 in
set_option maxRecDepth 100000 in
theorem kX12_isIn (l : Launch) (D : va_G) (cy : Nat → ClassId) (sz : Nat) (v : Int32) (lo : Int32) (hi : Int32) : Met l yX12_isIn v_kX12_isIn ({ frames := 0, cells := 0, slots := 0, locals := 0 } : Room) (va_Pc [.int v, .int lo, .int hi] (gp_B D cy sz [])) (va_Qi (fun (r : Int32) (u : Unit) => (r = 1 ∧ (sp_in v lo hi)) ∨ (r = 0 ∧ ¬ (sp_in v lo hi))) (fun u => gp_E D (va_A [] sz) []) (va_A [] sz)) 0 0 (va_A [] sz) := by
  refine gp_met (Qc := fun A => va_Qi (fun (r : Int32) (u : Unit) => (r = 1 ∧ (sp_in v lo hi)) ∨ (r = 0 ∧ ¬ (sp_in v lo hi))) (fun u => gp_E D A []) A) (cc := cX12_isIn) (maxL := 3) (ret := (some .boolean)) (by decide) rfl (Nat.le_of_ble_eq_true rfl) ?_
  intro p e s m below meth c A ls H hx hb hml hr hlocks hts hown hin hK hN hS hP hD hA hl
  have hown : s.vm.findClass RX12 = some m.cls := hown
  have hl : lv_has ls 3 [(0, .int v), (1, .int lo), (2, .int hi)] := hl
  refine lv_iload_n hx hb dX12_isIn_0 rfl (lv_at hl 0 rfl) ?_
  refine lv_iload_n hx hb dX12_isIn_1 rfl (lv_at hl 1 rfl) ?_
  refine lv_icmp_lt (tgt := 14) hx hb dX12_isIn_2 (by decide) (fun c_1 => ?_) (fun c_1 => ?_)
  · refine lv_iconst (v := 0) hx hb dX12_isIn_14 (by decide) ?_
    exact W.zret (v := 0) hx hb hr narrow_b0 (fun t ht hW => ⟨⟨0, (), rfl, Or.inr ⟨rfl, (lf_kX12_isIn_1 v lo hi c_1)⟩, gp_end ht (hP.sub (ws' := []) [] rfl) (hD.sub (ws' := []) [] (by decide) rfl)⟩, hS.F ht⟩) hS.2.2 dX12_isIn_15
  · refine lv_iload_n hx hb dX12_isIn_5 rfl (lv_at hl 0 rfl) ?_
    refine lv_iload_n hx hb dX12_isIn_6 rfl (lv_at hl 2 rfl) ?_
    refine lv_icmp_gt (tgt := 14) hx hb dX12_isIn_7 (by decide) (fun c_2 => ?_) (fun c_2 => ?_)
    · refine lv_iconst (v := 0) hx hb dX12_isIn_14 (by decide) ?_
      exact W.zret (v := 0) hx hb hr narrow_b0 (fun t ht hW => ⟨⟨0, (), rfl, Or.inr ⟨rfl, (lf_kX12_isIn_2 v lo hi c_1 c_2)⟩, gp_end ht (hP.sub (ws' := []) [] rfl) (hD.sub (ws' := []) [] (by decide) rfl)⟩, hS.F ht⟩) hS.2.2 dX12_isIn_15
    · refine lv_iconst (v := 1) hx hb dX12_isIn_10 (by decide) ?_
      refine lv_goto (tgt := 15) hx hb dX12_isIn_11 (by decide) ?_
      exact W.zret (v := 1) hx hb hr narrow_b1 (fun t ht hW => ⟨⟨1, (), rfl, Or.inl ⟨rfl, (lf_kX12_isIn_3 v lo hi c_1 c_2)⟩, gp_end ht (hP.sub (ws' := []) [] rfl) (hD.sub (ws' := []) [] (by decide) rfl)⟩, hS.F ht⟩) hS.2.2 dX12_isIn_15

theorem lf_kX12_isPlace_1 (x : Int32) (y : Int32) (p_2 : sp_in x (-100) 100) (p_5 : sp_in y (-100) 100) : sp_pl x y := by
  first | grind | (simp only [sp_in, sp_pl, sp_far, sp_two] at *; grind)
theorem lf_kX12_isPlace_2 (x : Int32) (y : Int32) (p_2 : sp_in x (-100) 100) (p_5 : ¬ sp_in y (-100) 100) : ¬ (sp_pl x y) := by
  first | grind | (simp only [sp_in, sp_pl, sp_far, sp_two] at *; grind)
theorem lf_kX12_isPlace_3 (x : Int32) (y : Int32) (p_2 : ¬ sp_in x (-100) 100) : ¬ (sp_pl x y) := by
  first | grind | (simp only [sp_in, sp_pl, sp_far, sp_two] at *; grind)
def v_kX12_isPlace : List Cond := .code yX12_isPlace cX12_isPlace 2 (some .boolean) :: ([.code yX12_isIn cX12_isIn 3 (some .boolean), .methodLink RX12 3 yX12_isIn, .static yX12_isIn, .initialized RX12])
set_option maxRecDepth 20000 in
theorem gg_kX12_isPlace_kX12_isIn : GoodIn v_kX12_isPlace v_kX12_isIn := goodIn_r (.code yX12_isIn cX12_isIn 3 (some .boolean) :: []) [1] rfl (by decide +kernel)
set_option maxRecDepth 20000 in
theorem g_kX12_isPlace_kX12_isIn_0 : GoodIn v_kX12_isPlace (va_wsS RX12 3 yX12_isIn v_kX12_isIn) := goodIn_app (goodIn_r [.methodLink RX12 3 yX12_isIn, .static yX12_isIn, .initialized RX12] [2, 3, 4] rfl (by decide +kernel)) gg_kX12_isPlace_kX12_isIn
set_option maxHeartbeats 4000000 in
set_option maxRecDepth 100000 in
theorem kX12_isPlace (l : Launch) (D : va_G) (cy : Nat → ClassId) (sz : Nat) (x : Int32) (y : Int32) : Met l yX12_isPlace v_kX12_isPlace ({ frames := 1, cells := 0, slots := 0, locals := 22 } : Room) (va_Pc [.int x, .int y] (gp_B D cy sz [])) (va_Qi (fun (r : Int32) (u : Unit) => (r = 1 ∧ (sp_pl x y)) ∨ (r = 0 ∧ ¬ (sp_pl x y))) (fun u => gp_E D (va_A [] sz) []) (va_A [] sz)) 0 0 (va_A [] sz) := by
  refine gp_met (Qc := fun A => va_Qi (fun (r : Int32) (u : Unit) => (r = 1 ∧ (sp_pl x y)) ∨ (r = 0 ∧ ¬ (sp_pl x y))) (fun u => gp_E D A []) A) (cc := cX12_isPlace) (maxL := 2) (ret := (some .boolean)) (by decide) rfl (Nat.le_of_ble_eq_true rfl) ?_
  intro p e s m below meth c A ls H hx hb hml hr hlocks hts hown hin hK hN hS hP hD hA hl
  have hown : s.vm.findClass RX12 = some m.cls := hown
  have hl : lv_has ls 2 [(0, .int x), (1, .int y)] := hl
  refine lv_iload_n hx hb dX12_isPlace_0 rfl (lv_at hl 0 rfl) ?_
  refine lv_bipush (v := (-100)) hx hb dX12_isPlace_1 (by decide) ?_
  refine lv_bipush (v := 100) hx hb dX12_isPlace_3 (by decide) ?_
  have hPc := hP.sub (ws' := []) [] rfl
  have hDc := hD.sub (ws' := []) [] (by decide) rfl
  have hFc := va_free (wc := []) hD hS hA [] rfl
  refine va_calli (va_runS (As := [.int x, .int (-100), .int 100]) (rest := []) ⟨hx, hb, hml, hown, hts⟩ (kX12_isIn l D cy H.size x (-100) 100) (va_cwS 3 hts g_kX12_isPlace_kX12_isIn_0 rfl rfl rfl (by decide +kernel) ⟨Nat.le_of_ble_eq_true rfl, Nat.le_of_ble_eq_true rfl⟩) (gp_preS hPc hDc hK hN) rfl rfl hl.1 rfl (lv_room (Nat.le_of_ble_eq_true rfl)) dX12_isPlace_5 ⟨Nat.le_of_ble_eq_true rfl, Nat.le_of_ble_eq_true rfl⟩) hS (fun q _ h => hFc q h) hFc (fun r_1 u t H locs ht hvm hw hB hz1 hk1 hS => ?_)
  obtain ⟨hP, hD⟩ := gp_join (wr := []) (w1 := []) hP hD [] [] rfl rfl (by decide) (by decide) hk1 hFc ht hB
  have hP : va_P D vwCl [] H := hP
  have hD : va_D A [] := hD
  rcases hw with ⟨rfl, p_2⟩ | ⟨rfl, p_2⟩
  · refine lv_if_eq (tgt := 26) hx hb dX12_isPlace_8 (by decide) (fun c_3 => absurd c_3 (by decide)) (fun c_3 => ?_)
    refine lv_iload_n hx hb dX12_isPlace_11 rfl (lv_at hl 1 rfl) ?_
    refine lv_bipush (v := (-100)) hx hb dX12_isPlace_12 (by decide) ?_
    refine lv_bipush (v := 100) hx hb dX12_isPlace_14 (by decide) ?_
    have hPc := hP.sub (ws' := []) [] rfl
    have hDc := hD.sub (ws' := []) [] (by decide) rfl
    have hFc := va_free (wc := []) hD hS hA [] rfl
    refine va_calli (va_runS (As := [.int y, .int (-100), .int 100]) (rest := []) ⟨hx, hb, hml, hown, hts⟩ (kX12_isIn l D cy H.size y (-100) 100) (va_cwS 3 hts g_kX12_isPlace_kX12_isIn_0 rfl rfl rfl (by decide +kernel) ⟨Nat.le_of_ble_eq_true rfl, Nat.le_of_ble_eq_true rfl⟩) (gp_preS hPc hDc hK hN) rfl rfl hl.1 rfl (lv_room (Nat.le_of_ble_eq_true rfl)) dX12_isPlace_16 ⟨Nat.le_of_ble_eq_true rfl, Nat.le_of_ble_eq_true rfl⟩) hS (fun q _ h => hFc q h) hFc (fun r_4 u t H locs ht hvm hw hB hz1 hk1 hS => ?_)
    obtain ⟨hP, hD⟩ := gp_join (wr := []) (w1 := []) hP hD [] [] rfl rfl (by decide) (by decide) hk1 hFc ht hB
    have hP : va_P D vwCl [] H := hP
    have hD : va_D A [] := hD
    rcases hw with ⟨rfl, p_5⟩ | ⟨rfl, p_5⟩
    · refine lv_if_eq (tgt := 26) hx hb dX12_isPlace_19 (by decide) (fun c_6 => absurd c_6 (by decide)) (fun c_6 => ?_)
      refine lv_iconst (v := 1) hx hb dX12_isPlace_22 (by decide) ?_
      refine lv_goto (tgt := 27) hx hb dX12_isPlace_23 (by decide) ?_
      exact W.zret (v := 1) hx hb hr narrow_b1 (fun t ht hW => ⟨⟨1, (), rfl, Or.inl ⟨rfl, (lf_kX12_isPlace_1 x y p_2 p_5)⟩, gp_end ht (hP.sub (ws' := []) [] rfl) (hD.sub (ws' := []) [] (by decide) rfl)⟩, hS.F ht⟩) hS.2.2 dX12_isPlace_27
    · refine lv_if_eq (tgt := 26) hx hb dX12_isPlace_19 (by decide) (fun c_7 => ?_) (fun c_7 => absurd (by decide) c_7)
      refine lv_iconst (v := 0) hx hb dX12_isPlace_26 (by decide) ?_
      exact W.zret (v := 0) hx hb hr narrow_b0 (fun t ht hW => ⟨⟨0, (), rfl, Or.inr ⟨rfl, (lf_kX12_isPlace_2 x y p_2 p_5)⟩, gp_end ht (hP.sub (ws' := []) [] rfl) (hD.sub (ws' := []) [] (by decide) rfl)⟩, hS.F ht⟩) hS.2.2 dX12_isPlace_27
  · refine lv_if_eq (tgt := 26) hx hb dX12_isPlace_8 (by decide) (fun c_8 => ?_) (fun c_8 => absurd (by decide) c_8)
    refine lv_iconst (v := 0) hx hb dX12_isPlace_26 (by decide) ?_
    exact W.zret (v := 0) hx hb hr narrow_b0 (fun t ht hW => ⟨⟨0, (), rfl, Or.inr ⟨rfl, (lf_kX12_isPlace_3 x y p_2)⟩, gp_end ht (hP.sub (ws' := []) [] rfl) (hD.sub (ws' := []) [] (by decide) rfl)⟩, hS.F ht⟩) hS.2.2 dX12_isPlace_27

theorem lf_kX12_isWide_1 (x : Int32) (y : Int32) (p_2 : sp_in x (-200) 200) (p_5 : sp_in y (-200) 200) : sp_far x y := by
  first | grind | (simp only [sp_in, sp_pl, sp_far, sp_two] at *; grind)
theorem lf_kX12_isWide_2 (x : Int32) (y : Int32) (p_2 : sp_in x (-200) 200) (p_5 : ¬ sp_in y (-200) 200) : ¬ (sp_far x y) := by
  first | grind | (simp only [sp_in, sp_pl, sp_far, sp_two] at *; grind)
theorem lf_kX12_isWide_3 (x : Int32) (y : Int32) (p_2 : ¬ sp_in x (-200) 200) : ¬ (sp_far x y) := by
  first | grind | (simp only [sp_in, sp_pl, sp_far, sp_two] at *; grind)
def v_kX12_isWide : List Cond := .code yX12_isWide cX12_isWide 2 (some .boolean) :: ([.code yX12_isIn cX12_isIn 3 (some .boolean), .methodLink RX12 3 yX12_isIn, .static yX12_isIn, .initialized RX12])
set_option maxRecDepth 20000 in
theorem gg_kX12_isWide_kX12_isIn : GoodIn v_kX12_isWide v_kX12_isIn := goodIn_r (.code yX12_isIn cX12_isIn 3 (some .boolean) :: []) [1] rfl (by decide +kernel)
set_option maxRecDepth 20000 in
theorem g_kX12_isWide_kX12_isIn_0 : GoodIn v_kX12_isWide (va_wsS RX12 3 yX12_isIn v_kX12_isIn) := goodIn_app (goodIn_r [.methodLink RX12 3 yX12_isIn, .static yX12_isIn, .initialized RX12] [2, 3, 4] rfl (by decide +kernel)) gg_kX12_isWide_kX12_isIn
set_option maxHeartbeats 4000000 in
set_option maxRecDepth 100000 in
theorem kX12_isWide (l : Launch) (D : va_G) (cy : Nat → ClassId) (sz : Nat) (x : Int32) (y : Int32) : Met l yX12_isWide v_kX12_isWide ({ frames := 1, cells := 0, slots := 0, locals := 22 } : Room) (va_Pc [.int x, .int y] (gp_B D cy sz [])) (va_Qi (fun (r : Int32) (u : Unit) => (r = 1 ∧ (sp_far x y)) ∨ (r = 0 ∧ ¬ (sp_far x y))) (fun u => gp_E D (va_A [] sz) []) (va_A [] sz)) 0 0 (va_A [] sz) := by
  refine gp_met (Qc := fun A => va_Qi (fun (r : Int32) (u : Unit) => (r = 1 ∧ (sp_far x y)) ∨ (r = 0 ∧ ¬ (sp_far x y))) (fun u => gp_E D A []) A) (cc := cX12_isWide) (maxL := 2) (ret := (some .boolean)) (by decide) rfl (Nat.le_of_ble_eq_true rfl) ?_
  intro p e s m below meth c A ls H hx hb hml hr hlocks hts hown hin hK hN hS hP hD hA hl
  have hown : s.vm.findClass RX12 = some m.cls := hown
  have hl : lv_has ls 2 [(0, .int x), (1, .int y)] := hl
  refine lv_iload_n hx hb dX12_isWide_0 rfl (lv_at hl 0 rfl) ?_
  refine lv_sipush (v := (-200)) hx hb dX12_isWide_1 (by decide) ?_
  refine lv_sipush (v := 200) hx hb dX12_isWide_4 (by decide) ?_
  have hPc := hP.sub (ws' := []) [] rfl
  have hDc := hD.sub (ws' := []) [] (by decide) rfl
  have hFc := va_free (wc := []) hD hS hA [] rfl
  refine va_calli (va_runS (As := [.int x, .int (-200), .int 200]) (rest := []) ⟨hx, hb, hml, hown, hts⟩ (kX12_isIn l D cy H.size x (-200) 200) (va_cwS 3 hts g_kX12_isWide_kX12_isIn_0 rfl rfl rfl (by decide +kernel) ⟨Nat.le_of_ble_eq_true rfl, Nat.le_of_ble_eq_true rfl⟩) (gp_preS hPc hDc hK hN) rfl rfl hl.1 rfl (lv_room (Nat.le_of_ble_eq_true rfl)) dX12_isWide_7 ⟨Nat.le_of_ble_eq_true rfl, Nat.le_of_ble_eq_true rfl⟩) hS (fun q _ h => hFc q h) hFc (fun r_1 u t H locs ht hvm hw hB hz1 hk1 hS => ?_)
  obtain ⟨hP, hD⟩ := gp_join (wr := []) (w1 := []) hP hD [] [] rfl rfl (by decide) (by decide) hk1 hFc ht hB
  have hP : va_P D vwCl [] H := hP
  have hD : va_D A [] := hD
  rcases hw with ⟨rfl, p_2⟩ | ⟨rfl, p_2⟩
  · refine lv_if_eq (tgt := 30) hx hb dX12_isWide_10 (by decide) (fun c_3 => absurd c_3 (by decide)) (fun c_3 => ?_)
    refine lv_iload_n hx hb dX12_isWide_13 rfl (lv_at hl 1 rfl) ?_
    refine lv_sipush (v := (-200)) hx hb dX12_isWide_14 (by decide) ?_
    refine lv_sipush (v := 200) hx hb dX12_isWide_17 (by decide) ?_
    have hPc := hP.sub (ws' := []) [] rfl
    have hDc := hD.sub (ws' := []) [] (by decide) rfl
    have hFc := va_free (wc := []) hD hS hA [] rfl
    refine va_calli (va_runS (As := [.int y, .int (-200), .int 200]) (rest := []) ⟨hx, hb, hml, hown, hts⟩ (kX12_isIn l D cy H.size y (-200) 200) (va_cwS 3 hts g_kX12_isWide_kX12_isIn_0 rfl rfl rfl (by decide +kernel) ⟨Nat.le_of_ble_eq_true rfl, Nat.le_of_ble_eq_true rfl⟩) (gp_preS hPc hDc hK hN) rfl rfl hl.1 rfl (lv_room (Nat.le_of_ble_eq_true rfl)) dX12_isWide_20 ⟨Nat.le_of_ble_eq_true rfl, Nat.le_of_ble_eq_true rfl⟩) hS (fun q _ h => hFc q h) hFc (fun r_4 u t H locs ht hvm hw hB hz1 hk1 hS => ?_)
    obtain ⟨hP, hD⟩ := gp_join (wr := []) (w1 := []) hP hD [] [] rfl rfl (by decide) (by decide) hk1 hFc ht hB
    have hP : va_P D vwCl [] H := hP
    have hD : va_D A [] := hD
    rcases hw with ⟨rfl, p_5⟩ | ⟨rfl, p_5⟩
    · refine lv_if_eq (tgt := 30) hx hb dX12_isWide_23 (by decide) (fun c_6 => absurd c_6 (by decide)) (fun c_6 => ?_)
      refine lv_iconst (v := 1) hx hb dX12_isWide_26 (by decide) ?_
      refine lv_goto (tgt := 31) hx hb dX12_isWide_27 (by decide) ?_
      exact W.zret (v := 1) hx hb hr narrow_b1 (fun t ht hW => ⟨⟨1, (), rfl, Or.inl ⟨rfl, (lf_kX12_isWide_1 x y p_2 p_5)⟩, gp_end ht (hP.sub (ws' := []) [] rfl) (hD.sub (ws' := []) [] (by decide) rfl)⟩, hS.F ht⟩) hS.2.2 dX12_isWide_31
    · refine lv_if_eq (tgt := 30) hx hb dX12_isWide_23 (by decide) (fun c_7 => ?_) (fun c_7 => absurd (by decide) c_7)
      refine lv_iconst (v := 0) hx hb dX12_isWide_30 (by decide) ?_
      exact W.zret (v := 0) hx hb hr narrow_b0 (fun t ht hW => ⟨⟨0, (), rfl, Or.inr ⟨rfl, (lf_kX12_isWide_2 x y p_2 p_5)⟩, gp_end ht (hP.sub (ws' := []) [] rfl) (hD.sub (ws' := []) [] (by decide) rfl)⟩, hS.F ht⟩) hS.2.2 dX12_isWide_31
  · refine lv_if_eq (tgt := 30) hx hb dX12_isWide_10 (by decide) (fun c_8 => ?_) (fun c_8 => absurd (by decide) c_8)
    refine lv_iconst (v := 0) hx hb dX12_isWide_30 (by decide) ?_
    exact W.zret (v := 0) hx hb hr narrow_b0 (fun t ht hW => ⟨⟨0, (), rfl, Or.inr ⟨rfl, (lf_kX12_isWide_3 x y p_2)⟩, gp_end ht (hP.sub (ws' := []) [] rfl) (hD.sub (ws' := []) [] (by decide) rfl)⟩, hS.F ht⟩) hS.2.2 dX12_isWide_31

theorem lf_kX12_areTwo_1 (ax : Int32) (ay : Int32) (bx : Int32) (b2 : Int32) (p_2 : sp_pl ax ay) (p_5 : sp_pl bx b2) (c_7 : ¬ ax = bx) : sp_two ax ay bx b2 := by
  first | grind | (simp only [sp_in, sp_pl, sp_far, sp_two] at *; grind)
theorem lf_kX12_areTwo_2 (ax : Int32) (ay : Int32) (bx : Int32) (b2 : Int32) (p_2 : sp_pl ax ay) (p_5 : sp_pl bx b2) (c_7 : ax = bx) (c_8 : ay = b2) : ¬ (sp_two ax ay bx b2) := by
  first | grind | (simp only [sp_in, sp_pl, sp_far, sp_two] at *; grind)
theorem lf_kX12_areTwo_3 (ax : Int32) (ay : Int32) (bx : Int32) (b2 : Int32) (p_2 : sp_pl ax ay) (p_5 : sp_pl bx b2) (c_7 : ax = bx) (c_8 : ¬ ay = b2) : sp_two ax ay bx b2 := by
  first | grind | (simp only [sp_in, sp_pl, sp_far, sp_two] at *; grind)
theorem lf_kX12_areTwo_4 (ax : Int32) (ay : Int32) (bx : Int32) (b2 : Int32) (p_2 : sp_pl ax ay) (p_5 : ¬ sp_pl bx b2) : ¬ (sp_two ax ay bx b2) := by
  first | grind | (simp only [sp_in, sp_pl, sp_far, sp_two] at *; grind)
theorem lf_kX12_areTwo_5 (ax : Int32) (ay : Int32) (bx : Int32) (b2 : Int32) (p_2 : ¬ sp_pl ax ay) : ¬ (sp_two ax ay bx b2) := by
  first | grind | (simp only [sp_in, sp_pl, sp_far, sp_two] at *; grind)
def v_kX12_areTwo : List Cond := .code yX12_areTwo cX12_areTwo 4 (some .boolean) :: ([.code yX12_isPlace cX12_isPlace 2 (some .boolean), .code yX12_isIn cX12_isIn 3 (some .boolean), .methodLink RX12 3 yX12_isIn, .static yX12_isIn, .initialized RX12, .methodLink RX12 7 yX12_isPlace, .static yX12_isPlace])
set_option maxRecDepth 20000 in
theorem gg_kX12_areTwo_kX12_isPlace : GoodIn v_kX12_areTwo v_kX12_isPlace := goodIn_r (.code yX12_isPlace cX12_isPlace 2 (some .boolean) :: [.code yX12_isIn cX12_isIn 3 (some .boolean), .methodLink RX12 3 yX12_isIn, .static yX12_isIn, .initialized RX12]) [1, 2, 3, 4, 5] rfl (by decide +kernel)
set_option maxRecDepth 20000 in
theorem g_kX12_areTwo_kX12_isPlace_0 : GoodIn v_kX12_areTwo (va_wsS RX12 7 yX12_isPlace v_kX12_isPlace) := goodIn_app (goodIn_r [.methodLink RX12 7 yX12_isPlace, .static yX12_isPlace, .initialized RX12] [6, 7, 5] rfl (by decide +kernel)) gg_kX12_areTwo_kX12_isPlace
set_option maxHeartbeats 4000000 in
set_option maxRecDepth 100000 in
theorem kX12_areTwo (l : Launch) (D : va_G) (cy : Nat → ClassId) (sz : Nat) (ax : Int32) (ay : Int32) (bx : Int32) (b2 : Int32) : Met l yX12_areTwo v_kX12_areTwo ({ frames := 2, cells := 0, slots := 0, locals := 43 } : Room) (va_Pc [.int ax, .int ay, .int bx, .int b2] (gp_B D cy sz [])) (va_Qi (fun (r : Int32) (u : Unit) => (r = 1 ∧ (sp_two ax ay bx b2)) ∨ (r = 0 ∧ ¬ (sp_two ax ay bx b2))) (fun u => gp_E D (va_A [] sz) []) (va_A [] sz)) 0 0 (va_A [] sz) := by
  refine gp_met (Qc := fun A => va_Qi (fun (r : Int32) (u : Unit) => (r = 1 ∧ (sp_two ax ay bx b2)) ∨ (r = 0 ∧ ¬ (sp_two ax ay bx b2))) (fun u => gp_E D A []) A) (cc := cX12_areTwo) (maxL := 4) (ret := (some .boolean)) (by decide) rfl (Nat.le_of_ble_eq_true rfl) ?_
  intro p e s m below meth c A ls H hx hb hml hr hlocks hts hown hin hK hN hS hP hD hA hl
  have hown : s.vm.findClass RX12 = some m.cls := hown
  have hl : lv_has ls 4 [(0, .int ax), (1, .int ay), (2, .int bx), (3, .int b2)] := hl
  refine lv_iload_n hx hb dX12_areTwo_0 rfl (lv_at hl 0 rfl) ?_
  refine lv_iload_n hx hb dX12_areTwo_1 rfl (lv_at hl 1 rfl) ?_
  have hPc := hP.sub (ws' := []) [] rfl
  have hDc := hD.sub (ws' := []) [] (by decide) rfl
  have hFc := va_free (wc := []) hD hS hA [] rfl
  refine va_calli (va_runS (As := [.int ax, .int ay]) (rest := []) ⟨hx, hb, hml, hown, hts⟩ (kX12_isPlace l D cy H.size ax ay) (va_cwS 2 hts g_kX12_areTwo_kX12_isPlace_0 rfl rfl rfl (by decide +kernel) ⟨Nat.le_of_ble_eq_true rfl, Nat.le_of_ble_eq_true rfl⟩) (gp_preS hPc hDc hK hN) rfl rfl hl.1 rfl (lv_room (Nat.le_of_ble_eq_true rfl)) dX12_areTwo_2 ⟨Nat.le_of_ble_eq_true rfl, Nat.le_of_ble_eq_true rfl⟩) hS (fun q _ h => hFc q h) hFc (fun r_1 u t H locs ht hvm hw hB hz1 hk1 hS => ?_)
  obtain ⟨hP, hD⟩ := gp_join (wr := []) (w1 := []) hP hD [] [] rfl rfl (by decide) (by decide) hk1 hFc ht hB
  have hP : va_P D vwCl [] H := hP
  have hD : va_D A [] := hD
  rcases hw with ⟨rfl, p_2⟩ | ⟨rfl, p_2⟩
  · refine lv_if_eq (tgt := 30) hx hb dX12_areTwo_5 (by decide) (fun c_3 => absurd c_3 (by decide)) (fun c_3 => ?_)
    refine lv_iload_n hx hb dX12_areTwo_8 rfl (lv_at hl 2 rfl) ?_
    refine lv_iload_n hx hb dX12_areTwo_9 rfl (lv_at hl 3 rfl) ?_
    have hPc := hP.sub (ws' := []) [] rfl
    have hDc := hD.sub (ws' := []) [] (by decide) rfl
    have hFc := va_free (wc := []) hD hS hA [] rfl
    refine va_calli (va_runS (As := [.int bx, .int b2]) (rest := []) ⟨hx, hb, hml, hown, hts⟩ (kX12_isPlace l D cy H.size bx b2) (va_cwS 2 hts g_kX12_areTwo_kX12_isPlace_0 rfl rfl rfl (by decide +kernel) ⟨Nat.le_of_ble_eq_true rfl, Nat.le_of_ble_eq_true rfl⟩) (gp_preS hPc hDc hK hN) rfl rfl hl.1 rfl (lv_room (Nat.le_of_ble_eq_true rfl)) dX12_areTwo_10 ⟨Nat.le_of_ble_eq_true rfl, Nat.le_of_ble_eq_true rfl⟩) hS (fun q _ h => hFc q h) hFc (fun r_4 u t H locs ht hvm hw hB hz1 hk1 hS => ?_)
    obtain ⟨hP, hD⟩ := gp_join (wr := []) (w1 := []) hP hD [] [] rfl rfl (by decide) (by decide) hk1 hFc ht hB
    have hP : va_P D vwCl [] H := hP
    have hD : va_D A [] := hD
    rcases hw with ⟨rfl, p_5⟩ | ⟨rfl, p_5⟩
    · refine lv_if_eq (tgt := 30) hx hb dX12_areTwo_13 (by decide) (fun c_6 => absurd c_6 (by decide)) (fun c_6 => ?_)
      refine lv_iload_n hx hb dX12_areTwo_16 rfl (lv_at hl 0 rfl) ?_
      refine lv_iload_n hx hb dX12_areTwo_17 rfl (lv_at hl 2 rfl) ?_
      refine lv_icmp_ne (tgt := 26) hx hb dX12_areTwo_18 (by decide) (fun c_7 => ?_) (fun c_7 => ?_)
      · refine lv_iconst (v := 1) hx hb dX12_areTwo_26 (by decide) ?_
        refine lv_goto (tgt := 31) hx hb dX12_areTwo_27 (by decide) ?_
        exact W.zret (v := 1) hx hb hr narrow_b1 (fun t ht hW => ⟨⟨1, (), rfl, Or.inl ⟨rfl, (lf_kX12_areTwo_1 ax ay bx b2 p_2 p_5 c_7)⟩, gp_end ht (hP.sub (ws' := []) [] rfl) (hD.sub (ws' := []) [] (by decide) rfl)⟩, hS.F ht⟩) hS.2.2 dX12_areTwo_31
      · refine lv_iload_n hx hb dX12_areTwo_21 rfl (lv_at hl 1 rfl) ?_
        refine lv_iload_n hx hb dX12_areTwo_22 rfl (lv_at hl 3 rfl) ?_
        refine lv_icmp_eq (tgt := 30) hx hb dX12_areTwo_23 (by decide) (fun c_8 => ?_) (fun c_8 => ?_)
        · refine lv_iconst (v := 0) hx hb dX12_areTwo_30 (by decide) ?_
          exact W.zret (v := 0) hx hb hr narrow_b0 (fun t ht hW => ⟨⟨0, (), rfl, Or.inr ⟨rfl, (lf_kX12_areTwo_2 ax ay bx b2 p_2 p_5 c_7 c_8)⟩, gp_end ht (hP.sub (ws' := []) [] rfl) (hD.sub (ws' := []) [] (by decide) rfl)⟩, hS.F ht⟩) hS.2.2 dX12_areTwo_31
        · refine lv_iconst (v := 1) hx hb dX12_areTwo_26 (by decide) ?_
          refine lv_goto (tgt := 31) hx hb dX12_areTwo_27 (by decide) ?_
          exact W.zret (v := 1) hx hb hr narrow_b1 (fun t ht hW => ⟨⟨1, (), rfl, Or.inl ⟨rfl, (lf_kX12_areTwo_3 ax ay bx b2 p_2 p_5 c_7 c_8)⟩, gp_end ht (hP.sub (ws' := []) [] rfl) (hD.sub (ws' := []) [] (by decide) rfl)⟩, hS.F ht⟩) hS.2.2 dX12_areTwo_31
    · refine lv_if_eq (tgt := 30) hx hb dX12_areTwo_13 (by decide) (fun c_9 => ?_) (fun c_9 => absurd (by decide) c_9)
      refine lv_iconst (v := 0) hx hb dX12_areTwo_30 (by decide) ?_
      exact W.zret (v := 0) hx hb hr narrow_b0 (fun t ht hW => ⟨⟨0, (), rfl, Or.inr ⟨rfl, (lf_kX12_areTwo_4 ax ay bx b2 p_2 p_5)⟩, gp_end ht (hP.sub (ws' := []) [] rfl) (hD.sub (ws' := []) [] (by decide) rfl)⟩, hS.F ht⟩) hS.2.2 dX12_areTwo_31
  · refine lv_if_eq (tgt := 30) hx hb dX12_areTwo_5 (by decide) (fun c_10 => ?_) (fun c_10 => absurd (by decide) c_10)
    refine lv_iconst (v := 0) hx hb dX12_areTwo_30 (by decide) ?_
    exact W.zret (v := 0) hx hb hr narrow_b0 (fun t ht hW => ⟨⟨0, (), rfl, Or.inr ⟨rfl, (lf_kX12_areTwo_5 ax ay bx b2 p_2)⟩, gp_end ht (hP.sub (ws' := []) [] rfl) (hD.sub (ws' := []) [] (by decide) rfl)⟩, hS.F ht⟩) hS.2.2 dX12_areTwo_31
abbrev mo_0 (ma : Nat → Nat) : va_E := .inr (12, [.int (-50), .int 0, .int 50, .int 80, .int (-60), .int (-40), .int 60, .int (-40), .int 0, .int 4, .int 0, .ref (ma 11), .ref (ma 12), .ref (ma 13), .ref (ma 14), .ref (ma 15), .ref (ma 16), .ref (ma 17), .ref (ma 18), .ref (ma 19), .ref (ma 20), .ref (ma 21), .ref (ma 22), .ref (ma 23), .ref (ma 24), .long 0, .long 0, .long 0, .long 0, .long 0, .long 0, .long 0, .long 0, .ref (ma 33), .int 0, .int 0, .int 0, .int 0, .int 0, .int 0, .int 0, .int (-1), .int 0, .ref (ma 43), .ref (ma 44), .ref (ma 45), .ref (ma 46), .ref (ma 47), .ref (ma 48), .ref (ma 49), .ref (ma 50), .ref (ma 51), .ref (ma 52), .ref (ma 53), .ref (ma 54), .int 0, .ref (ma 56), .ref (ma 57), .ref (ma 58), .ref (ma 59), .ref (ma 60), .ref (ma 61), .ref (ma 62), .int 0, .ref (ma 64), .ref (ma 65), .int 0, .ref (ma 67), .ref (ma 68), .ref (ma 69), .ref (ma 70), .ref (ma 71), .int 0, .ref (ma 73), .ref (ma 74), .ref (ma 75), .int 0, .int 0, .ref (ma 78), .ref (ma 79), .ref (ma 80), .ref (ma 81), .int 0, .int 0, .int 0, .int 0, .int 0, .int 0, .int 0, .int 0, .int 0, .int 0, .int 0, .ref (ma 93), .ref (ma 94), .ref (ma 95), .int 0, .ref (ma 97), .ref (ma 98), .ref (ma 99), .ref (ma 100), .ref (ma 101), .ref (ma 102), .ref (ma 103)])
abbrev mo_w (ma : Nat → Nat) : va_E := .inr (12, [.int (-50), .int 0, .int 50, .int 80, .int (-60), .int (-40), .int 60, .int (-40), .int 0, .int 4, .int 0, .ref (ma 11), .ref (ma 12), .ref (ma 13), .ref (ma 14), .ref (ma 15), .ref (ma 16), .ref (ma 17), .ref (ma 18), .ref (ma 19), .ref (ma 20), .ref (ma 21), .ref (ma 22), .ref (ma 23), .ref (ma 24), .long 0, .long 0, .long 0, .long 0, .long 0, .long 0, .long 0, .long 0, .ref (ma 33), .int 0, .int 0, .int 0, .int (-1), .int 0, .int (-1), .int 0, .int (-1), .int 0, .ref (ma 43), .ref (ma 44), .ref (ma 45), .ref (ma 46), .ref (ma 47), .ref (ma 48), .ref (ma 49), .ref (ma 50), .ref (ma 51), .ref (ma 52), .ref (ma 53), .ref (ma 54), .int 0, .ref (ma 56), .ref (ma 57), .ref (ma 58), .ref (ma 59), .ref (ma 60), .ref (ma 61), .ref (ma 62), .int 0, .ref (ma 64), .ref (ma 65), .int 0, .ref (ma 67), .ref (ma 68), .ref (ma 69), .ref (ma 70), .ref (ma 71), .int 0, .ref (ma 73), .ref (ma 74), .ref (ma 75), .int 0, .int 0, .ref (ma 78), .ref (ma 79), .ref (ma 80), .ref (ma 81), .int 0, .int 0, .int 0, .int 0, .int 0, .int 0, .int 0, .int 0, .int 0, .int 0, .int 0, .ref (ma 93), .ref (ma 94), .ref (ma 95), .int 0, .ref (ma 97), .ref (ma 98), .ref (ma 99), .ref (ma 100), .ref (ma 101), .ref (ma 102), .ref (ma 103)])
