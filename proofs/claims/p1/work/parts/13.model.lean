theorem lf_kX12_end_1 (ma : Nat → Nat) (n : Int32) (c_1 : n < 0) : ¬ (sp_in n 0 0) := by
  first | grind | (simp only [sp_in, sp_pl, sp_far, sp_two] at *; grind)
theorem lf_kX12_end_2 (ma : Nat → Nat) (n : Int32) (c_1 : ¬ n < 0) (c_2 : n ≤ 0) : sp_in n 0 0 := by
  first | grind | (simp only [sp_in, sp_pl, sp_far, sp_two] at *; grind)
theorem lf_kX12_end_3 (ma : Nat → Nat) (n : Int32) (c_1 : ¬ n < 0) (c_2 : ¬ n ≤ 0) : ¬ (sp_in n 0 0) := by
  first | grind | (simp only [sp_in, sp_pl, sp_far, sp_two] at *; grind)
def v_kX12_end : List Cond := .code yX12_end cX12_end 2 (some .boolean) :: ([.fieldLink RX12 186 "GhostPaneModel" "taped" "I"] ++ wsX120)
set_option maxHeartbeats 4000000 in
set_option maxRecDepth 100000 in
theorem kX12_end (l : Launch) (D : va_G) (cy : Nat → ClassId) (sz : Nat) (ma : Nat → Nat) (n : Int32) : Met l yX12_end v_kX12_end ({ frames := 0, cells := 0, slots := 0, locals := 0 } : Room) (va_Pc [.ref (ma 200), .int n] (gp_B D cy sz [((ma 200), mo_0 ma)])) (va_Qi (fun (r : Int32) (u : Unit) => (r = 1 ∧ (sp_in n 0 0)) ∨ (r = 0 ∧ ¬ (sp_in n 0 0))) (fun u => gp_E D (va_A [((ma 200), mo_0 ma)] sz) []) (va_A [((ma 200), mo_0 ma)] sz)) 0 0 (va_A [((ma 200), mo_0 ma)] sz) := by
  refine gp_met (Qc := fun A => va_Qi (fun (r : Int32) (u : Unit) => (r = 1 ∧ (sp_in n 0 0)) ∨ (r = 0 ∧ ¬ (sp_in n 0 0))) (fun u => gp_E D A []) A) (cc := cX12_end) (maxL := 2) (ret := (some .boolean)) (by decide) rfl (Nat.le_of_ble_eq_true rfl) ?_
  intro p e s m below meth c A ls H hx hb hml hr hlocks hts hown hin hK hN hS hP hD hA hl
  have hown : s.vm.findClass RX12 = some m.cls := hown
  have hl : lv_has ls 2 [(0, .ref (ma 200)), (1, .int n)] := hl
  have hiX12 : ∀ w ∈ u_ws RX12 TX12 104, w ∈ v_kX12_end := fun _ h => List.mem_cons_of_mem _ (List.mem_append_right _ h)
  refine lv_iload_n hx hb dX12_end_0 rfl (lv_at hl 1 rfl) ?_
  refine lv_if_lt (tgt := 12) hx hb dX12_end_1 (by decide) (fun c_1 => ?_) (fun c_1 => ?_)
  · refine lv_iconst (v := 0) hx hb dX12_end_12 (by decide) ?_
    exact W.zret (v := 0) hx hb hr narrow_b0 (fun t ht hW => ⟨⟨0, (), rfl, Or.inr ⟨rfl, (lf_kX12_end_1 ma n c_1)⟩, gp_end ht (hP.sub (ws' := []) [] rfl) (hD.sub (ws' := []) [] (by decide) rfl)⟩, hS.F ht⟩) hS.2.2 dX12_end_13
  · refine lv_iload_n hx hb dX12_end_4 rfl (lv_at hl 1 rfl) ?_
    refine lv_aload_n hx hb dX12_end_5 rfl (lv_at hl 0 rfl) ?_
    refine va_get (D := D) (ci := 12) (v := .int 0) (C := RX12) (T := TX12) (N := 104) hx hb hts hiX12 hown hK hP 0 rfl rfl 34 (by decide) (hts (.fieldLink RX12 186 "GhostPaneModel" "taped" "I") (List.mem_of_getElem? (i := 1) rfl)) (fun _ h9 => h9) rfl dX12_end_6 ?_
    refine lv_icmp_le (tgt := 14) hx hb dX12_end_9 (by decide) (fun c_2 => ?_) (fun c_2 => ?_)
    · refine lv_aload_n hx hb dX12_end_14 rfl (lv_at hl 0 rfl) ?_
      refine lv_iload_n hx hb dX12_end_15 rfl (lv_at hl 1 rfl) ?_
      refine va_put (D := D) (ci := 12) (v := .int n) (ty := .int) (C := RX12) (T := TX12) (N := 104) hx hb hts hiX12 tyX12 tyX12_ok nmX12 hown hK hP hD hS 0 rfl rfl 34 (by decide) (hts (.fieldLink RX12 186 "GhostPaneModel" "taped" "I") (List.mem_of_getElem? (i := 1) rfl)) (fun _ h9 => h9) rfl (by decide +kernel) rfl rfl (Nat.le_of_ble_eq_true rfl) dX12_end_16 (fun H locs hP hD hS => ?_)
      have hP : va_P D vwCl [((ma 200), .inr (12, [.int (-50), .int 0, .int 50, .int 80, .int (-60), .int (-40), .int 60, .int (-40), .int 0, .int 4, .int 0, .ref (ma 11), .ref (ma 12), .ref (ma 13), .ref (ma 14), .ref (ma 15), .ref (ma 16), .ref (ma 17), .ref (ma 18), .ref (ma 19), .ref (ma 20), .ref (ma 21), .ref (ma 22), .ref (ma 23), .ref (ma 24), .long 0, .long 0, .long 0, .long 0, .long 0, .long 0, .long 0, .long 0, .ref (ma 33), .int n, .int 0, .int 0, .int 0, .int 0, .int 0, .int 0, .int (-1), .int 0, .ref (ma 43), .ref (ma 44), .ref (ma 45), .ref (ma 46), .ref (ma 47), .ref (ma 48), .ref (ma 49), .ref (ma 50), .ref (ma 51), .ref (ma 52), .ref (ma 53), .ref (ma 54), .int 0, .ref (ma 56), .ref (ma 57), .ref (ma 58), .ref (ma 59), .ref (ma 60), .ref (ma 61), .ref (ma 62), .int 0, .ref (ma 64), .ref (ma 65), .int 0, .ref (ma 67), .ref (ma 68), .ref (ma 69), .ref (ma 70), .ref (ma 71), .int 0, .ref (ma 73), .ref (ma 74), .ref (ma 75), .int 0, .int 0, .ref (ma 78), .ref (ma 79), .ref (ma 80), .ref (ma 81), .int 0, .int 0, .int 0, .int 0, .int 0, .int 0, .int 0, .int 0, .int 0, .int 0, .int 0, .ref (ma 93), .ref (ma 94), .ref (ma 95), .int 0, .ref (ma 97), .ref (ma 98), .ref (ma 99), .ref (ma 100), .ref (ma 101), .ref (ma 102), .ref (ma 103)]))] H := hP
      have hD : va_D A [((ma 200), .inr (12, [.int (-50), .int 0, .int 50, .int 80, .int (-60), .int (-40), .int 60, .int (-40), .int 0, .int 4, .int 0, .ref (ma 11), .ref (ma 12), .ref (ma 13), .ref (ma 14), .ref (ma 15), .ref (ma 16), .ref (ma 17), .ref (ma 18), .ref (ma 19), .ref (ma 20), .ref (ma 21), .ref (ma 22), .ref (ma 23), .ref (ma 24), .long 0, .long 0, .long 0, .long 0, .long 0, .long 0, .long 0, .long 0, .ref (ma 33), .int n, .int 0, .int 0, .int 0, .int 0, .int 0, .int 0, .int (-1), .int 0, .ref (ma 43), .ref (ma 44), .ref (ma 45), .ref (ma 46), .ref (ma 47), .ref (ma 48), .ref (ma 49), .ref (ma 50), .ref (ma 51), .ref (ma 52), .ref (ma 53), .ref (ma 54), .int 0, .ref (ma 56), .ref (ma 57), .ref (ma 58), .ref (ma 59), .ref (ma 60), .ref (ma 61), .ref (ma 62), .int 0, .ref (ma 64), .ref (ma 65), .int 0, .ref (ma 67), .ref (ma 68), .ref (ma 69), .ref (ma 70), .ref (ma 71), .int 0, .ref (ma 73), .ref (ma 74), .ref (ma 75), .int 0, .int 0, .ref (ma 78), .ref (ma 79), .ref (ma 80), .ref (ma 81), .int 0, .int 0, .int 0, .int 0, .int 0, .int 0, .int 0, .int 0, .int 0, .int 0, .int 0, .ref (ma 93), .ref (ma 94), .ref (ma 95), .int 0, .ref (ma 97), .ref (ma 98), .ref (ma 99), .ref (ma 100), .ref (ma 101), .ref (ma 102), .ref (ma 103)]))] := hD
      refine lv_iconst (v := 1) hx hb dX12_end_19 (by decide) ?_
      exact W.zret (v := 1) hx hb hr narrow_b1 (fun t ht hW => ⟨⟨1, (), rfl, Or.inl ⟨rfl, (lf_kX12_end_2 ma n c_1 c_2)⟩, gp_end ht (hP.sub (ws' := []) [] rfl) (hD.sub (ws' := []) [] (by decide) rfl)⟩, hS.F ht⟩) hS.2.2 dX12_end_20
    · refine lv_iconst (v := 0) hx hb dX12_end_12 (by decide) ?_
      exact W.zret (v := 0) hx hb hr narrow_b0 (fun t ht hW => ⟨⟨0, (), rfl, Or.inr ⟨rfl, (lf_kX12_end_3 ma n c_1 c_2)⟩, gp_end ht (hP.sub (ws' := []) [] rfl) (hD.sub (ws' := []) [] (by decide) rfl)⟩, hS.F ht⟩) hS.2.2 dX12_end_13

theorem lf_kX12_pane_1 (ma : Nat → Nat) (ax : Int32) (ay : Int32) (bx : Int32) (b2 : Int32) (p_2 : sp_two ax ay bx b2) : sp_two ax ay bx b2 := by
  first | grind | (simp only [sp_in, sp_pl, sp_far, sp_two] at *; grind)
theorem lf_kX12_pane_2 (ma : Nat → Nat) (ax : Int32) (ay : Int32) (bx : Int32) (b2 : Int32) (p_2 : ¬ sp_two ax ay bx b2) : ¬ (sp_two ax ay bx b2) := by
  first | grind | (simp only [sp_in, sp_pl, sp_far, sp_two] at *; grind)
def v_kX12_pane : List Cond := .code yX12_pane cX12_pane 5 (some .boolean) :: ([.code yX12_areTwo cX12_areTwo 4 (some .boolean), .code yX12_isPlace cX12_isPlace 2 (some .boolean), .code yX12_isIn cX12_isIn 3 (some .boolean), .methodLink RX12 3 yX12_isIn, .static yX12_isIn, .initialized RX12, .methodLink RX12 7 yX12_isPlace, .static yX12_isPlace, .methodLink RX12 11 yX12_areTwo, .static yX12_areTwo, .fieldLink RX12 15 "GhostPaneModel" "ax" "I", .fieldLink RX12 19 "GhostPaneModel" "ay" "I", .fieldLink RX12 22 "GhostPaneModel" "bx" "I", .fieldLink RX12 25 "GhostPaneModel" "by" "I"] ++ wsX120)
set_option maxRecDepth 20000 in
theorem gg_kX12_pane_kX12_areTwo : GoodIn v_kX12_pane v_kX12_areTwo := goodIn_r (.code yX12_areTwo cX12_areTwo 4 (some .boolean) :: [.code yX12_isPlace cX12_isPlace 2 (some .boolean), .code yX12_isIn cX12_isIn 3 (some .boolean), .methodLink RX12 3 yX12_isIn, .static yX12_isIn, .initialized RX12, .methodLink RX12 7 yX12_isPlace, .static yX12_isPlace]) [1, 2, 3, 4, 5, 6, 7, 8] rfl (by decide +kernel)
set_option maxRecDepth 20000 in
theorem g_kX12_pane_kX12_areTwo_0 : GoodIn v_kX12_pane (va_wsS RX12 11 yX12_areTwo v_kX12_areTwo) := goodIn_app (goodIn_r [.methodLink RX12 11 yX12_areTwo, .static yX12_areTwo, .initialized RX12] [9, 10, 6] rfl (by decide +kernel)) gg_kX12_pane_kX12_areTwo
set_option maxHeartbeats 4000000 in
set_option maxRecDepth 100000 in
theorem kX12_pane (l : Launch) (D : va_G) (cy : Nat → ClassId) (sz : Nat) (ma : Nat → Nat) (ax : Int32) (ay : Int32) (bx : Int32) (b2 : Int32) : Met l yX12_pane v_kX12_pane ({ frames := 3, cells := 0, slots := 0, locals := 66 } : Room) (va_Pc [.ref (ma 200), .int ax, .int ay, .int bx, .int b2] (gp_B D cy sz [((ma 200), mo_0 ma)])) (va_Qi (fun (r : Int32) (u : Unit) => (r = 1 ∧ (sp_two ax ay bx b2)) ∨ (r = 0 ∧ ¬ (sp_two ax ay bx b2))) (fun u => gp_E D (va_A [((ma 200), mo_0 ma)] sz) []) (va_A [((ma 200), mo_0 ma)] sz)) 0 0 (va_A [((ma 200), mo_0 ma)] sz) := by
  refine gp_met (Qc := fun A => va_Qi (fun (r : Int32) (u : Unit) => (r = 1 ∧ (sp_two ax ay bx b2)) ∨ (r = 0 ∧ ¬ (sp_two ax ay bx b2))) (fun u => gp_E D A []) A) (cc := cX12_pane) (maxL := 5) (ret := (some .boolean)) (by decide) rfl (Nat.le_of_ble_eq_true rfl) ?_
  intro p e s m below meth c A ls H hx hb hml hr hlocks hts hown hin hK hN hS hP hD hA hl
  have hown : s.vm.findClass RX12 = some m.cls := hown
  have hl : lv_has ls 5 [(0, .ref (ma 200)), (1, .int ax), (2, .int ay), (3, .int bx), (4, .int b2)] := hl
  have hiX12 : ∀ w ∈ u_ws RX12 TX12 104, w ∈ v_kX12_pane := fun _ h => List.mem_cons_of_mem _ (List.mem_append_right _ h)
  refine lv_iload_n hx hb dX12_pane_0 rfl (lv_at hl 1 rfl) ?_
  refine lv_iload_n hx hb dX12_pane_1 rfl (lv_at hl 2 rfl) ?_
  refine lv_iload_n hx hb dX12_pane_2 rfl (lv_at hl 3 rfl) ?_
  refine lv_iload hx hb dX12_pane_3 (lv_at hl 4 rfl) ?_
  have hPc := hP.sub (ws' := []) [] rfl
  have hDc := hD.sub (ws' := []) [] (by decide) rfl
  have hFc := va_free (wc := []) hD hS hA [] rfl
  refine va_calli (va_runS (As := [.int ax, .int ay, .int bx, .int b2]) (rest := []) ⟨hx, hb, hml, hown, hts⟩ (kX12_areTwo l D cy H.size ax ay bx b2) (va_cwS 4 hts g_kX12_pane_kX12_areTwo_0 rfl rfl rfl (by decide +kernel) ⟨Nat.le_of_ble_eq_true rfl, Nat.le_of_ble_eq_true rfl⟩) (gp_preS hPc hDc hK hN) rfl rfl hl.1 rfl (lv_room (Nat.le_of_ble_eq_true rfl)) dX12_pane_5 ⟨Nat.le_of_ble_eq_true rfl, Nat.le_of_ble_eq_true rfl⟩) hS (fun q _ h => hFc q h) hFc (fun r_1 u t H locs ht hvm hw hB hz1 hk1 hS => ?_)
  obtain ⟨hP, hD⟩ := gp_join (wr := [((ma 200), mo_0 ma)]) (w1 := []) hP hD [] [0] rfl rfl (by decide) (by decide) hk1 hFc ht hB
  have hP : va_P D vwCl [((ma 200), mo_0 ma)] H := hP
  have hD : va_D A [((ma 200), mo_0 ma)] := hD
  rcases hw with ⟨rfl, p_2⟩ | ⟨rfl, p_2⟩
  · refine lv_if_ne (tgt := 13) hx hb dX12_pane_8 (by decide) (fun c_3 => ?_) (fun c_3 => absurd c_3 (by decide))
    refine lv_aload_n hx hb dX12_pane_13 rfl (lv_at hl 0 rfl) ?_
    refine lv_iload_n hx hb dX12_pane_14 rfl (lv_at hl 1 rfl) ?_
    refine va_put (D := D) (ci := 12) (v := .int ax) (ty := .int) (C := RX12) (T := TX12) (N := 104) hx hb hts hiX12 tyX12 tyX12_ok nmX12 hown hK hP hD hS 0 rfl rfl 0 (by decide) (hts (.fieldLink RX12 15 "GhostPaneModel" "ax" "I") (List.mem_of_getElem? (i := 11) rfl)) (fun _ h9 => h9) rfl (by decide +kernel) rfl rfl (Nat.le_of_ble_eq_true rfl) dX12_pane_15 (fun H locs hP hD hS => ?_)
    have hP : va_P D vwCl [((ma 200), .inr (12, [.int ax, .int 0, .int 50, .int 80, .int (-60), .int (-40), .int 60, .int (-40), .int 0, .int 4, .int 0, .ref (ma 11), .ref (ma 12), .ref (ma 13), .ref (ma 14), .ref (ma 15), .ref (ma 16), .ref (ma 17), .ref (ma 18), .ref (ma 19), .ref (ma 20), .ref (ma 21), .ref (ma 22), .ref (ma 23), .ref (ma 24), .long 0, .long 0, .long 0, .long 0, .long 0, .long 0, .long 0, .long 0, .ref (ma 33), .int 0, .int 0, .int 0, .int 0, .int 0, .int 0, .int 0, .int (-1), .int 0, .ref (ma 43), .ref (ma 44), .ref (ma 45), .ref (ma 46), .ref (ma 47), .ref (ma 48), .ref (ma 49), .ref (ma 50), .ref (ma 51), .ref (ma 52), .ref (ma 53), .ref (ma 54), .int 0, .ref (ma 56), .ref (ma 57), .ref (ma 58), .ref (ma 59), .ref (ma 60), .ref (ma 61), .ref (ma 62), .int 0, .ref (ma 64), .ref (ma 65), .int 0, .ref (ma 67), .ref (ma 68), .ref (ma 69), .ref (ma 70), .ref (ma 71), .int 0, .ref (ma 73), .ref (ma 74), .ref (ma 75), .int 0, .int 0, .ref (ma 78), .ref (ma 79), .ref (ma 80), .ref (ma 81), .int 0, .int 0, .int 0, .int 0, .int 0, .int 0, .int 0, .int 0, .int 0, .int 0, .int 0, .ref (ma 93), .ref (ma 94), .ref (ma 95), .int 0, .ref (ma 97), .ref (ma 98), .ref (ma 99), .ref (ma 100), .ref (ma 101), .ref (ma 102), .ref (ma 103)]))] H := hP
    have hD : va_D A [((ma 200), .inr (12, [.int ax, .int 0, .int 50, .int 80, .int (-60), .int (-40), .int 60, .int (-40), .int 0, .int 4, .int 0, .ref (ma 11), .ref (ma 12), .ref (ma 13), .ref (ma 14), .ref (ma 15), .ref (ma 16), .ref (ma 17), .ref (ma 18), .ref (ma 19), .ref (ma 20), .ref (ma 21), .ref (ma 22), .ref (ma 23), .ref (ma 24), .long 0, .long 0, .long 0, .long 0, .long 0, .long 0, .long 0, .long 0, .ref (ma 33), .int 0, .int 0, .int 0, .int 0, .int 0, .int 0, .int 0, .int (-1), .int 0, .ref (ma 43), .ref (ma 44), .ref (ma 45), .ref (ma 46), .ref (ma 47), .ref (ma 48), .ref (ma 49), .ref (ma 50), .ref (ma 51), .ref (ma 52), .ref (ma 53), .ref (ma 54), .int 0, .ref (ma 56), .ref (ma 57), .ref (ma 58), .ref (ma 59), .ref (ma 60), .ref (ma 61), .ref (ma 62), .int 0, .ref (ma 64), .ref (ma 65), .int 0, .ref (ma 67), .ref (ma 68), .ref (ma 69), .ref (ma 70), .ref (ma 71), .int 0, .ref (ma 73), .ref (ma 74), .ref (ma 75), .int 0, .int 0, .ref (ma 78), .ref (ma 79), .ref (ma 80), .ref (ma 81), .int 0, .int 0, .int 0, .int 0, .int 0, .int 0, .int 0, .int 0, .int 0, .int 0, .int 0, .ref (ma 93), .ref (ma 94), .ref (ma 95), .int 0, .ref (ma 97), .ref (ma 98), .ref (ma 99), .ref (ma 100), .ref (ma 101), .ref (ma 102), .ref (ma 103)]))] := hD
    refine lv_aload_n hx hb dX12_pane_18 rfl (lv_at hl 0 rfl) ?_
    refine lv_iload_n hx hb dX12_pane_19 rfl (lv_at hl 2 rfl) ?_
    refine va_put (D := D) (ci := 12) (v := .int ay) (ty := .int) (C := RX12) (T := TX12) (N := 104) hx hb hts hiX12 tyX12 tyX12_ok nmX12 hown hK hP hD hS 0 rfl rfl 1 (by decide) (hts (.fieldLink RX12 19 "GhostPaneModel" "ay" "I") (List.mem_of_getElem? (i := 12) rfl)) (fun _ h9 => h9) rfl (by decide +kernel) rfl rfl (Nat.le_of_ble_eq_true rfl) dX12_pane_20 (fun H locs hP hD hS => ?_)
    have hP : va_P D vwCl [((ma 200), .inr (12, [.int ax, .int ay, .int 50, .int 80, .int (-60), .int (-40), .int 60, .int (-40), .int 0, .int 4, .int 0, .ref (ma 11), .ref (ma 12), .ref (ma 13), .ref (ma 14), .ref (ma 15), .ref (ma 16), .ref (ma 17), .ref (ma 18), .ref (ma 19), .ref (ma 20), .ref (ma 21), .ref (ma 22), .ref (ma 23), .ref (ma 24), .long 0, .long 0, .long 0, .long 0, .long 0, .long 0, .long 0, .long 0, .ref (ma 33), .int 0, .int 0, .int 0, .int 0, .int 0, .int 0, .int 0, .int (-1), .int 0, .ref (ma 43), .ref (ma 44), .ref (ma 45), .ref (ma 46), .ref (ma 47), .ref (ma 48), .ref (ma 49), .ref (ma 50), .ref (ma 51), .ref (ma 52), .ref (ma 53), .ref (ma 54), .int 0, .ref (ma 56), .ref (ma 57), .ref (ma 58), .ref (ma 59), .ref (ma 60), .ref (ma 61), .ref (ma 62), .int 0, .ref (ma 64), .ref (ma 65), .int 0, .ref (ma 67), .ref (ma 68), .ref (ma 69), .ref (ma 70), .ref (ma 71), .int 0, .ref (ma 73), .ref (ma 74), .ref (ma 75), .int 0, .int 0, .ref (ma 78), .ref (ma 79), .ref (ma 80), .ref (ma 81), .int 0, .int 0, .int 0, .int 0, .int 0, .int 0, .int 0, .int 0, .int 0, .int 0, .int 0, .ref (ma 93), .ref (ma 94), .ref (ma 95), .int 0, .ref (ma 97), .ref (ma 98), .ref (ma 99), .ref (ma 100), .ref (ma 101), .ref (ma 102), .ref (ma 103)]))] H := hP
    have hD : va_D A [((ma 200), .inr (12, [.int ax, .int ay, .int 50, .int 80, .int (-60), .int (-40), .int 60, .int (-40), .int 0, .int 4, .int 0, .ref (ma 11), .ref (ma 12), .ref (ma 13), .ref (ma 14), .ref (ma 15), .ref (ma 16), .ref (ma 17), .ref (ma 18), .ref (ma 19), .ref (ma 20), .ref (ma 21), .ref (ma 22), .ref (ma 23), .ref (ma 24), .long 0, .long 0, .long 0, .long 0, .long 0, .long 0, .long 0, .long 0, .ref (ma 33), .int 0, .int 0, .int 0, .int 0, .int 0, .int 0, .int 0, .int (-1), .int 0, .ref (ma 43), .ref (ma 44), .ref (ma 45), .ref (ma 46), .ref (ma 47), .ref (ma 48), .ref (ma 49), .ref (ma 50), .ref (ma 51), .ref (ma 52), .ref (ma 53), .ref (ma 54), .int 0, .ref (ma 56), .ref (ma 57), .ref (ma 58), .ref (ma 59), .ref (ma 60), .ref (ma 61), .ref (ma 62), .int 0, .ref (ma 64), .ref (ma 65), .int 0, .ref (ma 67), .ref (ma 68), .ref (ma 69), .ref (ma 70), .ref (ma 71), .int 0, .ref (ma 73), .ref (ma 74), .ref (ma 75), .int 0, .int 0, .ref (ma 78), .ref (ma 79), .ref (ma 80), .ref (ma 81), .int 0, .int 0, .int 0, .int 0, .int 0, .int 0, .int 0, .int 0, .int 0, .int 0, .int 0, .ref (ma 93), .ref (ma 94), .ref (ma 95), .int 0, .ref (ma 97), .ref (ma 98), .ref (ma 99), .ref (ma 100), .ref (ma 101), .ref (ma 102), .ref (ma 103)]))] := hD
    refine lv_aload_n hx hb dX12_pane_23 rfl (lv_at hl 0 rfl) ?_
    refine lv_iload_n hx hb dX12_pane_24 rfl (lv_at hl 3 rfl) ?_
    refine va_put (D := D) (ci := 12) (v := .int bx) (ty := .int) (C := RX12) (T := TX12) (N := 104) hx hb hts hiX12 tyX12 tyX12_ok nmX12 hown hK hP hD hS 0 rfl rfl 2 (by decide) (hts (.fieldLink RX12 22 "GhostPaneModel" "bx" "I") (List.mem_of_getElem? (i := 13) rfl)) (fun _ h9 => h9) rfl (by decide +kernel) rfl rfl (Nat.le_of_ble_eq_true rfl) dX12_pane_25 (fun H locs hP hD hS => ?_)
    have hP : va_P D vwCl [((ma 200), .inr (12, [.int ax, .int ay, .int bx, .int 80, .int (-60), .int (-40), .int 60, .int (-40), .int 0, .int 4, .int 0, .ref (ma 11), .ref (ma 12), .ref (ma 13), .ref (ma 14), .ref (ma 15), .ref (ma 16), .ref (ma 17), .ref (ma 18), .ref (ma 19), .ref (ma 20), .ref (ma 21), .ref (ma 22), .ref (ma 23), .ref (ma 24), .long 0, .long 0, .long 0, .long 0, .long 0, .long 0, .long 0, .long 0, .ref (ma 33), .int 0, .int 0, .int 0, .int 0, .int 0, .int 0, .int 0, .int (-1), .int 0, .ref (ma 43), .ref (ma 44), .ref (ma 45), .ref (ma 46), .ref (ma 47), .ref (ma 48), .ref (ma 49), .ref (ma 50), .ref (ma 51), .ref (ma 52), .ref (ma 53), .ref (ma 54), .int 0, .ref (ma 56), .ref (ma 57), .ref (ma 58), .ref (ma 59), .ref (ma 60), .ref (ma 61), .ref (ma 62), .int 0, .ref (ma 64), .ref (ma 65), .int 0, .ref (ma 67), .ref (ma 68), .ref (ma 69), .ref (ma 70), .ref (ma 71), .int 0, .ref (ma 73), .ref (ma 74), .ref (ma 75), .int 0, .int 0, .ref (ma 78), .ref (ma 79), .ref (ma 80), .ref (ma 81), .int 0, .int 0, .int 0, .int 0, .int 0, .int 0, .int 0, .int 0, .int 0, .int 0, .int 0, .ref (ma 93), .ref (ma 94), .ref (ma 95), .int 0, .ref (ma 97), .ref (ma 98), .ref (ma 99), .ref (ma 100), .ref (ma 101), .ref (ma 102), .ref (ma 103)]))] H := hP
    have hD : va_D A [((ma 200), .inr (12, [.int ax, .int ay, .int bx, .int 80, .int (-60), .int (-40), .int 60, .int (-40), .int 0, .int 4, .int 0, .ref (ma 11), .ref (ma 12), .ref (ma 13), .ref (ma 14), .ref (ma 15), .ref (ma 16), .ref (ma 17), .ref (ma 18), .ref (ma 19), .ref (ma 20), .ref (ma 21), .ref (ma 22), .ref (ma 23), .ref (ma 24), .long 0, .long 0, .long 0, .long 0, .long 0, .long 0, .long 0, .long 0, .ref (ma 33), .int 0, .int 0, .int 0, .int 0, .int 0, .int 0, .int 0, .int (-1), .int 0, .ref (ma 43), .ref (ma 44), .ref (ma 45), .ref (ma 46), .ref (ma 47), .ref (ma 48), .ref (ma 49), .ref (ma 50), .ref (ma 51), .ref (ma 52), .ref (ma 53), .ref (ma 54), .int 0, .ref (ma 56), .ref (ma 57), .ref (ma 58), .ref (ma 59), .ref (ma 60), .ref (ma 61), .ref (ma 62), .int 0, .ref (ma 64), .ref (ma 65), .int 0, .ref (ma 67), .ref (ma 68), .ref (ma 69), .ref (ma 70), .ref (ma 71), .int 0, .ref (ma 73), .ref (ma 74), .ref (ma 75), .int 0, .int 0, .ref (ma 78), .ref (ma 79), .ref (ma 80), .ref (ma 81), .int 0, .int 0, .int 0, .int 0, .int 0, .int 0, .int 0, .int 0, .int 0, .int 0, .int 0, .ref (ma 93), .ref (ma 94), .ref (ma 95), .int 0, .ref (ma 97), .ref (ma 98), .ref (ma 99), .ref (ma 100), .ref (ma 101), .ref (ma 102), .ref (ma 103)]))] := hD
    refine lv_aload_n hx hb dX12_pane_28 rfl (lv_at hl 0 rfl) ?_
    refine lv_iload hx hb dX12_pane_29 (lv_at hl 4 rfl) ?_
    refine va_put (D := D) (ci := 12) (v := .int b2) (ty := .int) (C := RX12) (T := TX12) (N := 104) hx hb hts hiX12 tyX12 tyX12_ok nmX12 hown hK hP hD hS 0 rfl rfl 3 (by decide) (hts (.fieldLink RX12 25 "GhostPaneModel" "by" "I") (List.mem_of_getElem? (i := 14) rfl)) (fun _ h9 => h9) rfl (by decide +kernel) rfl rfl (Nat.le_of_ble_eq_true rfl) dX12_pane_31 (fun H locs hP hD hS => ?_)
    have hP : va_P D vwCl [((ma 200), .inr (12, [.int ax, .int ay, .int bx, .int b2, .int (-60), .int (-40), .int 60, .int (-40), .int 0, .int 4, .int 0, .ref (ma 11), .ref (ma 12), .ref (ma 13), .ref (ma 14), .ref (ma 15), .ref (ma 16), .ref (ma 17), .ref (ma 18), .ref (ma 19), .ref (ma 20), .ref (ma 21), .ref (ma 22), .ref (ma 23), .ref (ma 24), .long 0, .long 0, .long 0, .long 0, .long 0, .long 0, .long 0, .long 0, .ref (ma 33), .int 0, .int 0, .int 0, .int 0, .int 0, .int 0, .int 0, .int (-1), .int 0, .ref (ma 43), .ref (ma 44), .ref (ma 45), .ref (ma 46), .ref (ma 47), .ref (ma 48), .ref (ma 49), .ref (ma 50), .ref (ma 51), .ref (ma 52), .ref (ma 53), .ref (ma 54), .int 0, .ref (ma 56), .ref (ma 57), .ref (ma 58), .ref (ma 59), .ref (ma 60), .ref (ma 61), .ref (ma 62), .int 0, .ref (ma 64), .ref (ma 65), .int 0, .ref (ma 67), .ref (ma 68), .ref (ma 69), .ref (ma 70), .ref (ma 71), .int 0, .ref (ma 73), .ref (ma 74), .ref (ma 75), .int 0, .int 0, .ref (ma 78), .ref (ma 79), .ref (ma 80), .ref (ma 81), .int 0, .int 0, .int 0, .int 0, .int 0, .int 0, .int 0, .int 0, .int 0, .int 0, .int 0, .ref (ma 93), .ref (ma 94), .ref (ma 95), .int 0, .ref (ma 97), .ref (ma 98), .ref (ma 99), .ref (ma 100), .ref (ma 101), .ref (ma 102), .ref (ma 103)]))] H := hP
    have hD : va_D A [((ma 200), .inr (12, [.int ax, .int ay, .int bx, .int b2, .int (-60), .int (-40), .int 60, .int (-40), .int 0, .int 4, .int 0, .ref (ma 11), .ref (ma 12), .ref (ma 13), .ref (ma 14), .ref (ma 15), .ref (ma 16), .ref (ma 17), .ref (ma 18), .ref (ma 19), .ref (ma 20), .ref (ma 21), .ref (ma 22), .ref (ma 23), .ref (ma 24), .long 0, .long 0, .long 0, .long 0, .long 0, .long 0, .long 0, .long 0, .ref (ma 33), .int 0, .int 0, .int 0, .int 0, .int 0, .int 0, .int 0, .int (-1), .int 0, .ref (ma 43), .ref (ma 44), .ref (ma 45), .ref (ma 46), .ref (ma 47), .ref (ma 48), .ref (ma 49), .ref (ma 50), .ref (ma 51), .ref (ma 52), .ref (ma 53), .ref (ma 54), .int 0, .ref (ma 56), .ref (ma 57), .ref (ma 58), .ref (ma 59), .ref (ma 60), .ref (ma 61), .ref (ma 62), .int 0, .ref (ma 64), .ref (ma 65), .int 0, .ref (ma 67), .ref (ma 68), .ref (ma 69), .ref (ma 70), .ref (ma 71), .int 0, .ref (ma 73), .ref (ma 74), .ref (ma 75), .int 0, .int 0, .ref (ma 78), .ref (ma 79), .ref (ma 80), .ref (ma 81), .int 0, .int 0, .int 0, .int 0, .int 0, .int 0, .int 0, .int 0, .int 0, .int 0, .int 0, .ref (ma 93), .ref (ma 94), .ref (ma 95), .int 0, .ref (ma 97), .ref (ma 98), .ref (ma 99), .ref (ma 100), .ref (ma 101), .ref (ma 102), .ref (ma 103)]))] := hD
    refine lv_iconst (v := 1) hx hb dX12_pane_34 (by decide) ?_
    exact W.zret (v := 1) hx hb hr narrow_b1 (fun t ht hW => ⟨⟨1, (), rfl, Or.inl ⟨rfl, (lf_kX12_pane_1 ma ax ay bx b2 p_2)⟩, gp_end ht (hP.sub (ws' := []) [] rfl) (hD.sub (ws' := []) [] (by decide) rfl)⟩, hS.F ht⟩) hS.2.2 dX12_pane_35
  · refine lv_if_ne (tgt := 13) hx hb dX12_pane_8 (by decide) (fun c_4 => absurd (by decide) c_4) (fun c_4 => ?_)
    refine lv_iconst (v := 0) hx hb dX12_pane_11 (by decide) ?_
    exact W.zret (v := 0) hx hb hr narrow_b0 (fun t ht hW => ⟨⟨0, (), rfl, Or.inr ⟨rfl, (lf_kX12_pane_2 ma ax ay bx b2 p_2)⟩, gp_end ht (hP.sub (ws' := []) [] rfl) (hD.sub (ws' := []) [] (by decide) rfl)⟩, hS.F ht⟩) hS.2.2 dX12_pane_12

theorem lf_kX12_board_1 (ma : Nat → Nat) (ax : Int32) (ay : Int32) (bx : Int32) (b2 : Int32) (p_2 : sp_two ax ay bx b2) : sp_two ax ay bx b2 := by
  first | grind | (simp only [sp_in, sp_pl, sp_far, sp_two] at *; grind)
theorem lf_kX12_board_2 (ma : Nat → Nat) (ax : Int32) (ay : Int32) (bx : Int32) (b2 : Int32) (p_2 : ¬ sp_two ax ay bx b2) : ¬ (sp_two ax ay bx b2) := by
  first | grind | (simp only [sp_in, sp_pl, sp_far, sp_two] at *; grind)
def v_kX12_board : List Cond := .code yX12_board cX12_board 5 (some .boolean) :: ([.code yX12_areTwo cX12_areTwo 4 (some .boolean), .code yX12_isPlace cX12_isPlace 2 (some .boolean), .code yX12_isIn cX12_isIn 3 (some .boolean), .methodLink RX12 3 yX12_isIn, .static yX12_isIn, .initialized RX12, .methodLink RX12 7 yX12_isPlace, .static yX12_isPlace, .methodLink RX12 11 yX12_areTwo, .static yX12_areTwo, .fieldLink RX12 28 "GhostPaneModel" "cx" "I", .fieldLink RX12 31 "GhostPaneModel" "cy" "I", .fieldLink RX12 34 "GhostPaneModel" "dx" "I", .fieldLink RX12 37 "GhostPaneModel" "dy" "I"] ++ wsX120)
set_option maxRecDepth 20000 in
theorem gg_kX12_board_kX12_areTwo : GoodIn v_kX12_board v_kX12_areTwo := goodIn_r (.code yX12_areTwo cX12_areTwo 4 (some .boolean) :: [.code yX12_isPlace cX12_isPlace 2 (some .boolean), .code yX12_isIn cX12_isIn 3 (some .boolean), .methodLink RX12 3 yX12_isIn, .static yX12_isIn, .initialized RX12, .methodLink RX12 7 yX12_isPlace, .static yX12_isPlace]) [1, 2, 3, 4, 5, 6, 7, 8] rfl (by decide +kernel)
set_option maxRecDepth 20000 in
theorem g_kX12_board_kX12_areTwo_0 : GoodIn v_kX12_board (va_wsS RX12 11 yX12_areTwo v_kX12_areTwo) := goodIn_app (goodIn_r [.methodLink RX12 11 yX12_areTwo, .static yX12_areTwo, .initialized RX12] [9, 10, 6] rfl (by decide +kernel)) gg_kX12_board_kX12_areTwo
set_option maxHeartbeats 4000000 in
set_option maxRecDepth 100000 in
theorem kX12_board (l : Launch) (D : va_G) (cy : Nat → ClassId) (sz : Nat) (ma : Nat → Nat) (ax : Int32) (ay : Int32) (bx : Int32) (b2 : Int32) : Met l yX12_board v_kX12_board ({ frames := 3, cells := 0, slots := 0, locals := 66 } : Room) (va_Pc [.ref (ma 200), .int ax, .int ay, .int bx, .int b2] (gp_B D cy sz [((ma 200), mo_0 ma)])) (va_Qi (fun (r : Int32) (u : Unit) => (r = 1 ∧ (sp_two ax ay bx b2)) ∨ (r = 0 ∧ ¬ (sp_two ax ay bx b2))) (fun u => gp_E D (va_A [((ma 200), mo_0 ma)] sz) []) (va_A [((ma 200), mo_0 ma)] sz)) 0 0 (va_A [((ma 200), mo_0 ma)] sz) := by
  refine gp_met (Qc := fun A => va_Qi (fun (r : Int32) (u : Unit) => (r = 1 ∧ (sp_two ax ay bx b2)) ∨ (r = 0 ∧ ¬ (sp_two ax ay bx b2))) (fun u => gp_E D A []) A) (cc := cX12_board) (maxL := 5) (ret := (some .boolean)) (by decide) rfl (Nat.le_of_ble_eq_true rfl) ?_
  intro p e s m below meth c A ls H hx hb hml hr hlocks hts hown hin hK hN hS hP hD hA hl
  have hown : s.vm.findClass RX12 = some m.cls := hown
  have hl : lv_has ls 5 [(0, .ref (ma 200)), (1, .int ax), (2, .int ay), (3, .int bx), (4, .int b2)] := hl
  have hiX12 : ∀ w ∈ u_ws RX12 TX12 104, w ∈ v_kX12_board := fun _ h => List.mem_cons_of_mem _ (List.mem_append_right _ h)
  refine lv_iload_n hx hb dX12_board_0 rfl (lv_at hl 1 rfl) ?_
  refine lv_iload_n hx hb dX12_board_1 rfl (lv_at hl 2 rfl) ?_
  refine lv_iload_n hx hb dX12_board_2 rfl (lv_at hl 3 rfl) ?_
  refine lv_iload hx hb dX12_board_3 (lv_at hl 4 rfl) ?_
  have hPc := hP.sub (ws' := []) [] rfl
  have hDc := hD.sub (ws' := []) [] (by decide) rfl
  have hFc := va_free (wc := []) hD hS hA [] rfl
  refine va_calli (va_runS (As := [.int ax, .int ay, .int bx, .int b2]) (rest := []) ⟨hx, hb, hml, hown, hts⟩ (kX12_areTwo l D cy H.size ax ay bx b2) (va_cwS 4 hts g_kX12_board_kX12_areTwo_0 rfl rfl rfl (by decide +kernel) ⟨Nat.le_of_ble_eq_true rfl, Nat.le_of_ble_eq_true rfl⟩) (gp_preS hPc hDc hK hN) rfl rfl hl.1 rfl (lv_room (Nat.le_of_ble_eq_true rfl)) dX12_board_5 ⟨Nat.le_of_ble_eq_true rfl, Nat.le_of_ble_eq_true rfl⟩) hS (fun q _ h => hFc q h) hFc (fun r_1 u t H locs ht hvm hw hB hz1 hk1 hS => ?_)
  obtain ⟨hP, hD⟩ := gp_join (wr := [((ma 200), mo_0 ma)]) (w1 := []) hP hD [] [0] rfl rfl (by decide) (by decide) hk1 hFc ht hB
  have hP : va_P D vwCl [((ma 200), mo_0 ma)] H := hP
  have hD : va_D A [((ma 200), mo_0 ma)] := hD
  rcases hw with ⟨rfl, p_2⟩ | ⟨rfl, p_2⟩
  · refine lv_if_ne (tgt := 13) hx hb dX12_board_8 (by decide) (fun c_3 => ?_) (fun c_3 => absurd c_3 (by decide))
    refine lv_aload_n hx hb dX12_board_13 rfl (lv_at hl 0 rfl) ?_
    refine lv_iload_n hx hb dX12_board_14 rfl (lv_at hl 1 rfl) ?_
    refine va_put (D := D) (ci := 12) (v := .int ax) (ty := .int) (C := RX12) (T := TX12) (N := 104) hx hb hts hiX12 tyX12 tyX12_ok nmX12 hown hK hP hD hS 0 rfl rfl 4 (by decide) (hts (.fieldLink RX12 28 "GhostPaneModel" "cx" "I") (List.mem_of_getElem? (i := 11) rfl)) (fun _ h9 => h9) rfl (by decide +kernel) rfl rfl (Nat.le_of_ble_eq_true rfl) dX12_board_15 (fun H locs hP hD hS => ?_)
    have hP : va_P D vwCl [((ma 200), .inr (12, [.int (-50), .int 0, .int 50, .int 80, .int ax, .int (-40), .int 60, .int (-40), .int 0, .int 4, .int 0, .ref (ma 11), .ref (ma 12), .ref (ma 13), .ref (ma 14), .ref (ma 15), .ref (ma 16), .ref (ma 17), .ref (ma 18), .ref (ma 19), .ref (ma 20), .ref (ma 21), .ref (ma 22), .ref (ma 23), .ref (ma 24), .long 0, .long 0, .long 0, .long 0, .long 0, .long 0, .long 0, .long 0, .ref (ma 33), .int 0, .int 0, .int 0, .int 0, .int 0, .int 0, .int 0, .int (-1), .int 0, .ref (ma 43), .ref (ma 44), .ref (ma 45), .ref (ma 46), .ref (ma 47), .ref (ma 48), .ref (ma 49), .ref (ma 50), .ref (ma 51), .ref (ma 52), .ref (ma 53), .ref (ma 54), .int 0, .ref (ma 56), .ref (ma 57), .ref (ma 58), .ref (ma 59), .ref (ma 60), .ref (ma 61), .ref (ma 62), .int 0, .ref (ma 64), .ref (ma 65), .int 0, .ref (ma 67), .ref (ma 68), .ref (ma 69), .ref (ma 70), .ref (ma 71), .int 0, .ref (ma 73), .ref (ma 74), .ref (ma 75), .int 0, .int 0, .ref (ma 78), .ref (ma 79), .ref (ma 80), .ref (ma 81), .int 0, .int 0, .int 0, .int 0, .int 0, .int 0, .int 0, .int 0, .int 0, .int 0, .int 0, .ref (ma 93), .ref (ma 94), .ref (ma 95), .int 0, .ref (ma 97), .ref (ma 98), .ref (ma 99), .ref (ma 100), .ref (ma 101), .ref (ma 102), .ref (ma 103)]))] H := hP
    have hD : va_D A [((ma 200), .inr (12, [.int (-50), .int 0, .int 50, .int 80, .int ax, .int (-40), .int 60, .int (-40), .int 0, .int 4, .int 0, .ref (ma 11), .ref (ma 12), .ref (ma 13), .ref (ma 14), .ref (ma 15), .ref (ma 16), .ref (ma 17), .ref (ma 18), .ref (ma 19), .ref (ma 20), .ref (ma 21), .ref (ma 22), .ref (ma 23), .ref (ma 24), .long 0, .long 0, .long 0, .long 0, .long 0, .long 0, .long 0, .long 0, .ref (ma 33), .int 0, .int 0, .int 0, .int 0, .int 0, .int 0, .int 0, .int (-1), .int 0, .ref (ma 43), .ref (ma 44), .ref (ma 45), .ref (ma 46), .ref (ma 47), .ref (ma 48), .ref (ma 49), .ref (ma 50), .ref (ma 51), .ref (ma 52), .ref (ma 53), .ref (ma 54), .int 0, .ref (ma 56), .ref (ma 57), .ref (ma 58), .ref (ma 59), .ref (ma 60), .ref (ma 61), .ref (ma 62), .int 0, .ref (ma 64), .ref (ma 65), .int 0, .ref (ma 67), .ref (ma 68), .ref (ma 69), .ref (ma 70), .ref (ma 71), .int 0, .ref (ma 73), .ref (ma 74), .ref (ma 75), .int 0, .int 0, .ref (ma 78), .ref (ma 79), .ref (ma 80), .ref (ma 81), .int 0, .int 0, .int 0, .int 0, .int 0, .int 0, .int 0, .int 0, .int 0, .int 0, .int 0, .ref (ma 93), .ref (ma 94), .ref (ma 95), .int 0, .ref (ma 97), .ref (ma 98), .ref (ma 99), .ref (ma 100), .ref (ma 101), .ref (ma 102), .ref (ma 103)]))] := hD
    refine lv_aload_n hx hb dX12_board_18 rfl (lv_at hl 0 rfl) ?_
    refine lv_iload_n hx hb dX12_board_19 rfl (lv_at hl 2 rfl) ?_
    refine va_put (D := D) (ci := 12) (v := .int ay) (ty := .int) (C := RX12) (T := TX12) (N := 104) hx hb hts hiX12 tyX12 tyX12_ok nmX12 hown hK hP hD hS 0 rfl rfl 5 (by decide) (hts (.fieldLink RX12 31 "GhostPaneModel" "cy" "I") (List.mem_of_getElem? (i := 12) rfl)) (fun _ h9 => h9) rfl (by decide +kernel) rfl rfl (Nat.le_of_ble_eq_true rfl) dX12_board_20 (fun H locs hP hD hS => ?_)
    have hP : va_P D vwCl [((ma 200), .inr (12, [.int (-50), .int 0, .int 50, .int 80, .int ax, .int ay, .int 60, .int (-40), .int 0, .int 4, .int 0, .ref (ma 11), .ref (ma 12), .ref (ma 13), .ref (ma 14), .ref (ma 15), .ref (ma 16), .ref (ma 17), .ref (ma 18), .ref (ma 19), .ref (ma 20), .ref (ma 21), .ref (ma 22), .ref (ma 23), .ref (ma 24), .long 0, .long 0, .long 0, .long 0, .long 0, .long 0, .long 0, .long 0, .ref (ma 33), .int 0, .int 0, .int 0, .int 0, .int 0, .int 0, .int 0, .int (-1), .int 0, .ref (ma 43), .ref (ma 44), .ref (ma 45), .ref (ma 46), .ref (ma 47), .ref (ma 48), .ref (ma 49), .ref (ma 50), .ref (ma 51), .ref (ma 52), .ref (ma 53), .ref (ma 54), .int 0, .ref (ma 56), .ref (ma 57), .ref (ma 58), .ref (ma 59), .ref (ma 60), .ref (ma 61), .ref (ma 62), .int 0, .ref (ma 64), .ref (ma 65), .int 0, .ref (ma 67), .ref (ma 68), .ref (ma 69), .ref (ma 70), .ref (ma 71), .int 0, .ref (ma 73), .ref (ma 74), .ref (ma 75), .int 0, .int 0, .ref (ma 78), .ref (ma 79), .ref (ma 80), .ref (ma 81), .int 0, .int 0, .int 0, .int 0, .int 0, .int 0, .int 0, .int 0, .int 0, .int 0, .int 0, .ref (ma 93), .ref (ma 94), .ref (ma 95), .int 0, .ref (ma 97), .ref (ma 98), .ref (ma 99), .ref (ma 100), .ref (ma 101), .ref (ma 102), .ref (ma 103)]))] H := hP
    have hD : va_D A [((ma 200), .inr (12, [.int (-50), .int 0, .int 50, .int 80, .int ax, .int ay, .int 60, .int (-40), .int 0, .int 4, .int 0, .ref (ma 11), .ref (ma 12), .ref (ma 13), .ref (ma 14), .ref (ma 15), .ref (ma 16), .ref (ma 17), .ref (ma 18), .ref (ma 19), .ref (ma 20), .ref (ma 21), .ref (ma 22), .ref (ma 23), .ref (ma 24), .long 0, .long 0, .long 0, .long 0, .long 0, .long 0, .long 0, .long 0, .ref (ma 33), .int 0, .int 0, .int 0, .int 0, .int 0, .int 0, .int 0, .int (-1), .int 0, .ref (ma 43), .ref (ma 44), .ref (ma 45), .ref (ma 46), .ref (ma 47), .ref (ma 48), .ref (ma 49), .ref (ma 50), .ref (ma 51), .ref (ma 52), .ref (ma 53), .ref (ma 54), .int 0, .ref (ma 56), .ref (ma 57), .ref (ma 58), .ref (ma 59), .ref (ma 60), .ref (ma 61), .ref (ma 62), .int 0, .ref (ma 64), .ref (ma 65), .int 0, .ref (ma 67), .ref (ma 68), .ref (ma 69), .ref (ma 70), .ref (ma 71), .int 0, .ref (ma 73), .ref (ma 74), .ref (ma 75), .int 0, .int 0, .ref (ma 78), .ref (ma 79), .ref (ma 80), .ref (ma 81), .int 0, .int 0, .int 0, .int 0, .int 0, .int 0, .int 0, .int 0, .int 0, .int 0, .int 0, .ref (ma 93), .ref (ma 94), .ref (ma 95), .int 0, .ref (ma 97), .ref (ma 98), .ref (ma 99), .ref (ma 100), .ref (ma 101), .ref (ma 102), .ref (ma 103)]))] := hD
    refine lv_aload_n hx hb dX12_board_23 rfl (lv_at hl 0 rfl) ?_
    refine lv_iload_n hx hb dX12_board_24 rfl (lv_at hl 3 rfl) ?_
    refine va_put (D := D) (ci := 12) (v := .int bx) (ty := .int) (C := RX12) (T := TX12) (N := 104) hx hb hts hiX12 tyX12 tyX12_ok nmX12 hown hK hP hD hS 0 rfl rfl 6 (by decide) (hts (.fieldLink RX12 34 "GhostPaneModel" "dx" "I") (List.mem_of_getElem? (i := 13) rfl)) (fun _ h9 => h9) rfl (by decide +kernel) rfl rfl (Nat.le_of_ble_eq_true rfl) dX12_board_25 (fun H locs hP hD hS => ?_)
    have hP : va_P D vwCl [((ma 200), .inr (12, [.int (-50), .int 0, .int 50, .int 80, .int ax, .int ay, .int bx, .int (-40), .int 0, .int 4, .int 0, .ref (ma 11), .ref (ma 12), .ref (ma 13), .ref (ma 14), .ref (ma 15), .ref (ma 16), .ref (ma 17), .ref (ma 18), .ref (ma 19), .ref (ma 20), .ref (ma 21), .ref (ma 22), .ref (ma 23), .ref (ma 24), .long 0, .long 0, .long 0, .long 0, .long 0, .long 0, .long 0, .long 0, .ref (ma 33), .int 0, .int 0, .int 0, .int 0, .int 0, .int 0, .int 0, .int (-1), .int 0, .ref (ma 43), .ref (ma 44), .ref (ma 45), .ref (ma 46), .ref (ma 47), .ref (ma 48), .ref (ma 49), .ref (ma 50), .ref (ma 51), .ref (ma 52), .ref (ma 53), .ref (ma 54), .int 0, .ref (ma 56), .ref (ma 57), .ref (ma 58), .ref (ma 59), .ref (ma 60), .ref (ma 61), .ref (ma 62), .int 0, .ref (ma 64), .ref (ma 65), .int 0, .ref (ma 67), .ref (ma 68), .ref (ma 69), .ref (ma 70), .ref (ma 71), .int 0, .ref (ma 73), .ref (ma 74), .ref (ma 75), .int 0, .int 0, .ref (ma 78), .ref (ma 79), .ref (ma 80), .ref (ma 81), .int 0, .int 0, .int 0, .int 0, .int 0, .int 0, .int 0, .int 0, .int 0, .int 0, .int 0, .ref (ma 93), .ref (ma 94), .ref (ma 95), .int 0, .ref (ma 97), .ref (ma 98), .ref (ma 99), .ref (ma 100), .ref (ma 101), .ref (ma 102), .ref (ma 103)]))] H := hP
    have hD : va_D A [((ma 200), .inr (12, [.int (-50), .int 0, .int 50, .int 80, .int ax, .int ay, .int bx, .int (-40), .int 0, .int 4, .int 0, .ref (ma 11), .ref (ma 12), .ref (ma 13), .ref (ma 14), .ref (ma 15), .ref (ma 16), .ref (ma 17), .ref (ma 18), .ref (ma 19), .ref (ma 20), .ref (ma 21), .ref (ma 22), .ref (ma 23), .ref (ma 24), .long 0, .long 0, .long 0, .long 0, .long 0, .long 0, .long 0, .long 0, .ref (ma 33), .int 0, .int 0, .int 0, .int 0, .int 0, .int 0, .int 0, .int (-1), .int 0, .ref (ma 43), .ref (ma 44), .ref (ma 45), .ref (ma 46), .ref (ma 47), .ref (ma 48), .ref (ma 49), .ref (ma 50), .ref (ma 51), .ref (ma 52), .ref (ma 53), .ref (ma 54), .int 0, .ref (ma 56), .ref (ma 57), .ref (ma 58), .ref (ma 59), .ref (ma 60), .ref (ma 61), .ref (ma 62), .int 0, .ref (ma 64), .ref (ma 65), .int 0, .ref (ma 67), .ref (ma 68), .ref (ma 69), .ref (ma 70), .ref (ma 71), .int 0, .ref (ma 73), .ref (ma 74), .ref (ma 75), .int 0, .int 0, .ref (ma 78), .ref (ma 79), .ref (ma 80), .ref (ma 81), .int 0, .int 0, .int 0, .int 0, .int 0, .int 0, .int 0, .int 0, .int 0, .int 0, .int 0, .ref (ma 93), .ref (ma 94), .ref (ma 95), .int 0, .ref (ma 97), .ref (ma 98), .ref (ma 99), .ref (ma 100), .ref (ma 101), .ref (ma 102), .ref (ma 103)]))] := hD
    refine lv_aload_n hx hb dX12_board_28 rfl (lv_at hl 0 rfl) ?_
    refine lv_iload hx hb dX12_board_29 (lv_at hl 4 rfl) ?_
    refine va_put (D := D) (ci := 12) (v := .int b2) (ty := .int) (C := RX12) (T := TX12) (N := 104) hx hb hts hiX12 tyX12 tyX12_ok nmX12 hown hK hP hD hS 0 rfl rfl 7 (by decide) (hts (.fieldLink RX12 37 "GhostPaneModel" "dy" "I") (List.mem_of_getElem? (i := 14) rfl)) (fun _ h9 => h9) rfl (by decide +kernel) rfl rfl (Nat.le_of_ble_eq_true rfl) dX12_board_31 (fun H locs hP hD hS => ?_)
    have hP : va_P D vwCl [((ma 200), .inr (12, [.int (-50), .int 0, .int 50, .int 80, .int ax, .int ay, .int bx, .int b2, .int 0, .int 4, .int 0, .ref (ma 11), .ref (ma 12), .ref (ma 13), .ref (ma 14), .ref (ma 15), .ref (ma 16), .ref (ma 17), .ref (ma 18), .ref (ma 19), .ref (ma 20), .ref (ma 21), .ref (ma 22), .ref (ma 23), .ref (ma 24), .long 0, .long 0, .long 0, .long 0, .long 0, .long 0, .long 0, .long 0, .ref (ma 33), .int 0, .int 0, .int 0, .int 0, .int 0, .int 0, .int 0, .int (-1), .int 0, .ref (ma 43), .ref (ma 44), .ref (ma 45), .ref (ma 46), .ref (ma 47), .ref (ma 48), .ref (ma 49), .ref (ma 50), .ref (ma 51), .ref (ma 52), .ref (ma 53), .ref (ma 54), .int 0, .ref (ma 56), .ref (ma 57), .ref (ma 58), .ref (ma 59), .ref (ma 60), .ref (ma 61), .ref (ma 62), .int 0, .ref (ma 64), .ref (ma 65), .int 0, .ref (ma 67), .ref (ma 68), .ref (ma 69), .ref (ma 70), .ref (ma 71), .int 0, .ref (ma 73), .ref (ma 74), .ref (ma 75), .int 0, .int 0, .ref (ma 78), .ref (ma 79), .ref (ma 80), .ref (ma 81), .int 0, .int 0, .int 0, .int 0, .int 0, .int 0, .int 0, .int 0, .int 0, .int 0, .int 0, .ref (ma 93), .ref (ma 94), .ref (ma 95), .int 0, .ref (ma 97), .ref (ma 98), .ref (ma 99), .ref (ma 100), .ref (ma 101), .ref (ma 102), .ref (ma 103)]))] H := hP
    have hD : va_D A [((ma 200), .inr (12, [.int (-50), .int 0, .int 50, .int 80, .int ax, .int ay, .int bx, .int b2, .int 0, .int 4, .int 0, .ref (ma 11), .ref (ma 12), .ref (ma 13), .ref (ma 14), .ref (ma 15), .ref (ma 16), .ref (ma 17), .ref (ma 18), .ref (ma 19), .ref (ma 20), .ref (ma 21), .ref (ma 22), .ref (ma 23), .ref (ma 24), .long 0, .long 0, .long 0, .long 0, .long 0, .long 0, .long 0, .long 0, .ref (ma 33), .int 0, .int 0, .int 0, .int 0, .int 0, .int 0, .int 0, .int (-1), .int 0, .ref (ma 43), .ref (ma 44), .ref (ma 45), .ref (ma 46), .ref (ma 47), .ref (ma 48), .ref (ma 49), .ref (ma 50), .ref (ma 51), .ref (ma 52), .ref (ma 53), .ref (ma 54), .int 0, .ref (ma 56), .ref (ma 57), .ref (ma 58), .ref (ma 59), .ref (ma 60), .ref (ma 61), .ref (ma 62), .int 0, .ref (ma 64), .ref (ma 65), .int 0, .ref (ma 67), .ref (ma 68), .ref (ma 69), .ref (ma 70), .ref (ma 71), .int 0, .ref (ma 73), .ref (ma 74), .ref (ma 75), .int 0, .int 0, .ref (ma 78), .ref (ma 79), .ref (ma 80), .ref (ma 81), .int 0, .int 0, .int 0, .int 0, .int 0, .int 0, .int 0, .int 0, .int 0, .int 0, .int 0, .ref (ma 93), .ref (ma 94), .ref (ma 95), .int 0, .ref (ma 97), .ref (ma 98), .ref (ma 99), .ref (ma 100), .ref (ma 101), .ref (ma 102), .ref (ma 103)]))] := hD
    refine lv_iconst (v := 1) hx hb dX12_board_34 (by decide) ?_
    exact W.zret (v := 1) hx hb hr narrow_b1 (fun t ht hW => ⟨⟨1, (), rfl, Or.inl ⟨rfl, (lf_kX12_board_1 ma ax ay bx b2 p_2)⟩, gp_end ht (hP.sub (ws' := []) [] rfl) (hD.sub (ws' := []) [] (by decide) rfl)⟩, hS.F ht⟩) hS.2.2 dX12_board_35
  · refine lv_if_ne (tgt := 13) hx hb dX12_board_8 (by decide) (fun c_4 => absurd (by decide) c_4) (fun c_4 => ?_)
    refine lv_iconst (v := 0) hx hb dX12_board_11 (by decide) ?_
    exact W.zret (v := 0) hx hb hr narrow_b0 (fun t ht hW => ⟨⟨0, (), rfl, Or.inr ⟨rfl, (lf_kX12_board_2 ma ax ay bx b2 p_2)⟩, gp_end ht (hP.sub (ws' := []) [] rfl) (hD.sub (ws' := []) [] (by decide) rfl)⟩, hS.F ht⟩) hS.2.2 dX12_board_12

theorem lf_kX12_heights_1 (ma : Nat → Nat) (f : Int32) (h : Int32) (d : Int32) (p_2 : sp_in f (-100) 100) (p_5 : sp_in h 0 50) (p_8 : sp_in d 0 60) : sp_in f (-100) 100 ∧ sp_in h 0 50 ∧ sp_in d 0 60 := by
  first | grind | (simp only [sp_in, sp_pl, sp_far, sp_two] at *; grind)
theorem lf_kX12_heights_2 (ma : Nat → Nat) (f : Int32) (h : Int32) (d : Int32) (p_2 : sp_in f (-100) 100) (p_5 : sp_in h 0 50) (p_8 : ¬ sp_in d 0 60) : ¬ (sp_in f (-100) 100 ∧ sp_in h 0 50 ∧ sp_in d 0 60) := by
  first | grind | (simp only [sp_in, sp_pl, sp_far, sp_two] at *; grind)
theorem lf_kX12_heights_3 (ma : Nat → Nat) (f : Int32) (h : Int32) (d : Int32) (p_2 : sp_in f (-100) 100) (p_5 : ¬ sp_in h 0 50) : ¬ (sp_in f (-100) 100 ∧ sp_in h 0 50 ∧ sp_in d 0 60) := by
  first | grind | (simp only [sp_in, sp_pl, sp_far, sp_two] at *; grind)
theorem lf_kX12_heights_4 (ma : Nat → Nat) (f : Int32) (h : Int32) (d : Int32) (p_2 : ¬ sp_in f (-100) 100) : ¬ (sp_in f (-100) 100 ∧ sp_in h 0 50 ∧ sp_in d 0 60) := by
  first | grind | (simp only [sp_in, sp_pl, sp_far, sp_two] at *; grind)
def v_kX12_heights : List Cond := .code yX12_heights cX12_heights 4 (some .boolean) :: ([.code yX12_isIn cX12_isIn 3 (some .boolean), .methodLink RX12 3 yX12_isIn, .static yX12_isIn, .initialized RX12, .fieldLink RX12 40 "GhostPaneModel" "floor" "I", .fieldLink RX12 43 "GhostPaneModel" "hand" "I", .fieldLink RX12 46 "GhostPaneModel" "deep" "I"] ++ wsX120)
set_option maxRecDepth 20000 in
theorem gg_kX12_heights_kX12_isIn : GoodIn v_kX12_heights v_kX12_isIn := goodIn_r (.code yX12_isIn cX12_isIn 3 (some .boolean) :: []) [1] rfl (by decide +kernel)
set_option maxRecDepth 20000 in
theorem g_kX12_heights_kX12_isIn_0 : GoodIn v_kX12_heights (va_wsS RX12 3 yX12_isIn v_kX12_isIn) := goodIn_app (goodIn_r [.methodLink RX12 3 yX12_isIn, .static yX12_isIn, .initialized RX12] [2, 3, 4] rfl (by decide +kernel)) gg_kX12_heights_kX12_isIn
set_option maxHeartbeats 4000000 in
set_option maxRecDepth 100000 in
theorem kX12_heights (l : Launch) (D : va_G) (cy : Nat → ClassId) (sz : Nat) (ma : Nat → Nat) (f : Int32) (h : Int32) (d : Int32) : Met l yX12_heights v_kX12_heights ({ frames := 1, cells := 0, slots := 0, locals := 22 } : Room) (va_Pc [.ref (ma 200), .int f, .int h, .int d] (gp_B D cy sz [((ma 200), mo_0 ma)])) (va_Qi (fun (r : Int32) (u : Unit) => (r = 1 ∧ (sp_in f (-100) 100 ∧ sp_in h 0 50 ∧ sp_in d 0 60)) ∨ (r = 0 ∧ ¬ (sp_in f (-100) 100 ∧ sp_in h 0 50 ∧ sp_in d 0 60))) (fun u => gp_E D (va_A [((ma 200), mo_0 ma)] sz) []) (va_A [((ma 200), mo_0 ma)] sz)) 0 0 (va_A [((ma 200), mo_0 ma)] sz) := by
  refine gp_met (Qc := fun A => va_Qi (fun (r : Int32) (u : Unit) => (r = 1 ∧ (sp_in f (-100) 100 ∧ sp_in h 0 50 ∧ sp_in d 0 60)) ∨ (r = 0 ∧ ¬ (sp_in f (-100) 100 ∧ sp_in h 0 50 ∧ sp_in d 0 60))) (fun u => gp_E D A []) A) (cc := cX12_heights) (maxL := 4) (ret := (some .boolean)) (by decide) rfl (Nat.le_of_ble_eq_true rfl) ?_
  intro p e s m below meth c A ls H hx hb hml hr hlocks hts hown hin hK hN hS hP hD hA hl
  have hown : s.vm.findClass RX12 = some m.cls := hown
  have hl : lv_has ls 4 [(0, .ref (ma 200)), (1, .int f), (2, .int h), (3, .int d)] := hl
  have hiX12 : ∀ w ∈ u_ws RX12 TX12 104, w ∈ v_kX12_heights := fun _ h => List.mem_cons_of_mem _ (List.mem_append_right _ h)
  refine lv_iload_n hx hb dX12_heights_0 rfl (lv_at hl 1 rfl) ?_
  refine lv_bipush (v := (-100)) hx hb dX12_heights_1 (by decide) ?_
  refine lv_bipush (v := 100) hx hb dX12_heights_3 (by decide) ?_
  have hPc := hP.sub (ws' := []) [] rfl
  have hDc := hD.sub (ws' := []) [] (by decide) rfl
  have hFc := va_free (wc := []) hD hS hA [] rfl
  refine va_calli (va_runS (As := [.int f, .int (-100), .int 100]) (rest := []) ⟨hx, hb, hml, hown, hts⟩ (kX12_isIn l D cy H.size f (-100) 100) (va_cwS 3 hts g_kX12_heights_kX12_isIn_0 rfl rfl rfl (by decide +kernel) ⟨Nat.le_of_ble_eq_true rfl, Nat.le_of_ble_eq_true rfl⟩) (gp_preS hPc hDc hK hN) rfl rfl hl.1 rfl (lv_room (Nat.le_of_ble_eq_true rfl)) dX12_heights_5 ⟨Nat.le_of_ble_eq_true rfl, Nat.le_of_ble_eq_true rfl⟩) hS (fun q _ h => hFc q h) hFc (fun r_1 u t H locs ht hvm hw hB hz1 hk1 hS => ?_)
  obtain ⟨hP, hD⟩ := gp_join (wr := [((ma 200), mo_0 ma)]) (w1 := []) hP hD [] [0] rfl rfl (by decide) (by decide) hk1 hFc ht hB
  have hP : va_P D vwCl [((ma 200), mo_0 ma)] H := hP
  have hD : va_D A [((ma 200), mo_0 ma)] := hD
  rcases hw with ⟨rfl, p_2⟩ | ⟨rfl, p_2⟩
  · refine lv_if_eq (tgt := 31) hx hb dX12_heights_8 (by decide) (fun c_3 => absurd c_3 (by decide)) (fun c_3 => ?_)
    refine lv_iload_n hx hb dX12_heights_11 rfl (lv_at hl 2 rfl) ?_
    refine lv_iconst (v := 0) hx hb dX12_heights_12 (by decide) ?_
    refine lv_bipush (v := 50) hx hb dX12_heights_13 (by decide) ?_
    have hPc := hP.sub (ws' := []) [] rfl
    have hDc := hD.sub (ws' := []) [] (by decide) rfl
    have hFc := va_free (wc := []) hD hS hA [] rfl
    refine va_calli (va_runS (As := [.int h, .int 0, .int 50]) (rest := []) ⟨hx, hb, hml, hown, hts⟩ (kX12_isIn l D cy H.size h 0 50) (va_cwS 3 hts g_kX12_heights_kX12_isIn_0 rfl rfl rfl (by decide +kernel) ⟨Nat.le_of_ble_eq_true rfl, Nat.le_of_ble_eq_true rfl⟩) (gp_preS hPc hDc hK hN) rfl rfl hl.1 rfl (lv_room (Nat.le_of_ble_eq_true rfl)) dX12_heights_15 ⟨Nat.le_of_ble_eq_true rfl, Nat.le_of_ble_eq_true rfl⟩) hS (fun q _ h => hFc q h) hFc (fun r_4 u t H locs ht hvm hw hB hz1 hk1 hS => ?_)
    obtain ⟨hP, hD⟩ := gp_join (wr := [((ma 200), mo_0 ma)]) (w1 := []) hP hD [] [0] rfl rfl (by decide) (by decide) hk1 hFc ht hB
    have hP : va_P D vwCl [((ma 200), mo_0 ma)] H := hP
    have hD : va_D A [((ma 200), mo_0 ma)] := hD
    rcases hw with ⟨rfl, p_5⟩ | ⟨rfl, p_5⟩
    · refine lv_if_eq (tgt := 31) hx hb dX12_heights_18 (by decide) (fun c_6 => absurd c_6 (by decide)) (fun c_6 => ?_)
      refine lv_iload_n hx hb dX12_heights_21 rfl (lv_at hl 3 rfl) ?_
      refine lv_iconst (v := 0) hx hb dX12_heights_22 (by decide) ?_
      refine lv_bipush (v := 60) hx hb dX12_heights_23 (by decide) ?_
      have hPc := hP.sub (ws' := []) [] rfl
      have hDc := hD.sub (ws' := []) [] (by decide) rfl
      have hFc := va_free (wc := []) hD hS hA [] rfl
      refine va_calli (va_runS (As := [.int d, .int 0, .int 60]) (rest := []) ⟨hx, hb, hml, hown, hts⟩ (kX12_isIn l D cy H.size d 0 60) (va_cwS 3 hts g_kX12_heights_kX12_isIn_0 rfl rfl rfl (by decide +kernel) ⟨Nat.le_of_ble_eq_true rfl, Nat.le_of_ble_eq_true rfl⟩) (gp_preS hPc hDc hK hN) rfl rfl hl.1 rfl (lv_room (Nat.le_of_ble_eq_true rfl)) dX12_heights_25 ⟨Nat.le_of_ble_eq_true rfl, Nat.le_of_ble_eq_true rfl⟩) hS (fun q _ h => hFc q h) hFc (fun r_7 u t H locs ht hvm hw hB hz1 hk1 hS => ?_)
      obtain ⟨hP, hD⟩ := gp_join (wr := [((ma 200), mo_0 ma)]) (w1 := []) hP hD [] [0] rfl rfl (by decide) (by decide) hk1 hFc ht hB
      have hP : va_P D vwCl [((ma 200), mo_0 ma)] H := hP
      have hD : va_D A [((ma 200), mo_0 ma)] := hD
      rcases hw with ⟨rfl, p_8⟩ | ⟨rfl, p_8⟩
      · refine lv_if_ne (tgt := 33) hx hb dX12_heights_28 (by decide) (fun c_9 => ?_) (fun c_9 => absurd c_9 (by decide))
        refine lv_aload_n hx hb dX12_heights_33 rfl (lv_at hl 0 rfl) ?_
        refine lv_iload_n hx hb dX12_heights_34 rfl (lv_at hl 1 rfl) ?_
        refine va_put (D := D) (ci := 12) (v := .int f) (ty := .int) (C := RX12) (T := TX12) (N := 104) hx hb hts hiX12 tyX12 tyX12_ok nmX12 hown hK hP hD hS 0 rfl rfl 8 (by decide) (hts (.fieldLink RX12 40 "GhostPaneModel" "floor" "I") (List.mem_of_getElem? (i := 5) rfl)) (fun _ h9 => h9) rfl (by decide +kernel) rfl rfl (Nat.le_of_ble_eq_true rfl) dX12_heights_35 (fun H locs hP hD hS => ?_)
        have hP : va_P D vwCl [((ma 200), .inr (12, [.int (-50), .int 0, .int 50, .int 80, .int (-60), .int (-40), .int 60, .int (-40), .int f, .int 4, .int 0, .ref (ma 11), .ref (ma 12), .ref (ma 13), .ref (ma 14), .ref (ma 15), .ref (ma 16), .ref (ma 17), .ref (ma 18), .ref (ma 19), .ref (ma 20), .ref (ma 21), .ref (ma 22), .ref (ma 23), .ref (ma 24), .long 0, .long 0, .long 0, .long 0, .long 0, .long 0, .long 0, .long 0, .ref (ma 33), .int 0, .int 0, .int 0, .int 0, .int 0, .int 0, .int 0, .int (-1), .int 0, .ref (ma 43), .ref (ma 44), .ref (ma 45), .ref (ma 46), .ref (ma 47), .ref (ma 48), .ref (ma 49), .ref (ma 50), .ref (ma 51), .ref (ma 52), .ref (ma 53), .ref (ma 54), .int 0, .ref (ma 56), .ref (ma 57), .ref (ma 58), .ref (ma 59), .ref (ma 60), .ref (ma 61), .ref (ma 62), .int 0, .ref (ma 64), .ref (ma 65), .int 0, .ref (ma 67), .ref (ma 68), .ref (ma 69), .ref (ma 70), .ref (ma 71), .int 0, .ref (ma 73), .ref (ma 74), .ref (ma 75), .int 0, .int 0, .ref (ma 78), .ref (ma 79), .ref (ma 80), .ref (ma 81), .int 0, .int 0, .int 0, .int 0, .int 0, .int 0, .int 0, .int 0, .int 0, .int 0, .int 0, .ref (ma 93), .ref (ma 94), .ref (ma 95), .int 0, .ref (ma 97), .ref (ma 98), .ref (ma 99), .ref (ma 100), .ref (ma 101), .ref (ma 102), .ref (ma 103)]))] H := hP
        have hD : va_D A [((ma 200), .inr (12, [.int (-50), .int 0, .int 50, .int 80, .int (-60), .int (-40), .int 60, .int (-40), .int f, .int 4, .int 0, .ref (ma 11), .ref (ma 12), .ref (ma 13), .ref (ma 14), .ref (ma 15), .ref (ma 16), .ref (ma 17), .ref (ma 18), .ref (ma 19), .ref (ma 20), .ref (ma 21), .ref (ma 22), .ref (ma 23), .ref (ma 24), .long 0, .long 0, .long 0, .long 0, .long 0, .long 0, .long 0, .long 0, .ref (ma 33), .int 0, .int 0, .int 0, .int 0, .int 0, .int 0, .int 0, .int (-1), .int 0, .ref (ma 43), .ref (ma 44), .ref (ma 45), .ref (ma 46), .ref (ma 47), .ref (ma 48), .ref (ma 49), .ref (ma 50), .ref (ma 51), .ref (ma 52), .ref (ma 53), .ref (ma 54), .int 0, .ref (ma 56), .ref (ma 57), .ref (ma 58), .ref (ma 59), .ref (ma 60), .ref (ma 61), .ref (ma 62), .int 0, .ref (ma 64), .ref (ma 65), .int 0, .ref (ma 67), .ref (ma 68), .ref (ma 69), .ref (ma 70), .ref (ma 71), .int 0, .ref (ma 73), .ref (ma 74), .ref (ma 75), .int 0, .int 0, .ref (ma 78), .ref (ma 79), .ref (ma 80), .ref (ma 81), .int 0, .int 0, .int 0, .int 0, .int 0, .int 0, .int 0, .int 0, .int 0, .int 0, .int 0, .ref (ma 93), .ref (ma 94), .ref (ma 95), .int 0, .ref (ma 97), .ref (ma 98), .ref (ma 99), .ref (ma 100), .ref (ma 101), .ref (ma 102), .ref (ma 103)]))] := hD
        refine lv_aload_n hx hb dX12_heights_38 rfl (lv_at hl 0 rfl) ?_
        refine lv_iload_n hx hb dX12_heights_39 rfl (lv_at hl 2 rfl) ?_
        refine va_put (D := D) (ci := 12) (v := .int h) (ty := .int) (C := RX12) (T := TX12) (N := 104) hx hb hts hiX12 tyX12 tyX12_ok nmX12 hown hK hP hD hS 0 rfl rfl 9 (by decide) (hts (.fieldLink RX12 43 "GhostPaneModel" "hand" "I") (List.mem_of_getElem? (i := 6) rfl)) (fun _ h9 => h9) rfl (by decide +kernel) rfl rfl (Nat.le_of_ble_eq_true rfl) dX12_heights_40 (fun H locs hP hD hS => ?_)
        have hP : va_P D vwCl [((ma 200), .inr (12, [.int (-50), .int 0, .int 50, .int 80, .int (-60), .int (-40), .int 60, .int (-40), .int f, .int h, .int 0, .ref (ma 11), .ref (ma 12), .ref (ma 13), .ref (ma 14), .ref (ma 15), .ref (ma 16), .ref (ma 17), .ref (ma 18), .ref (ma 19), .ref (ma 20), .ref (ma 21), .ref (ma 22), .ref (ma 23), .ref (ma 24), .long 0, .long 0, .long 0, .long 0, .long 0, .long 0, .long 0, .long 0, .ref (ma 33), .int 0, .int 0, .int 0, .int 0, .int 0, .int 0, .int 0, .int (-1), .int 0, .ref (ma 43), .ref (ma 44), .ref (ma 45), .ref (ma 46), .ref (ma 47), .ref (ma 48), .ref (ma 49), .ref (ma 50), .ref (ma 51), .ref (ma 52), .ref (ma 53), .ref (ma 54), .int 0, .ref (ma 56), .ref (ma 57), .ref (ma 58), .ref (ma 59), .ref (ma 60), .ref (ma 61), .ref (ma 62), .int 0, .ref (ma 64), .ref (ma 65), .int 0, .ref (ma 67), .ref (ma 68), .ref (ma 69), .ref (ma 70), .ref (ma 71), .int 0, .ref (ma 73), .ref (ma 74), .ref (ma 75), .int 0, .int 0, .ref (ma 78), .ref (ma 79), .ref (ma 80), .ref (ma 81), .int 0, .int 0, .int 0, .int 0, .int 0, .int 0, .int 0, .int 0, .int 0, .int 0, .int 0, .ref (ma 93), .ref (ma 94), .ref (ma 95), .int 0, .ref (ma 97), .ref (ma 98), .ref (ma 99), .ref (ma 100), .ref (ma 101), .ref (ma 102), .ref (ma 103)]))] H := hP
        have hD : va_D A [((ma 200), .inr (12, [.int (-50), .int 0, .int 50, .int 80, .int (-60), .int (-40), .int 60, .int (-40), .int f, .int h, .int 0, .ref (ma 11), .ref (ma 12), .ref (ma 13), .ref (ma 14), .ref (ma 15), .ref (ma 16), .ref (ma 17), .ref (ma 18), .ref (ma 19), .ref (ma 20), .ref (ma 21), .ref (ma 22), .ref (ma 23), .ref (ma 24), .long 0, .long 0, .long 0, .long 0, .long 0, .long 0, .long 0, .long 0, .ref (ma 33), .int 0, .int 0, .int 0, .int 0, .int 0, .int 0, .int 0, .int (-1), .int 0, .ref (ma 43), .ref (ma 44), .ref (ma 45), .ref (ma 46), .ref (ma 47), .ref (ma 48), .ref (ma 49), .ref (ma 50), .ref (ma 51), .ref (ma 52), .ref (ma 53), .ref (ma 54), .int 0, .ref (ma 56), .ref (ma 57), .ref (ma 58), .ref (ma 59), .ref (ma 60), .ref (ma 61), .ref (ma 62), .int 0, .ref (ma 64), .ref (ma 65), .int 0, .ref (ma 67), .ref (ma 68), .ref (ma 69), .ref (ma 70), .ref (ma 71), .int 0, .ref (ma 73), .ref (ma 74), .ref (ma 75), .int 0, .int 0, .ref (ma 78), .ref (ma 79), .ref (ma 80), .ref (ma 81), .int 0, .int 0, .int 0, .int 0, .int 0, .int 0, .int 0, .int 0, .int 0, .int 0, .int 0, .ref (ma 93), .ref (ma 94), .ref (ma 95), .int 0, .ref (ma 97), .ref (ma 98), .ref (ma 99), .ref (ma 100), .ref (ma 101), .ref (ma 102), .ref (ma 103)]))] := hD
        refine lv_aload_n hx hb dX12_heights_43 rfl (lv_at hl 0 rfl) ?_
        refine lv_iload_n hx hb dX12_heights_44 rfl (lv_at hl 3 rfl) ?_
        refine va_put (D := D) (ci := 12) (v := .int d) (ty := .int) (C := RX12) (T := TX12) (N := 104) hx hb hts hiX12 tyX12 tyX12_ok nmX12 hown hK hP hD hS 0 rfl rfl 10 (by decide) (hts (.fieldLink RX12 46 "GhostPaneModel" "deep" "I") (List.mem_of_getElem? (i := 7) rfl)) (fun _ h9 => h9) rfl (by decide +kernel) rfl rfl (Nat.le_of_ble_eq_true rfl) dX12_heights_45 (fun H locs hP hD hS => ?_)
        have hP : va_P D vwCl [((ma 200), .inr (12, [.int (-50), .int 0, .int 50, .int 80, .int (-60), .int (-40), .int 60, .int (-40), .int f, .int h, .int d, .ref (ma 11), .ref (ma 12), .ref (ma 13), .ref (ma 14), .ref (ma 15), .ref (ma 16), .ref (ma 17), .ref (ma 18), .ref (ma 19), .ref (ma 20), .ref (ma 21), .ref (ma 22), .ref (ma 23), .ref (ma 24), .long 0, .long 0, .long 0, .long 0, .long 0, .long 0, .long 0, .long 0, .ref (ma 33), .int 0, .int 0, .int 0, .int 0, .int 0, .int 0, .int 0, .int (-1), .int 0, .ref (ma 43), .ref (ma 44), .ref (ma 45), .ref (ma 46), .ref (ma 47), .ref (ma 48), .ref (ma 49), .ref (ma 50), .ref (ma 51), .ref (ma 52), .ref (ma 53), .ref (ma 54), .int 0, .ref (ma 56), .ref (ma 57), .ref (ma 58), .ref (ma 59), .ref (ma 60), .ref (ma 61), .ref (ma 62), .int 0, .ref (ma 64), .ref (ma 65), .int 0, .ref (ma 67), .ref (ma 68), .ref (ma 69), .ref (ma 70), .ref (ma 71), .int 0, .ref (ma 73), .ref (ma 74), .ref (ma 75), .int 0, .int 0, .ref (ma 78), .ref (ma 79), .ref (ma 80), .ref (ma 81), .int 0, .int 0, .int 0, .int 0, .int 0, .int 0, .int 0, .int 0, .int 0, .int 0, .int 0, .ref (ma 93), .ref (ma 94), .ref (ma 95), .int 0, .ref (ma 97), .ref (ma 98), .ref (ma 99), .ref (ma 100), .ref (ma 101), .ref (ma 102), .ref (ma 103)]))] H := hP
        have hD : va_D A [((ma 200), .inr (12, [.int (-50), .int 0, .int 50, .int 80, .int (-60), .int (-40), .int 60, .int (-40), .int f, .int h, .int d, .ref (ma 11), .ref (ma 12), .ref (ma 13), .ref (ma 14), .ref (ma 15), .ref (ma 16), .ref (ma 17), .ref (ma 18), .ref (ma 19), .ref (ma 20), .ref (ma 21), .ref (ma 22), .ref (ma 23), .ref (ma 24), .long 0, .long 0, .long 0, .long 0, .long 0, .long 0, .long 0, .long 0, .ref (ma 33), .int 0, .int 0, .int 0, .int 0, .int 0, .int 0, .int 0, .int (-1), .int 0, .ref (ma 43), .ref (ma 44), .ref (ma 45), .ref (ma 46), .ref (ma 47), .ref (ma 48), .ref (ma 49), .ref (ma 50), .ref (ma 51), .ref (ma 52), .ref (ma 53), .ref (ma 54), .int 0, .ref (ma 56), .ref (ma 57), .ref (ma 58), .ref (ma 59), .ref (ma 60), .ref (ma 61), .ref (ma 62), .int 0, .ref (ma 64), .ref (ma 65), .int 0, .ref (ma 67), .ref (ma 68), .ref (ma 69), .ref (ma 70), .ref (ma 71), .int 0, .ref (ma 73), .ref (ma 74), .ref (ma 75), .int 0, .int 0, .ref (ma 78), .ref (ma 79), .ref (ma 80), .ref (ma 81), .int 0, .int 0, .int 0, .int 0, .int 0, .int 0, .int 0, .int 0, .int 0, .int 0, .int 0, .ref (ma 93), .ref (ma 94), .ref (ma 95), .int 0, .ref (ma 97), .ref (ma 98), .ref (ma 99), .ref (ma 100), .ref (ma 101), .ref (ma 102), .ref (ma 103)]))] := hD
        refine lv_iconst (v := 1) hx hb dX12_heights_48 (by decide) ?_
        exact W.zret (v := 1) hx hb hr narrow_b1 (fun t ht hW => ⟨⟨1, (), rfl, Or.inl ⟨rfl, (lf_kX12_heights_1 ma f h d p_2 p_5 p_8)⟩, gp_end ht (hP.sub (ws' := []) [] rfl) (hD.sub (ws' := []) [] (by decide) rfl)⟩, hS.F ht⟩) hS.2.2 dX12_heights_49
      · refine lv_if_ne (tgt := 33) hx hb dX12_heights_28 (by decide) (fun c_10 => absurd (by decide) c_10) (fun c_10 => ?_)
        refine lv_iconst (v := 0) hx hb dX12_heights_31 (by decide) ?_
        exact W.zret (v := 0) hx hb hr narrow_b0 (fun t ht hW => ⟨⟨0, (), rfl, Or.inr ⟨rfl, (lf_kX12_heights_2 ma f h d p_2 p_5 p_8)⟩, gp_end ht (hP.sub (ws' := []) [] rfl) (hD.sub (ws' := []) [] (by decide) rfl)⟩, hS.F ht⟩) hS.2.2 dX12_heights_32
    · refine lv_if_eq (tgt := 31) hx hb dX12_heights_18 (by decide) (fun c_11 => ?_) (fun c_11 => absurd (by decide) c_11)
      refine lv_iconst (v := 0) hx hb dX12_heights_31 (by decide) ?_
      exact W.zret (v := 0) hx hb hr narrow_b0 (fun t ht hW => ⟨⟨0, (), rfl, Or.inr ⟨rfl, (lf_kX12_heights_3 ma f h d p_2 p_5)⟩, gp_end ht (hP.sub (ws' := []) [] rfl) (hD.sub (ws' := []) [] (by decide) rfl)⟩, hS.F ht⟩) hS.2.2 dX12_heights_32
  · refine lv_if_eq (tgt := 31) hx hb dX12_heights_8 (by decide) (fun c_12 => ?_) (fun c_12 => absurd (by decide) c_12)
    refine lv_iconst (v := 0) hx hb dX12_heights_31 (by decide) ?_
    exact W.zret (v := 0) hx hb hr narrow_b0 (fun t ht hW => ⟨⟨0, (), rfl, Or.inr ⟨rfl, (lf_kX12_heights_4 ma f h d p_2)⟩, gp_end ht (hP.sub (ws' := []) [] rfl) (hD.sub (ws' := []) [] (by decide) rfl)⟩, hS.F ht⟩) hS.2.2 dX12_heights_32

theorem lf_kX12_seat_1 (ma : Nat → Nat) (k : Int32) (px : Int32) (py : Int32) (p_2 : sp_in k 0 7) (p_5 : sp_pl px py) : sp_in k 0 7 ∧ sp_pl px py := by
  first | grind | (simp only [sp_in, sp_pl, sp_far, sp_two] at *; grind)
theorem lf_kX12_seat_2 (ma : Nat → Nat) (k : Int32) (px : Int32) (py : Int32) (p_2 : sp_in k 0 7) (p_5 : ¬ sp_pl px py) : ¬ (sp_in k 0 7 ∧ sp_pl px py) := by
  first | grind | (simp only [sp_in, sp_pl, sp_far, sp_two] at *; grind)
theorem lf_kX12_seat_3 (ma : Nat → Nat) (k : Int32) (px : Int32) (py : Int32) (p_2 : ¬ sp_in k 0 7) : ¬ (sp_in k 0 7 ∧ sp_pl px py) := by
  first | grind | (simp only [sp_in, sp_pl, sp_far, sp_two] at *; grind)
def v_kX12_seat : List Cond := .code yX12_seat cX12_seat 4 (some .boolean) :: ([.code yX12_isIn cX12_isIn 3 (some .boolean), .methodLink RX12 3 yX12_isIn, .static yX12_isIn, .initialized RX12, .code yX12_isPlace cX12_isPlace 2 (some .boolean), .methodLink RX12 7 yX12_isPlace, .static yX12_isPlace, .fieldLink RX12 49 "GhostPaneModel" "isSeat" "[Z", .fieldLink RX12 53 "GhostPaneModel" "seatX" "[I", .fieldLink RX12 57 "GhostPaneModel" "seatY" "[I"] ++ wsX120)
set_option maxRecDepth 20000 in
theorem gg_kX12_seat_kX12_isIn : GoodIn v_kX12_seat v_kX12_isIn := goodIn_r (.code yX12_isIn cX12_isIn 3 (some .boolean) :: []) [1] rfl (by decide +kernel)
set_option maxRecDepth 20000 in
theorem g_kX12_seat_kX12_isIn_0 : GoodIn v_kX12_seat (va_wsS RX12 3 yX12_isIn v_kX12_isIn) := goodIn_app (goodIn_r [.methodLink RX12 3 yX12_isIn, .static yX12_isIn, .initialized RX12] [2, 3, 4] rfl (by decide +kernel)) gg_kX12_seat_kX12_isIn
set_option maxRecDepth 20000 in
theorem gg_kX12_seat_kX12_isPlace : GoodIn v_kX12_seat v_kX12_isPlace := goodIn_r (.code yX12_isPlace cX12_isPlace 2 (some .boolean) :: [.code yX12_isIn cX12_isIn 3 (some .boolean), .methodLink RX12 3 yX12_isIn, .static yX12_isIn, .initialized RX12]) [5, 1, 2, 3, 4] rfl (by decide +kernel)
set_option maxRecDepth 20000 in
theorem g_kX12_seat_kX12_isPlace_1 : GoodIn v_kX12_seat (va_wsS RX12 7 yX12_isPlace v_kX12_isPlace) := goodIn_app (goodIn_r [.methodLink RX12 7 yX12_isPlace, .static yX12_isPlace, .initialized RX12] [6, 7, 4] rfl (by decide +kernel)) gg_kX12_seat_kX12_isPlace
set_option maxHeartbeats 4000000 in
set_option maxRecDepth 100000 in
theorem kX12_seat (l : Launch) (D : va_G) (cy : Nat → ClassId) (sz : Nat) (ma : Nat → Nat) (k : Int32) (px : Int32) (py : Int32) : Met l yX12_seat v_kX12_seat ({ frames := 2, cells := 0, slots := 0, locals := 43 } : Room) (va_Pc [.ref (ma 200), .int k, .int px, .int py] (gp_B D cy sz [((ma 200), mo_0 ma), ((ma 11), .inl (cy 3, 8, .inl (fun _ => 0))), ((ma 12), .inl (cy 1, 8, .inl (fun _ => 0))), ((ma 13), .inl (cy 1, 8, .inl (fun _ => 0)))])) (va_Qi (fun (r : Int32) (u : Unit) => (r = 1 ∧ (sp_in k 0 7 ∧ sp_pl px py)) ∨ (r = 0 ∧ ¬ (sp_in k 0 7 ∧ sp_pl px py))) (fun u => gp_E D (va_A [((ma 200), mo_0 ma), ((ma 11), .inl (cy 3, 8, .inl (fun _ => 0))), ((ma 12), .inl (cy 1, 8, .inl (fun _ => 0))), ((ma 13), .inl (cy 1, 8, .inl (fun _ => 0)))] sz) []) (va_A [((ma 200), mo_0 ma), ((ma 11), .inl (cy 3, 8, .inl (fun _ => 0))), ((ma 12), .inl (cy 1, 8, .inl (fun _ => 0))), ((ma 13), .inl (cy 1, 8, .inl (fun _ => 0)))] sz)) 0 0 (va_A [((ma 200), mo_0 ma), ((ma 11), .inl (cy 3, 8, .inl (fun _ => 0))), ((ma 12), .inl (cy 1, 8, .inl (fun _ => 0))), ((ma 13), .inl (cy 1, 8, .inl (fun _ => 0)))] sz) := by
  refine gp_met (Qc := fun A => va_Qi (fun (r : Int32) (u : Unit) => (r = 1 ∧ (sp_in k 0 7 ∧ sp_pl px py)) ∨ (r = 0 ∧ ¬ (sp_in k 0 7 ∧ sp_pl px py))) (fun u => gp_E D A []) A) (cc := cX12_seat) (maxL := 4) (ret := (some .boolean)) (by decide) rfl (Nat.le_of_ble_eq_true rfl) ?_
  intro p e s m below meth c A ls H hx hb hml hr hlocks hts hown hin hK hN hS hP hD hA hl
  have hown : s.vm.findClass RX12 = some m.cls := hown
  have hl : lv_has ls 4 [(0, .ref (ma 200)), (1, .int k), (2, .int px), (3, .int py)] := hl
  have hiX12 : ∀ w ∈ u_ws RX12 TX12 104, w ∈ v_kX12_seat := fun _ h => List.mem_cons_of_mem _ (List.mem_append_right _ h)
  refine lv_iload_n hx hb dX12_seat_0 rfl (lv_at hl 1 rfl) ?_
  refine lv_iconst (v := 0) hx hb dX12_seat_1 (by decide) ?_
  refine lv_bipush (v := 7) hx hb dX12_seat_2 (by decide) ?_
  have hPc := hP.sub (ws' := []) [] rfl
  have hDc := hD.sub (ws' := []) [] (by decide) rfl
  have hFc := va_free (wc := []) hD hS hA [] rfl
  refine va_calli (va_runS (As := [.int k, .int 0, .int 7]) (rest := []) ⟨hx, hb, hml, hown, hts⟩ (kX12_isIn l D cy H.size k 0 7) (va_cwS 3 hts g_kX12_seat_kX12_isIn_0 rfl rfl rfl (by decide +kernel) ⟨Nat.le_of_ble_eq_true rfl, Nat.le_of_ble_eq_true rfl⟩) (gp_preS hPc hDc hK hN) rfl rfl hl.1 rfl (lv_room (Nat.le_of_ble_eq_true rfl)) dX12_seat_4 ⟨Nat.le_of_ble_eq_true rfl, Nat.le_of_ble_eq_true rfl⟩) hS (fun q _ h => hFc q h) hFc (fun r_1 u t H locs ht hvm hw hB hz1 hk1 hS => ?_)
  obtain ⟨hP, hD⟩ := gp_join (wr := [((ma 200), mo_0 ma), ((ma 11), .inl (cy 3, 8, .inl (fun _ => 0))), ((ma 12), .inl (cy 1, 8, .inl (fun _ => 0))), ((ma 13), .inl (cy 1, 8, .inl (fun _ => 0)))]) (w1 := []) hP hD [] [0, 1, 2, 3] rfl rfl (by decide) (by decide) hk1 hFc ht hB
  have hP : va_P D vwCl [((ma 200), mo_0 ma), ((ma 11), .inl (cy 3, 8, .inl (fun _ => 0))), ((ma 12), .inl (cy 1, 8, .inl (fun _ => 0))), ((ma 13), .inl (cy 1, 8, .inl (fun _ => 0)))] H := hP
  have hD : va_D A [((ma 200), mo_0 ma), ((ma 11), .inl (cy 3, 8, .inl (fun _ => 0))), ((ma 12), .inl (cy 1, 8, .inl (fun _ => 0))), ((ma 13), .inl (cy 1, 8, .inl (fun _ => 0)))] := hD
  rcases hw with ⟨rfl, p_2⟩ | ⟨rfl, p_2⟩
  · refine lv_if_eq (tgt := 18) hx hb dX12_seat_7 (by decide) (fun c_3 => absurd c_3 (by decide)) (fun c_3 => ?_)
    refine lv_iload_n hx hb dX12_seat_10 rfl (lv_at hl 2 rfl) ?_
    refine lv_iload_n hx hb dX12_seat_11 rfl (lv_at hl 3 rfl) ?_
    have hPc := hP.sub (ws' := []) [] rfl
    have hDc := hD.sub (ws' := []) [] (by decide) rfl
    have hFc := va_free (wc := []) hD hS hA [] rfl
    refine va_calli (va_runS (As := [.int px, .int py]) (rest := []) ⟨hx, hb, hml, hown, hts⟩ (kX12_isPlace l D cy H.size px py) (va_cwS 2 hts g_kX12_seat_kX12_isPlace_1 rfl rfl rfl (by decide +kernel) ⟨Nat.le_of_ble_eq_true rfl, Nat.le_of_ble_eq_true rfl⟩) (gp_preS hPc hDc hK hN) rfl rfl hl.1 rfl (lv_room (Nat.le_of_ble_eq_true rfl)) dX12_seat_12 ⟨Nat.le_of_ble_eq_true rfl, Nat.le_of_ble_eq_true rfl⟩) hS (fun q _ h => hFc q h) hFc (fun r_4 u t H locs ht hvm hw hB hz1 hk1 hS => ?_)
    obtain ⟨hP, hD⟩ := gp_join (wr := [((ma 200), mo_0 ma), ((ma 11), .inl (cy 3, 8, .inl (fun _ => 0))), ((ma 12), .inl (cy 1, 8, .inl (fun _ => 0))), ((ma 13), .inl (cy 1, 8, .inl (fun _ => 0)))]) (w1 := []) hP hD [] [0, 1, 2, 3] rfl rfl (by decide) (by decide) hk1 hFc ht hB
    have hP : va_P D vwCl [((ma 200), mo_0 ma), ((ma 11), .inl (cy 3, 8, .inl (fun _ => 0))), ((ma 12), .inl (cy 1, 8, .inl (fun _ => 0))), ((ma 13), .inl (cy 1, 8, .inl (fun _ => 0)))] H := hP
    have hD : va_D A [((ma 200), mo_0 ma), ((ma 11), .inl (cy 3, 8, .inl (fun _ => 0))), ((ma 12), .inl (cy 1, 8, .inl (fun _ => 0))), ((ma 13), .inl (cy 1, 8, .inl (fun _ => 0)))] := hD
    rcases hw with ⟨rfl, p_5⟩ | ⟨rfl, p_5⟩
    · refine lv_if_ne (tgt := 20) hx hb dX12_seat_15 (by decide) (fun c_6 => ?_) (fun c_6 => absurd c_6 (by decide))
      refine lv_aload_n hx hb dX12_seat_20 rfl (lv_at hl 0 rfl) ?_
      refine va_get (D := D) (ci := 12) (v := .ref (ma 11)) (C := RX12) (T := TX12) (N := 104) hx hb hts hiX12 hown hK hP 0 rfl rfl 11 (by decide) (hts (.fieldLink RX12 49 "GhostPaneModel" "isSeat" "[Z") (List.mem_of_getElem? (i := 8) rfl)) (fun _ h9 => h9) rfl dX12_seat_21 ?_
      refine lv_iload_n hx hb dX12_seat_24 rfl (lv_at hl 1 rfl) ?_
      refine lv_iconst (v := 1) hx hb dX12_seat_25 (by decide) ?_
      refine va_zast hx hb hK hP hD hS 1 3 rfl rfl (gp_in p_2 (by decide)) dX12_seat_26 (fun H locs hP hD hS => ?_)
      have hP : va_P D vwCl [((ma 200), mo_0 ma), ((ma 11), .inl (cy 3, 8, .inl (upd (fun _ => 0) k.toNatClampNeg 1))), ((ma 12), .inl (cy 1, 8, .inl (fun _ => 0))), ((ma 13), .inl (cy 1, 8, .inl (fun _ => 0)))] H := hP
      have hD : va_D A [((ma 200), mo_0 ma), ((ma 11), .inl (cy 3, 8, .inl (upd (fun _ => 0) k.toNatClampNeg 1))), ((ma 12), .inl (cy 1, 8, .inl (fun _ => 0))), ((ma 13), .inl (cy 1, 8, .inl (fun _ => 0)))] := hD
      refine lv_aload_n hx hb dX12_seat_27 rfl (lv_at hl 0 rfl) ?_
      refine va_get (D := D) (ci := 12) (v := .ref (ma 12)) (C := RX12) (T := TX12) (N := 104) hx hb hts hiX12 hown hK hP 0 rfl rfl 12 (by decide) (hts (.fieldLink RX12 53 "GhostPaneModel" "seatX" "[I") (List.mem_of_getElem? (i := 9) rfl)) (fun _ h9 => h9) rfl dX12_seat_28 ?_
      refine lv_iload_n hx hb dX12_seat_31 rfl (lv_at hl 1 rfl) ?_
      refine lv_iload_n hx hb dX12_seat_32 rfl (lv_at hl 2 rfl) ?_
      refine va_iast hx hb hK hP hD hS 2 1 rfl rfl (gp_in p_2 (by decide)) dX12_seat_33 (fun H locs hP hD hS => ?_)
      have hP : va_P D vwCl [((ma 200), mo_0 ma), ((ma 11), .inl (cy 3, 8, .inl (upd (fun _ => 0) k.toNatClampNeg 1))), ((ma 12), .inl (cy 1, 8, .inl (upd (fun _ => 0) k.toNatClampNeg px))), ((ma 13), .inl (cy 1, 8, .inl (fun _ => 0)))] H := hP
      have hD : va_D A [((ma 200), mo_0 ma), ((ma 11), .inl (cy 3, 8, .inl (upd (fun _ => 0) k.toNatClampNeg 1))), ((ma 12), .inl (cy 1, 8, .inl (upd (fun _ => 0) k.toNatClampNeg px))), ((ma 13), .inl (cy 1, 8, .inl (fun _ => 0)))] := hD
      refine lv_aload_n hx hb dX12_seat_34 rfl (lv_at hl 0 rfl) ?_
      refine va_get (D := D) (ci := 12) (v := .ref (ma 13)) (C := RX12) (T := TX12) (N := 104) hx hb hts hiX12 hown hK hP 0 rfl rfl 13 (by decide) (hts (.fieldLink RX12 57 "GhostPaneModel" "seatY" "[I") (List.mem_of_getElem? (i := 10) rfl)) (fun _ h9 => h9) rfl dX12_seat_35 ?_
      refine lv_iload_n hx hb dX12_seat_38 rfl (lv_at hl 1 rfl) ?_
      refine lv_iload_n hx hb dX12_seat_39 rfl (lv_at hl 3 rfl) ?_
      refine va_iast hx hb hK hP hD hS 3 1 rfl rfl (gp_in p_2 (by decide)) dX12_seat_40 (fun H locs hP hD hS => ?_)
      have hP : va_P D vwCl [((ma 200), mo_0 ma), ((ma 11), .inl (cy 3, 8, .inl (upd (fun _ => 0) k.toNatClampNeg 1))), ((ma 12), .inl (cy 1, 8, .inl (upd (fun _ => 0) k.toNatClampNeg px))), ((ma 13), .inl (cy 1, 8, .inl (upd (fun _ => 0) k.toNatClampNeg py)))] H := hP
      have hD : va_D A [((ma 200), mo_0 ma), ((ma 11), .inl (cy 3, 8, .inl (upd (fun _ => 0) k.toNatClampNeg 1))), ((ma 12), .inl (cy 1, 8, .inl (upd (fun _ => 0) k.toNatClampNeg px))), ((ma 13), .inl (cy 1, 8, .inl (upd (fun _ => 0) k.toNatClampNeg py)))] := hD
      refine lv_iconst (v := 1) hx hb dX12_seat_41 (by decide) ?_
      exact W.zret (v := 1) hx hb hr narrow_b1 (fun t ht hW => ⟨⟨1, (), rfl, Or.inl ⟨rfl, (lf_kX12_seat_1 ma k px py p_2 p_5)⟩, gp_end ht (hP.sub (ws' := []) [] rfl) (hD.sub (ws' := []) [] (by decide) rfl)⟩, hS.F ht⟩) hS.2.2 dX12_seat_42
    · refine lv_if_ne (tgt := 20) hx hb dX12_seat_15 (by decide) (fun c_7 => absurd (by decide) c_7) (fun c_7 => ?_)
      refine lv_iconst (v := 0) hx hb dX12_seat_18 (by decide) ?_
      exact W.zret (v := 0) hx hb hr narrow_b0 (fun t ht hW => ⟨⟨0, (), rfl, Or.inr ⟨rfl, (lf_kX12_seat_2 ma k px py p_2 p_5)⟩, gp_end ht (hP.sub (ws' := []) [] rfl) (hD.sub (ws' := []) [] (by decide) rfl)⟩, hS.F ht⟩) hS.2.2 dX12_seat_19
  · refine lv_if_eq (tgt := 18) hx hb dX12_seat_7 (by decide) (fun c_8 => ?_) (fun c_8 => absurd (by decide) c_8)
    refine lv_iconst (v := 0) hx hb dX12_seat_18 (by decide) ?_
    exact W.zret (v := 0) hx hb hr narrow_b0 (fun t ht hW => ⟨⟨0, (), rfl, Or.inr ⟨rfl, (lf_kX12_seat_3 ma k px py p_2)⟩, gp_end ht (hP.sub (ws' := []) [] rfl) (hD.sub (ws' := []) [] (by decide) rfl)⟩, hS.F ht⟩) hS.2.2 dX12_seat_19

theorem lf_kX12_wall_1 (ma : Nat → Nat) (w : Int32) (ax : Int32) (ay : Int32) (bx : Int32) (b2 : Int32) (z : Int32) (p_2 : sp_in w 0 11) (p_5 : sp_two ax ay bx b2) : sp_in w 0 11 ∧ sp_two ax ay bx b2 := by
  first | grind | (simp only [sp_in, sp_pl, sp_far, sp_two] at *; grind)
theorem lf_kX12_wall_2 (ma : Nat → Nat) (w : Int32) (ax : Int32) (ay : Int32) (bx : Int32) (b2 : Int32) (z : Int32) (p_2 : sp_in w 0 11) (p_5 : ¬ sp_two ax ay bx b2) : ¬ (sp_in w 0 11 ∧ sp_two ax ay bx b2) := by
  first | grind | (simp only [sp_in, sp_pl, sp_far, sp_two] at *; grind)
theorem lf_kX12_wall_3 (ma : Nat → Nat) (w : Int32) (ax : Int32) (ay : Int32) (bx : Int32) (b2 : Int32) (z : Int32) (p_2 : ¬ sp_in w 0 11) : ¬ (sp_in w 0 11 ∧ sp_two ax ay bx b2) := by
  first | grind | (simp only [sp_in, sp_pl, sp_far, sp_two] at *; grind)
def v_kX12_wall : List Cond := .code yX12_wall cX12_wall 7 (some .boolean) :: ([.code yX12_isIn cX12_isIn 3 (some .boolean), .methodLink RX12 3 yX12_isIn, .static yX12_isIn, .initialized RX12, .code yX12_areTwo cX12_areTwo 4 (some .boolean), .code yX12_isPlace cX12_isPlace 2 (some .boolean), .methodLink RX12 7 yX12_isPlace, .static yX12_isPlace, .methodLink RX12 11 yX12_areTwo, .static yX12_areTwo, .fieldLink RX12 60 "GhostPaneModel" "isWall" "[Z", .fieldLink RX12 63 "GhostPaneModel" "wallAx" "[I", .fieldLink RX12 66 "GhostPaneModel" "wallAy" "[I", .fieldLink RX12 69 "GhostPaneModel" "wallBx" "[I", .fieldLink RX12 72 "GhostPaneModel" "wallBy" "[I", .fieldLink RX12 75 "GhostPaneModel" "isPit" "[Z"] ++ wsX120)
set_option maxRecDepth 20000 in
theorem gg_kX12_wall_kX12_isIn : GoodIn v_kX12_wall v_kX12_isIn := goodIn_r (.code yX12_isIn cX12_isIn 3 (some .boolean) :: []) [1] rfl (by decide +kernel)
set_option maxRecDepth 20000 in
theorem g_kX12_wall_kX12_isIn_0 : GoodIn v_kX12_wall (va_wsS RX12 3 yX12_isIn v_kX12_isIn) := goodIn_app (goodIn_r [.methodLink RX12 3 yX12_isIn, .static yX12_isIn, .initialized RX12] [2, 3, 4] rfl (by decide +kernel)) gg_kX12_wall_kX12_isIn
set_option maxRecDepth 20000 in
theorem gg_kX12_wall_kX12_areTwo : GoodIn v_kX12_wall v_kX12_areTwo := goodIn_r (.code yX12_areTwo cX12_areTwo 4 (some .boolean) :: [.code yX12_isPlace cX12_isPlace 2 (some .boolean), .code yX12_isIn cX12_isIn 3 (some .boolean), .methodLink RX12 3 yX12_isIn, .static yX12_isIn, .initialized RX12, .methodLink RX12 7 yX12_isPlace, .static yX12_isPlace]) [5, 6, 1, 2, 3, 4, 7, 8] rfl (by decide +kernel)
set_option maxRecDepth 20000 in
theorem g_kX12_wall_kX12_areTwo_1 : GoodIn v_kX12_wall (va_wsS RX12 11 yX12_areTwo v_kX12_areTwo) := goodIn_app (goodIn_r [.methodLink RX12 11 yX12_areTwo, .static yX12_areTwo, .initialized RX12] [9, 10, 4] rfl (by decide +kernel)) gg_kX12_wall_kX12_areTwo
set_option maxHeartbeats 4000000 in
set_option maxRecDepth 100000 in
theorem kX12_wall (l : Launch) (D : va_G) (cy : Nat → ClassId) (sz : Nat) (ma : Nat → Nat) (w : Int32) (ax : Int32) (ay : Int32) (bx : Int32) (b2 : Int32) (z : Int32) : Met l yX12_wall v_kX12_wall ({ frames := 3, cells := 0, slots := 0, locals := 66 } : Room) (va_Pc [.ref (ma 200), .int w, .int ax, .int ay, .int bx, .int b2, .int z] (gp_B D cy sz [((ma 200), mo_0 ma), ((ma 14), .inl (cy 3, 12, .inl (fun _ => 0))), ((ma 15), .inl (cy 1, 12, .inl (fun _ => 0))), ((ma 16), .inl (cy 1, 12, .inl (fun _ => 0))), ((ma 17), .inl (cy 1, 12, .inl (fun _ => 0))), ((ma 18), .inl (cy 1, 12, .inl (fun _ => 0))), ((ma 19), .inl (cy 3, 12, .inl (fun _ => 0)))])) (va_Qi (fun (r : Int32) (u : Unit) => (r = 1 ∧ (sp_in w 0 11 ∧ sp_two ax ay bx b2)) ∨ (r = 0 ∧ ¬ (sp_in w 0 11 ∧ sp_two ax ay bx b2))) (fun u => gp_E D (va_A [((ma 200), mo_0 ma), ((ma 14), .inl (cy 3, 12, .inl (fun _ => 0))), ((ma 15), .inl (cy 1, 12, .inl (fun _ => 0))), ((ma 16), .inl (cy 1, 12, .inl (fun _ => 0))), ((ma 17), .inl (cy 1, 12, .inl (fun _ => 0))), ((ma 18), .inl (cy 1, 12, .inl (fun _ => 0))), ((ma 19), .inl (cy 3, 12, .inl (fun _ => 0)))] sz) []) (va_A [((ma 200), mo_0 ma), ((ma 14), .inl (cy 3, 12, .inl (fun _ => 0))), ((ma 15), .inl (cy 1, 12, .inl (fun _ => 0))), ((ma 16), .inl (cy 1, 12, .inl (fun _ => 0))), ((ma 17), .inl (cy 1, 12, .inl (fun _ => 0))), ((ma 18), .inl (cy 1, 12, .inl (fun _ => 0))), ((ma 19), .inl (cy 3, 12, .inl (fun _ => 0)))] sz)) 0 0 (va_A [((ma 200), mo_0 ma), ((ma 14), .inl (cy 3, 12, .inl (fun _ => 0))), ((ma 15), .inl (cy 1, 12, .inl (fun _ => 0))), ((ma 16), .inl (cy 1, 12, .inl (fun _ => 0))), ((ma 17), .inl (cy 1, 12, .inl (fun _ => 0))), ((ma 18), .inl (cy 1, 12, .inl (fun _ => 0))), ((ma 19), .inl (cy 3, 12, .inl (fun _ => 0)))] sz) := by
  refine gp_met (Qc := fun A => va_Qi (fun (r : Int32) (u : Unit) => (r = 1 ∧ (sp_in w 0 11 ∧ sp_two ax ay bx b2)) ∨ (r = 0 ∧ ¬ (sp_in w 0 11 ∧ sp_two ax ay bx b2))) (fun u => gp_E D A []) A) (cc := cX12_wall) (maxL := 7) (ret := (some .boolean)) (by decide) rfl (Nat.le_of_ble_eq_true rfl) ?_
  intro p e s m below meth c A ls H hx hb hml hr hlocks hts hown hin hK hN hS hP hD hA hl
  have hown : s.vm.findClass RX12 = some m.cls := hown
  have hl : lv_has ls 7 [(0, .ref (ma 200)), (1, .int w), (2, .int ax), (3, .int ay), (4, .int bx), (5, .int b2), (6, .int z)] := hl
  have hiX12 : ∀ w ∈ u_ws RX12 TX12 104, w ∈ v_kX12_wall := fun _ h => List.mem_cons_of_mem _ (List.mem_append_right _ h)
  refine lv_iload_n hx hb dX12_wall_0 rfl (lv_at hl 1 rfl) ?_
  refine lv_iconst (v := 0) hx hb dX12_wall_1 (by decide) ?_
  refine lv_bipush (v := 11) hx hb dX12_wall_2 (by decide) ?_
  have hPc := hP.sub (ws' := []) [] rfl
  have hDc := hD.sub (ws' := []) [] (by decide) rfl
  have hFc := va_free (wc := []) hD hS hA [] rfl
  refine va_calli (va_runS (As := [.int w, .int 0, .int 11]) (rest := []) ⟨hx, hb, hml, hown, hts⟩ (kX12_isIn l D cy H.size w 0 11) (va_cwS 3 hts g_kX12_wall_kX12_isIn_0 rfl rfl rfl (by decide +kernel) ⟨Nat.le_of_ble_eq_true rfl, Nat.le_of_ble_eq_true rfl⟩) (gp_preS hPc hDc hK hN) rfl rfl hl.1 rfl (lv_room (Nat.le_of_ble_eq_true rfl)) dX12_wall_4 ⟨Nat.le_of_ble_eq_true rfl, Nat.le_of_ble_eq_true rfl⟩) hS (fun q _ h => hFc q h) hFc (fun r_1 u t H locs ht hvm hw hB hz1 hk1 hS => ?_)
  obtain ⟨hP, hD⟩ := gp_join (wr := [((ma 200), mo_0 ma), ((ma 14), .inl (cy 3, 12, .inl (fun _ => 0))), ((ma 15), .inl (cy 1, 12, .inl (fun _ => 0))), ((ma 16), .inl (cy 1, 12, .inl (fun _ => 0))), ((ma 17), .inl (cy 1, 12, .inl (fun _ => 0))), ((ma 18), .inl (cy 1, 12, .inl (fun _ => 0))), ((ma 19), .inl (cy 3, 12, .inl (fun _ => 0)))]) (w1 := []) hP hD [] [0, 1, 2, 3, 4, 5, 6] rfl rfl (by decide) (by decide) hk1 hFc ht hB
  have hP : va_P D vwCl [((ma 200), mo_0 ma), ((ma 14), .inl (cy 3, 12, .inl (fun _ => 0))), ((ma 15), .inl (cy 1, 12, .inl (fun _ => 0))), ((ma 16), .inl (cy 1, 12, .inl (fun _ => 0))), ((ma 17), .inl (cy 1, 12, .inl (fun _ => 0))), ((ma 18), .inl (cy 1, 12, .inl (fun _ => 0))), ((ma 19), .inl (cy 3, 12, .inl (fun _ => 0)))] H := hP
  have hD : va_D A [((ma 200), mo_0 ma), ((ma 14), .inl (cy 3, 12, .inl (fun _ => 0))), ((ma 15), .inl (cy 1, 12, .inl (fun _ => 0))), ((ma 16), .inl (cy 1, 12, .inl (fun _ => 0))), ((ma 17), .inl (cy 1, 12, .inl (fun _ => 0))), ((ma 18), .inl (cy 1, 12, .inl (fun _ => 0))), ((ma 19), .inl (cy 3, 12, .inl (fun _ => 0)))] := hD
  rcases hw with ⟨rfl, p_2⟩ | ⟨rfl, p_2⟩
  · refine lv_if_eq (tgt := 22) hx hb dX12_wall_7 (by decide) (fun c_3 => absurd c_3 (by decide)) (fun c_3 => ?_)
    refine lv_iload_n hx hb dX12_wall_10 rfl (lv_at hl 2 rfl) ?_
    refine lv_iload_n hx hb dX12_wall_11 rfl (lv_at hl 3 rfl) ?_
    refine lv_iload hx hb dX12_wall_12 (lv_at hl 4 rfl) ?_
    refine lv_iload hx hb dX12_wall_14 (lv_at hl 5 rfl) ?_
    have hPc := hP.sub (ws' := []) [] rfl
    have hDc := hD.sub (ws' := []) [] (by decide) rfl
    have hFc := va_free (wc := []) hD hS hA [] rfl
    refine va_calli (va_runS (As := [.int ax, .int ay, .int bx, .int b2]) (rest := []) ⟨hx, hb, hml, hown, hts⟩ (kX12_areTwo l D cy H.size ax ay bx b2) (va_cwS 4 hts g_kX12_wall_kX12_areTwo_1 rfl rfl rfl (by decide +kernel) ⟨Nat.le_of_ble_eq_true rfl, Nat.le_of_ble_eq_true rfl⟩) (gp_preS hPc hDc hK hN) rfl rfl hl.1 rfl (lv_room (Nat.le_of_ble_eq_true rfl)) dX12_wall_16 ⟨Nat.le_of_ble_eq_true rfl, Nat.le_of_ble_eq_true rfl⟩) hS (fun q _ h => hFc q h) hFc (fun r_4 u t H locs ht hvm hw hB hz1 hk1 hS => ?_)
    obtain ⟨hP, hD⟩ := gp_join (wr := [((ma 200), mo_0 ma), ((ma 14), .inl (cy 3, 12, .inl (fun _ => 0))), ((ma 15), .inl (cy 1, 12, .inl (fun _ => 0))), ((ma 16), .inl (cy 1, 12, .inl (fun _ => 0))), ((ma 17), .inl (cy 1, 12, .inl (fun _ => 0))), ((ma 18), .inl (cy 1, 12, .inl (fun _ => 0))), ((ma 19), .inl (cy 3, 12, .inl (fun _ => 0)))]) (w1 := []) hP hD [] [0, 1, 2, 3, 4, 5, 6] rfl rfl (by decide) (by decide) hk1 hFc ht hB
    have hP : va_P D vwCl [((ma 200), mo_0 ma), ((ma 14), .inl (cy 3, 12, .inl (fun _ => 0))), ((ma 15), .inl (cy 1, 12, .inl (fun _ => 0))), ((ma 16), .inl (cy 1, 12, .inl (fun _ => 0))), ((ma 17), .inl (cy 1, 12, .inl (fun _ => 0))), ((ma 18), .inl (cy 1, 12, .inl (fun _ => 0))), ((ma 19), .inl (cy 3, 12, .inl (fun _ => 0)))] H := hP
    have hD : va_D A [((ma 200), mo_0 ma), ((ma 14), .inl (cy 3, 12, .inl (fun _ => 0))), ((ma 15), .inl (cy 1, 12, .inl (fun _ => 0))), ((ma 16), .inl (cy 1, 12, .inl (fun _ => 0))), ((ma 17), .inl (cy 1, 12, .inl (fun _ => 0))), ((ma 18), .inl (cy 1, 12, .inl (fun _ => 0))), ((ma 19), .inl (cy 3, 12, .inl (fun _ => 0)))] := hD
    rcases hw with ⟨rfl, p_5⟩ | ⟨rfl, p_5⟩
    · refine lv_if_ne (tgt := 24) hx hb dX12_wall_19 (by decide) (fun c_6 => ?_) (fun c_6 => absurd c_6 (by decide))
      refine lv_aload_n hx hb dX12_wall_24 rfl (lv_at hl 0 rfl) ?_
      refine va_get (D := D) (ci := 12) (v := .ref (ma 14)) (C := RX12) (T := TX12) (N := 104) hx hb hts hiX12 hown hK hP 0 rfl rfl 14 (by decide) (hts (.fieldLink RX12 60 "GhostPaneModel" "isWall" "[Z") (List.mem_of_getElem? (i := 11) rfl)) (fun _ h9 => h9) rfl dX12_wall_25 ?_
      refine lv_iload_n hx hb dX12_wall_28 rfl (lv_at hl 1 rfl) ?_
      refine lv_iconst (v := 1) hx hb dX12_wall_29 (by decide) ?_
      refine va_zast hx hb hK hP hD hS 1 3 rfl rfl (gp_in p_2 (by decide)) dX12_wall_30 (fun H locs hP hD hS => ?_)
      have hP : va_P D vwCl [((ma 200), mo_0 ma), ((ma 14), .inl (cy 3, 12, .inl (upd (fun _ => 0) w.toNatClampNeg 1))), ((ma 15), .inl (cy 1, 12, .inl (fun _ => 0))), ((ma 16), .inl (cy 1, 12, .inl (fun _ => 0))), ((ma 17), .inl (cy 1, 12, .inl (fun _ => 0))), ((ma 18), .inl (cy 1, 12, .inl (fun _ => 0))), ((ma 19), .inl (cy 3, 12, .inl (fun _ => 0)))] H := hP
      have hD : va_D A [((ma 200), mo_0 ma), ((ma 14), .inl (cy 3, 12, .inl (upd (fun _ => 0) w.toNatClampNeg 1))), ((ma 15), .inl (cy 1, 12, .inl (fun _ => 0))), ((ma 16), .inl (cy 1, 12, .inl (fun _ => 0))), ((ma 17), .inl (cy 1, 12, .inl (fun _ => 0))), ((ma 18), .inl (cy 1, 12, .inl (fun _ => 0))), ((ma 19), .inl (cy 3, 12, .inl (fun _ => 0)))] := hD
      refine lv_aload_n hx hb dX12_wall_31 rfl (lv_at hl 0 rfl) ?_
      refine va_get (D := D) (ci := 12) (v := .ref (ma 15)) (C := RX12) (T := TX12) (N := 104) hx hb hts hiX12 hown hK hP 0 rfl rfl 15 (by decide) (hts (.fieldLink RX12 63 "GhostPaneModel" "wallAx" "[I") (List.mem_of_getElem? (i := 12) rfl)) (fun _ h9 => h9) rfl dX12_wall_32 ?_
      refine lv_iload_n hx hb dX12_wall_35 rfl (lv_at hl 1 rfl) ?_
      refine lv_iload_n hx hb dX12_wall_36 rfl (lv_at hl 2 rfl) ?_
      refine va_iast hx hb hK hP hD hS 2 1 rfl rfl (gp_in p_2 (by decide)) dX12_wall_37 (fun H locs hP hD hS => ?_)
      have hP : va_P D vwCl [((ma 200), mo_0 ma), ((ma 14), .inl (cy 3, 12, .inl (upd (fun _ => 0) w.toNatClampNeg 1))), ((ma 15), .inl (cy 1, 12, .inl (upd (fun _ => 0) w.toNatClampNeg ax))), ((ma 16), .inl (cy 1, 12, .inl (fun _ => 0))), ((ma 17), .inl (cy 1, 12, .inl (fun _ => 0))), ((ma 18), .inl (cy 1, 12, .inl (fun _ => 0))), ((ma 19), .inl (cy 3, 12, .inl (fun _ => 0)))] H := hP
      have hD : va_D A [((ma 200), mo_0 ma), ((ma 14), .inl (cy 3, 12, .inl (upd (fun _ => 0) w.toNatClampNeg 1))), ((ma 15), .inl (cy 1, 12, .inl (upd (fun _ => 0) w.toNatClampNeg ax))), ((ma 16), .inl (cy 1, 12, .inl (fun _ => 0))), ((ma 17), .inl (cy 1, 12, .inl (fun _ => 0))), ((ma 18), .inl (cy 1, 12, .inl (fun _ => 0))), ((ma 19), .inl (cy 3, 12, .inl (fun _ => 0)))] := hD
      refine lv_aload_n hx hb dX12_wall_38 rfl (lv_at hl 0 rfl) ?_
      refine va_get (D := D) (ci := 12) (v := .ref (ma 16)) (C := RX12) (T := TX12) (N := 104) hx hb hts hiX12 hown hK hP 0 rfl rfl 16 (by decide) (hts (.fieldLink RX12 66 "GhostPaneModel" "wallAy" "[I") (List.mem_of_getElem? (i := 13) rfl)) (fun _ h9 => h9) rfl dX12_wall_39 ?_
      refine lv_iload_n hx hb dX12_wall_42 rfl (lv_at hl 1 rfl) ?_
      refine lv_iload_n hx hb dX12_wall_43 rfl (lv_at hl 3 rfl) ?_
      refine va_iast hx hb hK hP hD hS 3 1 rfl rfl (gp_in p_2 (by decide)) dX12_wall_44 (fun H locs hP hD hS => ?_)
      have hP : va_P D vwCl [((ma 200), mo_0 ma), ((ma 14), .inl (cy 3, 12, .inl (upd (fun _ => 0) w.toNatClampNeg 1))), ((ma 15), .inl (cy 1, 12, .inl (upd (fun _ => 0) w.toNatClampNeg ax))), ((ma 16), .inl (cy 1, 12, .inl (upd (fun _ => 0) w.toNatClampNeg ay))), ((ma 17), .inl (cy 1, 12, .inl (fun _ => 0))), ((ma 18), .inl (cy 1, 12, .inl (fun _ => 0))), ((ma 19), .inl (cy 3, 12, .inl (fun _ => 0)))] H := hP
      have hD : va_D A [((ma 200), mo_0 ma), ((ma 14), .inl (cy 3, 12, .inl (upd (fun _ => 0) w.toNatClampNeg 1))), ((ma 15), .inl (cy 1, 12, .inl (upd (fun _ => 0) w.toNatClampNeg ax))), ((ma 16), .inl (cy 1, 12, .inl (upd (fun _ => 0) w.toNatClampNeg ay))), ((ma 17), .inl (cy 1, 12, .inl (fun _ => 0))), ((ma 18), .inl (cy 1, 12, .inl (fun _ => 0))), ((ma 19), .inl (cy 3, 12, .inl (fun _ => 0)))] := hD
      refine lv_aload_n hx hb dX12_wall_45 rfl (lv_at hl 0 rfl) ?_
      refine va_get (D := D) (ci := 12) (v := .ref (ma 17)) (C := RX12) (T := TX12) (N := 104) hx hb hts hiX12 hown hK hP 0 rfl rfl 17 (by decide) (hts (.fieldLink RX12 69 "GhostPaneModel" "wallBx" "[I") (List.mem_of_getElem? (i := 14) rfl)) (fun _ h9 => h9) rfl dX12_wall_46 ?_
      refine lv_iload_n hx hb dX12_wall_49 rfl (lv_at hl 1 rfl) ?_
      refine lv_iload hx hb dX12_wall_50 (lv_at hl 4 rfl) ?_
      refine va_iast hx hb hK hP hD hS 4 1 rfl rfl (gp_in p_2 (by decide)) dX12_wall_52 (fun H locs hP hD hS => ?_)
      have hP : va_P D vwCl [((ma 200), mo_0 ma), ((ma 14), .inl (cy 3, 12, .inl (upd (fun _ => 0) w.toNatClampNeg 1))), ((ma 15), .inl (cy 1, 12, .inl (upd (fun _ => 0) w.toNatClampNeg ax))), ((ma 16), .inl (cy 1, 12, .inl (upd (fun _ => 0) w.toNatClampNeg ay))), ((ma 17), .inl (cy 1, 12, .inl (upd (fun _ => 0) w.toNatClampNeg bx))), ((ma 18), .inl (cy 1, 12, .inl (fun _ => 0))), ((ma 19), .inl (cy 3, 12, .inl (fun _ => 0)))] H := hP
      have hD : va_D A [((ma 200), mo_0 ma), ((ma 14), .inl (cy 3, 12, .inl (upd (fun _ => 0) w.toNatClampNeg 1))), ((ma 15), .inl (cy 1, 12, .inl (upd (fun _ => 0) w.toNatClampNeg ax))), ((ma 16), .inl (cy 1, 12, .inl (upd (fun _ => 0) w.toNatClampNeg ay))), ((ma 17), .inl (cy 1, 12, .inl (upd (fun _ => 0) w.toNatClampNeg bx))), ((ma 18), .inl (cy 1, 12, .inl (fun _ => 0))), ((ma 19), .inl (cy 3, 12, .inl (fun _ => 0)))] := hD
      refine lv_aload_n hx hb dX12_wall_53 rfl (lv_at hl 0 rfl) ?_
      refine va_get (D := D) (ci := 12) (v := .ref (ma 18)) (C := RX12) (T := TX12) (N := 104) hx hb hts hiX12 hown hK hP 0 rfl rfl 18 (by decide) (hts (.fieldLink RX12 72 "GhostPaneModel" "wallBy" "[I") (List.mem_of_getElem? (i := 15) rfl)) (fun _ h9 => h9) rfl dX12_wall_54 ?_
      refine lv_iload_n hx hb dX12_wall_57 rfl (lv_at hl 1 rfl) ?_
      refine lv_iload hx hb dX12_wall_58 (lv_at hl 5 rfl) ?_
      refine va_iast hx hb hK hP hD hS 5 1 rfl rfl (gp_in p_2 (by decide)) dX12_wall_60 (fun H locs hP hD hS => ?_)
      have hP : va_P D vwCl [((ma 200), mo_0 ma), ((ma 14), .inl (cy 3, 12, .inl (upd (fun _ => 0) w.toNatClampNeg 1))), ((ma 15), .inl (cy 1, 12, .inl (upd (fun _ => 0) w.toNatClampNeg ax))), ((ma 16), .inl (cy 1, 12, .inl (upd (fun _ => 0) w.toNatClampNeg ay))), ((ma 17), .inl (cy 1, 12, .inl (upd (fun _ => 0) w.toNatClampNeg bx))), ((ma 18), .inl (cy 1, 12, .inl (upd (fun _ => 0) w.toNatClampNeg b2))), ((ma 19), .inl (cy 3, 12, .inl (fun _ => 0)))] H := hP
      have hD : va_D A [((ma 200), mo_0 ma), ((ma 14), .inl (cy 3, 12, .inl (upd (fun _ => 0) w.toNatClampNeg 1))), ((ma 15), .inl (cy 1, 12, .inl (upd (fun _ => 0) w.toNatClampNeg ax))), ((ma 16), .inl (cy 1, 12, .inl (upd (fun _ => 0) w.toNatClampNeg ay))), ((ma 17), .inl (cy 1, 12, .inl (upd (fun _ => 0) w.toNatClampNeg bx))), ((ma 18), .inl (cy 1, 12, .inl (upd (fun _ => 0) w.toNatClampNeg b2))), ((ma 19), .inl (cy 3, 12, .inl (fun _ => 0)))] := hD
      refine lv_aload_n hx hb dX12_wall_61 rfl (lv_at hl 0 rfl) ?_
      refine va_get (D := D) (ci := 12) (v := .ref (ma 19)) (C := RX12) (T := TX12) (N := 104) hx hb hts hiX12 hown hK hP 0 rfl rfl 19 (by decide) (hts (.fieldLink RX12 75 "GhostPaneModel" "isPit" "[Z") (List.mem_of_getElem? (i := 16) rfl)) (fun _ h9 => h9) rfl dX12_wall_62 ?_
      refine lv_iload_n hx hb dX12_wall_65 rfl (lv_at hl 1 rfl) ?_
      refine lv_iload hx hb dX12_wall_66 (lv_at hl 6 rfl) ?_
      refine va_zast hx hb hK hP hD hS 6 3 rfl rfl (gp_in p_2 (by decide)) dX12_wall_68 (fun H locs hP hD hS => ?_)
      have hP : va_P D vwCl [((ma 200), mo_0 ma), ((ma 14), .inl (cy 3, 12, .inl (upd (fun _ => 0) w.toNatClampNeg 1))), ((ma 15), .inl (cy 1, 12, .inl (upd (fun _ => 0) w.toNatClampNeg ax))), ((ma 16), .inl (cy 1, 12, .inl (upd (fun _ => 0) w.toNatClampNeg ay))), ((ma 17), .inl (cy 1, 12, .inl (upd (fun _ => 0) w.toNatClampNeg bx))), ((ma 18), .inl (cy 1, 12, .inl (upd (fun _ => 0) w.toNatClampNeg b2))), ((ma 19), .inl (cy 3, 12, .inl (upd (fun _ => 0) w.toNatClampNeg (vp_nar .boolean z))))] H := hP
      have hD : va_D A [((ma 200), mo_0 ma), ((ma 14), .inl (cy 3, 12, .inl (upd (fun _ => 0) w.toNatClampNeg 1))), ((ma 15), .inl (cy 1, 12, .inl (upd (fun _ => 0) w.toNatClampNeg ax))), ((ma 16), .inl (cy 1, 12, .inl (upd (fun _ => 0) w.toNatClampNeg ay))), ((ma 17), .inl (cy 1, 12, .inl (upd (fun _ => 0) w.toNatClampNeg bx))), ((ma 18), .inl (cy 1, 12, .inl (upd (fun _ => 0) w.toNatClampNeg b2))), ((ma 19), .inl (cy 3, 12, .inl (upd (fun _ => 0) w.toNatClampNeg (vp_nar .boolean z))))] := hD
      refine lv_iconst (v := 1) hx hb dX12_wall_69 (by decide) ?_
      exact W.zret (v := 1) hx hb hr narrow_b1 (fun t ht hW => ⟨⟨1, (), rfl, Or.inl ⟨rfl, (lf_kX12_wall_1 ma w ax ay bx b2 z p_2 p_5)⟩, gp_end ht (hP.sub (ws' := []) [] rfl) (hD.sub (ws' := []) [] (by decide) rfl)⟩, hS.F ht⟩) hS.2.2 dX12_wall_70
    · refine lv_if_ne (tgt := 24) hx hb dX12_wall_19 (by decide) (fun c_7 => absurd (by decide) c_7) (fun c_7 => ?_)
      refine lv_iconst (v := 0) hx hb dX12_wall_22 (by decide) ?_
      exact W.zret (v := 0) hx hb hr narrow_b0 (fun t ht hW => ⟨⟨0, (), rfl, Or.inr ⟨rfl, (lf_kX12_wall_2 ma w ax ay bx b2 z p_2 p_5)⟩, gp_end ht (hP.sub (ws' := []) [] rfl) (hD.sub (ws' := []) [] (by decide) rfl)⟩, hS.F ht⟩) hS.2.2 dX12_wall_23
  · refine lv_if_eq (tgt := 22) hx hb dX12_wall_7 (by decide) (fun c_8 => ?_) (fun c_8 => absurd (by decide) c_8)
    refine lv_iconst (v := 0) hx hb dX12_wall_22 (by decide) ?_
    exact W.zret (v := 0) hx hb hr narrow_b0 (fun t ht hW => ⟨⟨0, (), rfl, Or.inr ⟨rfl, (lf_kX12_wall_3 ma w ax ay bx b2 z p_2)⟩, gp_end ht (hP.sub (ws' := []) [] rfl) (hD.sub (ws' := []) [] (by decide) rfl)⟩, hS.F ht⟩) hS.2.2 dX12_wall_23

theorem lf_kX12_thing_1 (ma : Nat → Nat) (k : Int32) (fx : Int32) (tx : Int32) (fy : Int32) (ty : Int32) (p_2 : sp_in k 0 7) (p_5 : sp_pl fx fy) (p_8 : sp_pl tx ty) (c_10 : tx ≤ fx) : ¬ (sp_in k 0 7 ∧ sp_pl fx fy ∧ sp_pl tx ty ∧ fx < tx ∧ fy < ty) := by
  first | grind | (simp only [sp_in, sp_pl, sp_far, sp_two] at *; grind)
theorem lf_kX12_thing_2 (ma : Nat → Nat) (k : Int32) (fx : Int32) (tx : Int32) (fy : Int32) (ty : Int32) (p_2 : sp_in k 0 7) (p_5 : sp_pl fx fy) (p_8 : sp_pl tx ty) (c_10 : ¬ tx ≤ fx) (c_11 : fy < ty) : sp_in k 0 7 ∧ sp_pl fx fy ∧ sp_pl tx ty ∧ fx < tx ∧ fy < ty := by
  first | grind | (simp only [sp_in, sp_pl, sp_far, sp_two] at *; grind)
theorem lf_kX12_thing_3 (ma : Nat → Nat) (k : Int32) (fx : Int32) (tx : Int32) (fy : Int32) (ty : Int32) (p_2 : sp_in k 0 7) (p_5 : sp_pl fx fy) (p_8 : sp_pl tx ty) (c_10 : ¬ tx ≤ fx) (c_11 : ¬ fy < ty) : ¬ (sp_in k 0 7 ∧ sp_pl fx fy ∧ sp_pl tx ty ∧ fx < tx ∧ fy < ty) := by
  first | grind | (simp only [sp_in, sp_pl, sp_far, sp_two] at *; grind)
theorem lf_kX12_thing_4 (ma : Nat → Nat) (k : Int32) (fx : Int32) (tx : Int32) (fy : Int32) (ty : Int32) (p_2 : sp_in k 0 7) (p_5 : sp_pl fx fy) (p_8 : ¬ sp_pl tx ty) : ¬ (sp_in k 0 7 ∧ sp_pl fx fy ∧ sp_pl tx ty ∧ fx < tx ∧ fy < ty) := by
  first | grind | (simp only [sp_in, sp_pl, sp_far, sp_two] at *; grind)
theorem lf_kX12_thing_5 (ma : Nat → Nat) (k : Int32) (fx : Int32) (tx : Int32) (fy : Int32) (ty : Int32) (p_2 : sp_in k 0 7) (p_5 : ¬ sp_pl fx fy) : ¬ (sp_in k 0 7 ∧ sp_pl fx fy ∧ sp_pl tx ty ∧ fx < tx ∧ fy < ty) := by
  first | grind | (simp only [sp_in, sp_pl, sp_far, sp_two] at *; grind)
theorem lf_kX12_thing_6 (ma : Nat → Nat) (k : Int32) (fx : Int32) (tx : Int32) (fy : Int32) (ty : Int32) (p_2 : ¬ sp_in k 0 7) : ¬ (sp_in k 0 7 ∧ sp_pl fx fy ∧ sp_pl tx ty ∧ fx < tx ∧ fy < ty) := by
  first | grind | (simp only [sp_in, sp_pl, sp_far, sp_two] at *; grind)
def v_kX12_thing : List Cond := .code yX12_thing cX12_thing 6 (some .boolean) :: ([.code yX12_isIn cX12_isIn 3 (some .boolean), .methodLink RX12 3 yX12_isIn, .static yX12_isIn, .initialized RX12, .code yX12_isPlace cX12_isPlace 2 (some .boolean), .methodLink RX12 7 yX12_isPlace, .static yX12_isPlace, .fieldLink RX12 78 "GhostPaneModel" "isThing" "[Z", .fieldLink RX12 81 "GhostPaneModel" "fromX" "[I", .fieldLink RX12 84 "GhostPaneModel" "toX" "[I", .fieldLink RX12 87 "GhostPaneModel" "fromY" "[I", .fieldLink RX12 90 "GhostPaneModel" "toY" "[I"] ++ wsX120)
set_option maxRecDepth 20000 in
theorem gg_kX12_thing_kX12_isIn : GoodIn v_kX12_thing v_kX12_isIn := goodIn_r (.code yX12_isIn cX12_isIn 3 (some .boolean) :: []) [1] rfl (by decide +kernel)
set_option maxRecDepth 20000 in
theorem g_kX12_thing_kX12_isIn_0 : GoodIn v_kX12_thing (va_wsS RX12 3 yX12_isIn v_kX12_isIn) := goodIn_app (goodIn_r [.methodLink RX12 3 yX12_isIn, .static yX12_isIn, .initialized RX12] [2, 3, 4] rfl (by decide +kernel)) gg_kX12_thing_kX12_isIn
set_option maxRecDepth 20000 in
theorem gg_kX12_thing_kX12_isPlace : GoodIn v_kX12_thing v_kX12_isPlace := goodIn_r (.code yX12_isPlace cX12_isPlace 2 (some .boolean) :: [.code yX12_isIn cX12_isIn 3 (some .boolean), .methodLink RX12 3 yX12_isIn, .static yX12_isIn, .initialized RX12]) [5, 1, 2, 3, 4] rfl (by decide +kernel)
set_option maxRecDepth 20000 in
theorem g_kX12_thing_kX12_isPlace_1 : GoodIn v_kX12_thing (va_wsS RX12 7 yX12_isPlace v_kX12_isPlace) := goodIn_app (goodIn_r [.methodLink RX12 7 yX12_isPlace, .static yX12_isPlace, .initialized RX12] [6, 7, 4] rfl (by decide +kernel)) gg_kX12_thing_kX12_isPlace
set_option maxHeartbeats 4000000 in
set_option maxRecDepth 100000 in
theorem kX12_thing (l : Launch) (D : va_G) (cy : Nat → ClassId) (sz : Nat) (ma : Nat → Nat) (k : Int32) (fx : Int32) (tx : Int32) (fy : Int32) (ty : Int32) : Met l yX12_thing v_kX12_thing ({ frames := 2, cells := 0, slots := 0, locals := 43 } : Room) (va_Pc [.ref (ma 200), .int k, .int fx, .int tx, .int fy, .int ty] (gp_B D cy sz [((ma 200), mo_0 ma), ((ma 20), .inl (cy 3, 8, .inl (fun _ => 0))), ((ma 21), .inl (cy 1, 8, .inl (fun _ => 0))), ((ma 22), .inl (cy 1, 8, .inl (fun _ => 0))), ((ma 23), .inl (cy 1, 8, .inl (fun _ => 0))), ((ma 24), .inl (cy 1, 8, .inl (fun _ => 0)))])) (va_Qi (fun (r : Int32) (u : Unit) => (r = 1 ∧ (sp_in k 0 7 ∧ sp_pl fx fy ∧ sp_pl tx ty ∧ fx < tx ∧ fy < ty)) ∨ (r = 0 ∧ ¬ (sp_in k 0 7 ∧ sp_pl fx fy ∧ sp_pl tx ty ∧ fx < tx ∧ fy < ty))) (fun u => gp_E D (va_A [((ma 200), mo_0 ma), ((ma 20), .inl (cy 3, 8, .inl (fun _ => 0))), ((ma 21), .inl (cy 1, 8, .inl (fun _ => 0))), ((ma 22), .inl (cy 1, 8, .inl (fun _ => 0))), ((ma 23), .inl (cy 1, 8, .inl (fun _ => 0))), ((ma 24), .inl (cy 1, 8, .inl (fun _ => 0)))] sz) []) (va_A [((ma 200), mo_0 ma), ((ma 20), .inl (cy 3, 8, .inl (fun _ => 0))), ((ma 21), .inl (cy 1, 8, .inl (fun _ => 0))), ((ma 22), .inl (cy 1, 8, .inl (fun _ => 0))), ((ma 23), .inl (cy 1, 8, .inl (fun _ => 0))), ((ma 24), .inl (cy 1, 8, .inl (fun _ => 0)))] sz)) 0 0 (va_A [((ma 200), mo_0 ma), ((ma 20), .inl (cy 3, 8, .inl (fun _ => 0))), ((ma 21), .inl (cy 1, 8, .inl (fun _ => 0))), ((ma 22), .inl (cy 1, 8, .inl (fun _ => 0))), ((ma 23), .inl (cy 1, 8, .inl (fun _ => 0))), ((ma 24), .inl (cy 1, 8, .inl (fun _ => 0)))] sz) := by
  refine gp_met (Qc := fun A => va_Qi (fun (r : Int32) (u : Unit) => (r = 1 ∧ (sp_in k 0 7 ∧ sp_pl fx fy ∧ sp_pl tx ty ∧ fx < tx ∧ fy < ty)) ∨ (r = 0 ∧ ¬ (sp_in k 0 7 ∧ sp_pl fx fy ∧ sp_pl tx ty ∧ fx < tx ∧ fy < ty))) (fun u => gp_E D A []) A) (cc := cX12_thing) (maxL := 6) (ret := (some .boolean)) (by decide) rfl (Nat.le_of_ble_eq_true rfl) ?_
  intro p e s m below meth c A ls H hx hb hml hr hlocks hts hown hin hK hN hS hP hD hA hl
  have hown : s.vm.findClass RX12 = some m.cls := hown
  have hl : lv_has ls 6 [(0, .ref (ma 200)), (1, .int k), (2, .int fx), (3, .int tx), (4, .int fy), (5, .int ty)] := hl
  have hiX12 : ∀ w ∈ u_ws RX12 TX12 104, w ∈ v_kX12_thing := fun _ h => List.mem_cons_of_mem _ (List.mem_append_right _ h)
  refine lv_iload_n hx hb dX12_thing_0 rfl (lv_at hl 1 rfl) ?_
  refine lv_iconst (v := 0) hx hb dX12_thing_1 (by decide) ?_
  refine lv_bipush (v := 7) hx hb dX12_thing_2 (by decide) ?_
  have hPc := hP.sub (ws' := []) [] rfl
  have hDc := hD.sub (ws' := []) [] (by decide) rfl
  have hFc := va_free (wc := []) hD hS hA [] rfl
  refine va_calli (va_runS (As := [.int k, .int 0, .int 7]) (rest := []) ⟨hx, hb, hml, hown, hts⟩ (kX12_isIn l D cy H.size k 0 7) (va_cwS 3 hts g_kX12_thing_kX12_isIn_0 rfl rfl rfl (by decide +kernel) ⟨Nat.le_of_ble_eq_true rfl, Nat.le_of_ble_eq_true rfl⟩) (gp_preS hPc hDc hK hN) rfl rfl hl.1 rfl (lv_room (Nat.le_of_ble_eq_true rfl)) dX12_thing_4 ⟨Nat.le_of_ble_eq_true rfl, Nat.le_of_ble_eq_true rfl⟩) hS (fun q _ h => hFc q h) hFc (fun r_1 u t H locs ht hvm hw hB hz1 hk1 hS => ?_)
  obtain ⟨hP, hD⟩ := gp_join (wr := [((ma 200), mo_0 ma), ((ma 20), .inl (cy 3, 8, .inl (fun _ => 0))), ((ma 21), .inl (cy 1, 8, .inl (fun _ => 0))), ((ma 22), .inl (cy 1, 8, .inl (fun _ => 0))), ((ma 23), .inl (cy 1, 8, .inl (fun _ => 0))), ((ma 24), .inl (cy 1, 8, .inl (fun _ => 0)))]) (w1 := []) hP hD [] [0, 1, 2, 3, 4, 5] rfl rfl (by decide) (by decide) hk1 hFc ht hB
  have hP : va_P D vwCl [((ma 200), mo_0 ma), ((ma 20), .inl (cy 3, 8, .inl (fun _ => 0))), ((ma 21), .inl (cy 1, 8, .inl (fun _ => 0))), ((ma 22), .inl (cy 1, 8, .inl (fun _ => 0))), ((ma 23), .inl (cy 1, 8, .inl (fun _ => 0))), ((ma 24), .inl (cy 1, 8, .inl (fun _ => 0)))] H := hP
  have hD : va_D A [((ma 200), mo_0 ma), ((ma 20), .inl (cy 3, 8, .inl (fun _ => 0))), ((ma 21), .inl (cy 1, 8, .inl (fun _ => 0))), ((ma 22), .inl (cy 1, 8, .inl (fun _ => 0))), ((ma 23), .inl (cy 1, 8, .inl (fun _ => 0))), ((ma 24), .inl (cy 1, 8, .inl (fun _ => 0)))] := hD
  rcases hw with ⟨rfl, p_2⟩ | ⟨rfl, p_2⟩
  · refine lv_if_eq (tgt := 40) hx hb dX12_thing_7 (by decide) (fun c_3 => absurd c_3 (by decide)) (fun c_3 => ?_)
    refine lv_iload_n hx hb dX12_thing_10 rfl (lv_at hl 2 rfl) ?_
    refine lv_iload hx hb dX12_thing_11 (lv_at hl 4 rfl) ?_
    have hPc := hP.sub (ws' := []) [] rfl
    have hDc := hD.sub (ws' := []) [] (by decide) rfl
    have hFc := va_free (wc := []) hD hS hA [] rfl
    refine va_calli (va_runS (As := [.int fx, .int fy]) (rest := []) ⟨hx, hb, hml, hown, hts⟩ (kX12_isPlace l D cy H.size fx fy) (va_cwS 2 hts g_kX12_thing_kX12_isPlace_1 rfl rfl rfl (by decide +kernel) ⟨Nat.le_of_ble_eq_true rfl, Nat.le_of_ble_eq_true rfl⟩) (gp_preS hPc hDc hK hN) rfl rfl hl.1 rfl (lv_room (Nat.le_of_ble_eq_true rfl)) dX12_thing_13 ⟨Nat.le_of_ble_eq_true rfl, Nat.le_of_ble_eq_true rfl⟩) hS (fun q _ h => hFc q h) hFc (fun r_4 u t H locs ht hvm hw hB hz1 hk1 hS => ?_)
    obtain ⟨hP, hD⟩ := gp_join (wr := [((ma 200), mo_0 ma), ((ma 20), .inl (cy 3, 8, .inl (fun _ => 0))), ((ma 21), .inl (cy 1, 8, .inl (fun _ => 0))), ((ma 22), .inl (cy 1, 8, .inl (fun _ => 0))), ((ma 23), .inl (cy 1, 8, .inl (fun _ => 0))), ((ma 24), .inl (cy 1, 8, .inl (fun _ => 0)))]) (w1 := []) hP hD [] [0, 1, 2, 3, 4, 5] rfl rfl (by decide) (by decide) hk1 hFc ht hB
    have hP : va_P D vwCl [((ma 200), mo_0 ma), ((ma 20), .inl (cy 3, 8, .inl (fun _ => 0))), ((ma 21), .inl (cy 1, 8, .inl (fun _ => 0))), ((ma 22), .inl (cy 1, 8, .inl (fun _ => 0))), ((ma 23), .inl (cy 1, 8, .inl (fun _ => 0))), ((ma 24), .inl (cy 1, 8, .inl (fun _ => 0)))] H := hP
    have hD : va_D A [((ma 200), mo_0 ma), ((ma 20), .inl (cy 3, 8, .inl (fun _ => 0))), ((ma 21), .inl (cy 1, 8, .inl (fun _ => 0))), ((ma 22), .inl (cy 1, 8, .inl (fun _ => 0))), ((ma 23), .inl (cy 1, 8, .inl (fun _ => 0))), ((ma 24), .inl (cy 1, 8, .inl (fun _ => 0)))] := hD
    rcases hw with ⟨rfl, p_5⟩ | ⟨rfl, p_5⟩
    · refine lv_if_eq (tgt := 40) hx hb dX12_thing_16 (by decide) (fun c_6 => absurd c_6 (by decide)) (fun c_6 => ?_)
      refine lv_iload_n hx hb dX12_thing_19 rfl (lv_at hl 3 rfl) ?_
      refine lv_iload hx hb dX12_thing_20 (lv_at hl 5 rfl) ?_
      have hPc := hP.sub (ws' := []) [] rfl
      have hDc := hD.sub (ws' := []) [] (by decide) rfl
      have hFc := va_free (wc := []) hD hS hA [] rfl
      refine va_calli (va_runS (As := [.int tx, .int ty]) (rest := []) ⟨hx, hb, hml, hown, hts⟩ (kX12_isPlace l D cy H.size tx ty) (va_cwS 2 hts g_kX12_thing_kX12_isPlace_1 rfl rfl rfl (by decide +kernel) ⟨Nat.le_of_ble_eq_true rfl, Nat.le_of_ble_eq_true rfl⟩) (gp_preS hPc hDc hK hN) rfl rfl hl.1 rfl (lv_room (Nat.le_of_ble_eq_true rfl)) dX12_thing_22 ⟨Nat.le_of_ble_eq_true rfl, Nat.le_of_ble_eq_true rfl⟩) hS (fun q _ h => hFc q h) hFc (fun r_7 u t H locs ht hvm hw hB hz1 hk1 hS => ?_)
      obtain ⟨hP, hD⟩ := gp_join (wr := [((ma 200), mo_0 ma), ((ma 20), .inl (cy 3, 8, .inl (fun _ => 0))), ((ma 21), .inl (cy 1, 8, .inl (fun _ => 0))), ((ma 22), .inl (cy 1, 8, .inl (fun _ => 0))), ((ma 23), .inl (cy 1, 8, .inl (fun _ => 0))), ((ma 24), .inl (cy 1, 8, .inl (fun _ => 0)))]) (w1 := []) hP hD [] [0, 1, 2, 3, 4, 5] rfl rfl (by decide) (by decide) hk1 hFc ht hB
      have hP : va_P D vwCl [((ma 200), mo_0 ma), ((ma 20), .inl (cy 3, 8, .inl (fun _ => 0))), ((ma 21), .inl (cy 1, 8, .inl (fun _ => 0))), ((ma 22), .inl (cy 1, 8, .inl (fun _ => 0))), ((ma 23), .inl (cy 1, 8, .inl (fun _ => 0))), ((ma 24), .inl (cy 1, 8, .inl (fun _ => 0)))] H := hP
      have hD : va_D A [((ma 200), mo_0 ma), ((ma 20), .inl (cy 3, 8, .inl (fun _ => 0))), ((ma 21), .inl (cy 1, 8, .inl (fun _ => 0))), ((ma 22), .inl (cy 1, 8, .inl (fun _ => 0))), ((ma 23), .inl (cy 1, 8, .inl (fun _ => 0))), ((ma 24), .inl (cy 1, 8, .inl (fun _ => 0)))] := hD
      rcases hw with ⟨rfl, p_8⟩ | ⟨rfl, p_8⟩
      · refine lv_if_eq (tgt := 40) hx hb dX12_thing_25 (by decide) (fun c_9 => absurd c_9 (by decide)) (fun c_9 => ?_)
        refine lv_iload_n hx hb dX12_thing_28 rfl (lv_at hl 2 rfl) ?_
        refine lv_iload_n hx hb dX12_thing_29 rfl (lv_at hl 3 rfl) ?_
        refine lv_icmp_ge (tgt := 40) hx hb dX12_thing_30 (by decide) (fun c_10 => ?_) (fun c_10 => ?_)
        · refine lv_iconst (v := 0) hx hb dX12_thing_40 (by decide) ?_
          exact W.zret (v := 0) hx hb hr narrow_b0 (fun t ht hW => ⟨⟨0, (), rfl, Or.inr ⟨rfl, (lf_kX12_thing_1 ma k fx tx fy ty p_2 p_5 p_8 c_10)⟩, gp_end ht (hP.sub (ws' := []) [] rfl) (hD.sub (ws' := []) [] (by decide) rfl)⟩, hS.F ht⟩) hS.2.2 dX12_thing_41
        · refine lv_iload hx hb dX12_thing_33 (lv_at hl 4 rfl) ?_
          refine lv_iload hx hb dX12_thing_35 (lv_at hl 5 rfl) ?_
          refine lv_icmp_lt (tgt := 42) hx hb dX12_thing_37 (by decide) (fun c_11 => ?_) (fun c_11 => ?_)
          · refine lv_aload_n hx hb dX12_thing_42 rfl (lv_at hl 0 rfl) ?_
            refine va_get (D := D) (ci := 12) (v := .ref (ma 20)) (C := RX12) (T := TX12) (N := 104) hx hb hts hiX12 hown hK hP 0 rfl rfl 20 (by decide) (hts (.fieldLink RX12 78 "GhostPaneModel" "isThing" "[Z") (List.mem_of_getElem? (i := 8) rfl)) (fun _ h9 => h9) rfl dX12_thing_43 ?_
            refine lv_iload_n hx hb dX12_thing_46 rfl (lv_at hl 1 rfl) ?_
            refine lv_iconst (v := 1) hx hb dX12_thing_47 (by decide) ?_
            refine va_zast hx hb hK hP hD hS 1 3 rfl rfl (gp_in p_2 (by decide)) dX12_thing_48 (fun H locs hP hD hS => ?_)
            have hP : va_P D vwCl [((ma 200), mo_0 ma), ((ma 20), .inl (cy 3, 8, .inl (upd (fun _ => 0) k.toNatClampNeg 1))), ((ma 21), .inl (cy 1, 8, .inl (fun _ => 0))), ((ma 22), .inl (cy 1, 8, .inl (fun _ => 0))), ((ma 23), .inl (cy 1, 8, .inl (fun _ => 0))), ((ma 24), .inl (cy 1, 8, .inl (fun _ => 0)))] H := hP
            have hD : va_D A [((ma 200), mo_0 ma), ((ma 20), .inl (cy 3, 8, .inl (upd (fun _ => 0) k.toNatClampNeg 1))), ((ma 21), .inl (cy 1, 8, .inl (fun _ => 0))), ((ma 22), .inl (cy 1, 8, .inl (fun _ => 0))), ((ma 23), .inl (cy 1, 8, .inl (fun _ => 0))), ((ma 24), .inl (cy 1, 8, .inl (fun _ => 0)))] := hD
            refine lv_aload_n hx hb dX12_thing_49 rfl (lv_at hl 0 rfl) ?_
            refine va_get (D := D) (ci := 12) (v := .ref (ma 21)) (C := RX12) (T := TX12) (N := 104) hx hb hts hiX12 hown hK hP 0 rfl rfl 21 (by decide) (hts (.fieldLink RX12 81 "GhostPaneModel" "fromX" "[I") (List.mem_of_getElem? (i := 9) rfl)) (fun _ h9 => h9) rfl dX12_thing_50 ?_
            refine lv_iload_n hx hb dX12_thing_53 rfl (lv_at hl 1 rfl) ?_
            refine lv_iload_n hx hb dX12_thing_54 rfl (lv_at hl 2 rfl) ?_
            refine va_iast hx hb hK hP hD hS 2 1 rfl rfl (gp_in p_2 (by decide)) dX12_thing_55 (fun H locs hP hD hS => ?_)
            have hP : va_P D vwCl [((ma 200), mo_0 ma), ((ma 20), .inl (cy 3, 8, .inl (upd (fun _ => 0) k.toNatClampNeg 1))), ((ma 21), .inl (cy 1, 8, .inl (upd (fun _ => 0) k.toNatClampNeg fx))), ((ma 22), .inl (cy 1, 8, .inl (fun _ => 0))), ((ma 23), .inl (cy 1, 8, .inl (fun _ => 0))), ((ma 24), .inl (cy 1, 8, .inl (fun _ => 0)))] H := hP
            have hD : va_D A [((ma 200), mo_0 ma), ((ma 20), .inl (cy 3, 8, .inl (upd (fun _ => 0) k.toNatClampNeg 1))), ((ma 21), .inl (cy 1, 8, .inl (upd (fun _ => 0) k.toNatClampNeg fx))), ((ma 22), .inl (cy 1, 8, .inl (fun _ => 0))), ((ma 23), .inl (cy 1, 8, .inl (fun _ => 0))), ((ma 24), .inl (cy 1, 8, .inl (fun _ => 0)))] := hD
            refine lv_aload_n hx hb dX12_thing_56 rfl (lv_at hl 0 rfl) ?_
            refine va_get (D := D) (ci := 12) (v := .ref (ma 22)) (C := RX12) (T := TX12) (N := 104) hx hb hts hiX12 hown hK hP 0 rfl rfl 22 (by decide) (hts (.fieldLink RX12 84 "GhostPaneModel" "toX" "[I") (List.mem_of_getElem? (i := 10) rfl)) (fun _ h9 => h9) rfl dX12_thing_57 ?_
            refine lv_iload_n hx hb dX12_thing_60 rfl (lv_at hl 1 rfl) ?_
            refine lv_iload_n hx hb dX12_thing_61 rfl (lv_at hl 3 rfl) ?_
            refine va_iast hx hb hK hP hD hS 3 1 rfl rfl (gp_in p_2 (by decide)) dX12_thing_62 (fun H locs hP hD hS => ?_)
            have hP : va_P D vwCl [((ma 200), mo_0 ma), ((ma 20), .inl (cy 3, 8, .inl (upd (fun _ => 0) k.toNatClampNeg 1))), ((ma 21), .inl (cy 1, 8, .inl (upd (fun _ => 0) k.toNatClampNeg fx))), ((ma 22), .inl (cy 1, 8, .inl (upd (fun _ => 0) k.toNatClampNeg tx))), ((ma 23), .inl (cy 1, 8, .inl (fun _ => 0))), ((ma 24), .inl (cy 1, 8, .inl (fun _ => 0)))] H := hP
            have hD : va_D A [((ma 200), mo_0 ma), ((ma 20), .inl (cy 3, 8, .inl (upd (fun _ => 0) k.toNatClampNeg 1))), ((ma 21), .inl (cy 1, 8, .inl (upd (fun _ => 0) k.toNatClampNeg fx))), ((ma 22), .inl (cy 1, 8, .inl (upd (fun _ => 0) k.toNatClampNeg tx))), ((ma 23), .inl (cy 1, 8, .inl (fun _ => 0))), ((ma 24), .inl (cy 1, 8, .inl (fun _ => 0)))] := hD
            refine lv_aload_n hx hb dX12_thing_63 rfl (lv_at hl 0 rfl) ?_
            refine va_get (D := D) (ci := 12) (v := .ref (ma 23)) (C := RX12) (T := TX12) (N := 104) hx hb hts hiX12 hown hK hP 0 rfl rfl 23 (by decide) (hts (.fieldLink RX12 87 "GhostPaneModel" "fromY" "[I") (List.mem_of_getElem? (i := 11) rfl)) (fun _ h9 => h9) rfl dX12_thing_64 ?_
            refine lv_iload_n hx hb dX12_thing_67 rfl (lv_at hl 1 rfl) ?_
            refine lv_iload hx hb dX12_thing_68 (lv_at hl 4 rfl) ?_
            refine va_iast hx hb hK hP hD hS 4 1 rfl rfl (gp_in p_2 (by decide)) dX12_thing_70 (fun H locs hP hD hS => ?_)
            have hP : va_P D vwCl [((ma 200), mo_0 ma), ((ma 20), .inl (cy 3, 8, .inl (upd (fun _ => 0) k.toNatClampNeg 1))), ((ma 21), .inl (cy 1, 8, .inl (upd (fun _ => 0) k.toNatClampNeg fx))), ((ma 22), .inl (cy 1, 8, .inl (upd (fun _ => 0) k.toNatClampNeg tx))), ((ma 23), .inl (cy 1, 8, .inl (upd (fun _ => 0) k.toNatClampNeg fy))), ((ma 24), .inl (cy 1, 8, .inl (fun _ => 0)))] H := hP
            have hD : va_D A [((ma 200), mo_0 ma), ((ma 20), .inl (cy 3, 8, .inl (upd (fun _ => 0) k.toNatClampNeg 1))), ((ma 21), .inl (cy 1, 8, .inl (upd (fun _ => 0) k.toNatClampNeg fx))), ((ma 22), .inl (cy 1, 8, .inl (upd (fun _ => 0) k.toNatClampNeg tx))), ((ma 23), .inl (cy 1, 8, .inl (upd (fun _ => 0) k.toNatClampNeg fy))), ((ma 24), .inl (cy 1, 8, .inl (fun _ => 0)))] := hD
            refine lv_aload_n hx hb dX12_thing_71 rfl (lv_at hl 0 rfl) ?_
            refine va_get (D := D) (ci := 12) (v := .ref (ma 24)) (C := RX12) (T := TX12) (N := 104) hx hb hts hiX12 hown hK hP 0 rfl rfl 24 (by decide) (hts (.fieldLink RX12 90 "GhostPaneModel" "toY" "[I") (List.mem_of_getElem? (i := 12) rfl)) (fun _ h9 => h9) rfl dX12_thing_72 ?_
            refine lv_iload_n hx hb dX12_thing_75 rfl (lv_at hl 1 rfl) ?_
            refine lv_iload hx hb dX12_thing_76 (lv_at hl 5 rfl) ?_
            refine va_iast hx hb hK hP hD hS 5 1 rfl rfl (gp_in p_2 (by decide)) dX12_thing_78 (fun H locs hP hD hS => ?_)
            have hP : va_P D vwCl [((ma 200), mo_0 ma), ((ma 20), .inl (cy 3, 8, .inl (upd (fun _ => 0) k.toNatClampNeg 1))), ((ma 21), .inl (cy 1, 8, .inl (upd (fun _ => 0) k.toNatClampNeg fx))), ((ma 22), .inl (cy 1, 8, .inl (upd (fun _ => 0) k.toNatClampNeg tx))), ((ma 23), .inl (cy 1, 8, .inl (upd (fun _ => 0) k.toNatClampNeg fy))), ((ma 24), .inl (cy 1, 8, .inl (upd (fun _ => 0) k.toNatClampNeg ty)))] H := hP
            have hD : va_D A [((ma 200), mo_0 ma), ((ma 20), .inl (cy 3, 8, .inl (upd (fun _ => 0) k.toNatClampNeg 1))), ((ma 21), .inl (cy 1, 8, .inl (upd (fun _ => 0) k.toNatClampNeg fx))), ((ma 22), .inl (cy 1, 8, .inl (upd (fun _ => 0) k.toNatClampNeg tx))), ((ma 23), .inl (cy 1, 8, .inl (upd (fun _ => 0) k.toNatClampNeg fy))), ((ma 24), .inl (cy 1, 8, .inl (upd (fun _ => 0) k.toNatClampNeg ty)))] := hD
            refine lv_iconst (v := 1) hx hb dX12_thing_79 (by decide) ?_
            exact W.zret (v := 1) hx hb hr narrow_b1 (fun t ht hW => ⟨⟨1, (), rfl, Or.inl ⟨rfl, (lf_kX12_thing_2 ma k fx tx fy ty p_2 p_5 p_8 c_10 c_11)⟩, gp_end ht (hP.sub (ws' := []) [] rfl) (hD.sub (ws' := []) [] (by decide) rfl)⟩, hS.F ht⟩) hS.2.2 dX12_thing_80
          · refine lv_iconst (v := 0) hx hb dX12_thing_40 (by decide) ?_
            exact W.zret (v := 0) hx hb hr narrow_b0 (fun t ht hW => ⟨⟨0, (), rfl, Or.inr ⟨rfl, (lf_kX12_thing_3 ma k fx tx fy ty p_2 p_5 p_8 c_10 c_11)⟩, gp_end ht (hP.sub (ws' := []) [] rfl) (hD.sub (ws' := []) [] (by decide) rfl)⟩, hS.F ht⟩) hS.2.2 dX12_thing_41
      · refine lv_if_eq (tgt := 40) hx hb dX12_thing_25 (by decide) (fun c_12 => ?_) (fun c_12 => absurd (by decide) c_12)
        refine lv_iconst (v := 0) hx hb dX12_thing_40 (by decide) ?_
        exact W.zret (v := 0) hx hb hr narrow_b0 (fun t ht hW => ⟨⟨0, (), rfl, Or.inr ⟨rfl, (lf_kX12_thing_4 ma k fx tx fy ty p_2 p_5 p_8)⟩, gp_end ht (hP.sub (ws' := []) [] rfl) (hD.sub (ws' := []) [] (by decide) rfl)⟩, hS.F ht⟩) hS.2.2 dX12_thing_41
    · refine lv_if_eq (tgt := 40) hx hb dX12_thing_16 (by decide) (fun c_13 => ?_) (fun c_13 => absurd (by decide) c_13)
      refine lv_iconst (v := 0) hx hb dX12_thing_40 (by decide) ?_
      exact W.zret (v := 0) hx hb hr narrow_b0 (fun t ht hW => ⟨⟨0, (), rfl, Or.inr ⟨rfl, (lf_kX12_thing_5 ma k fx tx fy ty p_2 p_5)⟩, gp_end ht (hP.sub (ws' := []) [] rfl) (hD.sub (ws' := []) [] (by decide) rfl)⟩, hS.F ht⟩) hS.2.2 dX12_thing_41
  · refine lv_if_eq (tgt := 40) hx hb dX12_thing_7 (by decide) (fun c_14 => ?_) (fun c_14 => absurd (by decide) c_14)
    refine lv_iconst (v := 0) hx hb dX12_thing_40 (by decide) ?_
    exact W.zret (v := 0) hx hb hr narrow_b0 (fun t ht hW => ⟨⟨0, (), rfl, Or.inr ⟨rfl, (lf_kX12_thing_6 ma k fx tx fy ty p_2)⟩, gp_end ht (hP.sub (ws' := []) [] rfl) (hD.sub (ws' := []) [] (by decide) rfl)⟩, hS.F ht⟩) hS.2.2 dX12_thing_41

def v_kX12_isThe : List Cond := .code yX12_isThe cX12_isThe 2 (some .boolean) :: ([.code yX12_isIn cX12_isIn 3 (some .boolean), .methodLink RX12 3 yX12_isIn, .static yX12_isIn, .initialized RX12, .fieldLink RX12 49 "GhostPaneModel" "isSeat" "[Z"] ++ wsX120)
set_option maxRecDepth 20000 in
theorem gg_kX12_isThe_kX12_isIn : GoodIn v_kX12_isThe v_kX12_isIn := goodIn_r (.code yX12_isIn cX12_isIn 3 (some .boolean) :: []) [1] rfl (by decide +kernel)
set_option maxRecDepth 20000 in
theorem g_kX12_isThe_kX12_isIn_0 : GoodIn v_kX12_isThe (va_wsS RX12 3 yX12_isIn v_kX12_isIn) := goodIn_app (goodIn_r [.methodLink RX12 3 yX12_isIn, .static yX12_isIn, .initialized RX12] [2, 3, 4] rfl (by decide +kernel)) gg_kX12_isThe_kX12_isIn
set_option maxHeartbeats 4000000 in
set_option maxRecDepth 100000 in
theorem kX12_isThe (l : Launch) (D : va_G) (cy : Nat → ClassId) (sz : Nat) (ma : Nat → Nat) (k : Int32) : Met l yX12_isThe v_kX12_isThe ({ frames := 1, cells := 0, slots := 0, locals := 22 } : Room) (va_Pc [.ref (ma 200), .int k] (gp_B D cy sz [((ma 200), mo_0 ma), ((ma 11), .inl (cy 3, 8, .inl (fun _ => 0)))])) (va_Qi (fun (r : Int32) (u : Unit) => r = 0) (fun u => gp_E D (va_A [((ma 200), mo_0 ma), ((ma 11), .inl (cy 3, 8, .inl (fun _ => 0)))] sz) [((ma 200), mo_0 ma), ((ma 11), .inl (cy 3, 8, .inl (fun _ => 0)))]) (va_A [((ma 200), mo_0 ma), ((ma 11), .inl (cy 3, 8, .inl (fun _ => 0)))] sz)) 0 0 (va_A [((ma 200), mo_0 ma), ((ma 11), .inl (cy 3, 8, .inl (fun _ => 0)))] sz) := by
  refine gp_met (Qc := fun A => va_Qi (fun (r : Int32) (u : Unit) => r = 0) (fun u => gp_E D A [((ma 200), mo_0 ma), ((ma 11), .inl (cy 3, 8, .inl (fun _ => 0)))]) A) (cc := cX12_isThe) (maxL := 2) (ret := (some .boolean)) (by decide) rfl (Nat.le_of_ble_eq_true rfl) ?_
  intro p e s m below meth c A ls H hx hb hml hr hlocks hts hown hin hK hN hS hP hD hA hl
  have hown : s.vm.findClass RX12 = some m.cls := hown
  have hl : lv_has ls 2 [(0, .ref (ma 200)), (1, .int k)] := hl
  have hiX12 : ∀ w ∈ u_ws RX12 TX12 104, w ∈ v_kX12_isThe := fun _ h => List.mem_cons_of_mem _ (List.mem_append_right _ h)
  refine lv_iload_n hx hb dX12_isThe_0 rfl (lv_at hl 1 rfl) ?_
  refine lv_iconst (v := 0) hx hb dX12_isThe_1 (by decide) ?_
  refine lv_bipush (v := 7) hx hb dX12_isThe_2 (by decide) ?_
  have hPc := hP.sub (ws' := []) [] rfl
  have hDc := hD.sub (ws' := []) [] (by decide) rfl
  have hFc := va_free (wc := []) hD hS hA [] rfl
  refine va_calli (va_runS (As := [.int k, .int 0, .int 7]) (rest := []) ⟨hx, hb, hml, hown, hts⟩ (kX12_isIn l D cy H.size k 0 7) (va_cwS 3 hts g_kX12_isThe_kX12_isIn_0 rfl rfl rfl (by decide +kernel) ⟨Nat.le_of_ble_eq_true rfl, Nat.le_of_ble_eq_true rfl⟩) (gp_preS hPc hDc hK hN) rfl rfl hl.1 rfl (lv_room (Nat.le_of_ble_eq_true rfl)) dX12_isThe_4 ⟨Nat.le_of_ble_eq_true rfl, Nat.le_of_ble_eq_true rfl⟩) hS (fun q _ h => hFc q h) hFc (fun r_1 u t H locs ht hvm hw hB hz1 hk1 hS => ?_)
  obtain ⟨hP, hD⟩ := gp_join (wr := [((ma 200), mo_0 ma), ((ma 11), .inl (cy 3, 8, .inl (fun _ => 0)))]) (w1 := []) hP hD [] [0, 1] rfl rfl (by decide) (by decide) hk1 hFc ht hB
  have hP : va_P D vwCl [((ma 200), mo_0 ma), ((ma 11), .inl (cy 3, 8, .inl (fun _ => 0)))] H := hP
  have hD : va_D A [((ma 200), mo_0 ma), ((ma 11), .inl (cy 3, 8, .inl (fun _ => 0)))] := hD
  rcases hw with ⟨rfl, p_2⟩ | ⟨rfl, p_2⟩
  · refine lv_if_eq (tgt := 23) hx hb dX12_isThe_7 (by decide) (fun c_3 => absurd c_3 (by decide)) (fun c_3 => ?_)
    refine lv_aload_n hx hb dX12_isThe_10 rfl (lv_at hl 0 rfl) ?_
    refine va_get (D := D) (ci := 12) (v := .ref (ma 11)) (C := RX12) (T := TX12) (N := 104) hx hb hts hiX12 hown hK hP 0 rfl rfl 11 (by decide) (hts (.fieldLink RX12 49 "GhostPaneModel" "isSeat" "[Z") (List.mem_of_getElem? (i := 5) rfl)) (fun _ h9 => h9) rfl dX12_isThe_11 ?_
    refine lv_iload_n hx hb dX12_isThe_14 rfl (lv_at hl 1 rfl) ?_
    refine va_zald hx hb hK hP 1 3 rfl rfl (gp_in p_2 (by decide)) dX12_isThe_15 ?_
    refine gp_ni 0 rfl ?_
    refine lv_if_eq (tgt := 23) hx hb dX12_isThe_16 (by decide) (fun c_4 => ?_) (fun c_4 => absurd (by decide) c_4)
    refine lv_iconst (v := 0) hx hb dX12_isThe_23 (by decide) ?_
    exact W.zret (v := 0) hx hb hr narrow_b0 (fun t ht hW => ⟨⟨0, (), rfl, rfl, gp_end ht (hP.sub (ws' := [((ma 200), mo_0 ma), ((ma 11), .inl (cy 3, 8, .inl (fun _ => 0)))]) [0, 1] rfl) (hD.sub (ws' := [((ma 200), mo_0 ma), ((ma 11), .inl (cy 3, 8, .inl (fun _ => 0)))]) [0, 1] (by decide) rfl)⟩, hS.F ht⟩) hS.2.2 dX12_isThe_24
  · refine lv_if_eq (tgt := 23) hx hb dX12_isThe_7 (by decide) (fun c_5 => ?_) (fun c_5 => absurd (by decide) c_5)
    refine lv_iconst (v := 0) hx hb dX12_isThe_23 (by decide) ?_
    exact W.zret (v := 0) hx hb hr narrow_b0 (fun t ht hW => ⟨⟨0, (), rfl, rfl, gp_end ht (hP.sub (ws' := [((ma 200), mo_0 ma), ((ma 11), .inl (cy 3, 8, .inl (fun _ => 0)))]) [0, 1] rfl) (hD.sub (ws' := [((ma 200), mo_0 ma), ((ma 11), .inl (cy 3, 8, .inl (fun _ => 0)))]) [0, 1] (by decide) rfl)⟩, hS.F ht⟩) hS.2.2 dX12_isThe_24

def v_kX12_hasWall : List Cond := .code yX12_hasWall cX12_hasWall 2 (some .boolean) :: ([.code yX12_isIn cX12_isIn 3 (some .boolean), .methodLink RX12 3 yX12_isIn, .static yX12_isIn, .initialized RX12, .fieldLink RX12 60 "GhostPaneModel" "isWall" "[Z"] ++ wsX120)
set_option maxRecDepth 20000 in
theorem gg_kX12_hasWall_kX12_isIn : GoodIn v_kX12_hasWall v_kX12_isIn := goodIn_r (.code yX12_isIn cX12_isIn 3 (some .boolean) :: []) [1] rfl (by decide +kernel)
set_option maxRecDepth 20000 in
theorem g_kX12_hasWall_kX12_isIn_0 : GoodIn v_kX12_hasWall (va_wsS RX12 3 yX12_isIn v_kX12_isIn) := goodIn_app (goodIn_r [.methodLink RX12 3 yX12_isIn, .static yX12_isIn, .initialized RX12] [2, 3, 4] rfl (by decide +kernel)) gg_kX12_hasWall_kX12_isIn
set_option maxHeartbeats 4000000 in
set_option maxRecDepth 100000 in
theorem kX12_hasWall (l : Launch) (D : va_G) (cy : Nat → ClassId) (sz : Nat) (ma : Nat → Nat) (k : Int32) : Met l yX12_hasWall v_kX12_hasWall ({ frames := 1, cells := 0, slots := 0, locals := 22 } : Room) (va_Pc [.ref (ma 200), .int k] (gp_B D cy sz [((ma 200), mo_0 ma), ((ma 14), .inl (cy 3, 12, .inl (fun _ => 0)))])) (va_Qi (fun (r : Int32) (u : Unit) => r = 0) (fun u => gp_E D (va_A [((ma 200), mo_0 ma), ((ma 14), .inl (cy 3, 12, .inl (fun _ => 0)))] sz) [((ma 200), mo_0 ma), ((ma 14), .inl (cy 3, 12, .inl (fun _ => 0)))]) (va_A [((ma 200), mo_0 ma), ((ma 14), .inl (cy 3, 12, .inl (fun _ => 0)))] sz)) 0 0 (va_A [((ma 200), mo_0 ma), ((ma 14), .inl (cy 3, 12, .inl (fun _ => 0)))] sz) := by
  refine gp_met (Qc := fun A => va_Qi (fun (r : Int32) (u : Unit) => r = 0) (fun u => gp_E D A [((ma 200), mo_0 ma), ((ma 14), .inl (cy 3, 12, .inl (fun _ => 0)))]) A) (cc := cX12_hasWall) (maxL := 2) (ret := (some .boolean)) (by decide) rfl (Nat.le_of_ble_eq_true rfl) ?_
  intro p e s m below meth c A ls H hx hb hml hr hlocks hts hown hin hK hN hS hP hD hA hl
  have hown : s.vm.findClass RX12 = some m.cls := hown
  have hl : lv_has ls 2 [(0, .ref (ma 200)), (1, .int k)] := hl
  have hiX12 : ∀ w ∈ u_ws RX12 TX12 104, w ∈ v_kX12_hasWall := fun _ h => List.mem_cons_of_mem _ (List.mem_append_right _ h)
  refine lv_iload_n hx hb dX12_hasWall_0 rfl (lv_at hl 1 rfl) ?_
  refine lv_iconst (v := 0) hx hb dX12_hasWall_1 (by decide) ?_
  refine lv_bipush (v := 11) hx hb dX12_hasWall_2 (by decide) ?_
  have hPc := hP.sub (ws' := []) [] rfl
  have hDc := hD.sub (ws' := []) [] (by decide) rfl
  have hFc := va_free (wc := []) hD hS hA [] rfl
  refine va_calli (va_runS (As := [.int k, .int 0, .int 11]) (rest := []) ⟨hx, hb, hml, hown, hts⟩ (kX12_isIn l D cy H.size k 0 11) (va_cwS 3 hts g_kX12_hasWall_kX12_isIn_0 rfl rfl rfl (by decide +kernel) ⟨Nat.le_of_ble_eq_true rfl, Nat.le_of_ble_eq_true rfl⟩) (gp_preS hPc hDc hK hN) rfl rfl hl.1 rfl (lv_room (Nat.le_of_ble_eq_true rfl)) dX12_hasWall_4 ⟨Nat.le_of_ble_eq_true rfl, Nat.le_of_ble_eq_true rfl⟩) hS (fun q _ h => hFc q h) hFc (fun r_1 u t H locs ht hvm hw hB hz1 hk1 hS => ?_)
  obtain ⟨hP, hD⟩ := gp_join (wr := [((ma 200), mo_0 ma), ((ma 14), .inl (cy 3, 12, .inl (fun _ => 0)))]) (w1 := []) hP hD [] [0, 1] rfl rfl (by decide) (by decide) hk1 hFc ht hB
  have hP : va_P D vwCl [((ma 200), mo_0 ma), ((ma 14), .inl (cy 3, 12, .inl (fun _ => 0)))] H := hP
  have hD : va_D A [((ma 200), mo_0 ma), ((ma 14), .inl (cy 3, 12, .inl (fun _ => 0)))] := hD
  rcases hw with ⟨rfl, p_2⟩ | ⟨rfl, p_2⟩
  · refine lv_if_eq (tgt := 23) hx hb dX12_hasWall_7 (by decide) (fun c_3 => absurd c_3 (by decide)) (fun c_3 => ?_)
    refine lv_aload_n hx hb dX12_hasWall_10 rfl (lv_at hl 0 rfl) ?_
    refine va_get (D := D) (ci := 12) (v := .ref (ma 14)) (C := RX12) (T := TX12) (N := 104) hx hb hts hiX12 hown hK hP 0 rfl rfl 14 (by decide) (hts (.fieldLink RX12 60 "GhostPaneModel" "isWall" "[Z") (List.mem_of_getElem? (i := 5) rfl)) (fun _ h9 => h9) rfl dX12_hasWall_11 ?_
    refine lv_iload_n hx hb dX12_hasWall_14 rfl (lv_at hl 1 rfl) ?_
    refine va_zald hx hb hK hP 1 3 rfl rfl (gp_in p_2 (by decide)) dX12_hasWall_15 ?_
    refine gp_ni 0 rfl ?_
    refine lv_if_eq (tgt := 23) hx hb dX12_hasWall_16 (by decide) (fun c_4 => ?_) (fun c_4 => absurd (by decide) c_4)
    refine lv_iconst (v := 0) hx hb dX12_hasWall_23 (by decide) ?_
    exact W.zret (v := 0) hx hb hr narrow_b0 (fun t ht hW => ⟨⟨0, (), rfl, rfl, gp_end ht (hP.sub (ws' := [((ma 200), mo_0 ma), ((ma 14), .inl (cy 3, 12, .inl (fun _ => 0)))]) [0, 1] rfl) (hD.sub (ws' := [((ma 200), mo_0 ma), ((ma 14), .inl (cy 3, 12, .inl (fun _ => 0)))]) [0, 1] (by decide) rfl)⟩, hS.F ht⟩) hS.2.2 dX12_hasWall_24
  · refine lv_if_eq (tgt := 23) hx hb dX12_hasWall_7 (by decide) (fun c_5 => ?_) (fun c_5 => absurd (by decide) c_5)
    refine lv_iconst (v := 0) hx hb dX12_hasWall_23 (by decide) ?_
    exact W.zret (v := 0) hx hb hr narrow_b0 (fun t ht hW => ⟨⟨0, (), rfl, rfl, gp_end ht (hP.sub (ws' := [((ma 200), mo_0 ma), ((ma 14), .inl (cy 3, 12, .inl (fun _ => 0)))]) [0, 1] rfl) (hD.sub (ws' := [((ma 200), mo_0 ma), ((ma 14), .inl (cy 3, 12, .inl (fun _ => 0)))]) [0, 1] (by decide) rfl)⟩, hS.F ht⟩) hS.2.2 dX12_hasWall_24

theorem lf_kX12_gone_1 (ma : Nat → Nat) (w : Int32) (k : Int32) (c_1 : ¬ w = 0) (c_2 : w = 1) : ¬ w = 2 := by
  first | grind | (simp only [sp_in, sp_pl, sp_far, sp_two] at *; grind)
theorem lf_kX12_gone_2 (ma : Nat → Nat) (w : Int32) (k : Int32) (c_1 : w = 0) : ¬ w = 1 := by
  first | grind | (simp only [sp_in, sp_pl, sp_far, sp_two] at *; grind)
theorem lf_kX12_gone_3 (ma : Nat → Nat) (w : Int32) (k : Int32) (c_1 : w = 0) (c_14 : ¬ w = 1) : ¬ w = 2 := by
  first | grind | (simp only [sp_in, sp_pl, sp_far, sp_two] at *; grind)
def v_kX12_gone : List Cond := .code yX12_gone cX12_gone 3 (some .boolean) :: ([.code yX12_isIn cX12_isIn 3 (some .boolean), .methodLink RX12 3 yX12_isIn, .static yX12_isIn, .initialized RX12, .fieldLink RX12 78 "GhostPaneModel" "isThing" "[Z", .code yX12_hasWall cX12_hasWall 2 (some .boolean), .fieldLink RX12 60 "GhostPaneModel" "isWall" "[Z", .methodLink RX12 97 yX12_hasWall, .instanceMethod yX12_hasWall, .selects RX12 yX12_hasWall yX12_hasWall, .code yX12_isThe cX12_isThe 2 (some .boolean), .fieldLink RX12 49 "GhostPaneModel" "isSeat" "[Z", .methodLink RX12 93 yX12_isThe, .instanceMethod yX12_isThe, .selects RX12 yX12_isThe yX12_isThe] ++ wsX120)
set_option maxRecDepth 20000 in
theorem gg_kX12_gone_kX12_isIn : GoodIn v_kX12_gone v_kX12_isIn := goodIn_r (.code yX12_isIn cX12_isIn 3 (some .boolean) :: []) [1] rfl (by decide +kernel)
set_option maxRecDepth 20000 in
theorem g_kX12_gone_kX12_isIn_0 : GoodIn v_kX12_gone (va_wsS RX12 3 yX12_isIn v_kX12_isIn) := goodIn_app (goodIn_r [.methodLink RX12 3 yX12_isIn, .static yX12_isIn, .initialized RX12] [2, 3, 4] rfl (by decide +kernel)) gg_kX12_gone_kX12_isIn
set_option maxRecDepth 20000 in
theorem gg_kX12_gone_kX12_hasWall : GoodIn v_kX12_gone v_kX12_hasWall := goodIn_ca (goodIn_r (.code yX12_hasWall cX12_hasWall 2 (some .boolean) :: [.code yX12_isIn cX12_isIn 3 (some .boolean), .methodLink RX12 3 yX12_isIn, .static yX12_isIn, .initialized RX12, .fieldLink RX12 60 "GhostPaneModel" "isWall" "[Z"]) [6, 1, 2, 3, 4, 7] rfl (by decide +kernel)) (goodIn_sub (fun _ h => List.mem_cons_of_mem _ (List.mem_append_right _ h)) gwX12)
set_option maxRecDepth 20000 in
theorem g_kX12_gone_kX12_hasWall_1 : GoodIn v_kX12_gone (wsV RX12 97 RX12 yX12_hasWall v_kX12_hasWall) := goodIn_app (goodIn_r [.methodLink RX12 97 yX12_hasWall, .instanceMethod yX12_hasWall, .selects RX12 yX12_hasWall yX12_hasWall, .initialized RX12] [8, 9, 10, 4] rfl (by decide +kernel)) gg_kX12_gone_kX12_hasWall
set_option maxRecDepth 20000 in
theorem gg_kX12_gone_kX12_isThe : GoodIn v_kX12_gone v_kX12_isThe := goodIn_ca (goodIn_r (.code yX12_isThe cX12_isThe 2 (some .boolean) :: [.code yX12_isIn cX12_isIn 3 (some .boolean), .methodLink RX12 3 yX12_isIn, .static yX12_isIn, .initialized RX12, .fieldLink RX12 49 "GhostPaneModel" "isSeat" "[Z"]) [11, 1, 2, 3, 4, 12] rfl (by decide +kernel)) (goodIn_sub (fun _ h => List.mem_cons_of_mem _ (List.mem_append_right _ h)) gwX12)
set_option maxRecDepth 20000 in
theorem g_kX12_gone_kX12_isThe_2 : GoodIn v_kX12_gone (wsV RX12 93 RX12 yX12_isThe v_kX12_isThe) := goodIn_app (goodIn_r [.methodLink RX12 93 yX12_isThe, .instanceMethod yX12_isThe, .selects RX12 yX12_isThe yX12_isThe, .initialized RX12] [13, 14, 15, 4] rfl (by decide +kernel)) gg_kX12_gone_kX12_isThe
set_option maxHeartbeats 4000000 in
set_option maxRecDepth 100000 in
theorem kX12_gone (l : Launch) (D : va_G) (cy : Nat → ClassId) (sz : Nat) (ma : Nat → Nat) (w : Int32) (k : Int32) : Met l yX12_gone v_kX12_gone ({ frames := 2, cells := 0, slots := 0, locals := 43 } : Room) (va_Pc [.ref (ma 200), .int w, .int k] (gp_B D cy sz [((ma 200), mo_0 ma), ((ma 11), .inl (cy 3, 8, .inl (fun _ => 0))), ((ma 14), .inl (cy 3, 12, .inl (fun _ => 0))), ((ma 20), .inl (cy 3, 8, .inl (fun _ => 0)))])) (va_Qi (fun (r : Int32) (u : Unit) => r = 0) (fun u => gp_E D (va_A [((ma 200), mo_0 ma), ((ma 11), .inl (cy 3, 8, .inl (fun _ => 0))), ((ma 14), .inl (cy 3, 12, .inl (fun _ => 0))), ((ma 20), .inl (cy 3, 8, .inl (fun _ => 0)))] sz) []) (va_A [((ma 200), mo_0 ma), ((ma 11), .inl (cy 3, 8, .inl (fun _ => 0))), ((ma 14), .inl (cy 3, 12, .inl (fun _ => 0))), ((ma 20), .inl (cy 3, 8, .inl (fun _ => 0)))] sz)) 0 0 (va_A [((ma 200), mo_0 ma), ((ma 11), .inl (cy 3, 8, .inl (fun _ => 0))), ((ma 14), .inl (cy 3, 12, .inl (fun _ => 0))), ((ma 20), .inl (cy 3, 8, .inl (fun _ => 0)))] sz) := by
  refine gp_met (Qc := fun A => va_Qi (fun (r : Int32) (u : Unit) => r = 0) (fun u => gp_E D A []) A) (cc := cX12_gone) (maxL := 3) (ret := (some .boolean)) (by decide) rfl (Nat.le_of_ble_eq_true rfl) ?_
  intro p e s m below meth c A ls H hx hb hml hr hlocks hts hown hin hK hN hS hP hD hA hl
  have hown : s.vm.findClass RX12 = some m.cls := hown
  have hl : lv_has ls 3 [(0, .ref (ma 200)), (1, .int w), (2, .int k)] := hl
  have hiX12 : ∀ w ∈ u_ws RX12 TX12 104, w ∈ v_kX12_gone := fun _ h => List.mem_cons_of_mem _ (List.mem_append_right _ h)
  refine lv_iload_n hx hb dX12_gone_0 rfl (lv_at hl 1 rfl) ?_
  refine lv_if_ne (tgt := 21) hx hb dX12_gone_1 (by decide) (fun c_1 => ?_) (fun c_1 => ?_)
  · refine lv_iload_n hx hb dX12_gone_21 rfl (lv_at hl 1 rfl) ?_
    refine lv_iconst (v := 1) hx hb dX12_gone_22 (by decide) ?_
    refine lv_icmp_ne (tgt := 43) hx hb dX12_gone_23 (by decide) (fun c_2 => ?_) (fun c_2 => ?_)
    · refine lv_iload_n hx hb dX12_gone_43 rfl (lv_at hl 1 rfl) ?_
      refine lv_iconst (v := 2) hx hb dX12_gone_44 (by decide) ?_
      refine lv_icmp_ne (tgt := 76) hx hb dX12_gone_45 (by decide) (fun c_3 => ?_) (fun c_3 => ?_)
      · refine lv_iconst (v := 0) hx hb dX12_gone_76 (by decide) ?_
        exact W.zret (v := 0) hx hb hr narrow_b0 (fun t ht hW => ⟨⟨0, (), rfl, rfl, gp_end ht (hP.sub (ws' := []) [] rfl) (hD.sub (ws' := []) [] (by decide) rfl)⟩, hS.F ht⟩) hS.2.2 dX12_gone_77
      · refine lv_iload_n hx hb dX12_gone_48 rfl (lv_at hl 2 rfl) ?_
        refine lv_iconst (v := 0) hx hb dX12_gone_49 (by decide) ?_
        refine lv_bipush (v := 7) hx hb dX12_gone_50 (by decide) ?_
        have hPc := hP.sub (ws' := []) [] rfl
        have hDc := hD.sub (ws' := []) [] (by decide) rfl
        have hFc := va_free (wc := []) hD hS hA [] rfl
        refine va_calli (va_runS (As := [.int k, .int 0, .int 7]) (rest := []) ⟨hx, hb, hml, hown, hts⟩ (kX12_isIn l D cy H.size k 0 7) (va_cwS 3 hts g_kX12_gone_kX12_isIn_0 rfl rfl rfl (by decide +kernel) ⟨Nat.le_of_ble_eq_true rfl, Nat.le_of_ble_eq_true rfl⟩) (gp_preS hPc hDc hK hN) rfl rfl hl.1 rfl (lv_room (Nat.le_of_ble_eq_true rfl)) dX12_gone_52 ⟨Nat.le_of_ble_eq_true rfl, Nat.le_of_ble_eq_true rfl⟩) hS (fun q _ h => hFc q h) hFc (fun r_4 u t H locs ht hvm hw hB hz1 hk1 hS => ?_)
        obtain ⟨hP, hD⟩ := gp_join (wr := [((ma 200), mo_0 ma), ((ma 11), .inl (cy 3, 8, .inl (fun _ => 0))), ((ma 14), .inl (cy 3, 12, .inl (fun _ => 0))), ((ma 20), .inl (cy 3, 8, .inl (fun _ => 0)))]) (w1 := []) hP hD [] [0, 1, 2, 3] rfl rfl (by decide) (by decide) hk1 hFc ht hB
        have hP : va_P D vwCl [((ma 200), mo_0 ma), ((ma 11), .inl (cy 3, 8, .inl (fun _ => 0))), ((ma 14), .inl (cy 3, 12, .inl (fun _ => 0))), ((ma 20), .inl (cy 3, 8, .inl (fun _ => 0)))] H := hP
        have hD : va_D A [((ma 200), mo_0 ma), ((ma 11), .inl (cy 3, 8, .inl (fun _ => 0))), ((ma 14), .inl (cy 3, 12, .inl (fun _ => 0))), ((ma 20), .inl (cy 3, 8, .inl (fun _ => 0)))] := hD
        rcases hw with ⟨rfl, p_5⟩ | ⟨rfl, p_5⟩
        · refine lv_if_eq (tgt := 76) hx hb dX12_gone_55 (by decide) (fun c_6 => absurd c_6 (by decide)) (fun c_6 => ?_)
          refine lv_aload_n hx hb dX12_gone_58 rfl (lv_at hl 0 rfl) ?_
          refine va_get (D := D) (ci := 12) (v := .ref (ma 20)) (C := RX12) (T := TX12) (N := 104) hx hb hts hiX12 hown hK hP 0 rfl rfl 20 (by decide) (hts (.fieldLink RX12 78 "GhostPaneModel" "isThing" "[Z") (List.mem_of_getElem? (i := 5) rfl)) (fun _ h9 => h9) rfl dX12_gone_59 ?_
          refine lv_iload_n hx hb dX12_gone_62 rfl (lv_at hl 2 rfl) ?_
          refine va_zald hx hb hK hP 3 3 rfl rfl (gp_in p_5 (by decide)) dX12_gone_63 ?_
          refine gp_ni 0 rfl ?_
          refine lv_if_eq (tgt := 76) hx hb dX12_gone_64 (by decide) (fun c_7 => ?_) (fun c_7 => absurd (by decide) c_7)
          refine lv_iconst (v := 0) hx hb dX12_gone_76 (by decide) ?_
          exact W.zret (v := 0) hx hb hr narrow_b0 (fun t ht hW => ⟨⟨0, (), rfl, rfl, gp_end ht (hP.sub (ws' := []) [] rfl) (hD.sub (ws' := []) [] (by decide) rfl)⟩, hS.F ht⟩) hS.2.2 dX12_gone_77
        · refine lv_if_eq (tgt := 76) hx hb dX12_gone_55 (by decide) (fun c_8 => ?_) (fun c_8 => absurd (by decide) c_8)
          refine lv_iconst (v := 0) hx hb dX12_gone_76 (by decide) ?_
          exact W.zret (v := 0) hx hb hr narrow_b0 (fun t ht hW => ⟨⟨0, (), rfl, rfl, gp_end ht (hP.sub (ws' := []) [] rfl) (hD.sub (ws' := []) [] (by decide) rfl)⟩, hS.F ht⟩) hS.2.2 dX12_gone_77
    · refine lv_aload_n hx hb dX12_gone_26 rfl (lv_at hl 0 rfl) ?_
      refine lv_iload_n hx hb dX12_gone_27 rfl (lv_at hl 2 rfl) ?_
      have hPc := hP.sub (ws' := [((ma 200), mo_0 ma), ((ma 14), .inl (cy 3, 12, .inl (fun _ => 0)))]) [0, 2] rfl
      have hDc := hD.sub (ws' := [((ma 200), mo_0 ma), ((ma 14), .inl (cy 3, 12, .inl (fun _ => 0)))]) [0, 2] (by decide) rfl
      have hFc := va_free (wc := [((ma 200), mo_0 ma), ((ma 14), .inl (cy 3, 12, .inl (fun _ => 0)))]) hD hS hA [0, 2] rfl
      refine va_calli (va_runV (As := [.int k]) (rest := []) ⟨hx, hb, hml, hown, hts⟩ (kX12_hasWall l D cy H.size ma k) (cwV 1 hts g_kX12_gone_kX12_hasWall_1 rfl rfl rfl (by decide +kernel) ⟨Nat.le_of_ble_eq_true rfl, Nat.le_of_ble_eq_true rfl⟩) (gp_preV (RX12, TX12, 104) 12 0 hPc hDc hK hN rfl rfl) rfl rfl hl.1 rfl (lv_room (Nat.le_of_ble_eq_true rfl)) dX12_gone_28 ⟨Nat.le_of_ble_eq_true rfl, Nat.le_of_ble_eq_true rfl⟩) hS (fun q _ h => hFc q h) hFc (fun r_9 u t H locs ht hvm hw hB hz1 hk1 hS => ?_)
      obtain ⟨hP, hD⟩ := gp_join (wr := [((ma 11), .inl (cy 3, 8, .inl (fun _ => 0))), ((ma 20), .inl (cy 3, 8, .inl (fun _ => 0)))]) (w1 := [((ma 200), mo_0 ma), ((ma 14), .inl (cy 3, 12, .inl (fun _ => 0)))]) hP hD [0, 2] [1, 3] rfl rfl (by decide) (by decide) hk1 hFc ht hB
      have hP : va_P D vwCl [((ma 11), .inl (cy 3, 8, .inl (fun _ => 0))), ((ma 20), .inl (cy 3, 8, .inl (fun _ => 0))), ((ma 200), mo_0 ma), ((ma 14), .inl (cy 3, 12, .inl (fun _ => 0)))] H := hP
      have hD : va_D A [((ma 11), .inl (cy 3, 8, .inl (fun _ => 0))), ((ma 20), .inl (cy 3, 8, .inl (fun _ => 0))), ((ma 200), mo_0 ma), ((ma 14), .inl (cy 3, 12, .inl (fun _ => 0)))] := hD
      obtain rfl : r_9 = 0 := hw
      refine lv_if_eq (tgt := 43) hx hb dX12_gone_31 (by decide) (fun c_10 => ?_) (fun c_10 => absurd (by decide) c_10)
      refine lv_iload_n hx hb dX12_gone_43 rfl (lv_at hl 1 rfl) ?_
      refine lv_iconst (v := 2) hx hb dX12_gone_44 (by decide) ?_
      refine lv_icmp_ne (tgt := 76) hx hb dX12_gone_45 (by decide) (fun c_11 => ?_) (fun c_11 => absurd c_11 (lf_kX12_gone_1 ma w k c_1 c_2))
      refine lv_iconst (v := 0) hx hb dX12_gone_76 (by decide) ?_
      exact W.zret (v := 0) hx hb hr narrow_b0 (fun t ht hW => ⟨⟨0, (), rfl, rfl, gp_end ht (hP.sub (ws' := []) [] rfl) (hD.sub (ws' := []) [] (by decide) rfl)⟩, hS.F ht⟩) hS.2.2 dX12_gone_77
  · refine lv_aload_n hx hb dX12_gone_4 rfl (lv_at hl 0 rfl) ?_
    refine lv_iload_n hx hb dX12_gone_5 rfl (lv_at hl 2 rfl) ?_
    have hPc := hP.sub (ws' := [((ma 200), mo_0 ma), ((ma 11), .inl (cy 3, 8, .inl (fun _ => 0)))]) [0, 1] rfl
    have hDc := hD.sub (ws' := [((ma 200), mo_0 ma), ((ma 11), .inl (cy 3, 8, .inl (fun _ => 0)))]) [0, 1] (by decide) rfl
    have hFc := va_free (wc := [((ma 200), mo_0 ma), ((ma 11), .inl (cy 3, 8, .inl (fun _ => 0)))]) hD hS hA [0, 1] rfl
    refine va_calli (va_runV (As := [.int k]) (rest := []) ⟨hx, hb, hml, hown, hts⟩ (kX12_isThe l D cy H.size ma k) (cwV 1 hts g_kX12_gone_kX12_isThe_2 rfl rfl rfl (by decide +kernel) ⟨Nat.le_of_ble_eq_true rfl, Nat.le_of_ble_eq_true rfl⟩) (gp_preV (RX12, TX12, 104) 12 0 hPc hDc hK hN rfl rfl) rfl rfl hl.1 rfl (lv_room (Nat.le_of_ble_eq_true rfl)) dX12_gone_6 ⟨Nat.le_of_ble_eq_true rfl, Nat.le_of_ble_eq_true rfl⟩) hS (fun q _ h => hFc q h) hFc (fun r_12 u t H locs ht hvm hw hB hz1 hk1 hS => ?_)
    obtain ⟨hP, hD⟩ := gp_join (wr := [((ma 14), .inl (cy 3, 12, .inl (fun _ => 0))), ((ma 20), .inl (cy 3, 8, .inl (fun _ => 0)))]) (w1 := [((ma 200), mo_0 ma), ((ma 11), .inl (cy 3, 8, .inl (fun _ => 0)))]) hP hD [0, 1] [2, 3] rfl rfl (by decide) (by decide) hk1 hFc ht hB
    have hP : va_P D vwCl [((ma 14), .inl (cy 3, 12, .inl (fun _ => 0))), ((ma 20), .inl (cy 3, 8, .inl (fun _ => 0))), ((ma 200), mo_0 ma), ((ma 11), .inl (cy 3, 8, .inl (fun _ => 0)))] H := hP
    have hD : va_D A [((ma 14), .inl (cy 3, 12, .inl (fun _ => 0))), ((ma 20), .inl (cy 3, 8, .inl (fun _ => 0))), ((ma 200), mo_0 ma), ((ma 11), .inl (cy 3, 8, .inl (fun _ => 0)))] := hD
    obtain rfl : r_12 = 0 := hw
    refine lv_if_eq (tgt := 21) hx hb dX12_gone_9 (by decide) (fun c_13 => ?_) (fun c_13 => absurd (by decide) c_13)
    refine lv_iload_n hx hb dX12_gone_21 rfl (lv_at hl 1 rfl) ?_
    refine lv_iconst (v := 1) hx hb dX12_gone_22 (by decide) ?_
    refine lv_icmp_ne (tgt := 43) hx hb dX12_gone_23 (by decide) (fun c_14 => ?_) (fun c_14 => absurd c_14 (lf_kX12_gone_2 ma w k c_1))
    refine lv_iload_n hx hb dX12_gone_43 rfl (lv_at hl 1 rfl) ?_
    refine lv_iconst (v := 2) hx hb dX12_gone_44 (by decide) ?_
    refine lv_icmp_ne (tgt := 76) hx hb dX12_gone_45 (by decide) (fun c_15 => ?_) (fun c_15 => absurd c_15 (lf_kX12_gone_3 ma w k c_1 c_14))
    refine lv_iconst (v := 0) hx hb dX12_gone_76 (by decide) ?_
    exact W.zret (v := 0) hx hb hr narrow_b0 (fun t ht hW => ⟨⟨0, (), rfl, rfl, gp_end ht (hP.sub (ws' := []) [] rfl) (hD.sub (ws' := []) [] (by decide) rfl)⟩, hS.F ht⟩) hS.2.2 dX12_gone_77

def v_kX12_sees : List Cond := .code yX12_sees cX12_sees 4 (some .int) :: ([.code yX12_isThe cX12_isThe 2 (some .boolean), .code yX12_isIn cX12_isIn 3 (some .boolean), .methodLink RX12 3 yX12_isIn, .static yX12_isIn, .initialized RX12, .fieldLink RX12 49 "GhostPaneModel" "isSeat" "[Z", .methodLink RX12 93 yX12_isThe, .instanceMethod yX12_isThe, .selects RX12 yX12_isThe yX12_isThe] ++ wsX120)
set_option maxRecDepth 20000 in
theorem gg_kX12_sees_kX12_isThe : GoodIn v_kX12_sees v_kX12_isThe := goodIn_ca (goodIn_r (.code yX12_isThe cX12_isThe 2 (some .boolean) :: [.code yX12_isIn cX12_isIn 3 (some .boolean), .methodLink RX12 3 yX12_isIn, .static yX12_isIn, .initialized RX12, .fieldLink RX12 49 "GhostPaneModel" "isSeat" "[Z"]) [1, 2, 3, 4, 5, 6] rfl (by decide +kernel)) (goodIn_sub (fun _ h => List.mem_cons_of_mem _ (List.mem_append_right _ h)) gwX12)
set_option maxRecDepth 20000 in
theorem g_kX12_sees_kX12_isThe_0 : GoodIn v_kX12_sees (wsV RX12 93 RX12 yX12_isThe v_kX12_isThe) := goodIn_app (goodIn_r [.methodLink RX12 93 yX12_isThe, .instanceMethod yX12_isThe, .selects RX12 yX12_isThe yX12_isThe, .initialized RX12] [7, 8, 9, 5] rfl (by decide +kernel)) gg_kX12_sees_kX12_isThe
set_option maxHeartbeats 4000000 in
set_option maxRecDepth 100000 in
theorem kX12_sees (l : Launch) (D : va_G) (cy : Nat → ClassId) (sz : Nat) (ma : Nat → Nat) (k : Int32) (px : Int32) (py : Int32) : Met l yX12_sees v_kX12_sees ({ frames := 2, cells := 0, slots := 0, locals := 43 } : Room) (va_Pc [.ref (ma 200), .int k, .int px, .int py] (gp_B D cy sz [((ma 200), mo_0 ma), ((ma 11), .inl (cy 3, 8, .inl (fun _ => 0)))])) (va_Qi (fun (r : Int32) (u : Unit) => r = (-1)) (fun u => gp_E D (va_A [((ma 200), mo_0 ma), ((ma 11), .inl (cy 3, 8, .inl (fun _ => 0)))] sz) []) (va_A [((ma 200), mo_0 ma), ((ma 11), .inl (cy 3, 8, .inl (fun _ => 0)))] sz)) 0 0 (va_A [((ma 200), mo_0 ma), ((ma 11), .inl (cy 3, 8, .inl (fun _ => 0)))] sz) := by
  refine gp_met (Qc := fun A => va_Qi (fun (r : Int32) (u : Unit) => r = (-1)) (fun u => gp_E D A []) A) (cc := cX12_sees) (maxL := 4) (ret := (some .int)) (by decide) rfl (Nat.le_of_ble_eq_true rfl) ?_
  intro p e s m below meth c A ls H hx hb hml hr hlocks hts hown hin hK hN hS hP hD hA hl
  have hown : s.vm.findClass RX12 = some m.cls := hown
  have hl : lv_has ls 4 [(0, .ref (ma 200)), (1, .int k), (2, .int px), (3, .int py)] := hl
  refine lv_aload_n hx hb dX12_sees_0 rfl (lv_at hl 0 rfl) ?_
  refine lv_iload_n hx hb dX12_sees_1 rfl (lv_at hl 1 rfl) ?_
  have hPc := hP.sub (ws' := [((ma 200), mo_0 ma), ((ma 11), .inl (cy 3, 8, .inl (fun _ => 0)))]) [0, 1] rfl
  have hDc := hD.sub (ws' := [((ma 200), mo_0 ma), ((ma 11), .inl (cy 3, 8, .inl (fun _ => 0)))]) [0, 1] (by decide) rfl
  have hFc := va_free (wc := [((ma 200), mo_0 ma), ((ma 11), .inl (cy 3, 8, .inl (fun _ => 0)))]) hD hS hA [0, 1] rfl
  refine va_calli (va_runV (As := [.int k]) (rest := []) ⟨hx, hb, hml, hown, hts⟩ (kX12_isThe l D cy H.size ma k) (cwV 1 hts g_kX12_sees_kX12_isThe_0 rfl rfl rfl (by decide +kernel) ⟨Nat.le_of_ble_eq_true rfl, Nat.le_of_ble_eq_true rfl⟩) (gp_preV (RX12, TX12, 104) 12 0 hPc hDc hK hN rfl rfl) rfl rfl hl.1 rfl (lv_room (Nat.le_of_ble_eq_true rfl)) dX12_sees_2 ⟨Nat.le_of_ble_eq_true rfl, Nat.le_of_ble_eq_true rfl⟩) hS (fun q _ h => hFc q h) hFc (fun r_1 u t H locs ht hvm hw hB hz1 hk1 hS => ?_)
  obtain ⟨hP, hD⟩ := gp_join (wr := []) (w1 := [((ma 200), mo_0 ma), ((ma 11), .inl (cy 3, 8, .inl (fun _ => 0)))]) hP hD [0, 1] [] rfl rfl (by decide) (by decide) hk1 hFc ht hB
  have hP : va_P D vwCl [((ma 200), mo_0 ma), ((ma 11), .inl (cy 3, 8, .inl (fun _ => 0)))] H := hP
  have hD : va_D A [((ma 200), mo_0 ma), ((ma 11), .inl (cy 3, 8, .inl (fun _ => 0)))] := hD
  obtain rfl : r_1 = 0 := hw
  refine lv_if_eq (tgt := 16) hx hb dX12_sees_5 (by decide) (fun c_2 => ?_) (fun c_2 => absurd (by decide) c_2)
  refine lv_iconst (v := (-1)) hx hb dX12_sees_16 (by decide) ?_
  exact W.iret (v := (-1)) hx hb hr (fun t ht hW => ⟨⟨(-1), (), rfl, rfl, gp_end ht (hP.sub (ws' := []) [] rfl) (hD.sub (ws' := []) [] (by decide) rfl)⟩, hS.F ht⟩) hS.2.2 dX12_sees_17

def v_kX12_where : List Cond := .code yX12_where cX12_where 4 (some .int) :: ([.code yX12_isThe cX12_isThe 2 (some .boolean), .code yX12_isIn cX12_isIn 3 (some .boolean), .methodLink RX12 3 yX12_isIn, .static yX12_isIn, .initialized RX12, .fieldLink RX12 49 "GhostPaneModel" "isSeat" "[Z", .methodLink RX12 93 yX12_isThe, .instanceMethod yX12_isThe, .selects RX12 yX12_isThe yX12_isThe] ++ wsX120)
set_option maxRecDepth 20000 in
theorem gg_kX12_where_kX12_isThe : GoodIn v_kX12_where v_kX12_isThe := goodIn_ca (goodIn_r (.code yX12_isThe cX12_isThe 2 (some .boolean) :: [.code yX12_isIn cX12_isIn 3 (some .boolean), .methodLink RX12 3 yX12_isIn, .static yX12_isIn, .initialized RX12, .fieldLink RX12 49 "GhostPaneModel" "isSeat" "[Z"]) [1, 2, 3, 4, 5, 6] rfl (by decide +kernel)) (goodIn_sub (fun _ h => List.mem_cons_of_mem _ (List.mem_append_right _ h)) gwX12)
set_option maxRecDepth 20000 in
theorem g_kX12_where_kX12_isThe_0 : GoodIn v_kX12_where (wsV RX12 93 RX12 yX12_isThe v_kX12_isThe) := goodIn_app (goodIn_r [.methodLink RX12 93 yX12_isThe, .instanceMethod yX12_isThe, .selects RX12 yX12_isThe yX12_isThe, .initialized RX12] [7, 8, 9, 5] rfl (by decide +kernel)) gg_kX12_where_kX12_isThe
set_option maxHeartbeats 4000000 in
set_option maxRecDepth 100000 in
theorem kX12_where (l : Launch) (D : va_G) (cy : Nat → ClassId) (sz : Nat) (ma : Nat → Nat) (k : Int32) (px : Int32) (py : Int32) : Met l yX12_where v_kX12_where ({ frames := 2, cells := 0, slots := 0, locals := 43 } : Room) (va_Pc [.ref (ma 200), .int k, .int px, .int py] (gp_B D cy sz [((ma 200), mo_0 ma), ((ma 11), .inl (cy 3, 8, .inl (fun _ => 0)))])) (va_Qi (fun (r : Int32) (u : Unit) => r = (-1)) (fun u => gp_E D (va_A [((ma 200), mo_0 ma), ((ma 11), .inl (cy 3, 8, .inl (fun _ => 0)))] sz) []) (va_A [((ma 200), mo_0 ma), ((ma 11), .inl (cy 3, 8, .inl (fun _ => 0)))] sz)) 0 0 (va_A [((ma 200), mo_0 ma), ((ma 11), .inl (cy 3, 8, .inl (fun _ => 0)))] sz) := by
  refine gp_met (Qc := fun A => va_Qi (fun (r : Int32) (u : Unit) => r = (-1)) (fun u => gp_E D A []) A) (cc := cX12_where) (maxL := 4) (ret := (some .int)) (by decide) rfl (Nat.le_of_ble_eq_true rfl) ?_
  intro p e s m below meth c A ls H hx hb hml hr hlocks hts hown hin hK hN hS hP hD hA hl
  have hown : s.vm.findClass RX12 = some m.cls := hown
  have hl : lv_has ls 4 [(0, .ref (ma 200)), (1, .int k), (2, .int px), (3, .int py)] := hl
  refine lv_aload_n hx hb dX12_where_0 rfl (lv_at hl 0 rfl) ?_
  refine lv_iload_n hx hb dX12_where_1 rfl (lv_at hl 1 rfl) ?_
  have hPc := hP.sub (ws' := [((ma 200), mo_0 ma), ((ma 11), .inl (cy 3, 8, .inl (fun _ => 0)))]) [0, 1] rfl
  have hDc := hD.sub (ws' := [((ma 200), mo_0 ma), ((ma 11), .inl (cy 3, 8, .inl (fun _ => 0)))]) [0, 1] (by decide) rfl
  have hFc := va_free (wc := [((ma 200), mo_0 ma), ((ma 11), .inl (cy 3, 8, .inl (fun _ => 0)))]) hD hS hA [0, 1] rfl
  refine va_calli (va_runV (As := [.int k]) (rest := []) ⟨hx, hb, hml, hown, hts⟩ (kX12_isThe l D cy H.size ma k) (cwV 1 hts g_kX12_where_kX12_isThe_0 rfl rfl rfl (by decide +kernel) ⟨Nat.le_of_ble_eq_true rfl, Nat.le_of_ble_eq_true rfl⟩) (gp_preV (RX12, TX12, 104) 12 0 hPc hDc hK hN rfl rfl) rfl rfl hl.1 rfl (lv_room (Nat.le_of_ble_eq_true rfl)) dX12_where_2 ⟨Nat.le_of_ble_eq_true rfl, Nat.le_of_ble_eq_true rfl⟩) hS (fun q _ h => hFc q h) hFc (fun r_1 u t H locs ht hvm hw hB hz1 hk1 hS => ?_)
  obtain ⟨hP, hD⟩ := gp_join (wr := []) (w1 := [((ma 200), mo_0 ma), ((ma 11), .inl (cy 3, 8, .inl (fun _ => 0)))]) hP hD [0, 1] [] rfl rfl (by decide) (by decide) hk1 hFc ht hB
  have hP : va_P D vwCl [((ma 200), mo_0 ma), ((ma 11), .inl (cy 3, 8, .inl (fun _ => 0)))] H := hP
  have hD : va_D A [((ma 200), mo_0 ma), ((ma 11), .inl (cy 3, 8, .inl (fun _ => 0)))] := hD
  obtain rfl : r_1 = 0 := hw
  refine lv_if_eq (tgt := 43) hx hb dX12_where_5 (by decide) (fun c_2 => ?_) (fun c_2 => absurd (by decide) c_2)
  refine lv_iconst (v := (-1)) hx hb dX12_where_43 (by decide) ?_
  exact W.iret (v := (-1)) hx hb hr (fun t ht hW => ⟨⟨(-1), (), rfl, rfl, gp_end ht (hP.sub (ws' := []) [] rfl) (hD.sub (ws' := []) [] (by decide) rfl)⟩, hS.F ht⟩) hS.2.2 dX12_where_44

def v_kX12_blocks : List Cond := .code yX12_blocks cX12_blocks 5 (some .int) :: ([.code yX12_isThe cX12_isThe 2 (some .boolean), .code yX12_isIn cX12_isIn 3 (some .boolean), .methodLink RX12 3 yX12_isIn, .static yX12_isIn, .initialized RX12, .fieldLink RX12 49 "GhostPaneModel" "isSeat" "[Z", .methodLink RX12 93 yX12_isThe, .instanceMethod yX12_isThe, .selects RX12 yX12_isThe yX12_isThe] ++ wsX120)
set_option maxRecDepth 20000 in
theorem gg_kX12_blocks_kX12_isThe : GoodIn v_kX12_blocks v_kX12_isThe := goodIn_ca (goodIn_r (.code yX12_isThe cX12_isThe 2 (some .boolean) :: [.code yX12_isIn cX12_isIn 3 (some .boolean), .methodLink RX12 3 yX12_isIn, .static yX12_isIn, .initialized RX12, .fieldLink RX12 49 "GhostPaneModel" "isSeat" "[Z"]) [1, 2, 3, 4, 5, 6] rfl (by decide +kernel)) (goodIn_sub (fun _ h => List.mem_cons_of_mem _ (List.mem_append_right _ h)) gwX12)
set_option maxRecDepth 20000 in
theorem g_kX12_blocks_kX12_isThe_0 : GoodIn v_kX12_blocks (wsV RX12 93 RX12 yX12_isThe v_kX12_isThe) := goodIn_app (goodIn_r [.methodLink RX12 93 yX12_isThe, .instanceMethod yX12_isThe, .selects RX12 yX12_isThe yX12_isThe, .initialized RX12] [7, 8, 9, 5] rfl (by decide +kernel)) gg_kX12_blocks_kX12_isThe
set_option maxHeartbeats 4000000 in
set_option maxRecDepth 100000 in
theorem kX12_blocks (l : Launch) (D : va_G) (cy : Nat → ClassId) (sz : Nat) (ma : Nat → Nat) (k : Int32) (px : Int32) (py : Int32) (w : Int32) : Met l yX12_blocks v_kX12_blocks ({ frames := 2, cells := 0, slots := 0, locals := 43 } : Room) (va_Pc [.ref (ma 200), .int k, .int px, .int py, .int w] (gp_B D cy sz [((ma 200), mo_0 ma), ((ma 11), .inl (cy 3, 8, .inl (fun _ => 0)))])) (va_Qi (fun (r : Int32) (u : Unit) => r = (-1)) (fun u => gp_E D (va_A [((ma 200), mo_0 ma), ((ma 11), .inl (cy 3, 8, .inl (fun _ => 0)))] sz) []) (va_A [((ma 200), mo_0 ma), ((ma 11), .inl (cy 3, 8, .inl (fun _ => 0)))] sz)) 0 0 (va_A [((ma 200), mo_0 ma), ((ma 11), .inl (cy 3, 8, .inl (fun _ => 0)))] sz) := by
  refine gp_met (Qc := fun A => va_Qi (fun (r : Int32) (u : Unit) => r = (-1)) (fun u => gp_E D A []) A) (cc := cX12_blocks) (maxL := 5) (ret := (some .int)) (by decide) rfl (Nat.le_of_ble_eq_true rfl) ?_
  intro p e s m below meth c A ls H hx hb hml hr hlocks hts hown hin hK hN hS hP hD hA hl
  have hown : s.vm.findClass RX12 = some m.cls := hown
  have hl : lv_has ls 5 [(0, .ref (ma 200)), (1, .int k), (2, .int px), (3, .int py), (4, .int w)] := hl
  refine lv_aload_n hx hb dX12_blocks_0 rfl (lv_at hl 0 rfl) ?_
  refine lv_iload_n hx hb dX12_blocks_1 rfl (lv_at hl 1 rfl) ?_
  have hPc := hP.sub (ws' := [((ma 200), mo_0 ma), ((ma 11), .inl (cy 3, 8, .inl (fun _ => 0)))]) [0, 1] rfl
  have hDc := hD.sub (ws' := [((ma 200), mo_0 ma), ((ma 11), .inl (cy 3, 8, .inl (fun _ => 0)))]) [0, 1] (by decide) rfl
  have hFc := va_free (wc := [((ma 200), mo_0 ma), ((ma 11), .inl (cy 3, 8, .inl (fun _ => 0)))]) hD hS hA [0, 1] rfl
  refine va_calli (va_runV (As := [.int k]) (rest := []) ⟨hx, hb, hml, hown, hts⟩ (kX12_isThe l D cy H.size ma k) (cwV 1 hts g_kX12_blocks_kX12_isThe_0 rfl rfl rfl (by decide +kernel) ⟨Nat.le_of_ble_eq_true rfl, Nat.le_of_ble_eq_true rfl⟩) (gp_preV (RX12, TX12, 104) 12 0 hPc hDc hK hN rfl rfl) rfl rfl hl.1 rfl (lv_room (Nat.le_of_ble_eq_true rfl)) dX12_blocks_2 ⟨Nat.le_of_ble_eq_true rfl, Nat.le_of_ble_eq_true rfl⟩) hS (fun q _ h => hFc q h) hFc (fun r_1 u t H locs ht hvm hw hB hz1 hk1 hS => ?_)
  obtain ⟨hP, hD⟩ := gp_join (wr := []) (w1 := [((ma 200), mo_0 ma), ((ma 11), .inl (cy 3, 8, .inl (fun _ => 0)))]) hP hD [0, 1] [] rfl rfl (by decide) (by decide) hk1 hFc ht hB
  have hP : va_P D vwCl [((ma 200), mo_0 ma), ((ma 11), .inl (cy 3, 8, .inl (fun _ => 0)))] H := hP
  have hD : va_D A [((ma 200), mo_0 ma), ((ma 11), .inl (cy 3, 8, .inl (fun _ => 0)))] := hD
  obtain rfl : r_1 = 0 := hw
  refine lv_if_eq (tgt := 47) hx hb dX12_blocks_5 (by decide) (fun c_2 => ?_) (fun c_2 => absurd (by decide) c_2)
  refine lv_iconst (v := (-1)) hx hb dX12_blocks_47 (by decide) ?_
  exact W.iret (v := (-1)) hx hb hr (fun t ht hW => ⟨⟨(-1), (), rfl, rfl, gp_end ht (hP.sub (ws' := []) [] rfl) (hD.sub (ws' := []) [] (by decide) rfl)⟩, hS.F ht⟩) hS.2.2 dX12_blocks_48

def v_kX12_shows : List Cond := .code yX12_shows cX12_shows 3 (some .int) :: ([.code yX12_hasWall cX12_hasWall 2 (some .boolean), .code yX12_isIn cX12_isIn 3 (some .boolean), .methodLink RX12 3 yX12_isIn, .static yX12_isIn, .initialized RX12, .fieldLink RX12 60 "GhostPaneModel" "isWall" "[Z", .methodLink RX12 97 yX12_hasWall, .instanceMethod yX12_hasWall, .selects RX12 yX12_hasWall yX12_hasWall] ++ wsX120)
set_option maxRecDepth 20000 in
theorem gg_kX12_shows_kX12_hasWall : GoodIn v_kX12_shows v_kX12_hasWall := goodIn_ca (goodIn_r (.code yX12_hasWall cX12_hasWall 2 (some .boolean) :: [.code yX12_isIn cX12_isIn 3 (some .boolean), .methodLink RX12 3 yX12_isIn, .static yX12_isIn, .initialized RX12, .fieldLink RX12 60 "GhostPaneModel" "isWall" "[Z"]) [1, 2, 3, 4, 5, 6] rfl (by decide +kernel)) (goodIn_sub (fun _ h => List.mem_cons_of_mem _ (List.mem_append_right _ h)) gwX12)
set_option maxRecDepth 20000 in
theorem g_kX12_shows_kX12_hasWall_0 : GoodIn v_kX12_shows (wsV RX12 97 RX12 yX12_hasWall v_kX12_hasWall) := goodIn_app (goodIn_r [.methodLink RX12 97 yX12_hasWall, .instanceMethod yX12_hasWall, .selects RX12 yX12_hasWall yX12_hasWall, .initialized RX12] [7, 8, 9, 5] rfl (by decide +kernel)) gg_kX12_shows_kX12_hasWall
set_option maxHeartbeats 4000000 in
set_option maxRecDepth 100000 in
theorem kX12_shows (l : Launch) (D : va_G) (cy : Nat → ClassId) (sz : Nat) (ma : Nat → Nat) (w : Int32) (k : Int32) : Met l yX12_shows v_kX12_shows ({ frames := 2, cells := 0, slots := 0, locals := 43 } : Room) (va_Pc [.ref (ma 200), .int w, .int k] (gp_B D cy sz [((ma 200), mo_0 ma), ((ma 14), .inl (cy 3, 12, .inl (fun _ => 0)))])) (va_Qi (fun (r : Int32) (u : Unit) => r = (-1)) (fun u => gp_E D (va_A [((ma 200), mo_0 ma), ((ma 14), .inl (cy 3, 12, .inl (fun _ => 0)))] sz) []) (va_A [((ma 200), mo_0 ma), ((ma 14), .inl (cy 3, 12, .inl (fun _ => 0)))] sz)) 0 0 (va_A [((ma 200), mo_0 ma), ((ma 14), .inl (cy 3, 12, .inl (fun _ => 0)))] sz) := by
  refine gp_met (Qc := fun A => va_Qi (fun (r : Int32) (u : Unit) => r = (-1)) (fun u => gp_E D A []) A) (cc := cX12_shows) (maxL := 3) (ret := (some .int)) (by decide) rfl (Nat.le_of_ble_eq_true rfl) ?_
  intro p e s m below meth c A ls H hx hb hml hr hlocks hts hown hin hK hN hS hP hD hA hl
  have hown : s.vm.findClass RX12 = some m.cls := hown
  have hl : lv_has ls 3 [(0, .ref (ma 200)), (1, .int w), (2, .int k)] := hl
  refine lv_aload_n hx hb dX12_shows_0 rfl (lv_at hl 0 rfl) ?_
  refine lv_iload_n hx hb dX12_shows_1 rfl (lv_at hl 1 rfl) ?_
  have hPc := hP.sub (ws' := [((ma 200), mo_0 ma), ((ma 14), .inl (cy 3, 12, .inl (fun _ => 0)))]) [0, 1] rfl
  have hDc := hD.sub (ws' := [((ma 200), mo_0 ma), ((ma 14), .inl (cy 3, 12, .inl (fun _ => 0)))]) [0, 1] (by decide) rfl
  have hFc := va_free (wc := [((ma 200), mo_0 ma), ((ma 14), .inl (cy 3, 12, .inl (fun _ => 0)))]) hD hS hA [0, 1] rfl
  refine va_calli (va_runV (As := [.int w]) (rest := []) ⟨hx, hb, hml, hown, hts⟩ (kX12_hasWall l D cy H.size ma w) (cwV 1 hts g_kX12_shows_kX12_hasWall_0 rfl rfl rfl (by decide +kernel) ⟨Nat.le_of_ble_eq_true rfl, Nat.le_of_ble_eq_true rfl⟩) (gp_preV (RX12, TX12, 104) 12 0 hPc hDc hK hN rfl rfl) rfl rfl hl.1 rfl (lv_room (Nat.le_of_ble_eq_true rfl)) dX12_shows_2 ⟨Nat.le_of_ble_eq_true rfl, Nat.le_of_ble_eq_true rfl⟩) hS (fun q _ h => hFc q h) hFc (fun r_1 u t H locs ht hvm hw hB hz1 hk1 hS => ?_)
  obtain ⟨hP, hD⟩ := gp_join (wr := []) (w1 := [((ma 200), mo_0 ma), ((ma 14), .inl (cy 3, 12, .inl (fun _ => 0)))]) hP hD [0, 1] [] rfl rfl (by decide) (by decide) hk1 hFc ht hB
  have hP : va_P D vwCl [((ma 200), mo_0 ma), ((ma 14), .inl (cy 3, 12, .inl (fun _ => 0)))] H := hP
  have hD : va_D A [((ma 200), mo_0 ma), ((ma 14), .inl (cy 3, 12, .inl (fun _ => 0)))] := hD
  obtain rfl : r_1 = 0 := hw
  refine lv_if_eq (tgt := 16) hx hb dX12_shows_5 (by decide) (fun c_2 => ?_) (fun c_2 => absurd (by decide) c_2)
  refine lv_iconst (v := (-1)) hx hb dX12_shows_16 (by decide) ?_
  exact W.iret (v := (-1)) hx hb hr (fun t ht hW => ⟨⟨(-1), (), rfl, rfl, gp_end ht (hP.sub (ws' := []) [] rfl) (hD.sub (ws' := []) [] (by decide) rfl)⟩, hS.F ht⟩) hS.2.2 dX12_shows_17

theorem lf_kX12_fault_1 (ma : Nat → Nat) (w : Int32) (c_1 : ¬ w = 0) (c_2 : ¬ w = 1) : ((-1) : Int32) = (if w = 0 then 0 else (-1)) := by
  first | grind | (simp only [sp_in, sp_pl, sp_far, sp_two] at *; grind)
theorem lf_kX12_fault_2 (ma : Nat → Nat) (w : Int32) (c_1 : ¬ w = 0) (c_2 : w = 1) : ((-1) : Int32) = (if w = 0 then 0 else (-1)) := by
  first | grind | (simp only [sp_in, sp_pl, sp_far, sp_two] at *; grind)
theorem lf_kX12_fault_3 (ma : Nat → Nat) (w : Int32) (c_1 : w = 0) : (0 : Int32) = (if w = 0 then 0 else (-1)) := by
  first | grind | (simp only [sp_in, sp_pl, sp_far, sp_two] at *; grind)
def v_kX12_fault : List Cond := .code yX12_fault cX12_fault 2 (some .int) :: ([.fieldLink RX12 378 "GhostPaneModel" "faultPlace" "I", .fieldLink RX12 470 "GhostPaneModel" "fault" "I"] ++ wsX120)
set_option maxHeartbeats 4000000 in
set_option maxRecDepth 100000 in
theorem kX12_fault (l : Launch) (D : va_G) (cy : Nat → ClassId) (sz : Nat) (ma : Nat → Nat) (w : Int32) : Met l yX12_fault v_kX12_fault ({ frames := 0, cells := 0, slots := 0, locals := 0 } : Room) (va_Pc [.ref (ma 200), .int w] (gp_B D cy sz [((ma 200), mo_0 ma)])) (va_Qi (fun (r : Int32) (u : Unit) => r = (if w = 0 then 0 else (-1))) (fun u => gp_E D (va_A [((ma 200), mo_0 ma)] sz) []) (va_A [((ma 200), mo_0 ma)] sz)) 0 0 (va_A [((ma 200), mo_0 ma)] sz) := by
  refine gp_met (Qc := fun A => va_Qi (fun (r : Int32) (u : Unit) => r = (if w = 0 then 0 else (-1))) (fun u => gp_E D A []) A) (cc := cX12_fault) (maxL := 2) (ret := (some .int)) (by decide) rfl (Nat.le_of_ble_eq_true rfl) ?_
  intro p e s m below meth c A ls H hx hb hml hr hlocks hts hown hin hK hN hS hP hD hA hl
  have hown : s.vm.findClass RX12 = some m.cls := hown
  have hl : lv_has ls 2 [(0, .ref (ma 200)), (1, .int w)] := hl
  have hiX12 : ∀ w ∈ u_ws RX12 TX12 104, w ∈ v_kX12_fault := fun _ h => List.mem_cons_of_mem _ (List.mem_append_right _ h)
  refine lv_iload_n hx hb dX12_fault_0 rfl (lv_at hl 1 rfl) ?_
  refine lv_if_ne (tgt := 11) hx hb dX12_fault_1 (by decide) (fun c_1 => ?_) (fun c_1 => ?_)
  · refine lv_iload_n hx hb dX12_fault_11 rfl (lv_at hl 1 rfl) ?_
    refine lv_iconst (v := 1) hx hb dX12_fault_12 (by decide) ?_
    refine lv_icmp_ne (tgt := 23) hx hb dX12_fault_13 (by decide) (fun c_2 => ?_) (fun c_2 => ?_)
    · refine lv_iconst (v := (-1)) hx hb dX12_fault_23 (by decide) ?_
      exact W.iret (v := (-1)) hx hb hr (fun t ht hW => ⟨⟨(-1), (), rfl, (lf_kX12_fault_1 ma w c_1 c_2), gp_end ht (hP.sub (ws' := []) [] rfl) (hD.sub (ws' := []) [] (by decide) rfl)⟩, hS.F ht⟩) hS.2.2 dX12_fault_24
    · refine lv_aload_n hx hb dX12_fault_16 rfl (lv_at hl 0 rfl) ?_
      refine va_get (D := D) (ci := 12) (v := .int (-1)) (C := RX12) (T := TX12) (N := 104) hx hb hts hiX12 hown hK hP 0 rfl rfl 41 (by decide) (hts (.fieldLink RX12 378 "GhostPaneModel" "faultPlace" "I") (List.mem_of_getElem? (i := 1) rfl)) (fun _ h9 => h9) rfl dX12_fault_17 ?_
      refine lv_goto (tgt := 24) hx hb dX12_fault_20 (by decide) ?_
      exact W.iret (v := (-1)) hx hb hr (fun t ht hW => ⟨⟨(-1), (), rfl, (lf_kX12_fault_2 ma w c_1 c_2), gp_end ht (hP.sub (ws' := []) [] rfl) (hD.sub (ws' := []) [] (by decide) rfl)⟩, hS.F ht⟩) hS.2.2 dX12_fault_24
  · refine lv_aload_n hx hb dX12_fault_4 rfl (lv_at hl 0 rfl) ?_
    refine va_get (D := D) (ci := 12) (v := .int 0) (C := RX12) (T := TX12) (N := 104) hx hb hts hiX12 hown hK hP 0 rfl rfl 40 (by decide) (hts (.fieldLink RX12 470 "GhostPaneModel" "fault" "I") (List.mem_of_getElem? (i := 2) rfl)) (fun _ h9 => h9) rfl dX12_fault_5 ?_
    refine lv_goto (tgt := 24) hx hb dX12_fault_8 (by decide) ?_
    exact W.iret (v := 0) hx hb hr (fun t ht hW => ⟨⟨0, (), rfl, (lf_kX12_fault_3 ma w c_1), gp_end ht (hP.sub (ws' := []) [] rfl) (hD.sub (ws' := []) [] (by decide) rfl)⟩, hS.F ht⟩) hS.2.2 dX12_fault_24

def v_kX12_has : List Cond := .code yX12_has cX12_has 3 (some .int) :: ([.code yX12_isThe cX12_isThe 2 (some .boolean), .code yX12_isIn cX12_isIn 3 (some .boolean), .methodLink RX12 3 yX12_isIn, .static yX12_isIn, .initialized RX12, .fieldLink RX12 49 "GhostPaneModel" "isSeat" "[Z", .methodLink RX12 93 yX12_isThe, .instanceMethod yX12_isThe, .selects RX12 yX12_isThe yX12_isThe] ++ wsX120)
set_option maxRecDepth 20000 in
theorem gg_kX12_has_kX12_isThe : GoodIn v_kX12_has v_kX12_isThe := goodIn_ca (goodIn_r (.code yX12_isThe cX12_isThe 2 (some .boolean) :: [.code yX12_isIn cX12_isIn 3 (some .boolean), .methodLink RX12 3 yX12_isIn, .static yX12_isIn, .initialized RX12, .fieldLink RX12 49 "GhostPaneModel" "isSeat" "[Z"]) [1, 2, 3, 4, 5, 6] rfl (by decide +kernel)) (goodIn_sub (fun _ h => List.mem_cons_of_mem _ (List.mem_append_right _ h)) gwX12)
set_option maxRecDepth 20000 in
theorem g_kX12_has_kX12_isThe_0 : GoodIn v_kX12_has (wsV RX12 93 RX12 yX12_isThe v_kX12_isThe) := goodIn_app (goodIn_r [.methodLink RX12 93 yX12_isThe, .instanceMethod yX12_isThe, .selects RX12 yX12_isThe yX12_isThe, .initialized RX12] [7, 8, 9, 5] rfl (by decide +kernel)) gg_kX12_has_kX12_isThe
set_option maxHeartbeats 4000000 in
set_option maxRecDepth 100000 in
theorem kX12_has (l : Launch) (D : va_G) (cy : Nat → ClassId) (sz : Nat) (ma : Nat → Nat) (k : Int32) (n : Int32) : Met l yX12_has v_kX12_has ({ frames := 2, cells := 0, slots := 0, locals := 43 } : Room) (va_Pc [.ref (ma 200), .int k, .int n] (gp_B D cy sz [((ma 200), mo_0 ma), ((ma 11), .inl (cy 3, 8, .inl (fun _ => 0)))])) (va_Qi (fun (r : Int32) (u : Unit) => r = (-1)) (fun u => gp_E D (va_A [((ma 200), mo_0 ma), ((ma 11), .inl (cy 3, 8, .inl (fun _ => 0)))] sz) []) (va_A [((ma 200), mo_0 ma), ((ma 11), .inl (cy 3, 8, .inl (fun _ => 0)))] sz)) 0 0 (va_A [((ma 200), mo_0 ma), ((ma 11), .inl (cy 3, 8, .inl (fun _ => 0)))] sz) := by
  refine gp_met (Qc := fun A => va_Qi (fun (r : Int32) (u : Unit) => r = (-1)) (fun u => gp_E D A []) A) (cc := cX12_has) (maxL := 3) (ret := (some .int)) (by decide) rfl (Nat.le_of_ble_eq_true rfl) ?_
  intro p e s m below meth c A ls H hx hb hml hr hlocks hts hown hin hK hN hS hP hD hA hl
  have hown : s.vm.findClass RX12 = some m.cls := hown
  have hl : lv_has ls 3 [(0, .ref (ma 200)), (1, .int k), (2, .int n)] := hl
  refine lv_aload_n hx hb dX12_has_0 rfl (lv_at hl 0 rfl) ?_
  refine lv_iload_n hx hb dX12_has_1 rfl (lv_at hl 1 rfl) ?_
  have hPc := hP.sub (ws' := [((ma 200), mo_0 ma), ((ma 11), .inl (cy 3, 8, .inl (fun _ => 0)))]) [0, 1] rfl
  have hDc := hD.sub (ws' := [((ma 200), mo_0 ma), ((ma 11), .inl (cy 3, 8, .inl (fun _ => 0)))]) [0, 1] (by decide) rfl
  have hFc := va_free (wc := [((ma 200), mo_0 ma), ((ma 11), .inl (cy 3, 8, .inl (fun _ => 0)))]) hD hS hA [0, 1] rfl
  refine va_calli (va_runV (As := [.int k]) (rest := []) ⟨hx, hb, hml, hown, hts⟩ (kX12_isThe l D cy H.size ma k) (cwV 1 hts g_kX12_has_kX12_isThe_0 rfl rfl rfl (by decide +kernel) ⟨Nat.le_of_ble_eq_true rfl, Nat.le_of_ble_eq_true rfl⟩) (gp_preV (RX12, TX12, 104) 12 0 hPc hDc hK hN rfl rfl) rfl rfl hl.1 rfl (lv_room (Nat.le_of_ble_eq_true rfl)) dX12_has_2 ⟨Nat.le_of_ble_eq_true rfl, Nat.le_of_ble_eq_true rfl⟩) hS (fun q _ h => hFc q h) hFc (fun r_1 u t H locs ht hvm hw hB hz1 hk1 hS => ?_)
  obtain ⟨hP, hD⟩ := gp_join (wr := []) (w1 := [((ma 200), mo_0 ma), ((ma 11), .inl (cy 3, 8, .inl (fun _ => 0)))]) hP hD [0, 1] [] rfl rfl (by decide) (by decide) hk1 hFc ht hB
  have hP : va_P D vwCl [((ma 200), mo_0 ma), ((ma 11), .inl (cy 3, 8, .inl (fun _ => 0)))] H := hP
  have hD : va_D A [((ma 200), mo_0 ma), ((ma 11), .inl (cy 3, 8, .inl (fun _ => 0)))] := hD
  obtain rfl : r_1 = 0 := hw
  refine lv_if_eq (tgt := 16) hx hb dX12_has_5 (by decide) (fun c_2 => ?_) (fun c_2 => absurd (by decide) c_2)
  refine lv_iconst (v := (-1)) hx hb dX12_has_16 (by decide) ?_
  exact W.iret (v := (-1)) hx hb hr (fun t ht hW => ⟨⟨(-1), (), rfl, rfl, gp_end ht (hP.sub (ws' := []) [] rfl) (hD.sub (ws' := []) [] (by decide) rfl)⟩, hS.F ht⟩) hS.2.2 dX12_has_17

def v_kX12_counts : List Cond := .code yX12_counts cX12_counts 2 (some .int) :: ([.code yX12_isThe cX12_isThe 2 (some .boolean), .code yX12_isIn cX12_isIn 3 (some .boolean), .methodLink RX12 3 yX12_isIn, .static yX12_isIn, .initialized RX12, .fieldLink RX12 49 "GhostPaneModel" "isSeat" "[Z", .methodLink RX12 93 yX12_isThe, .instanceMethod yX12_isThe, .selects RX12 yX12_isThe yX12_isThe] ++ wsX120)
set_option maxRecDepth 20000 in
theorem gg_kX12_counts_kX12_isThe : GoodIn v_kX12_counts v_kX12_isThe := goodIn_ca (goodIn_r (.code yX12_isThe cX12_isThe 2 (some .boolean) :: [.code yX12_isIn cX12_isIn 3 (some .boolean), .methodLink RX12 3 yX12_isIn, .static yX12_isIn, .initialized RX12, .fieldLink RX12 49 "GhostPaneModel" "isSeat" "[Z"]) [1, 2, 3, 4, 5, 6] rfl (by decide +kernel)) (goodIn_sub (fun _ h => List.mem_cons_of_mem _ (List.mem_append_right _ h)) gwX12)
set_option maxRecDepth 20000 in
theorem g_kX12_counts_kX12_isThe_0 : GoodIn v_kX12_counts (wsV RX12 93 RX12 yX12_isThe v_kX12_isThe) := goodIn_app (goodIn_r [.methodLink RX12 93 yX12_isThe, .instanceMethod yX12_isThe, .selects RX12 yX12_isThe yX12_isThe, .initialized RX12] [7, 8, 9, 5] rfl (by decide +kernel)) gg_kX12_counts_kX12_isThe
set_option maxHeartbeats 4000000 in
set_option maxRecDepth 100000 in
theorem kX12_counts (l : Launch) (D : va_G) (cy : Nat → ClassId) (sz : Nat) (ma : Nat → Nat) (k : Int32) : Met l yX12_counts v_kX12_counts ({ frames := 2, cells := 0, slots := 0, locals := 43 } : Room) (va_Pc [.ref (ma 200), .int k] (gp_B D cy sz [((ma 200), mo_0 ma), ((ma 11), .inl (cy 3, 8, .inl (fun _ => 0)))])) (va_Qi (fun (r : Int32) (u : Unit) => r = (-1)) (fun u => gp_E D (va_A [((ma 200), mo_0 ma), ((ma 11), .inl (cy 3, 8, .inl (fun _ => 0)))] sz) []) (va_A [((ma 200), mo_0 ma), ((ma 11), .inl (cy 3, 8, .inl (fun _ => 0)))] sz)) 0 0 (va_A [((ma 200), mo_0 ma), ((ma 11), .inl (cy 3, 8, .inl (fun _ => 0)))] sz) := by
  refine gp_met (Qc := fun A => va_Qi (fun (r : Int32) (u : Unit) => r = (-1)) (fun u => gp_E D A []) A) (cc := cX12_counts) (maxL := 2) (ret := (some .int)) (by decide) rfl (Nat.le_of_ble_eq_true rfl) ?_
  intro p e s m below meth c A ls H hx hb hml hr hlocks hts hown hin hK hN hS hP hD hA hl
  have hown : s.vm.findClass RX12 = some m.cls := hown
  have hl : lv_has ls 2 [(0, .ref (ma 200)), (1, .int k)] := hl
  refine lv_aload_n hx hb dX12_counts_0 rfl (lv_at hl 0 rfl) ?_
  refine lv_iload_n hx hb dX12_counts_1 rfl (lv_at hl 1 rfl) ?_
  have hPc := hP.sub (ws' := [((ma 200), mo_0 ma), ((ma 11), .inl (cy 3, 8, .inl (fun _ => 0)))]) [0, 1] rfl
  have hDc := hD.sub (ws' := [((ma 200), mo_0 ma), ((ma 11), .inl (cy 3, 8, .inl (fun _ => 0)))]) [0, 1] (by decide) rfl
  have hFc := va_free (wc := [((ma 200), mo_0 ma), ((ma 11), .inl (cy 3, 8, .inl (fun _ => 0)))]) hD hS hA [0, 1] rfl
  refine va_calli (va_runV (As := [.int k]) (rest := []) ⟨hx, hb, hml, hown, hts⟩ (kX12_isThe l D cy H.size ma k) (cwV 1 hts g_kX12_counts_kX12_isThe_0 rfl rfl rfl (by decide +kernel) ⟨Nat.le_of_ble_eq_true rfl, Nat.le_of_ble_eq_true rfl⟩) (gp_preV (RX12, TX12, 104) 12 0 hPc hDc hK hN rfl rfl) rfl rfl hl.1 rfl (lv_room (Nat.le_of_ble_eq_true rfl)) dX12_counts_2 ⟨Nat.le_of_ble_eq_true rfl, Nat.le_of_ble_eq_true rfl⟩) hS (fun q _ h => hFc q h) hFc (fun r_1 u t H locs ht hvm hw hB hz1 hk1 hS => ?_)
  obtain ⟨hP, hD⟩ := gp_join (wr := []) (w1 := [((ma 200), mo_0 ma), ((ma 11), .inl (cy 3, 8, .inl (fun _ => 0)))]) hP hD [0, 1] [] rfl rfl (by decide) (by decide) hk1 hFc ht hB
  have hP : va_P D vwCl [((ma 200), mo_0 ma), ((ma 11), .inl (cy 3, 8, .inl (fun _ => 0)))] H := hP
  have hD : va_D A [((ma 200), mo_0 ma), ((ma 11), .inl (cy 3, 8, .inl (fun _ => 0)))] := hD
  obtain rfl : r_1 = 0 := hw
  refine lv_if_eq (tgt := 16) hx hb dX12_counts_5 (by decide) (fun c_2 => ?_) (fun c_2 => absurd (by decide) c_2)
  refine lv_iconst (v := (-1)) hx hb dX12_counts_16 (by decide) ?_
  exact W.iret (v := (-1)) hx hb hr (fun t ht hW => ⟨⟨(-1), (), rfl, rfl, gp_end ht (hP.sub (ws' := []) [] rfl) (hD.sub (ws' := []) [] (by decide) rfl)⟩, hS.F ht⟩) hS.2.2 dX12_counts_17

def v_kX12_settings : List Cond := .code yX12_settings cX12_settings 1 (some .int) :: ([.fieldLink RX12 504 "GhostPaneModel" "hasGrid" "Z"] ++ wsX120)
set_option maxHeartbeats 4000000 in
set_option maxRecDepth 100000 in
theorem kX12_settings (l : Launch) (D : va_G) (cy : Nat → ClassId) (sz : Nat) (ma : Nat → Nat) : Met l yX12_settings v_kX12_settings ({ frames := 0, cells := 0, slots := 0, locals := 0 } : Room) (va_Pc [.ref (ma 200)] (gp_B D cy sz [((ma 200), mo_0 ma)])) (va_Qi (fun (r : Int32) (u : Unit) => r = 0) (fun u => gp_E D (va_A [((ma 200), mo_0 ma)] sz) [((ma 200), mo_0 ma)]) (va_A [((ma 200), mo_0 ma)] sz)) 0 0 (va_A [((ma 200), mo_0 ma)] sz) := by
  refine gp_met (Qc := fun A => va_Qi (fun (r : Int32) (u : Unit) => r = 0) (fun u => gp_E D A [((ma 200), mo_0 ma)]) A) (cc := cX12_settings) (maxL := 1) (ret := (some .int)) (by decide) rfl (Nat.le_of_ble_eq_true rfl) ?_
  intro p e s m below meth c A ls H hx hb hml hr hlocks hts hown hin hK hN hS hP hD hA hl
  have hown : s.vm.findClass RX12 = some m.cls := hown
  have hl : lv_has ls 1 [(0, .ref (ma 200))] := hl
  have hiX12 : ∀ w ∈ u_ws RX12 TX12 104, w ∈ v_kX12_settings := fun _ h => List.mem_cons_of_mem _ (List.mem_append_right _ h)
  refine lv_aload_n hx hb dX12_settings_0 rfl (lv_at hl 0 rfl) ?_
  refine va_get (D := D) (ci := 12) (v := .int 0) (C := RX12) (T := TX12) (N := 104) hx hb hts hiX12 hown hK hP 0 rfl rfl 83 (by decide) (hts (.fieldLink RX12 504 "GhostPaneModel" "hasGrid" "Z") (List.mem_of_getElem? (i := 1) rfl)) (fun _ h9 => h9) rfl dX12_settings_1 ?_
  refine lv_if_eq (tgt := 19) hx hb dX12_settings_4 (by decide) (fun c_1 => ?_) (fun c_1 => absurd (by decide) c_1)
  refine lv_iconst (v := 0) hx hb dX12_settings_19 (by decide) ?_
  exact W.iret (v := 0) hx hb hr (fun t ht hW => ⟨⟨0, (), rfl, rfl, gp_end ht (hP.sub (ws' := [((ma 200), mo_0 ma)]) [0] rfl) (hD.sub (ws' := [((ma 200), mo_0 ma)]) [0] (by decide) rfl)⟩, hS.F ht⟩) hS.2.2 dX12_settings_20

theorem lf_kX12_isSetting_1 (ma : Nat → Nat) (k : Int32) : ¬ sp_in k 0 (-1) := by
  first | grind | (simp only [sp_in, sp_pl, sp_far, sp_two] at *; grind)
def v_kX12_isSetting : List Cond := .code yX12_isSetting cX12_isSetting 2 (some .boolean) :: ([.code yX12_settings cX12_settings 1 (some .int), .fieldLink RX12 504 "GhostPaneModel" "hasGrid" "Z", .methodLink RX12 532 yX12_settings, .instanceMethod yX12_settings, .selects RX12 yX12_settings yX12_settings, .initialized RX12, .code yX12_isIn cX12_isIn 3 (some .boolean), .methodLink RX12 3 yX12_isIn, .static yX12_isIn] ++ wsX120)
set_option maxRecDepth 20000 in
theorem gg_kX12_isSetting_kX12_settings : GoodIn v_kX12_isSetting v_kX12_settings := goodIn_ca (goodIn_r (.code yX12_settings cX12_settings 1 (some .int) :: [.fieldLink RX12 504 "GhostPaneModel" "hasGrid" "Z"]) [1, 2] rfl (by decide +kernel)) (goodIn_sub (fun _ h => List.mem_cons_of_mem _ (List.mem_append_right _ h)) gwX12)
set_option maxRecDepth 20000 in
theorem g_kX12_isSetting_kX12_settings_0 : GoodIn v_kX12_isSetting (wsV RX12 532 RX12 yX12_settings v_kX12_settings) := goodIn_app (goodIn_r [.methodLink RX12 532 yX12_settings, .instanceMethod yX12_settings, .selects RX12 yX12_settings yX12_settings, .initialized RX12] [3, 4, 5, 6] rfl (by decide +kernel)) gg_kX12_isSetting_kX12_settings
set_option maxRecDepth 20000 in
theorem gg_kX12_isSetting_kX12_isIn : GoodIn v_kX12_isSetting v_kX12_isIn := goodIn_r (.code yX12_isIn cX12_isIn 3 (some .boolean) :: []) [7] rfl (by decide +kernel)
set_option maxRecDepth 20000 in
theorem g_kX12_isSetting_kX12_isIn_1 : GoodIn v_kX12_isSetting (va_wsS RX12 3 yX12_isIn v_kX12_isIn) := goodIn_app (goodIn_r [.methodLink RX12 3 yX12_isIn, .static yX12_isIn, .initialized RX12] [8, 9, 6] rfl (by decide +kernel)) gg_kX12_isSetting_kX12_isIn
set_option maxHeartbeats 4000000 in
set_option maxRecDepth 100000 in
theorem kX12_isSetting (l : Launch) (D : va_G) (cy : Nat → ClassId) (sz : Nat) (ma : Nat → Nat) (k : Int32) : Met l yX12_isSetting v_kX12_isSetting ({ frames := 1, cells := 0, slots := 0, locals := 22 } : Room) (va_Pc [.ref (ma 200), .int k] (gp_B D cy sz [((ma 200), mo_0 ma)])) (va_Qi (fun (r : Int32) (u : Unit) => r = 0) (fun u => gp_E D (va_A [((ma 200), mo_0 ma)] sz) [((ma 200), mo_0 ma)]) (va_A [((ma 200), mo_0 ma)] sz)) 0 0 (va_A [((ma 200), mo_0 ma)] sz) := by
  refine gp_met (Qc := fun A => va_Qi (fun (r : Int32) (u : Unit) => r = 0) (fun u => gp_E D A [((ma 200), mo_0 ma)]) A) (cc := cX12_isSetting) (maxL := 2) (ret := (some .boolean)) (by decide) rfl (Nat.le_of_ble_eq_true rfl) ?_
  intro p e s m below meth c A ls H hx hb hml hr hlocks hts hown hin hK hN hS hP hD hA hl
  have hown : s.vm.findClass RX12 = some m.cls := hown
  have hl : lv_has ls 2 [(0, .ref (ma 200)), (1, .int k)] := hl
  refine lv_iload_n hx hb dX12_isSetting_0 rfl (lv_at hl 1 rfl) ?_
  refine lv_iconst (v := 0) hx hb dX12_isSetting_1 (by decide) ?_
  refine lv_aload_n hx hb dX12_isSetting_2 rfl (lv_at hl 0 rfl) ?_
  have hPc := hP.sub (ws' := [((ma 200), mo_0 ma)]) [0] rfl
  have hDc := hD.sub (ws' := [((ma 200), mo_0 ma)]) [0] (by decide) rfl
  have hFc := va_free (wc := [((ma 200), mo_0 ma)]) hD hS hA [0] rfl
  refine va_calli (va_runV (As := []) (rest := [.int 0, .int k]) ⟨hx, hb, hml, hown, hts⟩ (kX12_settings l D cy H.size ma) (cwV 0 hts g_kX12_isSetting_kX12_settings_0 rfl rfl rfl (by decide +kernel) ⟨Nat.le_of_ble_eq_true rfl, Nat.le_of_ble_eq_true rfl⟩) (gp_preV (RX12, TX12, 104) 12 0 hPc hDc hK hN rfl rfl) rfl rfl hl.1 rfl (lv_room (Nat.le_of_ble_eq_true rfl)) dX12_isSetting_3 ⟨Nat.le_of_ble_eq_true rfl, Nat.le_of_ble_eq_true rfl⟩) hS (fun q _ h => hFc q h) hFc (fun r_1 u t H locs ht hvm hw hB hz1 hk1 hS => ?_)
  obtain ⟨hP, hD⟩ := gp_join (wr := []) (w1 := [((ma 200), mo_0 ma)]) hP hD [0] [] rfl rfl (by decide) (by decide) hk1 hFc ht hB
  have hP : va_P D vwCl [((ma 200), mo_0 ma)] H := hP
  have hD : va_D A [((ma 200), mo_0 ma)] := hD
  obtain rfl : r_1 = 0 := hw
  refine lv_iconst (v := 1) hx hb dX12_isSetting_6 (by decide) ?_
  refine lv_isub hx hb dX12_isSetting_7 ?_
  refine gp_ni (-1) (by decide) ?_
  have hPc := hP.sub (ws' := []) [] rfl
  have hDc := hD.sub (ws' := []) [] (by decide) rfl
  have hFc := va_free (wc := []) hD hS hA [] rfl
  refine va_calli (va_runS (As := [.int k, .int 0, .int (-1)]) (rest := []) ⟨hx, hb, hml, hown, hts⟩ (kX12_isIn l D cy H.size k 0 (-1)) (va_cwS 3 hts g_kX12_isSetting_kX12_isIn_1 rfl rfl rfl (by decide +kernel) ⟨Nat.le_of_ble_eq_true rfl, Nat.le_of_ble_eq_true rfl⟩) (gp_preS hPc hDc hK hN) rfl rfl hl.1 rfl (lv_room (Nat.le_of_ble_eq_true rfl)) dX12_isSetting_8 ⟨Nat.le_of_ble_eq_true rfl, Nat.le_of_ble_eq_true rfl⟩) hS (fun q _ h => hFc q h) hFc (fun r_2 u t H locs ht hvm hw hB hz1 hk1 hS => ?_)
  obtain ⟨hP, hD⟩ := gp_join (wr := [((ma 200), mo_0 ma)]) (w1 := []) hP hD [] [0] rfl rfl (by decide) (by decide) hk1 hFc ht hB
  have hP : va_P D vwCl [((ma 200), mo_0 ma)] H := hP
  have hD : va_D A [((ma 200), mo_0 ma)] := hD
  rcases hw with ⟨rfl, p_3⟩ | ⟨rfl, p_3⟩
  · exact absurd p_3 (lf_kX12_isSetting_1 ma k)
  · refine lv_if_eq (tgt := 45) hx hb dX12_isSetting_11 (by decide) (fun c_4 => ?_) (fun c_4 => absurd (by decide) c_4)
    refine lv_iconst (v := 0) hx hb dX12_isSetting_45 (by decide) ?_
    exact W.zret (v := 0) hx hb hr narrow_b0 (fun t ht hW => ⟨⟨0, (), rfl, rfl, gp_end ht (hP.sub (ws' := [((ma 200), mo_0 ma)]) [0] rfl) (hD.sub (ws' := [((ma 200), mo_0 ma)]) [0] (by decide) rfl)⟩, hS.F ht⟩) hS.2.2 dX12_isSetting_46

def v_kX12_tried : List Cond := .code yX12_tried cX12_tried 2 (some .int) :: ([.code yX12_isSetting cX12_isSetting 2 (some .boolean), .code yX12_settings cX12_settings 1 (some .int), .fieldLink RX12 504 "GhostPaneModel" "hasGrid" "Z", .methodLink RX12 532 yX12_settings, .instanceMethod yX12_settings, .selects RX12 yX12_settings yX12_settings, .initialized RX12, .code yX12_isIn cX12_isIn 3 (some .boolean), .methodLink RX12 3 yX12_isIn, .static yX12_isIn, .methodLink RX12 544 yX12_isSetting, .instanceMethod yX12_isSetting, .selects RX12 yX12_isSetting yX12_isSetting] ++ wsX120)
set_option maxRecDepth 20000 in
theorem gg_kX12_tried_kX12_isSetting : GoodIn v_kX12_tried v_kX12_isSetting := goodIn_ca (goodIn_r (.code yX12_isSetting cX12_isSetting 2 (some .boolean) :: [.code yX12_settings cX12_settings 1 (some .int), .fieldLink RX12 504 "GhostPaneModel" "hasGrid" "Z", .methodLink RX12 532 yX12_settings, .instanceMethod yX12_settings, .selects RX12 yX12_settings yX12_settings, .initialized RX12, .code yX12_isIn cX12_isIn 3 (some .boolean), .methodLink RX12 3 yX12_isIn, .static yX12_isIn]) [1, 2, 3, 4, 5, 6, 7, 8, 9, 10] rfl (by decide +kernel)) (goodIn_sub (fun _ h => List.mem_cons_of_mem _ (List.mem_append_right _ h)) gwX12)
set_option maxRecDepth 20000 in
theorem g_kX12_tried_kX12_isSetting_0 : GoodIn v_kX12_tried (wsV RX12 544 RX12 yX12_isSetting v_kX12_isSetting) := goodIn_app (goodIn_r [.methodLink RX12 544 yX12_isSetting, .instanceMethod yX12_isSetting, .selects RX12 yX12_isSetting yX12_isSetting, .initialized RX12] [11, 12, 13, 7] rfl (by decide +kernel)) gg_kX12_tried_kX12_isSetting
set_option maxHeartbeats 4000000 in
set_option maxRecDepth 100000 in
theorem kX12_tried (l : Launch) (D : va_G) (cy : Nat → ClassId) (sz : Nat) (ma : Nat → Nat) (k : Int32) : Met l yX12_tried v_kX12_tried ({ frames := 2, cells := 0, slots := 0, locals := 43 } : Room) (va_Pc [.ref (ma 200), .int k] (gp_B D cy sz [((ma 200), mo_0 ma)])) (va_Qi (fun (r : Int32) (u : Unit) => r = (-1)) (fun u => gp_E D (va_A [((ma 200), mo_0 ma)] sz) []) (va_A [((ma 200), mo_0 ma)] sz)) 0 0 (va_A [((ma 200), mo_0 ma)] sz) := by
  refine gp_met (Qc := fun A => va_Qi (fun (r : Int32) (u : Unit) => r = (-1)) (fun u => gp_E D A []) A) (cc := cX12_tried) (maxL := 2) (ret := (some .int)) (by decide) rfl (Nat.le_of_ble_eq_true rfl) ?_
  intro p e s m below meth c A ls H hx hb hml hr hlocks hts hown hin hK hN hS hP hD hA hl
  have hown : s.vm.findClass RX12 = some m.cls := hown
  have hl : lv_has ls 2 [(0, .ref (ma 200)), (1, .int k)] := hl
  refine lv_aload_n hx hb dX12_tried_0 rfl (lv_at hl 0 rfl) ?_
  refine lv_iload_n hx hb dX12_tried_1 rfl (lv_at hl 1 rfl) ?_
  have hPc := hP.sub (ws' := [((ma 200), mo_0 ma)]) [0] rfl
  have hDc := hD.sub (ws' := [((ma 200), mo_0 ma)]) [0] (by decide) rfl
  have hFc := va_free (wc := [((ma 200), mo_0 ma)]) hD hS hA [0] rfl
  refine va_calli (va_runV (As := [.int k]) (rest := []) ⟨hx, hb, hml, hown, hts⟩ (kX12_isSetting l D cy H.size ma k) (cwV 1 hts g_kX12_tried_kX12_isSetting_0 rfl rfl rfl (by decide +kernel) ⟨Nat.le_of_ble_eq_true rfl, Nat.le_of_ble_eq_true rfl⟩) (gp_preV (RX12, TX12, 104) 12 0 hPc hDc hK hN rfl rfl) rfl rfl hl.1 rfl (lv_room (Nat.le_of_ble_eq_true rfl)) dX12_tried_2 ⟨Nat.le_of_ble_eq_true rfl, Nat.le_of_ble_eq_true rfl⟩) hS (fun q _ h => hFc q h) hFc (fun r_1 u t H locs ht hvm hw hB hz1 hk1 hS => ?_)
  obtain ⟨hP, hD⟩ := gp_join (wr := []) (w1 := [((ma 200), mo_0 ma)]) hP hD [0] [] rfl rfl (by decide) (by decide) hk1 hFc ht hB
  have hP : va_P D vwCl [((ma 200), mo_0 ma)] H := hP
  have hD : va_D A [((ma 200), mo_0 ma)] := hD
  obtain rfl : r_1 = 0 := hw
  refine lv_if_eq (tgt := 16) hx hb dX12_tried_5 (by decide) (fun c_2 => ?_) (fun c_2 => absurd (by decide) c_2)
  refine lv_iconst (v := (-1)) hx hb dX12_tried_16 (by decide) ?_
  exact W.iret (v := (-1)) hx hb hr (fun t ht hW => ⟨⟨(-1), (), rfl, rfl, gp_end ht (hP.sub (ws' := []) [] rfl) (hD.sub (ws' := []) [] (by decide) rfl)⟩, hS.F ht⟩) hS.2.2 dX12_tried_17

def v_kX12_best : List Cond := .code yX12_best cX12_best 5 (some .int) :: ([.fieldLink RX12 504 "GhostPaneModel" "hasGrid" "Z"] ++ wsX120)
set_option maxHeartbeats 4000000 in
set_option maxRecDepth 100000 in
theorem kX12_best (l : Launch) (D : va_G) (cy : Nat → ClassId) (sz : Nat) (ma : Nat → Nat) : Met l yX12_best v_kX12_best ({ frames := 0, cells := 0, slots := 0, locals := 0 } : Room) (va_Pc [.ref (ma 200)] (gp_B D cy sz [((ma 200), mo_0 ma)])) (va_Qi (fun (r : Int32) (u : Unit) => r = (-1)) (fun u => gp_E D (va_A [((ma 200), mo_0 ma)] sz) []) (va_A [((ma 200), mo_0 ma)] sz)) 0 0 (va_A [((ma 200), mo_0 ma)] sz) := by
  refine gp_met (Qc := fun A => va_Qi (fun (r : Int32) (u : Unit) => r = (-1)) (fun u => gp_E D A []) A) (cc := cX12_best) (maxL := 5) (ret := (some .int)) (by decide) rfl (Nat.le_of_ble_eq_true rfl) ?_
  intro p e s m below meth c A ls H hx hb hml hr hlocks hts hown hin hK hN hS hP hD hA hl
  have hown : s.vm.findClass RX12 = some m.cls := hown
  have hl : lv_has ls 5 [(0, .ref (ma 200))] := hl
  have hiX12 : ∀ w ∈ u_ws RX12 TX12 104, w ∈ v_kX12_best := fun _ h => List.mem_cons_of_mem _ (List.mem_append_right _ h)
  refine lv_aload_n hx hb dX12_best_0 rfl (lv_at hl 0 rfl) ?_
  refine va_get (D := D) (ci := 12) (v := .int 0) (C := RX12) (T := TX12) (N := 104) hx hb hts hiX12 hown hK hP 0 rfl rfl 83 (by decide) (hts (.fieldLink RX12 504 "GhostPaneModel" "hasGrid" "Z") (List.mem_of_getElem? (i := 1) rfl)) (fun _ h9 => h9) rfl dX12_best_1 ?_
  refine lv_if_eq (tgt := 34) hx hb dX12_best_4 (by decide) (fun c_1 => ?_) (fun c_1 => absurd (by decide) c_1)
  refine lv_iconst (v := (-1)) hx hb dX12_best_34 (by decide) ?_
  exact W.iret (v := (-1)) hx hb hr (fun t ht hW => ⟨⟨(-1), (), rfl, rfl, gp_end ht (hP.sub (ws' := []) [] rfl) (hD.sub (ws' := []) [] (by decide) rfl)⟩, hS.F ht⟩) hS.2.2 dX12_best_35

def v_kX12_take : List Cond := .code yX12_take cX12_take 2 (some .boolean) :: ([.code yX12_isSetting cX12_isSetting 2 (some .boolean), .code yX12_settings cX12_settings 1 (some .int), .fieldLink RX12 504 "GhostPaneModel" "hasGrid" "Z", .methodLink RX12 532 yX12_settings, .instanceMethod yX12_settings, .selects RX12 yX12_settings yX12_settings, .initialized RX12, .code yX12_isIn cX12_isIn 3 (some .boolean), .methodLink RX12 3 yX12_isIn, .static yX12_isIn, .methodLink RX12 544 yX12_isSetting, .instanceMethod yX12_isSetting, .selects RX12 yX12_isSetting yX12_isSetting] ++ wsX120)
set_option maxRecDepth 20000 in
theorem gg_kX12_take_kX12_isSetting : GoodIn v_kX12_take v_kX12_isSetting := goodIn_ca (goodIn_r (.code yX12_isSetting cX12_isSetting 2 (some .boolean) :: [.code yX12_settings cX12_settings 1 (some .int), .fieldLink RX12 504 "GhostPaneModel" "hasGrid" "Z", .methodLink RX12 532 yX12_settings, .instanceMethod yX12_settings, .selects RX12 yX12_settings yX12_settings, .initialized RX12, .code yX12_isIn cX12_isIn 3 (some .boolean), .methodLink RX12 3 yX12_isIn, .static yX12_isIn]) [1, 2, 3, 4, 5, 6, 7, 8, 9, 10] rfl (by decide +kernel)) (goodIn_sub (fun _ h => List.mem_cons_of_mem _ (List.mem_append_right _ h)) gwX12)
set_option maxRecDepth 20000 in
theorem g_kX12_take_kX12_isSetting_0 : GoodIn v_kX12_take (wsV RX12 544 RX12 yX12_isSetting v_kX12_isSetting) := goodIn_app (goodIn_r [.methodLink RX12 544 yX12_isSetting, .instanceMethod yX12_isSetting, .selects RX12 yX12_isSetting yX12_isSetting, .initialized RX12] [11, 12, 13, 7] rfl (by decide +kernel)) gg_kX12_take_kX12_isSetting
set_option maxHeartbeats 4000000 in
set_option maxRecDepth 100000 in
theorem kX12_take (l : Launch) (D : va_G) (cy : Nat → ClassId) (sz : Nat) (ma : Nat → Nat) (k : Int32) : Met l yX12_take v_kX12_take ({ frames := 2, cells := 0, slots := 0, locals := 43 } : Room) (va_Pc [.ref (ma 200), .int k] (gp_B D cy sz [((ma 200), mo_0 ma)])) (va_Qi (fun (r : Int32) (u : Unit) => r = 0) (fun u => gp_E D (va_A [((ma 200), mo_0 ma)] sz) []) (va_A [((ma 200), mo_0 ma)] sz)) 0 0 (va_A [((ma 200), mo_0 ma)] sz) := by
  refine gp_met (Qc := fun A => va_Qi (fun (r : Int32) (u : Unit) => r = 0) (fun u => gp_E D A []) A) (cc := cX12_take) (maxL := 2) (ret := (some .boolean)) (by decide) rfl (Nat.le_of_ble_eq_true rfl) ?_
  intro p e s m below meth c A ls H hx hb hml hr hlocks hts hown hin hK hN hS hP hD hA hl
  have hown : s.vm.findClass RX12 = some m.cls := hown
  have hl : lv_has ls 2 [(0, .ref (ma 200)), (1, .int k)] := hl
  refine lv_aload_n hx hb dX12_take_0 rfl (lv_at hl 0 rfl) ?_
  refine lv_iload_n hx hb dX12_take_1 rfl (lv_at hl 1 rfl) ?_
  have hPc := hP.sub (ws' := [((ma 200), mo_0 ma)]) [0] rfl
  have hDc := hD.sub (ws' := [((ma 200), mo_0 ma)]) [0] (by decide) rfl
  have hFc := va_free (wc := [((ma 200), mo_0 ma)]) hD hS hA [0] rfl
  refine va_calli (va_runV (As := [.int k]) (rest := []) ⟨hx, hb, hml, hown, hts⟩ (kX12_isSetting l D cy H.size ma k) (cwV 1 hts g_kX12_take_kX12_isSetting_0 rfl rfl rfl (by decide +kernel) ⟨Nat.le_of_ble_eq_true rfl, Nat.le_of_ble_eq_true rfl⟩) (gp_preV (RX12, TX12, 104) 12 0 hPc hDc hK hN rfl rfl) rfl rfl hl.1 rfl (lv_room (Nat.le_of_ble_eq_true rfl)) dX12_take_2 ⟨Nat.le_of_ble_eq_true rfl, Nat.le_of_ble_eq_true rfl⟩) hS (fun q _ h => hFc q h) hFc (fun r_1 u t H locs ht hvm hw hB hz1 hk1 hS => ?_)
  obtain ⟨hP, hD⟩ := gp_join (wr := []) (w1 := [((ma 200), mo_0 ma)]) hP hD [0] [] rfl rfl (by decide) (by decide) hk1 hFc ht hB
  have hP : va_P D vwCl [((ma 200), mo_0 ma)] H := hP
  have hD : va_D A [((ma 200), mo_0 ma)] := hD
  obtain rfl : r_1 = 0 := hw
  refine lv_if_eq (tgt := 16) hx hb dX12_take_5 (by decide) (fun c_2 => ?_) (fun c_2 => absurd (by decide) c_2)
  refine lv_iconst (v := 0) hx hb dX12_take_16 (by decide) ?_
  exact W.zret (v := 0) hx hb hr narrow_b0 (fun t ht hW => ⟨⟨0, (), rfl, rfl, gp_end ht (hP.sub (ws' := []) [] rfl) (hD.sub (ws' := []) [] (by decide) rfl)⟩, hS.F ht⟩) hS.2.2 dX12_take_17

theorem lf_kX12_join_1 (ma : Nat → Nat) (k : Int32) (c_1 : ¬ k < 0) : 0 ≤ k := by
  first | grind | (simp only [sp_in, sp_pl, sp_far, sp_two] at *; grind)
def v_kX12_join : List Cond := .code yX12_join cX12_join 2 (some .int) :: ([.fieldLink RX12 556 "GhostPaneModel" "joinMany" "I"] ++ wsX120)
set_option maxHeartbeats 4000000 in
set_option maxRecDepth 100000 in
theorem kX12_join (l : Launch) (D : va_G) (cy : Nat → ClassId) (sz : Nat) (ma : Nat → Nat) (k : Int32) : Met l yX12_join v_kX12_join ({ frames := 0, cells := 0, slots := 0, locals := 0 } : Room) (va_Pc [.ref (ma 200), .int k] (gp_B D cy sz [((ma 200), mo_0 ma)])) (va_Qi (fun (r : Int32) (u : Unit) => r = (-1)) (fun u => gp_E D (va_A [((ma 200), mo_0 ma)] sz) []) (va_A [((ma 200), mo_0 ma)] sz)) 0 0 (va_A [((ma 200), mo_0 ma)] sz) := by
  refine gp_met (Qc := fun A => va_Qi (fun (r : Int32) (u : Unit) => r = (-1)) (fun u => gp_E D A []) A) (cc := cX12_join) (maxL := 2) (ret := (some .int)) (by decide) rfl (Nat.le_of_ble_eq_true rfl) ?_
  intro p e s m below meth c A ls H hx hb hml hr hlocks hts hown hin hK hN hS hP hD hA hl
  have hown : s.vm.findClass RX12 = some m.cls := hown
  have hl : lv_has ls 2 [(0, .ref (ma 200)), (1, .int k)] := hl
  have hiX12 : ∀ w ∈ u_ws RX12 TX12 104, w ∈ v_kX12_join := fun _ h => List.mem_cons_of_mem _ (List.mem_append_right _ h)
  refine lv_iload_n hx hb dX12_join_0 rfl (lv_at hl 1 rfl) ?_
  refine lv_if_lt (tgt := 21) hx hb dX12_join_1 (by decide) (fun c_1 => ?_) (fun c_1 => ?_)
  · refine lv_iconst (v := (-1)) hx hb dX12_join_21 (by decide) ?_
    exact W.iret (v := (-1)) hx hb hr (fun t ht hW => ⟨⟨(-1), (), rfl, rfl, gp_end ht (hP.sub (ws' := []) [] rfl) (hD.sub (ws' := []) [] (by decide) rfl)⟩, hS.F ht⟩) hS.2.2 dX12_join_22
  · refine lv_iload_n hx hb dX12_join_4 rfl (lv_at hl 1 rfl) ?_
    refine lv_aload_n hx hb dX12_join_5 rfl (lv_at hl 0 rfl) ?_
    refine va_get (D := D) (ci := 12) (v := .int 0) (C := RX12) (T := TX12) (N := 104) hx hb hts hiX12 hown hK hP 0 rfl rfl 92 (by decide) (hts (.fieldLink RX12 556 "GhostPaneModel" "joinMany" "I") (List.mem_of_getElem? (i := 1) rfl)) (fun _ h9 => h9) rfl dX12_join_6 ?_
    refine lv_icmp_ge (tgt := 21) hx hb dX12_join_9 (by decide) (fun c_2 => ?_) (fun c_2 => absurd (lf_kX12_join_1 ma k c_1) c_2)
    refine lv_iconst (v := (-1)) hx hb dX12_join_21 (by decide) ?_
    exact W.iret (v := (-1)) hx hb hr (fun t ht hW => ⟨⟨(-1), (), rfl, rfl, gp_end ht (hP.sub (ws' := []) [] rfl) (hD.sub (ws' := []) [] (by decide) rfl)⟩, hS.F ht⟩) hS.2.2 dX12_join_22

theorem lf_kX12_report_1 (ma : Nat → Nat) (k : Int32) (n : Int32) (z : Int32) (p_2 : sp_in k 0 7) (p_5 : sp_in n 0 240) (c_8 : z = 0) : (1 : Int32) = (if sp_in k 0 7 ∧ sp_in n 0 240 then 1 else (-1)) := by
  first | grind | (simp only [sp_in, sp_pl, sp_far, sp_two] at *; grind)
theorem lf_kX12_report_2 (ma : Nat → Nat) (k : Int32) (n : Int32) (z : Int32) (p_2 : sp_in k 0 7) (p_5 : sp_in n 0 240) (c_8 : ¬ z = 0) : (1 : Int32) = (if sp_in k 0 7 ∧ sp_in n 0 240 then 1 else (-1)) := by
  first | grind | (simp only [sp_in, sp_pl, sp_far, sp_two] at *; grind)
theorem lf_kX12_report_3 (ma : Nat → Nat) (k : Int32) (n : Int32) (z : Int32) (p_2 : sp_in k 0 7) (p_5 : ¬ sp_in n 0 240) : ((-1) : Int32) = (if sp_in k 0 7 ∧ sp_in n 0 240 then 1 else (-1)) := by
  first | grind | (simp only [sp_in, sp_pl, sp_far, sp_two] at *; grind)
theorem lf_kX12_report_4 (ma : Nat → Nat) (k : Int32) (n : Int32) (z : Int32) (p_2 : ¬ sp_in k 0 7) : ((-1) : Int32) = (if sp_in k 0 7 ∧ sp_in n 0 240 then 1 else (-1)) := by
  first | grind | (simp only [sp_in, sp_pl, sp_far, sp_two] at *; grind)
def v_kX12_report : List Cond := .code yX12_report cX12_report 4 (some .int) :: ([.code yX12_isIn cX12_isIn 3 (some .boolean), .methodLink RX12 3 yX12_isIn, .static yX12_isIn, .initialized RX12, .fieldLink RX12 559 "GhostPaneModel" "acts" "I", .fieldLink RX12 411 "GhostPaneModel" "actSeat" "[I", .fieldLink RX12 414 "GhostPaneModel" "actCount" "[I", .fieldLink RX12 417 "GhostPaneModel" "actSaw" "[I", .fieldLink RX12 420 "GhostPaneModel" "voidAt" "[I"] ++ wsX120)
set_option maxRecDepth 20000 in
theorem gg_kX12_report_kX12_isIn : GoodIn v_kX12_report v_kX12_isIn := goodIn_r (.code yX12_isIn cX12_isIn 3 (some .boolean) :: []) [1] rfl (by decide +kernel)
set_option maxRecDepth 20000 in
theorem g_kX12_report_kX12_isIn_0 : GoodIn v_kX12_report (va_wsS RX12 3 yX12_isIn v_kX12_isIn) := goodIn_app (goodIn_r [.methodLink RX12 3 yX12_isIn, .static yX12_isIn, .initialized RX12] [2, 3, 4] rfl (by decide +kernel)) gg_kX12_report_kX12_isIn
set_option maxHeartbeats 4000000 in
set_option maxRecDepth 100000 in
theorem kX12_report (l : Launch) (D : va_G) (cy : Nat → ClassId) (sz : Nat) (ma : Nat → Nat) (k : Int32) (n : Int32) (z : Int32) : Met l yX12_report v_kX12_report ({ frames := 1, cells := 0, slots := 0, locals := 22 } : Room) (va_Pc [.ref (ma 200), .int k, .int n, .int z] (gp_B D cy sz [((ma 200), mo_0 ma), ((ma 97), .inl (cy 1, 101, .inl (fun _ => 0))), ((ma 98), .inl (cy 1, 101, .inl (fun _ => 0))), ((ma 99), .inl (cy 1, 101, .inl (fun _ => 0))), ((ma 100), .inl (cy 1, 101, .inl (fun _ => 0)))])) (va_Qi (fun (r : Int32) (u : Unit) => r = (if sp_in k 0 7 ∧ sp_in n 0 240 then 1 else (-1))) (fun u => gp_E D (va_A [((ma 200), mo_0 ma), ((ma 97), .inl (cy 1, 101, .inl (fun _ => 0))), ((ma 98), .inl (cy 1, 101, .inl (fun _ => 0))), ((ma 99), .inl (cy 1, 101, .inl (fun _ => 0))), ((ma 100), .inl (cy 1, 101, .inl (fun _ => 0)))] sz) []) (va_A [((ma 200), mo_0 ma), ((ma 97), .inl (cy 1, 101, .inl (fun _ => 0))), ((ma 98), .inl (cy 1, 101, .inl (fun _ => 0))), ((ma 99), .inl (cy 1, 101, .inl (fun _ => 0))), ((ma 100), .inl (cy 1, 101, .inl (fun _ => 0)))] sz)) 0 0 (va_A [((ma 200), mo_0 ma), ((ma 97), .inl (cy 1, 101, .inl (fun _ => 0))), ((ma 98), .inl (cy 1, 101, .inl (fun _ => 0))), ((ma 99), .inl (cy 1, 101, .inl (fun _ => 0))), ((ma 100), .inl (cy 1, 101, .inl (fun _ => 0)))] sz) := by
  refine gp_met (Qc := fun A => va_Qi (fun (r : Int32) (u : Unit) => r = (if sp_in k 0 7 ∧ sp_in n 0 240 then 1 else (-1))) (fun u => gp_E D A []) A) (cc := cX12_report) (maxL := 4) (ret := (some .int)) (by decide) rfl (Nat.le_of_ble_eq_true rfl) ?_
  intro p e s m below meth c A ls H hx hb hml hr hlocks hts hown hin hK hN hS hP hD hA hl
  have hown : s.vm.findClass RX12 = some m.cls := hown
  have hl : lv_has ls 4 [(0, .ref (ma 200)), (1, .int k), (2, .int n), (3, .int z)] := hl
  have hiX12 : ∀ w ∈ u_ws RX12 TX12 104, w ∈ v_kX12_report := fun _ h => List.mem_cons_of_mem _ (List.mem_append_right _ h)
  refine lv_iload_n hx hb dX12_report_0 rfl (lv_at hl 1 rfl) ?_
  refine lv_iconst (v := 0) hx hb dX12_report_1 (by decide) ?_
  refine lv_bipush (v := 7) hx hb dX12_report_2 (by decide) ?_
  have hPc := hP.sub (ws' := []) [] rfl
  have hDc := hD.sub (ws' := []) [] (by decide) rfl
  have hFc := va_free (wc := []) hD hS hA [] rfl
  refine va_calli (va_runS (As := [.int k, .int 0, .int 7]) (rest := []) ⟨hx, hb, hml, hown, hts⟩ (kX12_isIn l D cy H.size k 0 7) (va_cwS 3 hts g_kX12_report_kX12_isIn_0 rfl rfl rfl (by decide +kernel) ⟨Nat.le_of_ble_eq_true rfl, Nat.le_of_ble_eq_true rfl⟩) (gp_preS hPc hDc hK hN) rfl rfl hl.1 rfl (lv_room (Nat.le_of_ble_eq_true rfl)) dX12_report_4 ⟨Nat.le_of_ble_eq_true rfl, Nat.le_of_ble_eq_true rfl⟩) hS (fun q _ h => hFc q h) hFc (fun r_1 u t H locs ht hvm hw hB hz1 hk1 hS => ?_)
  obtain ⟨hP, hD⟩ := gp_join (wr := [((ma 200), mo_0 ma), ((ma 97), .inl (cy 1, 101, .inl (fun _ => 0))), ((ma 98), .inl (cy 1, 101, .inl (fun _ => 0))), ((ma 99), .inl (cy 1, 101, .inl (fun _ => 0))), ((ma 100), .inl (cy 1, 101, .inl (fun _ => 0)))]) (w1 := []) hP hD [] [0, 1, 2, 3, 4] rfl rfl (by decide) (by decide) hk1 hFc ht hB
  have hP : va_P D vwCl [((ma 200), mo_0 ma), ((ma 97), .inl (cy 1, 101, .inl (fun _ => 0))), ((ma 98), .inl (cy 1, 101, .inl (fun _ => 0))), ((ma 99), .inl (cy 1, 101, .inl (fun _ => 0))), ((ma 100), .inl (cy 1, 101, .inl (fun _ => 0)))] H := hP
  have hD : va_D A [((ma 200), mo_0 ma), ((ma 97), .inl (cy 1, 101, .inl (fun _ => 0))), ((ma 98), .inl (cy 1, 101, .inl (fun _ => 0))), ((ma 99), .inl (cy 1, 101, .inl (fun _ => 0))), ((ma 100), .inl (cy 1, 101, .inl (fun _ => 0)))] := hD
  rcases hw with ⟨rfl, p_2⟩ | ⟨rfl, p_2⟩
  · refine lv_if_eq (tgt := 30) hx hb dX12_report_7 (by decide) (fun c_3 => absurd c_3 (by decide)) (fun c_3 => ?_)
    refine lv_iload_n hx hb dX12_report_10 rfl (lv_at hl 2 rfl) ?_
    refine lv_iconst (v := 0) hx hb dX12_report_11 (by decide) ?_
    refine lv_sipush (v := 240) hx hb dX12_report_12 (by decide) ?_
    have hPc := hP.sub (ws' := []) [] rfl
    have hDc := hD.sub (ws' := []) [] (by decide) rfl
    have hFc := va_free (wc := []) hD hS hA [] rfl
    refine va_calli (va_runS (As := [.int n, .int 0, .int 240]) (rest := []) ⟨hx, hb, hml, hown, hts⟩ (kX12_isIn l D cy H.size n 0 240) (va_cwS 3 hts g_kX12_report_kX12_isIn_0 rfl rfl rfl (by decide +kernel) ⟨Nat.le_of_ble_eq_true rfl, Nat.le_of_ble_eq_true rfl⟩) (gp_preS hPc hDc hK hN) rfl rfl hl.1 rfl (lv_room (Nat.le_of_ble_eq_true rfl)) dX12_report_15 ⟨Nat.le_of_ble_eq_true rfl, Nat.le_of_ble_eq_true rfl⟩) hS (fun q _ h => hFc q h) hFc (fun r_4 u t H locs ht hvm hw hB hz1 hk1 hS => ?_)
    obtain ⟨hP, hD⟩ := gp_join (wr := [((ma 200), mo_0 ma), ((ma 97), .inl (cy 1, 101, .inl (fun _ => 0))), ((ma 98), .inl (cy 1, 101, .inl (fun _ => 0))), ((ma 99), .inl (cy 1, 101, .inl (fun _ => 0))), ((ma 100), .inl (cy 1, 101, .inl (fun _ => 0)))]) (w1 := []) hP hD [] [0, 1, 2, 3, 4] rfl rfl (by decide) (by decide) hk1 hFc ht hB
    have hP : va_P D vwCl [((ma 200), mo_0 ma), ((ma 97), .inl (cy 1, 101, .inl (fun _ => 0))), ((ma 98), .inl (cy 1, 101, .inl (fun _ => 0))), ((ma 99), .inl (cy 1, 101, .inl (fun _ => 0))), ((ma 100), .inl (cy 1, 101, .inl (fun _ => 0)))] H := hP
    have hD : va_D A [((ma 200), mo_0 ma), ((ma 97), .inl (cy 1, 101, .inl (fun _ => 0))), ((ma 98), .inl (cy 1, 101, .inl (fun _ => 0))), ((ma 99), .inl (cy 1, 101, .inl (fun _ => 0))), ((ma 100), .inl (cy 1, 101, .inl (fun _ => 0)))] := hD
    rcases hw with ⟨rfl, p_5⟩ | ⟨rfl, p_5⟩
    · refine lv_if_eq (tgt := 30) hx hb dX12_report_18 (by decide) (fun c_6 => absurd c_6 (by decide)) (fun c_6 => ?_)
      refine lv_aload_n hx hb dX12_report_21 rfl (lv_at hl 0 rfl) ?_
      refine va_get (D := D) (ci := 12) (v := .int 0) (C := RX12) (T := TX12) (N := 104) hx hb hts hiX12 hown hK hP 0 rfl rfl 96 (by decide) (hts (.fieldLink RX12 559 "GhostPaneModel" "acts" "I") (List.mem_of_getElem? (i := 5) rfl)) (fun _ h9 => h9) rfl dX12_report_22 ?_
      refine lv_bipush (v := 100) hx hb dX12_report_25 (by decide) ?_
      refine lv_icmp_ne (tgt := 32) hx hb dX12_report_27 (by decide) (fun c_7 => ?_) (fun c_7 => absurd c_7 (by decide))
      refine lv_aload_n hx hb dX12_report_32 rfl (lv_at hl 0 rfl) ?_
      refine lv_dup hx hb dX12_report_33 rfl ?_
      refine va_get (D := D) (ci := 12) (v := .int 0) (C := RX12) (T := TX12) (N := 104) hx hb hts hiX12 hown hK hP 0 rfl rfl 96 (by decide) (hts (.fieldLink RX12 559 "GhostPaneModel" "acts" "I") (List.mem_of_getElem? (i := 5) rfl)) (fun _ h9 => h9) rfl dX12_report_34 ?_
      refine lv_iconst (v := 1) hx hb dX12_report_37 (by decide) ?_
      refine lv_iadd hx hb dX12_report_38 ?_
      refine gp_ni 1 (by decide) ?_
      refine va_put (D := D) (ci := 12) (v := .int 1) (ty := .int) (C := RX12) (T := TX12) (N := 104) hx hb hts hiX12 tyX12 tyX12_ok nmX12 hown hK hP hD hS 0 rfl rfl 96 (by decide) (hts (.fieldLink RX12 559 "GhostPaneModel" "acts" "I") (List.mem_of_getElem? (i := 5) rfl)) (fun _ h9 => h9) rfl (by decide +kernel) rfl rfl (Nat.le_of_ble_eq_true rfl) dX12_report_39 (fun H locs hP hD hS => ?_)
      have hP : va_P D vwCl [((ma 200), .inr (12, [.int (-50), .int 0, .int 50, .int 80, .int (-60), .int (-40), .int 60, .int (-40), .int 0, .int 4, .int 0, .ref (ma 11), .ref (ma 12), .ref (ma 13), .ref (ma 14), .ref (ma 15), .ref (ma 16), .ref (ma 17), .ref (ma 18), .ref (ma 19), .ref (ma 20), .ref (ma 21), .ref (ma 22), .ref (ma 23), .ref (ma 24), .long 0, .long 0, .long 0, .long 0, .long 0, .long 0, .long 0, .long 0, .ref (ma 33), .int 0, .int 0, .int 0, .int 0, .int 0, .int 0, .int 0, .int (-1), .int 0, .ref (ma 43), .ref (ma 44), .ref (ma 45), .ref (ma 46), .ref (ma 47), .ref (ma 48), .ref (ma 49), .ref (ma 50), .ref (ma 51), .ref (ma 52), .ref (ma 53), .ref (ma 54), .int 0, .ref (ma 56), .ref (ma 57), .ref (ma 58), .ref (ma 59), .ref (ma 60), .ref (ma 61), .ref (ma 62), .int 0, .ref (ma 64), .ref (ma 65), .int 0, .ref (ma 67), .ref (ma 68), .ref (ma 69), .ref (ma 70), .ref (ma 71), .int 0, .ref (ma 73), .ref (ma 74), .ref (ma 75), .int 0, .int 0, .ref (ma 78), .ref (ma 79), .ref (ma 80), .ref (ma 81), .int 0, .int 0, .int 0, .int 0, .int 0, .int 0, .int 0, .int 0, .int 0, .int 0, .int 0, .ref (ma 93), .ref (ma 94), .ref (ma 95), .int 1, .ref (ma 97), .ref (ma 98), .ref (ma 99), .ref (ma 100), .ref (ma 101), .ref (ma 102), .ref (ma 103)])), ((ma 97), .inl (cy 1, 101, .inl (fun _ => 0))), ((ma 98), .inl (cy 1, 101, .inl (fun _ => 0))), ((ma 99), .inl (cy 1, 101, .inl (fun _ => 0))), ((ma 100), .inl (cy 1, 101, .inl (fun _ => 0)))] H := hP
      have hD : va_D A [((ma 200), .inr (12, [.int (-50), .int 0, .int 50, .int 80, .int (-60), .int (-40), .int 60, .int (-40), .int 0, .int 4, .int 0, .ref (ma 11), .ref (ma 12), .ref (ma 13), .ref (ma 14), .ref (ma 15), .ref (ma 16), .ref (ma 17), .ref (ma 18), .ref (ma 19), .ref (ma 20), .ref (ma 21), .ref (ma 22), .ref (ma 23), .ref (ma 24), .long 0, .long 0, .long 0, .long 0, .long 0, .long 0, .long 0, .long 0, .ref (ma 33), .int 0, .int 0, .int 0, .int 0, .int 0, .int 0, .int 0, .int (-1), .int 0, .ref (ma 43), .ref (ma 44), .ref (ma 45), .ref (ma 46), .ref (ma 47), .ref (ma 48), .ref (ma 49), .ref (ma 50), .ref (ma 51), .ref (ma 52), .ref (ma 53), .ref (ma 54), .int 0, .ref (ma 56), .ref (ma 57), .ref (ma 58), .ref (ma 59), .ref (ma 60), .ref (ma 61), .ref (ma 62), .int 0, .ref (ma 64), .ref (ma 65), .int 0, .ref (ma 67), .ref (ma 68), .ref (ma 69), .ref (ma 70), .ref (ma 71), .int 0, .ref (ma 73), .ref (ma 74), .ref (ma 75), .int 0, .int 0, .ref (ma 78), .ref (ma 79), .ref (ma 80), .ref (ma 81), .int 0, .int 0, .int 0, .int 0, .int 0, .int 0, .int 0, .int 0, .int 0, .int 0, .int 0, .ref (ma 93), .ref (ma 94), .ref (ma 95), .int 1, .ref (ma 97), .ref (ma 98), .ref (ma 99), .ref (ma 100), .ref (ma 101), .ref (ma 102), .ref (ma 103)])), ((ma 97), .inl (cy 1, 101, .inl (fun _ => 0))), ((ma 98), .inl (cy 1, 101, .inl (fun _ => 0))), ((ma 99), .inl (cy 1, 101, .inl (fun _ => 0))), ((ma 100), .inl (cy 1, 101, .inl (fun _ => 0)))] := hD
      refine lv_aload_n hx hb dX12_report_42 rfl (lv_at hl 0 rfl) ?_
      refine va_get (D := D) (ci := 12) (v := .ref (ma 97)) (C := RX12) (T := TX12) (N := 104) hx hb hts hiX12 hown hK hP 0 rfl rfl 97 (by decide) (hts (.fieldLink RX12 411 "GhostPaneModel" "actSeat" "[I") (List.mem_of_getElem? (i := 6) rfl)) (fun _ h9 => h9) rfl dX12_report_43 ?_
      refine lv_aload_n hx hb dX12_report_46 rfl (lv_at hl 0 rfl) ?_
      refine va_get (D := D) (ci := 12) (v := .int 1) (C := RX12) (T := TX12) (N := 104) hx hb hts hiX12 hown hK hP 0 rfl rfl 96 (by decide) (hts (.fieldLink RX12 559 "GhostPaneModel" "acts" "I") (List.mem_of_getElem? (i := 5) rfl)) (fun _ h9 => h9) rfl dX12_report_47 ?_
      refine lv_iload_n hx hb dX12_report_50 rfl (lv_at hl 1 rfl) ?_
      refine va_iast hx hb hK hP hD hS 1 1 rfl rfl (by unfold vp_in; decide) dX12_report_51 (fun H locs hP hD hS => ?_)
      have hP : va_P D vwCl [((ma 200), .inr (12, [.int (-50), .int 0, .int 50, .int 80, .int (-60), .int (-40), .int 60, .int (-40), .int 0, .int 4, .int 0, .ref (ma 11), .ref (ma 12), .ref (ma 13), .ref (ma 14), .ref (ma 15), .ref (ma 16), .ref (ma 17), .ref (ma 18), .ref (ma 19), .ref (ma 20), .ref (ma 21), .ref (ma 22), .ref (ma 23), .ref (ma 24), .long 0, .long 0, .long 0, .long 0, .long 0, .long 0, .long 0, .long 0, .ref (ma 33), .int 0, .int 0, .int 0, .int 0, .int 0, .int 0, .int 0, .int (-1), .int 0, .ref (ma 43), .ref (ma 44), .ref (ma 45), .ref (ma 46), .ref (ma 47), .ref (ma 48), .ref (ma 49), .ref (ma 50), .ref (ma 51), .ref (ma 52), .ref (ma 53), .ref (ma 54), .int 0, .ref (ma 56), .ref (ma 57), .ref (ma 58), .ref (ma 59), .ref (ma 60), .ref (ma 61), .ref (ma 62), .int 0, .ref (ma 64), .ref (ma 65), .int 0, .ref (ma 67), .ref (ma 68), .ref (ma 69), .ref (ma 70), .ref (ma 71), .int 0, .ref (ma 73), .ref (ma 74), .ref (ma 75), .int 0, .int 0, .ref (ma 78), .ref (ma 79), .ref (ma 80), .ref (ma 81), .int 0, .int 0, .int 0, .int 0, .int 0, .int 0, .int 0, .int 0, .int 0, .int 0, .int 0, .ref (ma 93), .ref (ma 94), .ref (ma 95), .int 1, .ref (ma 97), .ref (ma 98), .ref (ma 99), .ref (ma 100), .ref (ma 101), .ref (ma 102), .ref (ma 103)])), ((ma 97), .inl (cy 1, 101, .inl (upd (fun _ => 0) 1 k))), ((ma 98), .inl (cy 1, 101, .inl (fun _ => 0))), ((ma 99), .inl (cy 1, 101, .inl (fun _ => 0))), ((ma 100), .inl (cy 1, 101, .inl (fun _ => 0)))] H := hP
      have hD : va_D A [((ma 200), .inr (12, [.int (-50), .int 0, .int 50, .int 80, .int (-60), .int (-40), .int 60, .int (-40), .int 0, .int 4, .int 0, .ref (ma 11), .ref (ma 12), .ref (ma 13), .ref (ma 14), .ref (ma 15), .ref (ma 16), .ref (ma 17), .ref (ma 18), .ref (ma 19), .ref (ma 20), .ref (ma 21), .ref (ma 22), .ref (ma 23), .ref (ma 24), .long 0, .long 0, .long 0, .long 0, .long 0, .long 0, .long 0, .long 0, .ref (ma 33), .int 0, .int 0, .int 0, .int 0, .int 0, .int 0, .int 0, .int (-1), .int 0, .ref (ma 43), .ref (ma 44), .ref (ma 45), .ref (ma 46), .ref (ma 47), .ref (ma 48), .ref (ma 49), .ref (ma 50), .ref (ma 51), .ref (ma 52), .ref (ma 53), .ref (ma 54), .int 0, .ref (ma 56), .ref (ma 57), .ref (ma 58), .ref (ma 59), .ref (ma 60), .ref (ma 61), .ref (ma 62), .int 0, .ref (ma 64), .ref (ma 65), .int 0, .ref (ma 67), .ref (ma 68), .ref (ma 69), .ref (ma 70), .ref (ma 71), .int 0, .ref (ma 73), .ref (ma 74), .ref (ma 75), .int 0, .int 0, .ref (ma 78), .ref (ma 79), .ref (ma 80), .ref (ma 81), .int 0, .int 0, .int 0, .int 0, .int 0, .int 0, .int 0, .int 0, .int 0, .int 0, .int 0, .ref (ma 93), .ref (ma 94), .ref (ma 95), .int 1, .ref (ma 97), .ref (ma 98), .ref (ma 99), .ref (ma 100), .ref (ma 101), .ref (ma 102), .ref (ma 103)])), ((ma 97), .inl (cy 1, 101, .inl (upd (fun _ => 0) 1 k))), ((ma 98), .inl (cy 1, 101, .inl (fun _ => 0))), ((ma 99), .inl (cy 1, 101, .inl (fun _ => 0))), ((ma 100), .inl (cy 1, 101, .inl (fun _ => 0)))] := hD
      refine lv_aload_n hx hb dX12_report_52 rfl (lv_at hl 0 rfl) ?_
      refine va_get (D := D) (ci := 12) (v := .ref (ma 98)) (C := RX12) (T := TX12) (N := 104) hx hb hts hiX12 hown hK hP 0 rfl rfl 98 (by decide) (hts (.fieldLink RX12 414 "GhostPaneModel" "actCount" "[I") (List.mem_of_getElem? (i := 7) rfl)) (fun _ h9 => h9) rfl dX12_report_53 ?_
      refine lv_aload_n hx hb dX12_report_56 rfl (lv_at hl 0 rfl) ?_
      refine va_get (D := D) (ci := 12) (v := .int 1) (C := RX12) (T := TX12) (N := 104) hx hb hts hiX12 hown hK hP 0 rfl rfl 96 (by decide) (hts (.fieldLink RX12 559 "GhostPaneModel" "acts" "I") (List.mem_of_getElem? (i := 5) rfl)) (fun _ h9 => h9) rfl dX12_report_57 ?_
      refine lv_iload_n hx hb dX12_report_60 rfl (lv_at hl 2 rfl) ?_
      refine va_iast hx hb hK hP hD hS 2 1 rfl rfl (by unfold vp_in; decide) dX12_report_61 (fun H locs hP hD hS => ?_)
      have hP : va_P D vwCl [((ma 200), .inr (12, [.int (-50), .int 0, .int 50, .int 80, .int (-60), .int (-40), .int 60, .int (-40), .int 0, .int 4, .int 0, .ref (ma 11), .ref (ma 12), .ref (ma 13), .ref (ma 14), .ref (ma 15), .ref (ma 16), .ref (ma 17), .ref (ma 18), .ref (ma 19), .ref (ma 20), .ref (ma 21), .ref (ma 22), .ref (ma 23), .ref (ma 24), .long 0, .long 0, .long 0, .long 0, .long 0, .long 0, .long 0, .long 0, .ref (ma 33), .int 0, .int 0, .int 0, .int 0, .int 0, .int 0, .int 0, .int (-1), .int 0, .ref (ma 43), .ref (ma 44), .ref (ma 45), .ref (ma 46), .ref (ma 47), .ref (ma 48), .ref (ma 49), .ref (ma 50), .ref (ma 51), .ref (ma 52), .ref (ma 53), .ref (ma 54), .int 0, .ref (ma 56), .ref (ma 57), .ref (ma 58), .ref (ma 59), .ref (ma 60), .ref (ma 61), .ref (ma 62), .int 0, .ref (ma 64), .ref (ma 65), .int 0, .ref (ma 67), .ref (ma 68), .ref (ma 69), .ref (ma 70), .ref (ma 71), .int 0, .ref (ma 73), .ref (ma 74), .ref (ma 75), .int 0, .int 0, .ref (ma 78), .ref (ma 79), .ref (ma 80), .ref (ma 81), .int 0, .int 0, .int 0, .int 0, .int 0, .int 0, .int 0, .int 0, .int 0, .int 0, .int 0, .ref (ma 93), .ref (ma 94), .ref (ma 95), .int 1, .ref (ma 97), .ref (ma 98), .ref (ma 99), .ref (ma 100), .ref (ma 101), .ref (ma 102), .ref (ma 103)])), ((ma 97), .inl (cy 1, 101, .inl (upd (fun _ => 0) 1 k))), ((ma 98), .inl (cy 1, 101, .inl (upd (fun _ => 0) 1 n))), ((ma 99), .inl (cy 1, 101, .inl (fun _ => 0))), ((ma 100), .inl (cy 1, 101, .inl (fun _ => 0)))] H := hP
      have hD : va_D A [((ma 200), .inr (12, [.int (-50), .int 0, .int 50, .int 80, .int (-60), .int (-40), .int 60, .int (-40), .int 0, .int 4, .int 0, .ref (ma 11), .ref (ma 12), .ref (ma 13), .ref (ma 14), .ref (ma 15), .ref (ma 16), .ref (ma 17), .ref (ma 18), .ref (ma 19), .ref (ma 20), .ref (ma 21), .ref (ma 22), .ref (ma 23), .ref (ma 24), .long 0, .long 0, .long 0, .long 0, .long 0, .long 0, .long 0, .long 0, .ref (ma 33), .int 0, .int 0, .int 0, .int 0, .int 0, .int 0, .int 0, .int (-1), .int 0, .ref (ma 43), .ref (ma 44), .ref (ma 45), .ref (ma 46), .ref (ma 47), .ref (ma 48), .ref (ma 49), .ref (ma 50), .ref (ma 51), .ref (ma 52), .ref (ma 53), .ref (ma 54), .int 0, .ref (ma 56), .ref (ma 57), .ref (ma 58), .ref (ma 59), .ref (ma 60), .ref (ma 61), .ref (ma 62), .int 0, .ref (ma 64), .ref (ma 65), .int 0, .ref (ma 67), .ref (ma 68), .ref (ma 69), .ref (ma 70), .ref (ma 71), .int 0, .ref (ma 73), .ref (ma 74), .ref (ma 75), .int 0, .int 0, .ref (ma 78), .ref (ma 79), .ref (ma 80), .ref (ma 81), .int 0, .int 0, .int 0, .int 0, .int 0, .int 0, .int 0, .int 0, .int 0, .int 0, .int 0, .ref (ma 93), .ref (ma 94), .ref (ma 95), .int 1, .ref (ma 97), .ref (ma 98), .ref (ma 99), .ref (ma 100), .ref (ma 101), .ref (ma 102), .ref (ma 103)])), ((ma 97), .inl (cy 1, 101, .inl (upd (fun _ => 0) 1 k))), ((ma 98), .inl (cy 1, 101, .inl (upd (fun _ => 0) 1 n))), ((ma 99), .inl (cy 1, 101, .inl (fun _ => 0))), ((ma 100), .inl (cy 1, 101, .inl (fun _ => 0)))] := hD
      refine lv_aload_n hx hb dX12_report_62 rfl (lv_at hl 0 rfl) ?_
      refine va_get (D := D) (ci := 12) (v := .ref (ma 99)) (C := RX12) (T := TX12) (N := 104) hx hb hts hiX12 hown hK hP 0 rfl rfl 99 (by decide) (hts (.fieldLink RX12 417 "GhostPaneModel" "actSaw" "[I") (List.mem_of_getElem? (i := 8) rfl)) (fun _ h9 => h9) rfl dX12_report_63 ?_
      refine lv_aload_n hx hb dX12_report_66 rfl (lv_at hl 0 rfl) ?_
      refine va_get (D := D) (ci := 12) (v := .int 1) (C := RX12) (T := TX12) (N := 104) hx hb hts hiX12 hown hK hP 0 rfl rfl 96 (by decide) (hts (.fieldLink RX12 559 "GhostPaneModel" "acts" "I") (List.mem_of_getElem? (i := 5) rfl)) (fun _ h9 => h9) rfl dX12_report_67 ?_
      refine lv_iload_n hx hb dX12_report_70 rfl (lv_at hl 3 rfl) ?_
      refine lv_if_eq (tgt := 78) hx hb dX12_report_71 (by decide) (fun c_8 => ?_) (fun c_8 => ?_)
      · refine lv_iconst (v := 0) hx hb dX12_report_78 (by decide) ?_
        refine va_iast hx hb hK hP hD hS 3 1 rfl rfl (by unfold vp_in; decide) dX12_report_79 (fun H locs hP hD hS => ?_)
        have hP : va_P D vwCl [((ma 200), .inr (12, [.int (-50), .int 0, .int 50, .int 80, .int (-60), .int (-40), .int 60, .int (-40), .int 0, .int 4, .int 0, .ref (ma 11), .ref (ma 12), .ref (ma 13), .ref (ma 14), .ref (ma 15), .ref (ma 16), .ref (ma 17), .ref (ma 18), .ref (ma 19), .ref (ma 20), .ref (ma 21), .ref (ma 22), .ref (ma 23), .ref (ma 24), .long 0, .long 0, .long 0, .long 0, .long 0, .long 0, .long 0, .long 0, .ref (ma 33), .int 0, .int 0, .int 0, .int 0, .int 0, .int 0, .int 0, .int (-1), .int 0, .ref (ma 43), .ref (ma 44), .ref (ma 45), .ref (ma 46), .ref (ma 47), .ref (ma 48), .ref (ma 49), .ref (ma 50), .ref (ma 51), .ref (ma 52), .ref (ma 53), .ref (ma 54), .int 0, .ref (ma 56), .ref (ma 57), .ref (ma 58), .ref (ma 59), .ref (ma 60), .ref (ma 61), .ref (ma 62), .int 0, .ref (ma 64), .ref (ma 65), .int 0, .ref (ma 67), .ref (ma 68), .ref (ma 69), .ref (ma 70), .ref (ma 71), .int 0, .ref (ma 73), .ref (ma 74), .ref (ma 75), .int 0, .int 0, .ref (ma 78), .ref (ma 79), .ref (ma 80), .ref (ma 81), .int 0, .int 0, .int 0, .int 0, .int 0, .int 0, .int 0, .int 0, .int 0, .int 0, .int 0, .ref (ma 93), .ref (ma 94), .ref (ma 95), .int 1, .ref (ma 97), .ref (ma 98), .ref (ma 99), .ref (ma 100), .ref (ma 101), .ref (ma 102), .ref (ma 103)])), ((ma 97), .inl (cy 1, 101, .inl (upd (fun _ => 0) 1 k))), ((ma 98), .inl (cy 1, 101, .inl (upd (fun _ => 0) 1 n))), ((ma 99), .inl (cy 1, 101, .inl (upd (fun _ => 0) 1 0))), ((ma 100), .inl (cy 1, 101, .inl (fun _ => 0)))] H := hP
        have hD : va_D A [((ma 200), .inr (12, [.int (-50), .int 0, .int 50, .int 80, .int (-60), .int (-40), .int 60, .int (-40), .int 0, .int 4, .int 0, .ref (ma 11), .ref (ma 12), .ref (ma 13), .ref (ma 14), .ref (ma 15), .ref (ma 16), .ref (ma 17), .ref (ma 18), .ref (ma 19), .ref (ma 20), .ref (ma 21), .ref (ma 22), .ref (ma 23), .ref (ma 24), .long 0, .long 0, .long 0, .long 0, .long 0, .long 0, .long 0, .long 0, .ref (ma 33), .int 0, .int 0, .int 0, .int 0, .int 0, .int 0, .int 0, .int (-1), .int 0, .ref (ma 43), .ref (ma 44), .ref (ma 45), .ref (ma 46), .ref (ma 47), .ref (ma 48), .ref (ma 49), .ref (ma 50), .ref (ma 51), .ref (ma 52), .ref (ma 53), .ref (ma 54), .int 0, .ref (ma 56), .ref (ma 57), .ref (ma 58), .ref (ma 59), .ref (ma 60), .ref (ma 61), .ref (ma 62), .int 0, .ref (ma 64), .ref (ma 65), .int 0, .ref (ma 67), .ref (ma 68), .ref (ma 69), .ref (ma 70), .ref (ma 71), .int 0, .ref (ma 73), .ref (ma 74), .ref (ma 75), .int 0, .int 0, .ref (ma 78), .ref (ma 79), .ref (ma 80), .ref (ma 81), .int 0, .int 0, .int 0, .int 0, .int 0, .int 0, .int 0, .int 0, .int 0, .int 0, .int 0, .ref (ma 93), .ref (ma 94), .ref (ma 95), .int 1, .ref (ma 97), .ref (ma 98), .ref (ma 99), .ref (ma 100), .ref (ma 101), .ref (ma 102), .ref (ma 103)])), ((ma 97), .inl (cy 1, 101, .inl (upd (fun _ => 0) 1 k))), ((ma 98), .inl (cy 1, 101, .inl (upd (fun _ => 0) 1 n))), ((ma 99), .inl (cy 1, 101, .inl (upd (fun _ => 0) 1 0))), ((ma 100), .inl (cy 1, 101, .inl (fun _ => 0)))] := hD
        refine lv_aload_n hx hb dX12_report_80 rfl (lv_at hl 0 rfl) ?_
        refine va_get (D := D) (ci := 12) (v := .ref (ma 100)) (C := RX12) (T := TX12) (N := 104) hx hb hts hiX12 hown hK hP 0 rfl rfl 100 (by decide) (hts (.fieldLink RX12 420 "GhostPaneModel" "voidAt" "[I") (List.mem_of_getElem? (i := 9) rfl)) (fun _ h9 => h9) rfl dX12_report_81 ?_
        refine lv_aload_n hx hb dX12_report_84 rfl (lv_at hl 0 rfl) ?_
        refine va_get (D := D) (ci := 12) (v := .int 1) (C := RX12) (T := TX12) (N := 104) hx hb hts hiX12 hown hK hP 0 rfl rfl 96 (by decide) (hts (.fieldLink RX12 559 "GhostPaneModel" "acts" "I") (List.mem_of_getElem? (i := 5) rfl)) (fun _ h9 => h9) rfl dX12_report_85 ?_
        refine lv_iconst (v := 0) hx hb dX12_report_88 (by decide) ?_
        refine va_iast hx hb hK hP hD hS 4 1 rfl rfl (by unfold vp_in; decide) dX12_report_89 (fun H locs hP hD hS => ?_)
        have hP : va_P D vwCl [((ma 200), .inr (12, [.int (-50), .int 0, .int 50, .int 80, .int (-60), .int (-40), .int 60, .int (-40), .int 0, .int 4, .int 0, .ref (ma 11), .ref (ma 12), .ref (ma 13), .ref (ma 14), .ref (ma 15), .ref (ma 16), .ref (ma 17), .ref (ma 18), .ref (ma 19), .ref (ma 20), .ref (ma 21), .ref (ma 22), .ref (ma 23), .ref (ma 24), .long 0, .long 0, .long 0, .long 0, .long 0, .long 0, .long 0, .long 0, .ref (ma 33), .int 0, .int 0, .int 0, .int 0, .int 0, .int 0, .int 0, .int (-1), .int 0, .ref (ma 43), .ref (ma 44), .ref (ma 45), .ref (ma 46), .ref (ma 47), .ref (ma 48), .ref (ma 49), .ref (ma 50), .ref (ma 51), .ref (ma 52), .ref (ma 53), .ref (ma 54), .int 0, .ref (ma 56), .ref (ma 57), .ref (ma 58), .ref (ma 59), .ref (ma 60), .ref (ma 61), .ref (ma 62), .int 0, .ref (ma 64), .ref (ma 65), .int 0, .ref (ma 67), .ref (ma 68), .ref (ma 69), .ref (ma 70), .ref (ma 71), .int 0, .ref (ma 73), .ref (ma 74), .ref (ma 75), .int 0, .int 0, .ref (ma 78), .ref (ma 79), .ref (ma 80), .ref (ma 81), .int 0, .int 0, .int 0, .int 0, .int 0, .int 0, .int 0, .int 0, .int 0, .int 0, .int 0, .ref (ma 93), .ref (ma 94), .ref (ma 95), .int 1, .ref (ma 97), .ref (ma 98), .ref (ma 99), .ref (ma 100), .ref (ma 101), .ref (ma 102), .ref (ma 103)])), ((ma 97), .inl (cy 1, 101, .inl (upd (fun _ => 0) 1 k))), ((ma 98), .inl (cy 1, 101, .inl (upd (fun _ => 0) 1 n))), ((ma 99), .inl (cy 1, 101, .inl (upd (fun _ => 0) 1 0))), ((ma 100), .inl (cy 1, 101, .inl (upd (fun _ => 0) 1 0)))] H := hP
        have hD : va_D A [((ma 200), .inr (12, [.int (-50), .int 0, .int 50, .int 80, .int (-60), .int (-40), .int 60, .int (-40), .int 0, .int 4, .int 0, .ref (ma 11), .ref (ma 12), .ref (ma 13), .ref (ma 14), .ref (ma 15), .ref (ma 16), .ref (ma 17), .ref (ma 18), .ref (ma 19), .ref (ma 20), .ref (ma 21), .ref (ma 22), .ref (ma 23), .ref (ma 24), .long 0, .long 0, .long 0, .long 0, .long 0, .long 0, .long 0, .long 0, .ref (ma 33), .int 0, .int 0, .int 0, .int 0, .int 0, .int 0, .int 0, .int (-1), .int 0, .ref (ma 43), .ref (ma 44), .ref (ma 45), .ref (ma 46), .ref (ma 47), .ref (ma 48), .ref (ma 49), .ref (ma 50), .ref (ma 51), .ref (ma 52), .ref (ma 53), .ref (ma 54), .int 0, .ref (ma 56), .ref (ma 57), .ref (ma 58), .ref (ma 59), .ref (ma 60), .ref (ma 61), .ref (ma 62), .int 0, .ref (ma 64), .ref (ma 65), .int 0, .ref (ma 67), .ref (ma 68), .ref (ma 69), .ref (ma 70), .ref (ma 71), .int 0, .ref (ma 73), .ref (ma 74), .ref (ma 75), .int 0, .int 0, .ref (ma 78), .ref (ma 79), .ref (ma 80), .ref (ma 81), .int 0, .int 0, .int 0, .int 0, .int 0, .int 0, .int 0, .int 0, .int 0, .int 0, .int 0, .ref (ma 93), .ref (ma 94), .ref (ma 95), .int 1, .ref (ma 97), .ref (ma 98), .ref (ma 99), .ref (ma 100), .ref (ma 101), .ref (ma 102), .ref (ma 103)])), ((ma 97), .inl (cy 1, 101, .inl (upd (fun _ => 0) 1 k))), ((ma 98), .inl (cy 1, 101, .inl (upd (fun _ => 0) 1 n))), ((ma 99), .inl (cy 1, 101, .inl (upd (fun _ => 0) 1 0))), ((ma 100), .inl (cy 1, 101, .inl (upd (fun _ => 0) 1 0)))] := hD
        refine lv_aload_n hx hb dX12_report_90 rfl (lv_at hl 0 rfl) ?_
        refine va_get (D := D) (ci := 12) (v := .int 1) (C := RX12) (T := TX12) (N := 104) hx hb hts hiX12 hown hK hP 0 rfl rfl 96 (by decide) (hts (.fieldLink RX12 559 "GhostPaneModel" "acts" "I") (List.mem_of_getElem? (i := 5) rfl)) (fun _ h9 => h9) rfl dX12_report_91 ?_
        exact W.iret (v := 1) hx hb hr (fun t ht hW => ⟨⟨1, (), rfl, (lf_kX12_report_1 ma k n z p_2 p_5 c_8), gp_end ht (hP.sub (ws' := []) [] rfl) (hD.sub (ws' := []) [] (by decide) rfl)⟩, hS.F ht⟩) hS.2.2 dX12_report_94
      · refine lv_iconst (v := 1) hx hb dX12_report_74 (by decide) ?_
        refine lv_goto (tgt := 79) hx hb dX12_report_75 (by decide) ?_
        refine va_iast hx hb hK hP hD hS 3 1 rfl rfl (by unfold vp_in; decide) dX12_report_79 (fun H locs hP hD hS => ?_)
        have hP : va_P D vwCl [((ma 200), .inr (12, [.int (-50), .int 0, .int 50, .int 80, .int (-60), .int (-40), .int 60, .int (-40), .int 0, .int 4, .int 0, .ref (ma 11), .ref (ma 12), .ref (ma 13), .ref (ma 14), .ref (ma 15), .ref (ma 16), .ref (ma 17), .ref (ma 18), .ref (ma 19), .ref (ma 20), .ref (ma 21), .ref (ma 22), .ref (ma 23), .ref (ma 24), .long 0, .long 0, .long 0, .long 0, .long 0, .long 0, .long 0, .long 0, .ref (ma 33), .int 0, .int 0, .int 0, .int 0, .int 0, .int 0, .int 0, .int (-1), .int 0, .ref (ma 43), .ref (ma 44), .ref (ma 45), .ref (ma 46), .ref (ma 47), .ref (ma 48), .ref (ma 49), .ref (ma 50), .ref (ma 51), .ref (ma 52), .ref (ma 53), .ref (ma 54), .int 0, .ref (ma 56), .ref (ma 57), .ref (ma 58), .ref (ma 59), .ref (ma 60), .ref (ma 61), .ref (ma 62), .int 0, .ref (ma 64), .ref (ma 65), .int 0, .ref (ma 67), .ref (ma 68), .ref (ma 69), .ref (ma 70), .ref (ma 71), .int 0, .ref (ma 73), .ref (ma 74), .ref (ma 75), .int 0, .int 0, .ref (ma 78), .ref (ma 79), .ref (ma 80), .ref (ma 81), .int 0, .int 0, .int 0, .int 0, .int 0, .int 0, .int 0, .int 0, .int 0, .int 0, .int 0, .ref (ma 93), .ref (ma 94), .ref (ma 95), .int 1, .ref (ma 97), .ref (ma 98), .ref (ma 99), .ref (ma 100), .ref (ma 101), .ref (ma 102), .ref (ma 103)])), ((ma 97), .inl (cy 1, 101, .inl (upd (fun _ => 0) 1 k))), ((ma 98), .inl (cy 1, 101, .inl (upd (fun _ => 0) 1 n))), ((ma 99), .inl (cy 1, 101, .inl (upd (fun _ => 0) 1 1))), ((ma 100), .inl (cy 1, 101, .inl (fun _ => 0)))] H := hP
        have hD : va_D A [((ma 200), .inr (12, [.int (-50), .int 0, .int 50, .int 80, .int (-60), .int (-40), .int 60, .int (-40), .int 0, .int 4, .int 0, .ref (ma 11), .ref (ma 12), .ref (ma 13), .ref (ma 14), .ref (ma 15), .ref (ma 16), .ref (ma 17), .ref (ma 18), .ref (ma 19), .ref (ma 20), .ref (ma 21), .ref (ma 22), .ref (ma 23), .ref (ma 24), .long 0, .long 0, .long 0, .long 0, .long 0, .long 0, .long 0, .long 0, .ref (ma 33), .int 0, .int 0, .int 0, .int 0, .int 0, .int 0, .int 0, .int (-1), .int 0, .ref (ma 43), .ref (ma 44), .ref (ma 45), .ref (ma 46), .ref (ma 47), .ref (ma 48), .ref (ma 49), .ref (ma 50), .ref (ma 51), .ref (ma 52), .ref (ma 53), .ref (ma 54), .int 0, .ref (ma 56), .ref (ma 57), .ref (ma 58), .ref (ma 59), .ref (ma 60), .ref (ma 61), .ref (ma 62), .int 0, .ref (ma 64), .ref (ma 65), .int 0, .ref (ma 67), .ref (ma 68), .ref (ma 69), .ref (ma 70), .ref (ma 71), .int 0, .ref (ma 73), .ref (ma 74), .ref (ma 75), .int 0, .int 0, .ref (ma 78), .ref (ma 79), .ref (ma 80), .ref (ma 81), .int 0, .int 0, .int 0, .int 0, .int 0, .int 0, .int 0, .int 0, .int 0, .int 0, .int 0, .ref (ma 93), .ref (ma 94), .ref (ma 95), .int 1, .ref (ma 97), .ref (ma 98), .ref (ma 99), .ref (ma 100), .ref (ma 101), .ref (ma 102), .ref (ma 103)])), ((ma 97), .inl (cy 1, 101, .inl (upd (fun _ => 0) 1 k))), ((ma 98), .inl (cy 1, 101, .inl (upd (fun _ => 0) 1 n))), ((ma 99), .inl (cy 1, 101, .inl (upd (fun _ => 0) 1 1))), ((ma 100), .inl (cy 1, 101, .inl (fun _ => 0)))] := hD
        refine lv_aload_n hx hb dX12_report_80 rfl (lv_at hl 0 rfl) ?_
        refine va_get (D := D) (ci := 12) (v := .ref (ma 100)) (C := RX12) (T := TX12) (N := 104) hx hb hts hiX12 hown hK hP 0 rfl rfl 100 (by decide) (hts (.fieldLink RX12 420 "GhostPaneModel" "voidAt" "[I") (List.mem_of_getElem? (i := 9) rfl)) (fun _ h9 => h9) rfl dX12_report_81 ?_
        refine lv_aload_n hx hb dX12_report_84 rfl (lv_at hl 0 rfl) ?_
        refine va_get (D := D) (ci := 12) (v := .int 1) (C := RX12) (T := TX12) (N := 104) hx hb hts hiX12 hown hK hP 0 rfl rfl 96 (by decide) (hts (.fieldLink RX12 559 "GhostPaneModel" "acts" "I") (List.mem_of_getElem? (i := 5) rfl)) (fun _ h9 => h9) rfl dX12_report_85 ?_
        refine lv_iconst (v := 0) hx hb dX12_report_88 (by decide) ?_
        refine va_iast hx hb hK hP hD hS 4 1 rfl rfl (by unfold vp_in; decide) dX12_report_89 (fun H locs hP hD hS => ?_)
        have hP : va_P D vwCl [((ma 200), .inr (12, [.int (-50), .int 0, .int 50, .int 80, .int (-60), .int (-40), .int 60, .int (-40), .int 0, .int 4, .int 0, .ref (ma 11), .ref (ma 12), .ref (ma 13), .ref (ma 14), .ref (ma 15), .ref (ma 16), .ref (ma 17), .ref (ma 18), .ref (ma 19), .ref (ma 20), .ref (ma 21), .ref (ma 22), .ref (ma 23), .ref (ma 24), .long 0, .long 0, .long 0, .long 0, .long 0, .long 0, .long 0, .long 0, .ref (ma 33), .int 0, .int 0, .int 0, .int 0, .int 0, .int 0, .int 0, .int (-1), .int 0, .ref (ma 43), .ref (ma 44), .ref (ma 45), .ref (ma 46), .ref (ma 47), .ref (ma 48), .ref (ma 49), .ref (ma 50), .ref (ma 51), .ref (ma 52), .ref (ma 53), .ref (ma 54), .int 0, .ref (ma 56), .ref (ma 57), .ref (ma 58), .ref (ma 59), .ref (ma 60), .ref (ma 61), .ref (ma 62), .int 0, .ref (ma 64), .ref (ma 65), .int 0, .ref (ma 67), .ref (ma 68), .ref (ma 69), .ref (ma 70), .ref (ma 71), .int 0, .ref (ma 73), .ref (ma 74), .ref (ma 75), .int 0, .int 0, .ref (ma 78), .ref (ma 79), .ref (ma 80), .ref (ma 81), .int 0, .int 0, .int 0, .int 0, .int 0, .int 0, .int 0, .int 0, .int 0, .int 0, .int 0, .ref (ma 93), .ref (ma 94), .ref (ma 95), .int 1, .ref (ma 97), .ref (ma 98), .ref (ma 99), .ref (ma 100), .ref (ma 101), .ref (ma 102), .ref (ma 103)])), ((ma 97), .inl (cy 1, 101, .inl (upd (fun _ => 0) 1 k))), ((ma 98), .inl (cy 1, 101, .inl (upd (fun _ => 0) 1 n))), ((ma 99), .inl (cy 1, 101, .inl (upd (fun _ => 0) 1 1))), ((ma 100), .inl (cy 1, 101, .inl (upd (fun _ => 0) 1 0)))] H := hP
        have hD : va_D A [((ma 200), .inr (12, [.int (-50), .int 0, .int 50, .int 80, .int (-60), .int (-40), .int 60, .int (-40), .int 0, .int 4, .int 0, .ref (ma 11), .ref (ma 12), .ref (ma 13), .ref (ma 14), .ref (ma 15), .ref (ma 16), .ref (ma 17), .ref (ma 18), .ref (ma 19), .ref (ma 20), .ref (ma 21), .ref (ma 22), .ref (ma 23), .ref (ma 24), .long 0, .long 0, .long 0, .long 0, .long 0, .long 0, .long 0, .long 0, .ref (ma 33), .int 0, .int 0, .int 0, .int 0, .int 0, .int 0, .int 0, .int (-1), .int 0, .ref (ma 43), .ref (ma 44), .ref (ma 45), .ref (ma 46), .ref (ma 47), .ref (ma 48), .ref (ma 49), .ref (ma 50), .ref (ma 51), .ref (ma 52), .ref (ma 53), .ref (ma 54), .int 0, .ref (ma 56), .ref (ma 57), .ref (ma 58), .ref (ma 59), .ref (ma 60), .ref (ma 61), .ref (ma 62), .int 0, .ref (ma 64), .ref (ma 65), .int 0, .ref (ma 67), .ref (ma 68), .ref (ma 69), .ref (ma 70), .ref (ma 71), .int 0, .ref (ma 73), .ref (ma 74), .ref (ma 75), .int 0, .int 0, .ref (ma 78), .ref (ma 79), .ref (ma 80), .ref (ma 81), .int 0, .int 0, .int 0, .int 0, .int 0, .int 0, .int 0, .int 0, .int 0, .int 0, .int 0, .ref (ma 93), .ref (ma 94), .ref (ma 95), .int 1, .ref (ma 97), .ref (ma 98), .ref (ma 99), .ref (ma 100), .ref (ma 101), .ref (ma 102), .ref (ma 103)])), ((ma 97), .inl (cy 1, 101, .inl (upd (fun _ => 0) 1 k))), ((ma 98), .inl (cy 1, 101, .inl (upd (fun _ => 0) 1 n))), ((ma 99), .inl (cy 1, 101, .inl (upd (fun _ => 0) 1 1))), ((ma 100), .inl (cy 1, 101, .inl (upd (fun _ => 0) 1 0)))] := hD
        refine lv_aload_n hx hb dX12_report_90 rfl (lv_at hl 0 rfl) ?_
        refine va_get (D := D) (ci := 12) (v := .int 1) (C := RX12) (T := TX12) (N := 104) hx hb hts hiX12 hown hK hP 0 rfl rfl 96 (by decide) (hts (.fieldLink RX12 559 "GhostPaneModel" "acts" "I") (List.mem_of_getElem? (i := 5) rfl)) (fun _ h9 => h9) rfl dX12_report_91 ?_
        exact W.iret (v := 1) hx hb hr (fun t ht hW => ⟨⟨1, (), rfl, (lf_kX12_report_2 ma k n z p_2 p_5 c_8), gp_end ht (hP.sub (ws' := []) [] rfl) (hD.sub (ws' := []) [] (by decide) rfl)⟩, hS.F ht⟩) hS.2.2 dX12_report_94
    · refine lv_if_eq (tgt := 30) hx hb dX12_report_18 (by decide) (fun c_9 => ?_) (fun c_9 => absurd (by decide) c_9)
      refine lv_iconst (v := (-1)) hx hb dX12_report_30 (by decide) ?_
      exact W.iret (v := (-1)) hx hb hr (fun t ht hW => ⟨⟨(-1), (), rfl, (lf_kX12_report_3 ma k n z p_2 p_5), gp_end ht (hP.sub (ws' := []) [] rfl) (hD.sub (ws' := []) [] (by decide) rfl)⟩, hS.F ht⟩) hS.2.2 dX12_report_31
  · refine lv_if_eq (tgt := 30) hx hb dX12_report_7 (by decide) (fun c_10 => ?_) (fun c_10 => absurd (by decide) c_10)
    refine lv_iconst (v := (-1)) hx hb dX12_report_30 (by decide) ?_
    exact W.iret (v := (-1)) hx hb hr (fun t ht hW => ⟨⟨(-1), (), rfl, (lf_kX12_report_4 ma k n z p_2), gp_end ht (hP.sub (ws' := []) [] rfl) (hD.sub (ws' := []) [] (by decide) rfl)⟩, hS.F ht⟩) hS.2.2 dX12_report_31

theorem lf_kX12_void_1 (ma : Nat → Nat) (k : Int32) : ¬ sp_in k 1 0 := by
  first | grind | (simp only [sp_in, sp_pl, sp_far, sp_two] at *; grind)
def v_kX12_void : List Cond := .code yX12_void_ cX12_void_ 2 (some .int) :: ([.fieldLink RX12 559 "GhostPaneModel" "acts" "I", .code yX12_isIn cX12_isIn 3 (some .boolean), .methodLink RX12 3 yX12_isIn, .static yX12_isIn, .initialized RX12] ++ wsX120)
set_option maxRecDepth 20000 in
theorem gg_kX12_void_kX12_isIn : GoodIn v_kX12_void v_kX12_isIn := goodIn_r (.code yX12_isIn cX12_isIn 3 (some .boolean) :: []) [2] rfl (by decide +kernel)
set_option maxRecDepth 20000 in
theorem g_kX12_void_kX12_isIn_0 : GoodIn v_kX12_void (va_wsS RX12 3 yX12_isIn v_kX12_isIn) := goodIn_app (goodIn_r [.methodLink RX12 3 yX12_isIn, .static yX12_isIn, .initialized RX12] [3, 4, 5] rfl (by decide +kernel)) gg_kX12_void_kX12_isIn
set_option maxHeartbeats 4000000 in
set_option maxRecDepth 100000 in
theorem kX12_void (l : Launch) (D : va_G) (cy : Nat → ClassId) (sz : Nat) (ma : Nat → Nat) (k : Int32) : Met l yX12_void_ v_kX12_void ({ frames := 1, cells := 0, slots := 0, locals := 22 } : Room) (va_Pc [.ref (ma 200), .int k] (gp_B D cy sz [((ma 200), mo_0 ma)])) (va_Qi (fun (r : Int32) (u : Unit) => r = (-1)) (fun u => gp_E D (va_A [((ma 200), mo_0 ma)] sz) []) (va_A [((ma 200), mo_0 ma)] sz)) 0 0 (va_A [((ma 200), mo_0 ma)] sz) := by
  refine gp_met (Qc := fun A => va_Qi (fun (r : Int32) (u : Unit) => r = (-1)) (fun u => gp_E D A []) A) (cc := cX12_void_) (maxL := 2) (ret := (some .int)) (by decide) rfl (Nat.le_of_ble_eq_true rfl) ?_
  intro p e s m below meth c A ls H hx hb hml hr hlocks hts hown hin hK hN hS hP hD hA hl
  have hown : s.vm.findClass RX12 = some m.cls := hown
  have hl : lv_has ls 2 [(0, .ref (ma 200)), (1, .int k)] := hl
  have hiX12 : ∀ w ∈ u_ws RX12 TX12 104, w ∈ v_kX12_void := fun _ h => List.mem_cons_of_mem _ (List.mem_append_right _ h)
  refine lv_iload_n hx hb dX12_void__0 rfl (lv_at hl 1 rfl) ?_
  refine lv_iconst (v := 1) hx hb dX12_void__1 (by decide) ?_
  refine lv_aload_n hx hb dX12_void__2 rfl (lv_at hl 0 rfl) ?_
  refine va_get (D := D) (ci := 12) (v := .int 0) (C := RX12) (T := TX12) (N := 104) hx hb hts hiX12 hown hK hP 0 rfl rfl 96 (by decide) (hts (.fieldLink RX12 559 "GhostPaneModel" "acts" "I") (List.mem_of_getElem? (i := 1) rfl)) (fun _ h9 => h9) rfl dX12_void__3 ?_
  have hPc := hP.sub (ws' := []) [] rfl
  have hDc := hD.sub (ws' := []) [] (by decide) rfl
  have hFc := va_free (wc := []) hD hS hA [] rfl
  refine va_calli (va_runS (As := [.int k, .int 1, .int 0]) (rest := []) ⟨hx, hb, hml, hown, hts⟩ (kX12_isIn l D cy H.size k 1 0) (va_cwS 3 hts g_kX12_void_kX12_isIn_0 rfl rfl rfl (by decide +kernel) ⟨Nat.le_of_ble_eq_true rfl, Nat.le_of_ble_eq_true rfl⟩) (gp_preS hPc hDc hK hN) rfl rfl hl.1 rfl (lv_room (Nat.le_of_ble_eq_true rfl)) dX12_void__6 ⟨Nat.le_of_ble_eq_true rfl, Nat.le_of_ble_eq_true rfl⟩) hS (fun q _ h => hFc q h) hFc (fun r_1 u t H locs ht hvm hw hB hz1 hk1 hS => ?_)
  obtain ⟨hP, hD⟩ := gp_join (wr := [((ma 200), mo_0 ma)]) (w1 := []) hP hD [] [0] rfl rfl (by decide) (by decide) hk1 hFc ht hB
  have hP : va_P D vwCl [((ma 200), mo_0 ma)] H := hP
  have hD : va_D A [((ma 200), mo_0 ma)] := hD
  rcases hw with ⟨rfl, p_2⟩ | ⟨rfl, p_2⟩
  · exact absurd p_2 (lf_kX12_void_1 ma k)
  · refine lv_if_eq (tgt := 40) hx hb dX12_void__9 (by decide) (fun c_3 => ?_) (fun c_3 => absurd (by decide) c_3)
    refine lv_iconst (v := (-1)) hx hb dX12_void__40 (by decide) ?_
    exact W.iret (v := (-1)) hx hb hr (fun t ht hW => ⟨⟨(-1), (), rfl, rfl, gp_end ht (hP.sub (ws' := []) [] rfl) (hD.sub (ws' := []) [] (by decide) rfl)⟩, hS.F ht⟩) hS.2.2 dX12_void__41

theorem lf_kX12_isAct_1 (ma : Nat → Nat) (k : Int32) (p_2 : sp_in k (-1) 0) : sp_in k (-1) 0 := by
  first | grind | (simp only [sp_in, sp_pl, sp_far, sp_two] at *; grind)
theorem lf_kX12_isAct_2 (ma : Nat → Nat) (k : Int32) (p_2 : ¬ sp_in k (-1) 0) : ¬ (sp_in k (-1) 0) := by
  first | grind | (simp only [sp_in, sp_pl, sp_far, sp_two] at *; grind)
def v_kX12_isAct : List Cond := .code yX12_isAct cX12_isAct 2 (some .boolean) :: ([.fieldLink RX12 559 "GhostPaneModel" "acts" "I", .code yX12_isIn cX12_isIn 3 (some .boolean), .methodLink RX12 3 yX12_isIn, .static yX12_isIn, .initialized RX12] ++ wsX120)
set_option maxRecDepth 20000 in
theorem gg_kX12_isAct_kX12_isIn : GoodIn v_kX12_isAct v_kX12_isIn := goodIn_r (.code yX12_isIn cX12_isIn 3 (some .boolean) :: []) [2] rfl (by decide +kernel)
set_option maxRecDepth 20000 in
theorem g_kX12_isAct_kX12_isIn_0 : GoodIn v_kX12_isAct (va_wsS RX12 3 yX12_isIn v_kX12_isIn) := goodIn_app (goodIn_r [.methodLink RX12 3 yX12_isIn, .static yX12_isIn, .initialized RX12] [3, 4, 5] rfl (by decide +kernel)) gg_kX12_isAct_kX12_isIn
set_option maxHeartbeats 4000000 in
set_option maxRecDepth 100000 in
theorem kX12_isAct (l : Launch) (D : va_G) (cy : Nat → ClassId) (sz : Nat) (ma : Nat → Nat) (k : Int32) : Met l yX12_isAct v_kX12_isAct ({ frames := 1, cells := 0, slots := 0, locals := 22 } : Room) (va_Pc [.ref (ma 200), .int k] (gp_B D cy sz [((ma 200), mo_0 ma)])) (va_Qi (fun (r : Int32) (u : Unit) => (r = 1 ∧ (sp_in k (-1) 0)) ∨ (r = 0 ∧ ¬ (sp_in k (-1) 0))) (fun u => gp_E D (va_A [((ma 200), mo_0 ma)] sz) [((ma 200), mo_0 ma)]) (va_A [((ma 200), mo_0 ma)] sz)) 0 0 (va_A [((ma 200), mo_0 ma)] sz) := by
  refine gp_met (Qc := fun A => va_Qi (fun (r : Int32) (u : Unit) => (r = 1 ∧ (sp_in k (-1) 0)) ∨ (r = 0 ∧ ¬ (sp_in k (-1) 0))) (fun u => gp_E D A [((ma 200), mo_0 ma)]) A) (cc := cX12_isAct) (maxL := 2) (ret := (some .boolean)) (by decide) rfl (Nat.le_of_ble_eq_true rfl) ?_
  intro p e s m below meth c A ls H hx hb hml hr hlocks hts hown hin hK hN hS hP hD hA hl
  have hown : s.vm.findClass RX12 = some m.cls := hown
  have hl : lv_has ls 2 [(0, .ref (ma 200)), (1, .int k)] := hl
  have hiX12 : ∀ w ∈ u_ws RX12 TX12 104, w ∈ v_kX12_isAct := fun _ h => List.mem_cons_of_mem _ (List.mem_append_right _ h)
  refine lv_iload_n hx hb dX12_isAct_0 rfl (lv_at hl 1 rfl) ?_
  refine lv_iconst (v := (-1)) hx hb dX12_isAct_1 (by decide) ?_
  refine lv_aload_n hx hb dX12_isAct_2 rfl (lv_at hl 0 rfl) ?_
  refine va_get (D := D) (ci := 12) (v := .int 0) (C := RX12) (T := TX12) (N := 104) hx hb hts hiX12 hown hK hP 0 rfl rfl 96 (by decide) (hts (.fieldLink RX12 559 "GhostPaneModel" "acts" "I") (List.mem_of_getElem? (i := 1) rfl)) (fun _ h9 => h9) rfl dX12_isAct_3 ?_
  have hPc := hP.sub (ws' := []) [] rfl
  have hDc := hD.sub (ws' := []) [] (by decide) rfl
  have hFc := va_free (wc := []) hD hS hA [] rfl
  refine va_calli (va_runS (As := [.int k, .int (-1), .int 0]) (rest := []) ⟨hx, hb, hml, hown, hts⟩ (kX12_isIn l D cy H.size k (-1) 0) (va_cwS 3 hts g_kX12_isAct_kX12_isIn_0 rfl rfl rfl (by decide +kernel) ⟨Nat.le_of_ble_eq_true rfl, Nat.le_of_ble_eq_true rfl⟩) (gp_preS hPc hDc hK hN) rfl rfl hl.1 rfl (lv_room (Nat.le_of_ble_eq_true rfl)) dX12_isAct_6 ⟨Nat.le_of_ble_eq_true rfl, Nat.le_of_ble_eq_true rfl⟩) hS (fun q _ h => hFc q h) hFc (fun r_1 u t H locs ht hvm hw hB hz1 hk1 hS => ?_)
  obtain ⟨hP, hD⟩ := gp_join (wr := [((ma 200), mo_0 ma)]) (w1 := []) hP hD [] [0] rfl rfl (by decide) (by decide) hk1 hFc ht hB
  have hP : va_P D vwCl [((ma 200), mo_0 ma)] H := hP
  have hD : va_D A [((ma 200), mo_0 ma)] := hD
  rcases hw with ⟨rfl, p_2⟩ | ⟨rfl, p_2⟩
  · exact W.zret (v := 1) hx hb hr narrow_b1 (fun t ht hW => ⟨⟨1, (), rfl, Or.inl ⟨rfl, (lf_kX12_isAct_1 ma k p_2)⟩, gp_end ht (hP.sub (ws' := [((ma 200), mo_0 ma)]) [0] rfl) (hD.sub (ws' := [((ma 200), mo_0 ma)]) [0] (by decide) rfl)⟩, hS.F ht⟩) hS.2.2 dX12_isAct_9
  · exact W.zret (v := 0) hx hb hr narrow_b0 (fun t ht hW => ⟨⟨0, (), rfl, Or.inr ⟨rfl, (lf_kX12_isAct_2 ma k p_2)⟩, gp_end ht (hP.sub (ws' := [((ma 200), mo_0 ma)]) [0] rfl) (hD.sub (ws' := [((ma 200), mo_0 ma)]) [0] (by decide) rfl)⟩, hS.F ht⟩) hS.2.2 dX12_isAct_9

def v_kX12_quarrels : List Cond := .code yX12_quarrels cX12_quarrels 3 (some .int) :: ([.code yX12_isSetting cX12_isSetting 2 (some .boolean), .code yX12_settings cX12_settings 1 (some .int), .fieldLink RX12 504 "GhostPaneModel" "hasGrid" "Z", .methodLink RX12 532 yX12_settings, .instanceMethod yX12_settings, .selects RX12 yX12_settings yX12_settings, .initialized RX12, .code yX12_isIn cX12_isIn 3 (some .boolean), .methodLink RX12 3 yX12_isIn, .static yX12_isIn, .methodLink RX12 544 yX12_isSetting, .instanceMethod yX12_isSetting, .selects RX12 yX12_isSetting yX12_isSetting] ++ wsX120)
set_option maxRecDepth 20000 in
theorem gg_kX12_quarrels_kX12_isSetting : GoodIn v_kX12_quarrels v_kX12_isSetting := goodIn_ca (goodIn_r (.code yX12_isSetting cX12_isSetting 2 (some .boolean) :: [.code yX12_settings cX12_settings 1 (some .int), .fieldLink RX12 504 "GhostPaneModel" "hasGrid" "Z", .methodLink RX12 532 yX12_settings, .instanceMethod yX12_settings, .selects RX12 yX12_settings yX12_settings, .initialized RX12, .code yX12_isIn cX12_isIn 3 (some .boolean), .methodLink RX12 3 yX12_isIn, .static yX12_isIn]) [1, 2, 3, 4, 5, 6, 7, 8, 9, 10] rfl (by decide +kernel)) (goodIn_sub (fun _ h => List.mem_cons_of_mem _ (List.mem_append_right _ h)) gwX12)
set_option maxRecDepth 20000 in
theorem g_kX12_quarrels_kX12_isSetting_0 : GoodIn v_kX12_quarrels (wsV RX12 544 RX12 yX12_isSetting v_kX12_isSetting) := goodIn_app (goodIn_r [.methodLink RX12 544 yX12_isSetting, .instanceMethod yX12_isSetting, .selects RX12 yX12_isSetting yX12_isSetting, .initialized RX12] [11, 12, 13, 7] rfl (by decide +kernel)) gg_kX12_quarrels_kX12_isSetting
set_option maxHeartbeats 4000000 in
set_option maxRecDepth 100000 in
theorem kX12_quarrels (l : Launch) (D : va_G) (cy : Nat → ClassId) (sz : Nat) (ma : Nat → Nat) (k : Int32) (n : Int32) : Met l yX12_quarrels v_kX12_quarrels ({ frames := 2, cells := 0, slots := 0, locals := 43 } : Room) (va_Pc [.ref (ma 200), .int k, .int n] (gp_B D cy sz [((ma 200), mo_0 ma)])) (va_Qi (fun (r : Int32) (u : Unit) => r = (-1)) (fun u => gp_E D (va_A [((ma 200), mo_0 ma)] sz) []) (va_A [((ma 200), mo_0 ma)] sz)) 0 0 (va_A [((ma 200), mo_0 ma)] sz) := by
  refine gp_met (Qc := fun A => va_Qi (fun (r : Int32) (u : Unit) => r = (-1)) (fun u => gp_E D A []) A) (cc := cX12_quarrels) (maxL := 3) (ret := (some .int)) (by decide) rfl (Nat.le_of_ble_eq_true rfl) ?_
  intro p e s m below meth c A ls H hx hb hml hr hlocks hts hown hin hK hN hS hP hD hA hl
  have hown : s.vm.findClass RX12 = some m.cls := hown
  have hl : lv_has ls 3 [(0, .ref (ma 200)), (1, .int k), (2, .int n)] := hl
  refine lv_aload_n hx hb dX12_quarrels_0 rfl (lv_at hl 0 rfl) ?_
  refine lv_iload_n hx hb dX12_quarrels_1 rfl (lv_at hl 1 rfl) ?_
  have hPc := hP.sub (ws' := [((ma 200), mo_0 ma)]) [0] rfl
  have hDc := hD.sub (ws' := [((ma 200), mo_0 ma)]) [0] (by decide) rfl
  have hFc := va_free (wc := [((ma 200), mo_0 ma)]) hD hS hA [0] rfl
  refine va_calli (va_runV (As := [.int k]) (rest := []) ⟨hx, hb, hml, hown, hts⟩ (kX12_isSetting l D cy H.size ma k) (cwV 1 hts g_kX12_quarrels_kX12_isSetting_0 rfl rfl rfl (by decide +kernel) ⟨Nat.le_of_ble_eq_true rfl, Nat.le_of_ble_eq_true rfl⟩) (gp_preV (RX12, TX12, 104) 12 0 hPc hDc hK hN rfl rfl) rfl rfl hl.1 rfl (lv_room (Nat.le_of_ble_eq_true rfl)) dX12_quarrels_2 ⟨Nat.le_of_ble_eq_true rfl, Nat.le_of_ble_eq_true rfl⟩) hS (fun q _ h => hFc q h) hFc (fun r_1 u t H locs ht hvm hw hB hz1 hk1 hS => ?_)
  obtain ⟨hP, hD⟩ := gp_join (wr := []) (w1 := [((ma 200), mo_0 ma)]) hP hD [0] [] rfl rfl (by decide) (by decide) hk1 hFc ht hB
  have hP : va_P D vwCl [((ma 200), mo_0 ma)] H := hP
  have hD : va_D A [((ma 200), mo_0 ma)] := hD
  obtain rfl : r_1 = 0 := hw
  refine lv_if_eq (tgt := 24) hx hb dX12_quarrels_5 (by decide) (fun c_2 => ?_) (fun c_2 => absurd (by decide) c_2)
  refine lv_iconst (v := (-1)) hx hb dX12_quarrels_24 (by decide) ?_
  exact W.iret (v := (-1)) hx hb hr (fun t ht hW => ⟨⟨(-1), (), rfl, rfl, gp_end ht (hP.sub (ws' := []) [] rfl) (hD.sub (ws' := []) [] (by decide) rfl)⟩, hS.F ht⟩) hS.2.2 dX12_quarrels_25

def v_kX12_notesLikely : List Cond := .code yX12_notesLikely cX12_notesLikely 4 (some .boolean) :: ([.fieldLink RX12 504 "GhostPaneModel" "hasGrid" "Z"] ++ wsX120)
set_option maxHeartbeats 4000000 in
set_option maxRecDepth 100000 in
theorem kX12_notesLikely (l : Launch) (D : va_G) (cy : Nat → ClassId) (sz : Nat) (ma : Nat → Nat) : Met l yX12_notesLikely v_kX12_notesLikely ({ frames := 0, cells := 0, slots := 0, locals := 0 } : Room) (va_Pc [.ref (ma 200)] (gp_B D cy sz [((ma 200), mo_0 ma)])) (va_Qi (fun (r : Int32) (u : Unit) => r = 0) (fun u => gp_E D (va_A [((ma 200), mo_0 ma)] sz) [((ma 200), mo_0 ma)]) (va_A [((ma 200), mo_0 ma)] sz)) 0 0 (va_A [((ma 200), mo_0 ma)] sz) := by
  refine gp_met (Qc := fun A => va_Qi (fun (r : Int32) (u : Unit) => r = 0) (fun u => gp_E D A [((ma 200), mo_0 ma)]) A) (cc := cX12_notesLikely) (maxL := 4) (ret := (some .boolean)) (by decide) rfl (Nat.le_of_ble_eq_true rfl) ?_
  intro p e s m below meth c A ls H hx hb hml hr hlocks hts hown hin hK hN hS hP hD hA hl
  have hown : s.vm.findClass RX12 = some m.cls := hown
  have hl : lv_has ls 4 [(0, .ref (ma 200))] := hl
  have hiX12 : ∀ w ∈ u_ws RX12 TX12 104, w ∈ v_kX12_notesLikely := fun _ h => List.mem_cons_of_mem _ (List.mem_append_right _ h)
  refine lv_aload_n hx hb dX12_notesLikely_0 rfl (lv_at hl 0 rfl) ?_
  refine va_get (D := D) (ci := 12) (v := .int 0) (C := RX12) (T := TX12) (N := 104) hx hb hts hiX12 hown hK hP 0 rfl rfl 83 (by decide) (hts (.fieldLink RX12 504 "GhostPaneModel" "hasGrid" "Z") (List.mem_of_getElem? (i := 1) rfl)) (fun _ h9 => h9) rfl dX12_notesLikely_1 ?_
  refine lv_if_eq (tgt := 34) hx hb dX12_notesLikely_4 (by decide) (fun c_1 => ?_) (fun c_1 => absurd (by decide) c_1)
  refine lv_iconst (v := 0) hx hb dX12_notesLikely_34 (by decide) ?_
  exact W.zret (v := 0) hx hb hr narrow_b0 (fun t ht hW => ⟨⟨0, (), rfl, rfl, gp_end ht (hP.sub (ws' := [((ma 200), mo_0 ma)]) [0] rfl) (hD.sub (ws' := [((ma 200), mo_0 ma)]) [0] (by decide) rfl)⟩, hS.F ht⟩) hS.2.2 dX12_notesLikely_35

def v_kX12_likely : List Cond := .code yX12_likely cX12_likely 2 (some .int) :: ([.code yX12_isAct cX12_isAct 2 (some .boolean), .fieldLink RX12 559 "GhostPaneModel" "acts" "I", .code yX12_isIn cX12_isIn 3 (some .boolean), .methodLink RX12 3 yX12_isIn, .static yX12_isIn, .initialized RX12, .methodLink RX12 562 yX12_isAct, .instanceMethod yX12_isAct, .selects RX12 yX12_isAct yX12_isAct, .code yX12_notesLikely cX12_notesLikely 4 (some .boolean), .fieldLink RX12 504 "GhostPaneModel" "hasGrid" "Z", .methodLink RX12 571 yX12_notesLikely, .instanceMethod yX12_notesLikely, .selects RX12 yX12_notesLikely yX12_notesLikely] ++ wsX120)
set_option maxRecDepth 20000 in
theorem gg_kX12_likely_kX12_isAct : GoodIn v_kX12_likely v_kX12_isAct := goodIn_ca (goodIn_r (.code yX12_isAct cX12_isAct 2 (some .boolean) :: [.fieldLink RX12 559 "GhostPaneModel" "acts" "I", .code yX12_isIn cX12_isIn 3 (some .boolean), .methodLink RX12 3 yX12_isIn, .static yX12_isIn, .initialized RX12]) [1, 2, 3, 4, 5, 6] rfl (by decide +kernel)) (goodIn_sub (fun _ h => List.mem_cons_of_mem _ (List.mem_append_right _ h)) gwX12)
set_option maxRecDepth 20000 in
theorem g_kX12_likely_kX12_isAct_0 : GoodIn v_kX12_likely (wsV RX12 562 RX12 yX12_isAct v_kX12_isAct) := goodIn_app (goodIn_r [.methodLink RX12 562 yX12_isAct, .instanceMethod yX12_isAct, .selects RX12 yX12_isAct yX12_isAct, .initialized RX12] [7, 8, 9, 6] rfl (by decide +kernel)) gg_kX12_likely_kX12_isAct
set_option maxRecDepth 20000 in
theorem gg_kX12_likely_kX12_notesLikely : GoodIn v_kX12_likely v_kX12_notesLikely := goodIn_ca (goodIn_r (.code yX12_notesLikely cX12_notesLikely 4 (some .boolean) :: [.fieldLink RX12 504 "GhostPaneModel" "hasGrid" "Z"]) [10, 11] rfl (by decide +kernel)) (goodIn_sub (fun _ h => List.mem_cons_of_mem _ (List.mem_append_right _ h)) gwX12)
set_option maxRecDepth 20000 in
theorem g_kX12_likely_kX12_notesLikely_1 : GoodIn v_kX12_likely (wsV RX12 571 RX12 yX12_notesLikely v_kX12_notesLikely) := goodIn_app (goodIn_r [.methodLink RX12 571 yX12_notesLikely, .instanceMethod yX12_notesLikely, .selects RX12 yX12_notesLikely yX12_notesLikely, .initialized RX12] [12, 13, 14, 6] rfl (by decide +kernel)) gg_kX12_likely_kX12_notesLikely
set_option maxHeartbeats 4000000 in
set_option maxRecDepth 100000 in
theorem kX12_likely (l : Launch) (D : va_G) (cy : Nat → ClassId) (sz : Nat) (ma : Nat → Nat) (k : Int32) : Met l yX12_likely v_kX12_likely ({ frames := 2, cells := 0, slots := 0, locals := 43 } : Room) (va_Pc [.ref (ma 200), .int k] (gp_B D cy sz [((ma 200), mo_0 ma)])) (va_Qi (fun (r : Int32) (u : Unit) => r = (-1)) (fun u => gp_E D (va_A [((ma 200), mo_0 ma)] sz) []) (va_A [((ma 200), mo_0 ma)] sz)) 0 0 (va_A [((ma 200), mo_0 ma)] sz) := by
  refine gp_met (Qc := fun A => va_Qi (fun (r : Int32) (u : Unit) => r = (-1)) (fun u => gp_E D A []) A) (cc := cX12_likely) (maxL := 2) (ret := (some .int)) (by decide) rfl (Nat.le_of_ble_eq_true rfl) ?_
  intro p e s m below meth c A ls H hx hb hml hr hlocks hts hown hin hK hN hS hP hD hA hl
  have hown : s.vm.findClass RX12 = some m.cls := hown
  have hl : lv_has ls 2 [(0, .ref (ma 200)), (1, .int k)] := hl
  refine lv_aload_n hx hb dX12_likely_0 rfl (lv_at hl 0 rfl) ?_
  refine lv_iload_n hx hb dX12_likely_1 rfl (lv_at hl 1 rfl) ?_
  have hPc := hP.sub (ws' := [((ma 200), mo_0 ma)]) [0] rfl
  have hDc := hD.sub (ws' := [((ma 200), mo_0 ma)]) [0] (by decide) rfl
  have hFc := va_free (wc := [((ma 200), mo_0 ma)]) hD hS hA [0] rfl
  refine va_calli (va_runV (As := [.int k]) (rest := []) ⟨hx, hb, hml, hown, hts⟩ (kX12_isAct l D cy H.size ma k) (cwV 1 hts g_kX12_likely_kX12_isAct_0 rfl rfl rfl (by decide +kernel) ⟨Nat.le_of_ble_eq_true rfl, Nat.le_of_ble_eq_true rfl⟩) (gp_preV (RX12, TX12, 104) 12 0 hPc hDc hK hN rfl rfl) rfl rfl hl.1 rfl (lv_room (Nat.le_of_ble_eq_true rfl)) dX12_likely_2 ⟨Nat.le_of_ble_eq_true rfl, Nat.le_of_ble_eq_true rfl⟩) hS (fun q _ h => hFc q h) hFc (fun r_1 u t H locs ht hvm hw hB hz1 hk1 hS => ?_)
  obtain ⟨hP, hD⟩ := gp_join (wr := []) (w1 := [((ma 200), mo_0 ma)]) hP hD [0] [] rfl rfl (by decide) (by decide) hk1 hFc ht hB
  have hP : va_P D vwCl [((ma 200), mo_0 ma)] H := hP
  have hD : va_D A [((ma 200), mo_0 ma)] := hD
  rcases hw with ⟨rfl, p_2⟩ | ⟨rfl, p_2⟩
  · refine lv_if_eq (tgt := 36) hx hb dX12_likely_5 (by decide) (fun c_3 => absurd c_3 (by decide)) (fun c_3 => ?_)
    refine lv_aload_n hx hb dX12_likely_8 rfl (lv_at hl 0 rfl) ?_
    have hPc := hP.sub (ws' := [((ma 200), mo_0 ma)]) [0] rfl
    have hDc := hD.sub (ws' := [((ma 200), mo_0 ma)]) [0] (by decide) rfl
    have hFc := va_free (wc := [((ma 200), mo_0 ma)]) hD hS hA [0] rfl
    refine va_calli (va_runV (As := []) (rest := []) ⟨hx, hb, hml, hown, hts⟩ (kX12_notesLikely l D cy H.size ma) (cwV 0 hts g_kX12_likely_kX12_notesLikely_1 rfl rfl rfl (by decide +kernel) ⟨Nat.le_of_ble_eq_true rfl, Nat.le_of_ble_eq_true rfl⟩) (gp_preV (RX12, TX12, 104) 12 0 hPc hDc hK hN rfl rfl) rfl rfl hl.1 rfl (lv_room (Nat.le_of_ble_eq_true rfl)) dX12_likely_9 ⟨Nat.le_of_ble_eq_true rfl, Nat.le_of_ble_eq_true rfl⟩) hS (fun q _ h => hFc q h) hFc (fun r_4 u t H locs ht hvm hw hB hz1 hk1 hS => ?_)
    obtain ⟨hP, hD⟩ := gp_join (wr := []) (w1 := [((ma 200), mo_0 ma)]) hP hD [0] [] rfl rfl (by decide) (by decide) hk1 hFc ht hB
    have hP : va_P D vwCl [((ma 200), mo_0 ma)] H := hP
    have hD : va_D A [((ma 200), mo_0 ma)] := hD
    obtain rfl : r_4 = 0 := hw
    refine lv_if_eq (tgt := 36) hx hb dX12_likely_12 (by decide) (fun c_5 => ?_) (fun c_5 => absurd (by decide) c_5)
    refine lv_iconst (v := (-1)) hx hb dX12_likely_36 (by decide) ?_
    exact W.iret (v := (-1)) hx hb hr (fun t ht hW => ⟨⟨(-1), (), rfl, rfl, gp_end ht (hP.sub (ws' := []) [] rfl) (hD.sub (ws' := []) [] (by decide) rfl)⟩, hS.F ht⟩) hS.2.2 dX12_likely_37
  · refine lv_if_eq (tgt := 36) hx hb dX12_likely_5 (by decide) (fun c_6 => ?_) (fun c_6 => absurd (by decide) c_6)
    refine lv_iconst (v := (-1)) hx hb dX12_likely_36 (by decide) ?_
    exact W.iret (v := (-1)) hx hb hr (fun t ht hW => ⟨⟨(-1), (), rfl, rfl, gp_end ht (hP.sub (ws' := []) [] rfl) (hD.sub (ws' := []) [] (by decide) rfl)⟩, hS.F ht⟩) hS.2.2 dX12_likely_37

def v_kX12_since : List Cond := .code yX12_since cX12_since 2 (some .int) :: ([.code yX12_notesLikely cX12_notesLikely 4 (some .boolean), .fieldLink RX12 504 "GhostPaneModel" "hasGrid" "Z", .methodLink RX12 571 yX12_notesLikely, .instanceMethod yX12_notesLikely, .selects RX12 yX12_notesLikely yX12_notesLikely, .initialized RX12] ++ wsX120)
set_option maxRecDepth 20000 in
theorem gg_kX12_since_kX12_notesLikely : GoodIn v_kX12_since v_kX12_notesLikely := goodIn_ca (goodIn_r (.code yX12_notesLikely cX12_notesLikely 4 (some .boolean) :: [.fieldLink RX12 504 "GhostPaneModel" "hasGrid" "Z"]) [1, 2] rfl (by decide +kernel)) (goodIn_sub (fun _ h => List.mem_cons_of_mem _ (List.mem_append_right _ h)) gwX12)
set_option maxRecDepth 20000 in
theorem g_kX12_since_kX12_notesLikely_0 : GoodIn v_kX12_since (wsV RX12 571 RX12 yX12_notesLikely v_kX12_notesLikely) := goodIn_app (goodIn_r [.methodLink RX12 571 yX12_notesLikely, .instanceMethod yX12_notesLikely, .selects RX12 yX12_notesLikely yX12_notesLikely, .initialized RX12] [3, 4, 5, 6] rfl (by decide +kernel)) gg_kX12_since_kX12_notesLikely
set_option maxHeartbeats 4000000 in
set_option maxRecDepth 100000 in
theorem kX12_since (l : Launch) (D : va_G) (cy : Nat → ClassId) (sz : Nat) (ma : Nat → Nat) : Met l yX12_since v_kX12_since ({ frames := 1, cells := 0, slots := 0, locals := 23 } : Room) (va_Pc [.ref (ma 200)] (gp_B D cy sz [((ma 200), mo_0 ma)])) (va_Qi (fun (r : Int32) (u : Unit) => r = (-1)) (fun u => gp_E D (va_A [((ma 200), mo_0 ma)] sz) []) (va_A [((ma 200), mo_0 ma)] sz)) 0 0 (va_A [((ma 200), mo_0 ma)] sz) := by
  refine gp_met (Qc := fun A => va_Qi (fun (r : Int32) (u : Unit) => r = (-1)) (fun u => gp_E D A []) A) (cc := cX12_since) (maxL := 2) (ret := (some .int)) (by decide) rfl (Nat.le_of_ble_eq_true rfl) ?_
  intro p e s m below meth c A ls H hx hb hml hr hlocks hts hown hin hK hN hS hP hD hA hl
  have hown : s.vm.findClass RX12 = some m.cls := hown
  have hl : lv_has ls 2 [(0, .ref (ma 200))] := hl
  refine lv_aload_n hx hb dX12_since_0 rfl (lv_at hl 0 rfl) ?_
  have hPc := hP.sub (ws' := [((ma 200), mo_0 ma)]) [0] rfl
  have hDc := hD.sub (ws' := [((ma 200), mo_0 ma)]) [0] (by decide) rfl
  have hFc := va_free (wc := [((ma 200), mo_0 ma)]) hD hS hA [0] rfl
  refine va_calli (va_runV (As := []) (rest := []) ⟨hx, hb, hml, hown, hts⟩ (kX12_notesLikely l D cy H.size ma) (cwV 0 hts g_kX12_since_kX12_notesLikely_0 rfl rfl rfl (by decide +kernel) ⟨Nat.le_of_ble_eq_true rfl, Nat.le_of_ble_eq_true rfl⟩) (gp_preV (RX12, TX12, 104) 12 0 hPc hDc hK hN rfl rfl) rfl rfl hl.1 rfl (lv_room (Nat.le_of_ble_eq_true rfl)) dX12_since_1 ⟨Nat.le_of_ble_eq_true rfl, Nat.le_of_ble_eq_true rfl⟩) hS (fun q _ h => hFc q h) hFc (fun r_1 u t H locs ht hvm hw hB hz1 hk1 hS => ?_)
  obtain ⟨hP, hD⟩ := gp_join (wr := []) (w1 := [((ma 200), mo_0 ma)]) hP hD [0] [] rfl rfl (by decide) (by decide) hk1 hFc ht hB
  have hP : va_P D vwCl [((ma 200), mo_0 ma)] H := hP
  have hD : va_D A [((ma 200), mo_0 ma)] := hD
  obtain rfl : r_1 = 0 := hw
  refine lv_if_ne (tgt := 9) hx hb dX12_since_4 (by decide) (fun c_2 => absurd (by decide) c_2) (fun c_2 => ?_)
  refine lv_iconst (v := (-1)) hx hb dX12_since_7 (by decide) ?_
  exact W.iret (v := (-1)) hx hb hr (fun t ht hW => ⟨⟨(-1), (), rfl, rfl, gp_end ht (hP.sub (ws' := []) [] rfl) (hD.sub (ws' := []) [] (by decide) rfl)⟩, hS.F ht⟩) hS.2.2 dX12_since_8

def v_kX12_house : List Cond := .code yX12_house cX12_house 3 (some .int) :: ([.fieldLink RX12 49 "GhostPaneModel" "isSeat" "[Z"] ++ wsX120)
set_option maxHeartbeats 4000000 in
set_option maxRecDepth 100000 in
theorem kX12_house (l : Launch) (D : va_G) (cy : Nat → ClassId) (sz : Nat) (ma : Nat → Nat) : Met l yX12_house v_kX12_house ({ frames := 0, cells := 0, slots := 0, locals := 0 } : Room) (va_Pc [.ref (ma 200)] (gp_B D cy sz [((ma 200), mo_0 ma), ((ma 11), .inl (cy 3, 8, .inl (fun _ => 0)))])) (va_Qi (fun (r : Int32) (u : Unit) => r = 0) (fun u => gp_E D (va_A [((ma 200), mo_0 ma), ((ma 11), .inl (cy 3, 8, .inl (fun _ => 0)))] sz) []) (va_A [((ma 200), mo_0 ma), ((ma 11), .inl (cy 3, 8, .inl (fun _ => 0)))] sz)) 0 0 (va_A [((ma 200), mo_0 ma), ((ma 11), .inl (cy 3, 8, .inl (fun _ => 0)))] sz) := by
  refine gp_met (Qc := fun A => va_Qi (fun (r : Int32) (u : Unit) => r = 0) (fun u => gp_E D A []) A) (cc := cX12_house) (maxL := 3) (ret := (some .int)) (by decide) rfl (Nat.le_of_ble_eq_true rfl) ?_
  intro p e s m below meth c A ls H hx hb hml hr hlocks hts hown hin hK hN hS hP hD hA hl
  have hown : s.vm.findClass RX12 = some m.cls := hown
  have hl : lv_has ls 3 [(0, .ref (ma 200))] := hl
  have hiX12 : ∀ w ∈ u_ws RX12 TX12 104, w ∈ v_kX12_house := fun _ h => List.mem_cons_of_mem _ (List.mem_append_right _ h)
  refine lv_iconst (v := 0) hx hb dX12_house_0 (by decide) ?_
  refine lv_istore_n (lv' := [(1, .int 0), (0, .ref (ma 200))]) hx hb dX12_house_1 rfl hl (by decide) rfl (fun ls hl => ?_)
  refine lv_iconst (v := 0) hx hb dX12_house_2 (by decide) ?_
  refine lv_istore_n (lv' := [(2, .int 0), (1, .int 0), (0, .ref (ma 200))]) hx hb dX12_house_3 rfl hl (by decide) rfl (fun ls hl => ?_)
  refine lv_iload_n hx hb dX12_house_4 rfl (lv_at hl 0 rfl) ?_
  refine lv_bipush (v := 8) hx hb dX12_house_5 (by decide) ?_
  refine lv_icmp_ge (tgt := 33) hx hb dX12_house_7 (by decide) (fun c_1 => absurd c_1 (by decide)) (fun c_1 => ?_)
  refine lv_aload_n hx hb dX12_house_10 rfl (lv_at hl 2 rfl) ?_
  refine va_get (D := D) (ci := 12) (v := .ref (ma 11)) (C := RX12) (T := TX12) (N := 104) hx hb hts hiX12 hown hK hP 0 rfl rfl 11 (by decide) (hts (.fieldLink RX12 49 "GhostPaneModel" "isSeat" "[Z") (List.mem_of_getElem? (i := 1) rfl)) (fun _ h9 => h9) rfl dX12_house_11 ?_
  refine lv_iload_n hx hb dX12_house_14 rfl (lv_at hl 0 rfl) ?_
  refine va_zald hx hb hK hP 1 3 rfl rfl (by unfold vp_in; decide) dX12_house_15 ?_
  refine gp_ni 0 rfl ?_
  refine lv_if_eq (tgt := 27) hx hb dX12_house_16 (by decide) (fun c_2 => ?_) (fun c_2 => absurd (by decide) c_2)
  refine lv_iinc (v := 1) (lv' := [(2, .int 1), (1, .int 0), (0, .ref (ma 200))]) hx hb dX12_house_27 hl (k := 0) rfl (by decide) (by decide) rfl (fun ls hl => ?_)
  refine lv_goto (tgt := 4) hx hb dX12_house_30 (by decide) ?_
  refine lv_iload_n hx hb dX12_house_4 rfl (lv_at hl 0 rfl) ?_
  refine lv_bipush (v := 8) hx hb dX12_house_5 (by decide) ?_
  refine lv_icmp_ge (tgt := 33) hx hb dX12_house_7 (by decide) (fun c_3 => absurd c_3 (by decide)) (fun c_3 => ?_)
  refine lv_aload_n hx hb dX12_house_10 rfl (lv_at hl 2 rfl) ?_
  refine va_get (D := D) (ci := 12) (v := .ref (ma 11)) (C := RX12) (T := TX12) (N := 104) hx hb hts hiX12 hown hK hP 0 rfl rfl 11 (by decide) (hts (.fieldLink RX12 49 "GhostPaneModel" "isSeat" "[Z") (List.mem_of_getElem? (i := 1) rfl)) (fun _ h9 => h9) rfl dX12_house_11 ?_
  refine lv_iload_n hx hb dX12_house_14 rfl (lv_at hl 0 rfl) ?_
  refine va_zald hx hb hK hP 1 3 rfl rfl (by unfold vp_in; decide) dX12_house_15 ?_
  refine gp_ni 0 rfl ?_
  refine lv_if_eq (tgt := 27) hx hb dX12_house_16 (by decide) (fun c_4 => ?_) (fun c_4 => absurd (by decide) c_4)
  refine lv_iinc (v := 2) (lv' := [(2, .int 2), (1, .int 0), (0, .ref (ma 200))]) hx hb dX12_house_27 hl (k := 0) rfl (by decide) (by decide) rfl (fun ls hl => ?_)
  refine lv_goto (tgt := 4) hx hb dX12_house_30 (by decide) ?_
  refine lv_iload_n hx hb dX12_house_4 rfl (lv_at hl 0 rfl) ?_
  refine lv_bipush (v := 8) hx hb dX12_house_5 (by decide) ?_
  refine lv_icmp_ge (tgt := 33) hx hb dX12_house_7 (by decide) (fun c_5 => absurd c_5 (by decide)) (fun c_5 => ?_)
  refine lv_aload_n hx hb dX12_house_10 rfl (lv_at hl 2 rfl) ?_
  refine va_get (D := D) (ci := 12) (v := .ref (ma 11)) (C := RX12) (T := TX12) (N := 104) hx hb hts hiX12 hown hK hP 0 rfl rfl 11 (by decide) (hts (.fieldLink RX12 49 "GhostPaneModel" "isSeat" "[Z") (List.mem_of_getElem? (i := 1) rfl)) (fun _ h9 => h9) rfl dX12_house_11 ?_
  refine lv_iload_n hx hb dX12_house_14 rfl (lv_at hl 0 rfl) ?_
  refine va_zald hx hb hK hP 1 3 rfl rfl (by unfold vp_in; decide) dX12_house_15 ?_
  refine gp_ni 0 rfl ?_
  refine lv_if_eq (tgt := 27) hx hb dX12_house_16 (by decide) (fun c_6 => ?_) (fun c_6 => absurd (by decide) c_6)
  refine lv_iinc (v := 3) (lv' := [(2, .int 3), (1, .int 0), (0, .ref (ma 200))]) hx hb dX12_house_27 hl (k := 0) rfl (by decide) (by decide) rfl (fun ls hl => ?_)
  refine lv_goto (tgt := 4) hx hb dX12_house_30 (by decide) ?_
  refine lv_iload_n hx hb dX12_house_4 rfl (lv_at hl 0 rfl) ?_
  refine lv_bipush (v := 8) hx hb dX12_house_5 (by decide) ?_
  refine lv_icmp_ge (tgt := 33) hx hb dX12_house_7 (by decide) (fun c_7 => absurd c_7 (by decide)) (fun c_7 => ?_)
  refine lv_aload_n hx hb dX12_house_10 rfl (lv_at hl 2 rfl) ?_
  refine va_get (D := D) (ci := 12) (v := .ref (ma 11)) (C := RX12) (T := TX12) (N := 104) hx hb hts hiX12 hown hK hP 0 rfl rfl 11 (by decide) (hts (.fieldLink RX12 49 "GhostPaneModel" "isSeat" "[Z") (List.mem_of_getElem? (i := 1) rfl)) (fun _ h9 => h9) rfl dX12_house_11 ?_
  refine lv_iload_n hx hb dX12_house_14 rfl (lv_at hl 0 rfl) ?_
  refine va_zald hx hb hK hP 1 3 rfl rfl (by unfold vp_in; decide) dX12_house_15 ?_
  refine gp_ni 0 rfl ?_
  refine lv_if_eq (tgt := 27) hx hb dX12_house_16 (by decide) (fun c_8 => ?_) (fun c_8 => absurd (by decide) c_8)
  refine lv_iinc (v := 4) (lv' := [(2, .int 4), (1, .int 0), (0, .ref (ma 200))]) hx hb dX12_house_27 hl (k := 0) rfl (by decide) (by decide) rfl (fun ls hl => ?_)
  refine lv_goto (tgt := 4) hx hb dX12_house_30 (by decide) ?_
  refine lv_iload_n hx hb dX12_house_4 rfl (lv_at hl 0 rfl) ?_
  refine lv_bipush (v := 8) hx hb dX12_house_5 (by decide) ?_
  refine lv_icmp_ge (tgt := 33) hx hb dX12_house_7 (by decide) (fun c_9 => absurd c_9 (by decide)) (fun c_9 => ?_)
  refine lv_aload_n hx hb dX12_house_10 rfl (lv_at hl 2 rfl) ?_
  refine va_get (D := D) (ci := 12) (v := .ref (ma 11)) (C := RX12) (T := TX12) (N := 104) hx hb hts hiX12 hown hK hP 0 rfl rfl 11 (by decide) (hts (.fieldLink RX12 49 "GhostPaneModel" "isSeat" "[Z") (List.mem_of_getElem? (i := 1) rfl)) (fun _ h9 => h9) rfl dX12_house_11 ?_
  refine lv_iload_n hx hb dX12_house_14 rfl (lv_at hl 0 rfl) ?_
  refine va_zald hx hb hK hP 1 3 rfl rfl (by unfold vp_in; decide) dX12_house_15 ?_
  refine gp_ni 0 rfl ?_
  refine lv_if_eq (tgt := 27) hx hb dX12_house_16 (by decide) (fun c_10 => ?_) (fun c_10 => absurd (by decide) c_10)
  refine lv_iinc (v := 5) (lv' := [(2, .int 5), (1, .int 0), (0, .ref (ma 200))]) hx hb dX12_house_27 hl (k := 0) rfl (by decide) (by decide) rfl (fun ls hl => ?_)
  refine lv_goto (tgt := 4) hx hb dX12_house_30 (by decide) ?_
  refine lv_iload_n hx hb dX12_house_4 rfl (lv_at hl 0 rfl) ?_
  refine lv_bipush (v := 8) hx hb dX12_house_5 (by decide) ?_
  refine lv_icmp_ge (tgt := 33) hx hb dX12_house_7 (by decide) (fun c_11 => absurd c_11 (by decide)) (fun c_11 => ?_)
  refine lv_aload_n hx hb dX12_house_10 rfl (lv_at hl 2 rfl) ?_
  refine va_get (D := D) (ci := 12) (v := .ref (ma 11)) (C := RX12) (T := TX12) (N := 104) hx hb hts hiX12 hown hK hP 0 rfl rfl 11 (by decide) (hts (.fieldLink RX12 49 "GhostPaneModel" "isSeat" "[Z") (List.mem_of_getElem? (i := 1) rfl)) (fun _ h9 => h9) rfl dX12_house_11 ?_
  refine lv_iload_n hx hb dX12_house_14 rfl (lv_at hl 0 rfl) ?_
  refine va_zald hx hb hK hP 1 3 rfl rfl (by unfold vp_in; decide) dX12_house_15 ?_
  refine gp_ni 0 rfl ?_
  refine lv_if_eq (tgt := 27) hx hb dX12_house_16 (by decide) (fun c_12 => ?_) (fun c_12 => absurd (by decide) c_12)
  refine lv_iinc (v := 6) (lv' := [(2, .int 6), (1, .int 0), (0, .ref (ma 200))]) hx hb dX12_house_27 hl (k := 0) rfl (by decide) (by decide) rfl (fun ls hl => ?_)
  refine lv_goto (tgt := 4) hx hb dX12_house_30 (by decide) ?_
  refine lv_iload_n hx hb dX12_house_4 rfl (lv_at hl 0 rfl) ?_
  refine lv_bipush (v := 8) hx hb dX12_house_5 (by decide) ?_
  refine lv_icmp_ge (tgt := 33) hx hb dX12_house_7 (by decide) (fun c_13 => absurd c_13 (by decide)) (fun c_13 => ?_)
  refine lv_aload_n hx hb dX12_house_10 rfl (lv_at hl 2 rfl) ?_
  refine va_get (D := D) (ci := 12) (v := .ref (ma 11)) (C := RX12) (T := TX12) (N := 104) hx hb hts hiX12 hown hK hP 0 rfl rfl 11 (by decide) (hts (.fieldLink RX12 49 "GhostPaneModel" "isSeat" "[Z") (List.mem_of_getElem? (i := 1) rfl)) (fun _ h9 => h9) rfl dX12_house_11 ?_
  refine lv_iload_n hx hb dX12_house_14 rfl (lv_at hl 0 rfl) ?_
  refine va_zald hx hb hK hP 1 3 rfl rfl (by unfold vp_in; decide) dX12_house_15 ?_
  refine gp_ni 0 rfl ?_
  refine lv_if_eq (tgt := 27) hx hb dX12_house_16 (by decide) (fun c_14 => ?_) (fun c_14 => absurd (by decide) c_14)
  refine lv_iinc (v := 7) (lv' := [(2, .int 7), (1, .int 0), (0, .ref (ma 200))]) hx hb dX12_house_27 hl (k := 0) rfl (by decide) (by decide) rfl (fun ls hl => ?_)
  refine lv_goto (tgt := 4) hx hb dX12_house_30 (by decide) ?_
  refine lv_iload_n hx hb dX12_house_4 rfl (lv_at hl 0 rfl) ?_
  refine lv_bipush (v := 8) hx hb dX12_house_5 (by decide) ?_
  refine lv_icmp_ge (tgt := 33) hx hb dX12_house_7 (by decide) (fun c_15 => absurd c_15 (by decide)) (fun c_15 => ?_)
  refine lv_aload_n hx hb dX12_house_10 rfl (lv_at hl 2 rfl) ?_
  refine va_get (D := D) (ci := 12) (v := .ref (ma 11)) (C := RX12) (T := TX12) (N := 104) hx hb hts hiX12 hown hK hP 0 rfl rfl 11 (by decide) (hts (.fieldLink RX12 49 "GhostPaneModel" "isSeat" "[Z") (List.mem_of_getElem? (i := 1) rfl)) (fun _ h9 => h9) rfl dX12_house_11 ?_
  refine lv_iload_n hx hb dX12_house_14 rfl (lv_at hl 0 rfl) ?_
  refine va_zald hx hb hK hP 1 3 rfl rfl (by unfold vp_in; decide) dX12_house_15 ?_
  refine gp_ni 0 rfl ?_
  refine lv_if_eq (tgt := 27) hx hb dX12_house_16 (by decide) (fun c_16 => ?_) (fun c_16 => absurd (by decide) c_16)
  refine lv_iinc (v := 8) (lv' := [(2, .int 8), (1, .int 0), (0, .ref (ma 200))]) hx hb dX12_house_27 hl (k := 0) rfl (by decide) (by decide) rfl (fun ls hl => ?_)
  refine lv_goto (tgt := 4) hx hb dX12_house_30 (by decide) ?_
  refine lv_iload_n hx hb dX12_house_4 rfl (lv_at hl 0 rfl) ?_
  refine lv_bipush (v := 8) hx hb dX12_house_5 (by decide) ?_
  refine lv_icmp_ge (tgt := 33) hx hb dX12_house_7 (by decide) (fun c_17 => ?_) (fun c_17 => absurd (by decide) c_17)
  refine lv_iload_n hx hb dX12_house_33 rfl (lv_at hl 1 rfl) ?_
  exact W.iret (v := 0) hx hb hr (fun t ht hW => ⟨⟨0, (), rfl, rfl, gp_end ht (hP.sub (ws' := []) [] rfl) (hD.sub (ws' := []) [] (by decide) rfl)⟩, hS.F ht⟩) hS.2.2 dX12_house_34

def v_kX12_black : List Cond := .code yX12_black cX12_black 4 (some .int) :: ([.fieldLink RX12 60 "GhostPaneModel" "isWall" "[Z"] ++ wsX120)
set_option maxHeartbeats 4000000 in
set_option maxRecDepth 100000 in
theorem kX12_black (l : Launch) (D : va_G) (cy : Nat → ClassId) (sz : Nat) (ma : Nat → Nat) : Met l yX12_black v_kX12_black ({ frames := 0, cells := 0, slots := 0, locals := 0 } : Room) (va_Pc [.ref (ma 200)] (gp_B D cy sz [((ma 200), mo_0 ma), ((ma 14), .inl (cy 3, 12, .inl (fun _ => 0)))])) (va_Qi (fun (r : Int32) (u : Unit) => r = 0) (fun u => gp_E D (va_A [((ma 200), mo_0 ma), ((ma 14), .inl (cy 3, 12, .inl (fun _ => 0)))] sz) []) (va_A [((ma 200), mo_0 ma), ((ma 14), .inl (cy 3, 12, .inl (fun _ => 0)))] sz)) 0 0 (va_A [((ma 200), mo_0 ma), ((ma 14), .inl (cy 3, 12, .inl (fun _ => 0)))] sz) := by
  refine gp_met (Qc := fun A => va_Qi (fun (r : Int32) (u : Unit) => r = 0) (fun u => gp_E D A []) A) (cc := cX12_black) (maxL := 4) (ret := (some .int)) (by decide) rfl (Nat.le_of_ble_eq_true rfl) ?_
  intro p e s m below meth c A ls H hx hb hml hr hlocks hts hown hin hK hN hS hP hD hA hl
  have hown : s.vm.findClass RX12 = some m.cls := hown
  have hl : lv_has ls 4 [(0, .ref (ma 200))] := hl
  have hiX12 : ∀ w ∈ u_ws RX12 TX12 104, w ∈ v_kX12_black := fun _ h => List.mem_cons_of_mem _ (List.mem_append_right _ h)
  refine lv_iconst (v := 0) hx hb dX12_black_0 (by decide) ?_
  refine lv_istore_n (lv' := [(1, .int 0), (0, .ref (ma 200))]) hx hb dX12_black_1 rfl hl (by decide) rfl (fun ls hl => ?_)
  refine lv_iconst (v := 0) hx hb dX12_black_2 (by decide) ?_
  refine lv_istore_n (lv' := [(2, .int 0), (1, .int 0), (0, .ref (ma 200))]) hx hb dX12_black_3 rfl hl (by decide) rfl (fun ls hl => ?_)
  refine lv_iload_n hx hb dX12_black_4 rfl (lv_at hl 0 rfl) ?_
  refine lv_bipush (v := 12) hx hb dX12_black_5 (by decide) ?_
  refine lv_icmp_ge (tgt := 63) hx hb dX12_black_7 (by decide) (fun c_1 => absurd c_1 (by decide)) (fun c_1 => ?_)
  refine lv_iconst (v := 0) hx hb dX12_black_10 (by decide) ?_
  refine lv_istore_n (lv' := [(3, .int 0), (2, .int 0), (1, .int 0), (0, .ref (ma 200))]) hx hb dX12_black_11 rfl hl (by decide) rfl (fun ls hl => ?_)
  refine lv_iload_n hx hb dX12_black_12 rfl (lv_at hl 0 rfl) ?_
  refine lv_bipush (v := 8) hx hb dX12_black_13 (by decide) ?_
  refine lv_icmp_ge (tgt := 57) hx hb dX12_black_15 (by decide) (fun c_2 => absurd c_2 (by decide)) (fun c_2 => ?_)
  refine lv_aload_n hx hb dX12_black_18 rfl (lv_at hl 3 rfl) ?_
  refine va_get (D := D) (ci := 12) (v := .ref (ma 14)) (C := RX12) (T := TX12) (N := 104) hx hb hts hiX12 hown hK hP 0 rfl rfl 14 (by decide) (hts (.fieldLink RX12 60 "GhostPaneModel" "isWall" "[Z") (List.mem_of_getElem? (i := 1) rfl)) (fun _ h9 => h9) rfl dX12_black_19 ?_
  refine lv_iload_n hx hb dX12_black_22 rfl (lv_at hl 1 rfl) ?_
  refine va_zald hx hb hK hP 1 3 rfl rfl (by unfold vp_in; decide) dX12_black_23 ?_
  refine gp_ni 0 rfl ?_
  refine lv_if_eq (tgt := 51) hx hb dX12_black_24 (by decide) (fun c_3 => ?_) (fun c_3 => absurd (by decide) c_3)
  refine lv_iinc (v := 1) (lv' := [(3, .int 1), (2, .int 0), (1, .int 0), (0, .ref (ma 200))]) hx hb dX12_black_51 hl (k := 0) rfl (by decide) (by decide) rfl (fun ls hl => ?_)
  refine lv_goto (tgt := 12) hx hb dX12_black_54 (by decide) ?_
  refine lv_iload_n hx hb dX12_black_12 rfl (lv_at hl 0 rfl) ?_
  refine lv_bipush (v := 8) hx hb dX12_black_13 (by decide) ?_
  refine lv_icmp_ge (tgt := 57) hx hb dX12_black_15 (by decide) (fun c_4 => absurd c_4 (by decide)) (fun c_4 => ?_)
  refine lv_aload_n hx hb dX12_black_18 rfl (lv_at hl 3 rfl) ?_
  refine va_get (D := D) (ci := 12) (v := .ref (ma 14)) (C := RX12) (T := TX12) (N := 104) hx hb hts hiX12 hown hK hP 0 rfl rfl 14 (by decide) (hts (.fieldLink RX12 60 "GhostPaneModel" "isWall" "[Z") (List.mem_of_getElem? (i := 1) rfl)) (fun _ h9 => h9) rfl dX12_black_19 ?_
  refine lv_iload_n hx hb dX12_black_22 rfl (lv_at hl 1 rfl) ?_
  refine va_zald hx hb hK hP 1 3 rfl rfl (by unfold vp_in; decide) dX12_black_23 ?_
  refine gp_ni 0 rfl ?_
  refine lv_if_eq (tgt := 51) hx hb dX12_black_24 (by decide) (fun c_5 => ?_) (fun c_5 => absurd (by decide) c_5)
  refine lv_iinc (v := 2) (lv' := [(3, .int 2), (2, .int 0), (1, .int 0), (0, .ref (ma 200))]) hx hb dX12_black_51 hl (k := 0) rfl (by decide) (by decide) rfl (fun ls hl => ?_)
  refine lv_goto (tgt := 12) hx hb dX12_black_54 (by decide) ?_
  refine lv_iload_n hx hb dX12_black_12 rfl (lv_at hl 0 rfl) ?_
  refine lv_bipush (v := 8) hx hb dX12_black_13 (by decide) ?_
  refine lv_icmp_ge (tgt := 57) hx hb dX12_black_15 (by decide) (fun c_6 => absurd c_6 (by decide)) (fun c_6 => ?_)
  refine lv_aload_n hx hb dX12_black_18 rfl (lv_at hl 3 rfl) ?_
  refine va_get (D := D) (ci := 12) (v := .ref (ma 14)) (C := RX12) (T := TX12) (N := 104) hx hb hts hiX12 hown hK hP 0 rfl rfl 14 (by decide) (hts (.fieldLink RX12 60 "GhostPaneModel" "isWall" "[Z") (List.mem_of_getElem? (i := 1) rfl)) (fun _ h9 => h9) rfl dX12_black_19 ?_
  refine lv_iload_n hx hb dX12_black_22 rfl (lv_at hl 1 rfl) ?_
  refine va_zald hx hb hK hP 1 3 rfl rfl (by unfold vp_in; decide) dX12_black_23 ?_
  refine gp_ni 0 rfl ?_
  refine lv_if_eq (tgt := 51) hx hb dX12_black_24 (by decide) (fun c_7 => ?_) (fun c_7 => absurd (by decide) c_7)
  refine lv_iinc (v := 3) (lv' := [(3, .int 3), (2, .int 0), (1, .int 0), (0, .ref (ma 200))]) hx hb dX12_black_51 hl (k := 0) rfl (by decide) (by decide) rfl (fun ls hl => ?_)
  refine lv_goto (tgt := 12) hx hb dX12_black_54 (by decide) ?_
  refine lv_iload_n hx hb dX12_black_12 rfl (lv_at hl 0 rfl) ?_
  refine lv_bipush (v := 8) hx hb dX12_black_13 (by decide) ?_
  refine lv_icmp_ge (tgt := 57) hx hb dX12_black_15 (by decide) (fun c_8 => absurd c_8 (by decide)) (fun c_8 => ?_)
  refine lv_aload_n hx hb dX12_black_18 rfl (lv_at hl 3 rfl) ?_
  refine va_get (D := D) (ci := 12) (v := .ref (ma 14)) (C := RX12) (T := TX12) (N := 104) hx hb hts hiX12 hown hK hP 0 rfl rfl 14 (by decide) (hts (.fieldLink RX12 60 "GhostPaneModel" "isWall" "[Z") (List.mem_of_getElem? (i := 1) rfl)) (fun _ h9 => h9) rfl dX12_black_19 ?_
  refine lv_iload_n hx hb dX12_black_22 rfl (lv_at hl 1 rfl) ?_
  refine va_zald hx hb hK hP 1 3 rfl rfl (by unfold vp_in; decide) dX12_black_23 ?_
  refine gp_ni 0 rfl ?_
  refine lv_if_eq (tgt := 51) hx hb dX12_black_24 (by decide) (fun c_9 => ?_) (fun c_9 => absurd (by decide) c_9)
  refine lv_iinc (v := 4) (lv' := [(3, .int 4), (2, .int 0), (1, .int 0), (0, .ref (ma 200))]) hx hb dX12_black_51 hl (k := 0) rfl (by decide) (by decide) rfl (fun ls hl => ?_)
  refine lv_goto (tgt := 12) hx hb dX12_black_54 (by decide) ?_
  refine lv_iload_n hx hb dX12_black_12 rfl (lv_at hl 0 rfl) ?_
  refine lv_bipush (v := 8) hx hb dX12_black_13 (by decide) ?_
  refine lv_icmp_ge (tgt := 57) hx hb dX12_black_15 (by decide) (fun c_10 => absurd c_10 (by decide)) (fun c_10 => ?_)
  refine lv_aload_n hx hb dX12_black_18 rfl (lv_at hl 3 rfl) ?_
  refine va_get (D := D) (ci := 12) (v := .ref (ma 14)) (C := RX12) (T := TX12) (N := 104) hx hb hts hiX12 hown hK hP 0 rfl rfl 14 (by decide) (hts (.fieldLink RX12 60 "GhostPaneModel" "isWall" "[Z") (List.mem_of_getElem? (i := 1) rfl)) (fun _ h9 => h9) rfl dX12_black_19 ?_
  refine lv_iload_n hx hb dX12_black_22 rfl (lv_at hl 1 rfl) ?_
  refine va_zald hx hb hK hP 1 3 rfl rfl (by unfold vp_in; decide) dX12_black_23 ?_
  refine gp_ni 0 rfl ?_
  refine lv_if_eq (tgt := 51) hx hb dX12_black_24 (by decide) (fun c_11 => ?_) (fun c_11 => absurd (by decide) c_11)
  refine lv_iinc (v := 5) (lv' := [(3, .int 5), (2, .int 0), (1, .int 0), (0, .ref (ma 200))]) hx hb dX12_black_51 hl (k := 0) rfl (by decide) (by decide) rfl (fun ls hl => ?_)
  refine lv_goto (tgt := 12) hx hb dX12_black_54 (by decide) ?_
  refine lv_iload_n hx hb dX12_black_12 rfl (lv_at hl 0 rfl) ?_
  refine lv_bipush (v := 8) hx hb dX12_black_13 (by decide) ?_
  refine lv_icmp_ge (tgt := 57) hx hb dX12_black_15 (by decide) (fun c_12 => absurd c_12 (by decide)) (fun c_12 => ?_)
  refine lv_aload_n hx hb dX12_black_18 rfl (lv_at hl 3 rfl) ?_
  refine va_get (D := D) (ci := 12) (v := .ref (ma 14)) (C := RX12) (T := TX12) (N := 104) hx hb hts hiX12 hown hK hP 0 rfl rfl 14 (by decide) (hts (.fieldLink RX12 60 "GhostPaneModel" "isWall" "[Z") (List.mem_of_getElem? (i := 1) rfl)) (fun _ h9 => h9) rfl dX12_black_19 ?_
  refine lv_iload_n hx hb dX12_black_22 rfl (lv_at hl 1 rfl) ?_
  refine va_zald hx hb hK hP 1 3 rfl rfl (by unfold vp_in; decide) dX12_black_23 ?_
  refine gp_ni 0 rfl ?_
  refine lv_if_eq (tgt := 51) hx hb dX12_black_24 (by decide) (fun c_13 => ?_) (fun c_13 => absurd (by decide) c_13)
  refine lv_iinc (v := 6) (lv' := [(3, .int 6), (2, .int 0), (1, .int 0), (0, .ref (ma 200))]) hx hb dX12_black_51 hl (k := 0) rfl (by decide) (by decide) rfl (fun ls hl => ?_)
  refine lv_goto (tgt := 12) hx hb dX12_black_54 (by decide) ?_
  refine lv_iload_n hx hb dX12_black_12 rfl (lv_at hl 0 rfl) ?_
  refine lv_bipush (v := 8) hx hb dX12_black_13 (by decide) ?_
  refine lv_icmp_ge (tgt := 57) hx hb dX12_black_15 (by decide) (fun c_14 => absurd c_14 (by decide)) (fun c_14 => ?_)
  refine lv_aload_n hx hb dX12_black_18 rfl (lv_at hl 3 rfl) ?_
  refine va_get (D := D) (ci := 12) (v := .ref (ma 14)) (C := RX12) (T := TX12) (N := 104) hx hb hts hiX12 hown hK hP 0 rfl rfl 14 (by decide) (hts (.fieldLink RX12 60 "GhostPaneModel" "isWall" "[Z") (List.mem_of_getElem? (i := 1) rfl)) (fun _ h9 => h9) rfl dX12_black_19 ?_
  refine lv_iload_n hx hb dX12_black_22 rfl (lv_at hl 1 rfl) ?_
  refine va_zald hx hb hK hP 1 3 rfl rfl (by unfold vp_in; decide) dX12_black_23 ?_
  refine gp_ni 0 rfl ?_
  refine lv_if_eq (tgt := 51) hx hb dX12_black_24 (by decide) (fun c_15 => ?_) (fun c_15 => absurd (by decide) c_15)
  refine lv_iinc (v := 7) (lv' := [(3, .int 7), (2, .int 0), (1, .int 0), (0, .ref (ma 200))]) hx hb dX12_black_51 hl (k := 0) rfl (by decide) (by decide) rfl (fun ls hl => ?_)
  refine lv_goto (tgt := 12) hx hb dX12_black_54 (by decide) ?_
  refine lv_iload_n hx hb dX12_black_12 rfl (lv_at hl 0 rfl) ?_
  refine lv_bipush (v := 8) hx hb dX12_black_13 (by decide) ?_
  refine lv_icmp_ge (tgt := 57) hx hb dX12_black_15 (by decide) (fun c_16 => absurd c_16 (by decide)) (fun c_16 => ?_)
  refine lv_aload_n hx hb dX12_black_18 rfl (lv_at hl 3 rfl) ?_
  refine va_get (D := D) (ci := 12) (v := .ref (ma 14)) (C := RX12) (T := TX12) (N := 104) hx hb hts hiX12 hown hK hP 0 rfl rfl 14 (by decide) (hts (.fieldLink RX12 60 "GhostPaneModel" "isWall" "[Z") (List.mem_of_getElem? (i := 1) rfl)) (fun _ h9 => h9) rfl dX12_black_19 ?_
  refine lv_iload_n hx hb dX12_black_22 rfl (lv_at hl 1 rfl) ?_
  refine va_zald hx hb hK hP 1 3 rfl rfl (by unfold vp_in; decide) dX12_black_23 ?_
  refine gp_ni 0 rfl ?_
  refine lv_if_eq (tgt := 51) hx hb dX12_black_24 (by decide) (fun c_17 => ?_) (fun c_17 => absurd (by decide) c_17)
  refine lv_iinc (v := 8) (lv' := [(3, .int 8), (2, .int 0), (1, .int 0), (0, .ref (ma 200))]) hx hb dX12_black_51 hl (k := 0) rfl (by decide) (by decide) rfl (fun ls hl => ?_)
  refine lv_goto (tgt := 12) hx hb dX12_black_54 (by decide) ?_
  refine lv_iload_n hx hb dX12_black_12 rfl (lv_at hl 0 rfl) ?_
  refine lv_bipush (v := 8) hx hb dX12_black_13 (by decide) ?_
  refine lv_icmp_ge (tgt := 57) hx hb dX12_black_15 (by decide) (fun c_18 => ?_) (fun c_18 => absurd (by decide) c_18)
  refine lv_iinc (v := 1) (lv' := [(2, .int 1), (3, .int 8), (1, .int 0), (0, .ref (ma 200))]) hx hb dX12_black_57 hl (k := 1) rfl (by decide) (by decide) rfl (fun ls hl => ?_)
  refine lv_goto (tgt := 4) hx hb dX12_black_60 (by decide) ?_
  refine lv_iload_n hx hb dX12_black_4 rfl (lv_at hl 0 rfl) ?_
  refine lv_bipush (v := 12) hx hb dX12_black_5 (by decide) ?_
  refine lv_icmp_ge (tgt := 63) hx hb dX12_black_7 (by decide) (fun c_19 => absurd c_19 (by decide)) (fun c_19 => ?_)
  refine lv_iconst (v := 0) hx hb dX12_black_10 (by decide) ?_
  refine lv_istore_n (lv' := [(3, .int 0), (2, .int 1), (1, .int 0), (0, .ref (ma 200))]) hx hb dX12_black_11 rfl hl (by decide) rfl (fun ls hl => ?_)
  refine lv_iload_n hx hb dX12_black_12 rfl (lv_at hl 0 rfl) ?_
  refine lv_bipush (v := 8) hx hb dX12_black_13 (by decide) ?_
  refine lv_icmp_ge (tgt := 57) hx hb dX12_black_15 (by decide) (fun c_20 => absurd c_20 (by decide)) (fun c_20 => ?_)
  refine lv_aload_n hx hb dX12_black_18 rfl (lv_at hl 3 rfl) ?_
  refine va_get (D := D) (ci := 12) (v := .ref (ma 14)) (C := RX12) (T := TX12) (N := 104) hx hb hts hiX12 hown hK hP 0 rfl rfl 14 (by decide) (hts (.fieldLink RX12 60 "GhostPaneModel" "isWall" "[Z") (List.mem_of_getElem? (i := 1) rfl)) (fun _ h9 => h9) rfl dX12_black_19 ?_
  refine lv_iload_n hx hb dX12_black_22 rfl (lv_at hl 1 rfl) ?_
  refine va_zald hx hb hK hP 1 3 rfl rfl (by unfold vp_in; decide) dX12_black_23 ?_
  refine gp_ni 0 rfl ?_
  refine lv_if_eq (tgt := 51) hx hb dX12_black_24 (by decide) (fun c_21 => ?_) (fun c_21 => absurd (by decide) c_21)
  refine lv_iinc (v := 1) (lv' := [(3, .int 1), (2, .int 1), (1, .int 0), (0, .ref (ma 200))]) hx hb dX12_black_51 hl (k := 0) rfl (by decide) (by decide) rfl (fun ls hl => ?_)
  refine lv_goto (tgt := 12) hx hb dX12_black_54 (by decide) ?_
  refine lv_iload_n hx hb dX12_black_12 rfl (lv_at hl 0 rfl) ?_
  refine lv_bipush (v := 8) hx hb dX12_black_13 (by decide) ?_
  refine lv_icmp_ge (tgt := 57) hx hb dX12_black_15 (by decide) (fun c_22 => absurd c_22 (by decide)) (fun c_22 => ?_)
  refine lv_aload_n hx hb dX12_black_18 rfl (lv_at hl 3 rfl) ?_
  refine va_get (D := D) (ci := 12) (v := .ref (ma 14)) (C := RX12) (T := TX12) (N := 104) hx hb hts hiX12 hown hK hP 0 rfl rfl 14 (by decide) (hts (.fieldLink RX12 60 "GhostPaneModel" "isWall" "[Z") (List.mem_of_getElem? (i := 1) rfl)) (fun _ h9 => h9) rfl dX12_black_19 ?_
  refine lv_iload_n hx hb dX12_black_22 rfl (lv_at hl 1 rfl) ?_
  refine va_zald hx hb hK hP 1 3 rfl rfl (by unfold vp_in; decide) dX12_black_23 ?_
  refine gp_ni 0 rfl ?_
  refine lv_if_eq (tgt := 51) hx hb dX12_black_24 (by decide) (fun c_23 => ?_) (fun c_23 => absurd (by decide) c_23)
  refine lv_iinc (v := 2) (lv' := [(3, .int 2), (2, .int 1), (1, .int 0), (0, .ref (ma 200))]) hx hb dX12_black_51 hl (k := 0) rfl (by decide) (by decide) rfl (fun ls hl => ?_)
  refine lv_goto (tgt := 12) hx hb dX12_black_54 (by decide) ?_
  refine lv_iload_n hx hb dX12_black_12 rfl (lv_at hl 0 rfl) ?_
  refine lv_bipush (v := 8) hx hb dX12_black_13 (by decide) ?_
  refine lv_icmp_ge (tgt := 57) hx hb dX12_black_15 (by decide) (fun c_24 => absurd c_24 (by decide)) (fun c_24 => ?_)
  refine lv_aload_n hx hb dX12_black_18 rfl (lv_at hl 3 rfl) ?_
  refine va_get (D := D) (ci := 12) (v := .ref (ma 14)) (C := RX12) (T := TX12) (N := 104) hx hb hts hiX12 hown hK hP 0 rfl rfl 14 (by decide) (hts (.fieldLink RX12 60 "GhostPaneModel" "isWall" "[Z") (List.mem_of_getElem? (i := 1) rfl)) (fun _ h9 => h9) rfl dX12_black_19 ?_
  refine lv_iload_n hx hb dX12_black_22 rfl (lv_at hl 1 rfl) ?_
  refine va_zald hx hb hK hP 1 3 rfl rfl (by unfold vp_in; decide) dX12_black_23 ?_
  refine gp_ni 0 rfl ?_
  refine lv_if_eq (tgt := 51) hx hb dX12_black_24 (by decide) (fun c_25 => ?_) (fun c_25 => absurd (by decide) c_25)
  refine lv_iinc (v := 3) (lv' := [(3, .int 3), (2, .int 1), (1, .int 0), (0, .ref (ma 200))]) hx hb dX12_black_51 hl (k := 0) rfl (by decide) (by decide) rfl (fun ls hl => ?_)
  refine lv_goto (tgt := 12) hx hb dX12_black_54 (by decide) ?_
  refine lv_iload_n hx hb dX12_black_12 rfl (lv_at hl 0 rfl) ?_
  refine lv_bipush (v := 8) hx hb dX12_black_13 (by decide) ?_
  refine lv_icmp_ge (tgt := 57) hx hb dX12_black_15 (by decide) (fun c_26 => absurd c_26 (by decide)) (fun c_26 => ?_)
  refine lv_aload_n hx hb dX12_black_18 rfl (lv_at hl 3 rfl) ?_
  refine va_get (D := D) (ci := 12) (v := .ref (ma 14)) (C := RX12) (T := TX12) (N := 104) hx hb hts hiX12 hown hK hP 0 rfl rfl 14 (by decide) (hts (.fieldLink RX12 60 "GhostPaneModel" "isWall" "[Z") (List.mem_of_getElem? (i := 1) rfl)) (fun _ h9 => h9) rfl dX12_black_19 ?_
  refine lv_iload_n hx hb dX12_black_22 rfl (lv_at hl 1 rfl) ?_
  refine va_zald hx hb hK hP 1 3 rfl rfl (by unfold vp_in; decide) dX12_black_23 ?_
  refine gp_ni 0 rfl ?_
  refine lv_if_eq (tgt := 51) hx hb dX12_black_24 (by decide) (fun c_27 => ?_) (fun c_27 => absurd (by decide) c_27)
  refine lv_iinc (v := 4) (lv' := [(3, .int 4), (2, .int 1), (1, .int 0), (0, .ref (ma 200))]) hx hb dX12_black_51 hl (k := 0) rfl (by decide) (by decide) rfl (fun ls hl => ?_)
  refine lv_goto (tgt := 12) hx hb dX12_black_54 (by decide) ?_
  refine lv_iload_n hx hb dX12_black_12 rfl (lv_at hl 0 rfl) ?_
  refine lv_bipush (v := 8) hx hb dX12_black_13 (by decide) ?_
  refine lv_icmp_ge (tgt := 57) hx hb dX12_black_15 (by decide) (fun c_28 => absurd c_28 (by decide)) (fun c_28 => ?_)
  refine lv_aload_n hx hb dX12_black_18 rfl (lv_at hl 3 rfl) ?_
  refine va_get (D := D) (ci := 12) (v := .ref (ma 14)) (C := RX12) (T := TX12) (N := 104) hx hb hts hiX12 hown hK hP 0 rfl rfl 14 (by decide) (hts (.fieldLink RX12 60 "GhostPaneModel" "isWall" "[Z") (List.mem_of_getElem? (i := 1) rfl)) (fun _ h9 => h9) rfl dX12_black_19 ?_
  refine lv_iload_n hx hb dX12_black_22 rfl (lv_at hl 1 rfl) ?_
  refine va_zald hx hb hK hP 1 3 rfl rfl (by unfold vp_in; decide) dX12_black_23 ?_
  refine gp_ni 0 rfl ?_
  refine lv_if_eq (tgt := 51) hx hb dX12_black_24 (by decide) (fun c_29 => ?_) (fun c_29 => absurd (by decide) c_29)
  refine lv_iinc (v := 5) (lv' := [(3, .int 5), (2, .int 1), (1, .int 0), (0, .ref (ma 200))]) hx hb dX12_black_51 hl (k := 0) rfl (by decide) (by decide) rfl (fun ls hl => ?_)
  refine lv_goto (tgt := 12) hx hb dX12_black_54 (by decide) ?_
  refine lv_iload_n hx hb dX12_black_12 rfl (lv_at hl 0 rfl) ?_
  refine lv_bipush (v := 8) hx hb dX12_black_13 (by decide) ?_
  refine lv_icmp_ge (tgt := 57) hx hb dX12_black_15 (by decide) (fun c_30 => absurd c_30 (by decide)) (fun c_30 => ?_)
  refine lv_aload_n hx hb dX12_black_18 rfl (lv_at hl 3 rfl) ?_
  refine va_get (D := D) (ci := 12) (v := .ref (ma 14)) (C := RX12) (T := TX12) (N := 104) hx hb hts hiX12 hown hK hP 0 rfl rfl 14 (by decide) (hts (.fieldLink RX12 60 "GhostPaneModel" "isWall" "[Z") (List.mem_of_getElem? (i := 1) rfl)) (fun _ h9 => h9) rfl dX12_black_19 ?_
  refine lv_iload_n hx hb dX12_black_22 rfl (lv_at hl 1 rfl) ?_
  refine va_zald hx hb hK hP 1 3 rfl rfl (by unfold vp_in; decide) dX12_black_23 ?_
  refine gp_ni 0 rfl ?_
  refine lv_if_eq (tgt := 51) hx hb dX12_black_24 (by decide) (fun c_31 => ?_) (fun c_31 => absurd (by decide) c_31)
  refine lv_iinc (v := 6) (lv' := [(3, .int 6), (2, .int 1), (1, .int 0), (0, .ref (ma 200))]) hx hb dX12_black_51 hl (k := 0) rfl (by decide) (by decide) rfl (fun ls hl => ?_)
  refine lv_goto (tgt := 12) hx hb dX12_black_54 (by decide) ?_
  refine lv_iload_n hx hb dX12_black_12 rfl (lv_at hl 0 rfl) ?_
  refine lv_bipush (v := 8) hx hb dX12_black_13 (by decide) ?_
  refine lv_icmp_ge (tgt := 57) hx hb dX12_black_15 (by decide) (fun c_32 => absurd c_32 (by decide)) (fun c_32 => ?_)
  refine lv_aload_n hx hb dX12_black_18 rfl (lv_at hl 3 rfl) ?_
  refine va_get (D := D) (ci := 12) (v := .ref (ma 14)) (C := RX12) (T := TX12) (N := 104) hx hb hts hiX12 hown hK hP 0 rfl rfl 14 (by decide) (hts (.fieldLink RX12 60 "GhostPaneModel" "isWall" "[Z") (List.mem_of_getElem? (i := 1) rfl)) (fun _ h9 => h9) rfl dX12_black_19 ?_
  refine lv_iload_n hx hb dX12_black_22 rfl (lv_at hl 1 rfl) ?_
  refine va_zald hx hb hK hP 1 3 rfl rfl (by unfold vp_in; decide) dX12_black_23 ?_
  refine gp_ni 0 rfl ?_
  refine lv_if_eq (tgt := 51) hx hb dX12_black_24 (by decide) (fun c_33 => ?_) (fun c_33 => absurd (by decide) c_33)
  refine lv_iinc (v := 7) (lv' := [(3, .int 7), (2, .int 1), (1, .int 0), (0, .ref (ma 200))]) hx hb dX12_black_51 hl (k := 0) rfl (by decide) (by decide) rfl (fun ls hl => ?_)
  refine lv_goto (tgt := 12) hx hb dX12_black_54 (by decide) ?_
  refine lv_iload_n hx hb dX12_black_12 rfl (lv_at hl 0 rfl) ?_
  refine lv_bipush (v := 8) hx hb dX12_black_13 (by decide) ?_
  refine lv_icmp_ge (tgt := 57) hx hb dX12_black_15 (by decide) (fun c_34 => absurd c_34 (by decide)) (fun c_34 => ?_)
  refine lv_aload_n hx hb dX12_black_18 rfl (lv_at hl 3 rfl) ?_
  refine va_get (D := D) (ci := 12) (v := .ref (ma 14)) (C := RX12) (T := TX12) (N := 104) hx hb hts hiX12 hown hK hP 0 rfl rfl 14 (by decide) (hts (.fieldLink RX12 60 "GhostPaneModel" "isWall" "[Z") (List.mem_of_getElem? (i := 1) rfl)) (fun _ h9 => h9) rfl dX12_black_19 ?_
  refine lv_iload_n hx hb dX12_black_22 rfl (lv_at hl 1 rfl) ?_
  refine va_zald hx hb hK hP 1 3 rfl rfl (by unfold vp_in; decide) dX12_black_23 ?_
  refine gp_ni 0 rfl ?_
  refine lv_if_eq (tgt := 51) hx hb dX12_black_24 (by decide) (fun c_35 => ?_) (fun c_35 => absurd (by decide) c_35)
  refine lv_iinc (v := 8) (lv' := [(3, .int 8), (2, .int 1), (1, .int 0), (0, .ref (ma 200))]) hx hb dX12_black_51 hl (k := 0) rfl (by decide) (by decide) rfl (fun ls hl => ?_)
  refine lv_goto (tgt := 12) hx hb dX12_black_54 (by decide) ?_
  refine lv_iload_n hx hb dX12_black_12 rfl (lv_at hl 0 rfl) ?_
  refine lv_bipush (v := 8) hx hb dX12_black_13 (by decide) ?_
  refine lv_icmp_ge (tgt := 57) hx hb dX12_black_15 (by decide) (fun c_36 => ?_) (fun c_36 => absurd (by decide) c_36)
  refine lv_iinc (v := 2) (lv' := [(2, .int 2), (3, .int 8), (1, .int 0), (0, .ref (ma 200))]) hx hb dX12_black_57 hl (k := 1) rfl (by decide) (by decide) rfl (fun ls hl => ?_)
  refine lv_goto (tgt := 4) hx hb dX12_black_60 (by decide) ?_
  refine lv_iload_n hx hb dX12_black_4 rfl (lv_at hl 0 rfl) ?_
  refine lv_bipush (v := 12) hx hb dX12_black_5 (by decide) ?_
  refine lv_icmp_ge (tgt := 63) hx hb dX12_black_7 (by decide) (fun c_37 => absurd c_37 (by decide)) (fun c_37 => ?_)
  refine lv_iconst (v := 0) hx hb dX12_black_10 (by decide) ?_
  refine lv_istore_n (lv' := [(3, .int 0), (2, .int 2), (1, .int 0), (0, .ref (ma 200))]) hx hb dX12_black_11 rfl hl (by decide) rfl (fun ls hl => ?_)
  refine lv_iload_n hx hb dX12_black_12 rfl (lv_at hl 0 rfl) ?_
  refine lv_bipush (v := 8) hx hb dX12_black_13 (by decide) ?_
  refine lv_icmp_ge (tgt := 57) hx hb dX12_black_15 (by decide) (fun c_38 => absurd c_38 (by decide)) (fun c_38 => ?_)
  refine lv_aload_n hx hb dX12_black_18 rfl (lv_at hl 3 rfl) ?_
  refine va_get (D := D) (ci := 12) (v := .ref (ma 14)) (C := RX12) (T := TX12) (N := 104) hx hb hts hiX12 hown hK hP 0 rfl rfl 14 (by decide) (hts (.fieldLink RX12 60 "GhostPaneModel" "isWall" "[Z") (List.mem_of_getElem? (i := 1) rfl)) (fun _ h9 => h9) rfl dX12_black_19 ?_
  refine lv_iload_n hx hb dX12_black_22 rfl (lv_at hl 1 rfl) ?_
  refine va_zald hx hb hK hP 1 3 rfl rfl (by unfold vp_in; decide) dX12_black_23 ?_
  refine gp_ni 0 rfl ?_
  refine lv_if_eq (tgt := 51) hx hb dX12_black_24 (by decide) (fun c_39 => ?_) (fun c_39 => absurd (by decide) c_39)
  refine lv_iinc (v := 1) (lv' := [(3, .int 1), (2, .int 2), (1, .int 0), (0, .ref (ma 200))]) hx hb dX12_black_51 hl (k := 0) rfl (by decide) (by decide) rfl (fun ls hl => ?_)
  refine lv_goto (tgt := 12) hx hb dX12_black_54 (by decide) ?_
  refine lv_iload_n hx hb dX12_black_12 rfl (lv_at hl 0 rfl) ?_
  refine lv_bipush (v := 8) hx hb dX12_black_13 (by decide) ?_
  refine lv_icmp_ge (tgt := 57) hx hb dX12_black_15 (by decide) (fun c_40 => absurd c_40 (by decide)) (fun c_40 => ?_)
  refine lv_aload_n hx hb dX12_black_18 rfl (lv_at hl 3 rfl) ?_
  refine va_get (D := D) (ci := 12) (v := .ref (ma 14)) (C := RX12) (T := TX12) (N := 104) hx hb hts hiX12 hown hK hP 0 rfl rfl 14 (by decide) (hts (.fieldLink RX12 60 "GhostPaneModel" "isWall" "[Z") (List.mem_of_getElem? (i := 1) rfl)) (fun _ h9 => h9) rfl dX12_black_19 ?_
  refine lv_iload_n hx hb dX12_black_22 rfl (lv_at hl 1 rfl) ?_
  refine va_zald hx hb hK hP 1 3 rfl rfl (by unfold vp_in; decide) dX12_black_23 ?_
  refine gp_ni 0 rfl ?_
  refine lv_if_eq (tgt := 51) hx hb dX12_black_24 (by decide) (fun c_41 => ?_) (fun c_41 => absurd (by decide) c_41)
  refine lv_iinc (v := 2) (lv' := [(3, .int 2), (2, .int 2), (1, .int 0), (0, .ref (ma 200))]) hx hb dX12_black_51 hl (k := 0) rfl (by decide) (by decide) rfl (fun ls hl => ?_)
  refine lv_goto (tgt := 12) hx hb dX12_black_54 (by decide) ?_
  refine lv_iload_n hx hb dX12_black_12 rfl (lv_at hl 0 rfl) ?_
  refine lv_bipush (v := 8) hx hb dX12_black_13 (by decide) ?_
  refine lv_icmp_ge (tgt := 57) hx hb dX12_black_15 (by decide) (fun c_42 => absurd c_42 (by decide)) (fun c_42 => ?_)
  refine lv_aload_n hx hb dX12_black_18 rfl (lv_at hl 3 rfl) ?_
  refine va_get (D := D) (ci := 12) (v := .ref (ma 14)) (C := RX12) (T := TX12) (N := 104) hx hb hts hiX12 hown hK hP 0 rfl rfl 14 (by decide) (hts (.fieldLink RX12 60 "GhostPaneModel" "isWall" "[Z") (List.mem_of_getElem? (i := 1) rfl)) (fun _ h9 => h9) rfl dX12_black_19 ?_
  refine lv_iload_n hx hb dX12_black_22 rfl (lv_at hl 1 rfl) ?_
  refine va_zald hx hb hK hP 1 3 rfl rfl (by unfold vp_in; decide) dX12_black_23 ?_
  refine gp_ni 0 rfl ?_
  refine lv_if_eq (tgt := 51) hx hb dX12_black_24 (by decide) (fun c_43 => ?_) (fun c_43 => absurd (by decide) c_43)
  refine lv_iinc (v := 3) (lv' := [(3, .int 3), (2, .int 2), (1, .int 0), (0, .ref (ma 200))]) hx hb dX12_black_51 hl (k := 0) rfl (by decide) (by decide) rfl (fun ls hl => ?_)
  refine lv_goto (tgt := 12) hx hb dX12_black_54 (by decide) ?_
  refine lv_iload_n hx hb dX12_black_12 rfl (lv_at hl 0 rfl) ?_
  refine lv_bipush (v := 8) hx hb dX12_black_13 (by decide) ?_
  refine lv_icmp_ge (tgt := 57) hx hb dX12_black_15 (by decide) (fun c_44 => absurd c_44 (by decide)) (fun c_44 => ?_)
  refine lv_aload_n hx hb dX12_black_18 rfl (lv_at hl 3 rfl) ?_
  refine va_get (D := D) (ci := 12) (v := .ref (ma 14)) (C := RX12) (T := TX12) (N := 104) hx hb hts hiX12 hown hK hP 0 rfl rfl 14 (by decide) (hts (.fieldLink RX12 60 "GhostPaneModel" "isWall" "[Z") (List.mem_of_getElem? (i := 1) rfl)) (fun _ h9 => h9) rfl dX12_black_19 ?_
  refine lv_iload_n hx hb dX12_black_22 rfl (lv_at hl 1 rfl) ?_
  refine va_zald hx hb hK hP 1 3 rfl rfl (by unfold vp_in; decide) dX12_black_23 ?_
  refine gp_ni 0 rfl ?_
  refine lv_if_eq (tgt := 51) hx hb dX12_black_24 (by decide) (fun c_45 => ?_) (fun c_45 => absurd (by decide) c_45)
  refine lv_iinc (v := 4) (lv' := [(3, .int 4), (2, .int 2), (1, .int 0), (0, .ref (ma 200))]) hx hb dX12_black_51 hl (k := 0) rfl (by decide) (by decide) rfl (fun ls hl => ?_)
  refine lv_goto (tgt := 12) hx hb dX12_black_54 (by decide) ?_
  refine lv_iload_n hx hb dX12_black_12 rfl (lv_at hl 0 rfl) ?_
  refine lv_bipush (v := 8) hx hb dX12_black_13 (by decide) ?_
  refine lv_icmp_ge (tgt := 57) hx hb dX12_black_15 (by decide) (fun c_46 => absurd c_46 (by decide)) (fun c_46 => ?_)
  refine lv_aload_n hx hb dX12_black_18 rfl (lv_at hl 3 rfl) ?_
  refine va_get (D := D) (ci := 12) (v := .ref (ma 14)) (C := RX12) (T := TX12) (N := 104) hx hb hts hiX12 hown hK hP 0 rfl rfl 14 (by decide) (hts (.fieldLink RX12 60 "GhostPaneModel" "isWall" "[Z") (List.mem_of_getElem? (i := 1) rfl)) (fun _ h9 => h9) rfl dX12_black_19 ?_
  refine lv_iload_n hx hb dX12_black_22 rfl (lv_at hl 1 rfl) ?_
  refine va_zald hx hb hK hP 1 3 rfl rfl (by unfold vp_in; decide) dX12_black_23 ?_
  refine gp_ni 0 rfl ?_
  refine lv_if_eq (tgt := 51) hx hb dX12_black_24 (by decide) (fun c_47 => ?_) (fun c_47 => absurd (by decide) c_47)
  refine lv_iinc (v := 5) (lv' := [(3, .int 5), (2, .int 2), (1, .int 0), (0, .ref (ma 200))]) hx hb dX12_black_51 hl (k := 0) rfl (by decide) (by decide) rfl (fun ls hl => ?_)
  refine lv_goto (tgt := 12) hx hb dX12_black_54 (by decide) ?_
  refine lv_iload_n hx hb dX12_black_12 rfl (lv_at hl 0 rfl) ?_
  refine lv_bipush (v := 8) hx hb dX12_black_13 (by decide) ?_
  refine lv_icmp_ge (tgt := 57) hx hb dX12_black_15 (by decide) (fun c_48 => absurd c_48 (by decide)) (fun c_48 => ?_)
  refine lv_aload_n hx hb dX12_black_18 rfl (lv_at hl 3 rfl) ?_
  refine va_get (D := D) (ci := 12) (v := .ref (ma 14)) (C := RX12) (T := TX12) (N := 104) hx hb hts hiX12 hown hK hP 0 rfl rfl 14 (by decide) (hts (.fieldLink RX12 60 "GhostPaneModel" "isWall" "[Z") (List.mem_of_getElem? (i := 1) rfl)) (fun _ h9 => h9) rfl dX12_black_19 ?_
  refine lv_iload_n hx hb dX12_black_22 rfl (lv_at hl 1 rfl) ?_
  refine va_zald hx hb hK hP 1 3 rfl rfl (by unfold vp_in; decide) dX12_black_23 ?_
  refine gp_ni 0 rfl ?_
  refine lv_if_eq (tgt := 51) hx hb dX12_black_24 (by decide) (fun c_49 => ?_) (fun c_49 => absurd (by decide) c_49)
  refine lv_iinc (v := 6) (lv' := [(3, .int 6), (2, .int 2), (1, .int 0), (0, .ref (ma 200))]) hx hb dX12_black_51 hl (k := 0) rfl (by decide) (by decide) rfl (fun ls hl => ?_)
  refine lv_goto (tgt := 12) hx hb dX12_black_54 (by decide) ?_
  refine lv_iload_n hx hb dX12_black_12 rfl (lv_at hl 0 rfl) ?_
  refine lv_bipush (v := 8) hx hb dX12_black_13 (by decide) ?_
  refine lv_icmp_ge (tgt := 57) hx hb dX12_black_15 (by decide) (fun c_50 => absurd c_50 (by decide)) (fun c_50 => ?_)
  refine lv_aload_n hx hb dX12_black_18 rfl (lv_at hl 3 rfl) ?_
  refine va_get (D := D) (ci := 12) (v := .ref (ma 14)) (C := RX12) (T := TX12) (N := 104) hx hb hts hiX12 hown hK hP 0 rfl rfl 14 (by decide) (hts (.fieldLink RX12 60 "GhostPaneModel" "isWall" "[Z") (List.mem_of_getElem? (i := 1) rfl)) (fun _ h9 => h9) rfl dX12_black_19 ?_
  refine lv_iload_n hx hb dX12_black_22 rfl (lv_at hl 1 rfl) ?_
  refine va_zald hx hb hK hP 1 3 rfl rfl (by unfold vp_in; decide) dX12_black_23 ?_
  refine gp_ni 0 rfl ?_
  refine lv_if_eq (tgt := 51) hx hb dX12_black_24 (by decide) (fun c_51 => ?_) (fun c_51 => absurd (by decide) c_51)
  refine lv_iinc (v := 7) (lv' := [(3, .int 7), (2, .int 2), (1, .int 0), (0, .ref (ma 200))]) hx hb dX12_black_51 hl (k := 0) rfl (by decide) (by decide) rfl (fun ls hl => ?_)
  refine lv_goto (tgt := 12) hx hb dX12_black_54 (by decide) ?_
  refine lv_iload_n hx hb dX12_black_12 rfl (lv_at hl 0 rfl) ?_
  refine lv_bipush (v := 8) hx hb dX12_black_13 (by decide) ?_
  refine lv_icmp_ge (tgt := 57) hx hb dX12_black_15 (by decide) (fun c_52 => absurd c_52 (by decide)) (fun c_52 => ?_)
  refine lv_aload_n hx hb dX12_black_18 rfl (lv_at hl 3 rfl) ?_
  refine va_get (D := D) (ci := 12) (v := .ref (ma 14)) (C := RX12) (T := TX12) (N := 104) hx hb hts hiX12 hown hK hP 0 rfl rfl 14 (by decide) (hts (.fieldLink RX12 60 "GhostPaneModel" "isWall" "[Z") (List.mem_of_getElem? (i := 1) rfl)) (fun _ h9 => h9) rfl dX12_black_19 ?_
  refine lv_iload_n hx hb dX12_black_22 rfl (lv_at hl 1 rfl) ?_
  refine va_zald hx hb hK hP 1 3 rfl rfl (by unfold vp_in; decide) dX12_black_23 ?_
  refine gp_ni 0 rfl ?_
  refine lv_if_eq (tgt := 51) hx hb dX12_black_24 (by decide) (fun c_53 => ?_) (fun c_53 => absurd (by decide) c_53)
  refine lv_iinc (v := 8) (lv' := [(3, .int 8), (2, .int 2), (1, .int 0), (0, .ref (ma 200))]) hx hb dX12_black_51 hl (k := 0) rfl (by decide) (by decide) rfl (fun ls hl => ?_)
  refine lv_goto (tgt := 12) hx hb dX12_black_54 (by decide) ?_
  refine lv_iload_n hx hb dX12_black_12 rfl (lv_at hl 0 rfl) ?_
  refine lv_bipush (v := 8) hx hb dX12_black_13 (by decide) ?_
  refine lv_icmp_ge (tgt := 57) hx hb dX12_black_15 (by decide) (fun c_54 => ?_) (fun c_54 => absurd (by decide) c_54)
  refine lv_iinc (v := 3) (lv' := [(2, .int 3), (3, .int 8), (1, .int 0), (0, .ref (ma 200))]) hx hb dX12_black_57 hl (k := 1) rfl (by decide) (by decide) rfl (fun ls hl => ?_)
  refine lv_goto (tgt := 4) hx hb dX12_black_60 (by decide) ?_
  refine lv_iload_n hx hb dX12_black_4 rfl (lv_at hl 0 rfl) ?_
  refine lv_bipush (v := 12) hx hb dX12_black_5 (by decide) ?_
  refine lv_icmp_ge (tgt := 63) hx hb dX12_black_7 (by decide) (fun c_55 => absurd c_55 (by decide)) (fun c_55 => ?_)
  refine lv_iconst (v := 0) hx hb dX12_black_10 (by decide) ?_
  refine lv_istore_n (lv' := [(3, .int 0), (2, .int 3), (1, .int 0), (0, .ref (ma 200))]) hx hb dX12_black_11 rfl hl (by decide) rfl (fun ls hl => ?_)
  refine lv_iload_n hx hb dX12_black_12 rfl (lv_at hl 0 rfl) ?_
  refine lv_bipush (v := 8) hx hb dX12_black_13 (by decide) ?_
  refine lv_icmp_ge (tgt := 57) hx hb dX12_black_15 (by decide) (fun c_56 => absurd c_56 (by decide)) (fun c_56 => ?_)
  refine lv_aload_n hx hb dX12_black_18 rfl (lv_at hl 3 rfl) ?_
  refine va_get (D := D) (ci := 12) (v := .ref (ma 14)) (C := RX12) (T := TX12) (N := 104) hx hb hts hiX12 hown hK hP 0 rfl rfl 14 (by decide) (hts (.fieldLink RX12 60 "GhostPaneModel" "isWall" "[Z") (List.mem_of_getElem? (i := 1) rfl)) (fun _ h9 => h9) rfl dX12_black_19 ?_
  refine lv_iload_n hx hb dX12_black_22 rfl (lv_at hl 1 rfl) ?_
  refine va_zald hx hb hK hP 1 3 rfl rfl (by unfold vp_in; decide) dX12_black_23 ?_
  refine gp_ni 0 rfl ?_
  refine lv_if_eq (tgt := 51) hx hb dX12_black_24 (by decide) (fun c_57 => ?_) (fun c_57 => absurd (by decide) c_57)
  refine lv_iinc (v := 1) (lv' := [(3, .int 1), (2, .int 3), (1, .int 0), (0, .ref (ma 200))]) hx hb dX12_black_51 hl (k := 0) rfl (by decide) (by decide) rfl (fun ls hl => ?_)
  refine lv_goto (tgt := 12) hx hb dX12_black_54 (by decide) ?_
  refine lv_iload_n hx hb dX12_black_12 rfl (lv_at hl 0 rfl) ?_
  refine lv_bipush (v := 8) hx hb dX12_black_13 (by decide) ?_
  refine lv_icmp_ge (tgt := 57) hx hb dX12_black_15 (by decide) (fun c_58 => absurd c_58 (by decide)) (fun c_58 => ?_)
  refine lv_aload_n hx hb dX12_black_18 rfl (lv_at hl 3 rfl) ?_
  refine va_get (D := D) (ci := 12) (v := .ref (ma 14)) (C := RX12) (T := TX12) (N := 104) hx hb hts hiX12 hown hK hP 0 rfl rfl 14 (by decide) (hts (.fieldLink RX12 60 "GhostPaneModel" "isWall" "[Z") (List.mem_of_getElem? (i := 1) rfl)) (fun _ h9 => h9) rfl dX12_black_19 ?_
  refine lv_iload_n hx hb dX12_black_22 rfl (lv_at hl 1 rfl) ?_
  refine va_zald hx hb hK hP 1 3 rfl rfl (by unfold vp_in; decide) dX12_black_23 ?_
  refine gp_ni 0 rfl ?_
  refine lv_if_eq (tgt := 51) hx hb dX12_black_24 (by decide) (fun c_59 => ?_) (fun c_59 => absurd (by decide) c_59)
  refine lv_iinc (v := 2) (lv' := [(3, .int 2), (2, .int 3), (1, .int 0), (0, .ref (ma 200))]) hx hb dX12_black_51 hl (k := 0) rfl (by decide) (by decide) rfl (fun ls hl => ?_)
  refine lv_goto (tgt := 12) hx hb dX12_black_54 (by decide) ?_
  refine lv_iload_n hx hb dX12_black_12 rfl (lv_at hl 0 rfl) ?_
  refine lv_bipush (v := 8) hx hb dX12_black_13 (by decide) ?_
  refine lv_icmp_ge (tgt := 57) hx hb dX12_black_15 (by decide) (fun c_60 => absurd c_60 (by decide)) (fun c_60 => ?_)
  refine lv_aload_n hx hb dX12_black_18 rfl (lv_at hl 3 rfl) ?_
  refine va_get (D := D) (ci := 12) (v := .ref (ma 14)) (C := RX12) (T := TX12) (N := 104) hx hb hts hiX12 hown hK hP 0 rfl rfl 14 (by decide) (hts (.fieldLink RX12 60 "GhostPaneModel" "isWall" "[Z") (List.mem_of_getElem? (i := 1) rfl)) (fun _ h9 => h9) rfl dX12_black_19 ?_
  refine lv_iload_n hx hb dX12_black_22 rfl (lv_at hl 1 rfl) ?_
  refine va_zald hx hb hK hP 1 3 rfl rfl (by unfold vp_in; decide) dX12_black_23 ?_
  refine gp_ni 0 rfl ?_
  refine lv_if_eq (tgt := 51) hx hb dX12_black_24 (by decide) (fun c_61 => ?_) (fun c_61 => absurd (by decide) c_61)
  refine lv_iinc (v := 3) (lv' := [(3, .int 3), (2, .int 3), (1, .int 0), (0, .ref (ma 200))]) hx hb dX12_black_51 hl (k := 0) rfl (by decide) (by decide) rfl (fun ls hl => ?_)
  refine lv_goto (tgt := 12) hx hb dX12_black_54 (by decide) ?_
  refine lv_iload_n hx hb dX12_black_12 rfl (lv_at hl 0 rfl) ?_
  refine lv_bipush (v := 8) hx hb dX12_black_13 (by decide) ?_
  refine lv_icmp_ge (tgt := 57) hx hb dX12_black_15 (by decide) (fun c_62 => absurd c_62 (by decide)) (fun c_62 => ?_)
  refine lv_aload_n hx hb dX12_black_18 rfl (lv_at hl 3 rfl) ?_
  refine va_get (D := D) (ci := 12) (v := .ref (ma 14)) (C := RX12) (T := TX12) (N := 104) hx hb hts hiX12 hown hK hP 0 rfl rfl 14 (by decide) (hts (.fieldLink RX12 60 "GhostPaneModel" "isWall" "[Z") (List.mem_of_getElem? (i := 1) rfl)) (fun _ h9 => h9) rfl dX12_black_19 ?_
  refine lv_iload_n hx hb dX12_black_22 rfl (lv_at hl 1 rfl) ?_
  refine va_zald hx hb hK hP 1 3 rfl rfl (by unfold vp_in; decide) dX12_black_23 ?_
  refine gp_ni 0 rfl ?_
  refine lv_if_eq (tgt := 51) hx hb dX12_black_24 (by decide) (fun c_63 => ?_) (fun c_63 => absurd (by decide) c_63)
  refine lv_iinc (v := 4) (lv' := [(3, .int 4), (2, .int 3), (1, .int 0), (0, .ref (ma 200))]) hx hb dX12_black_51 hl (k := 0) rfl (by decide) (by decide) rfl (fun ls hl => ?_)
  refine lv_goto (tgt := 12) hx hb dX12_black_54 (by decide) ?_
  refine lv_iload_n hx hb dX12_black_12 rfl (lv_at hl 0 rfl) ?_
  refine lv_bipush (v := 8) hx hb dX12_black_13 (by decide) ?_
  refine lv_icmp_ge (tgt := 57) hx hb dX12_black_15 (by decide) (fun c_64 => absurd c_64 (by decide)) (fun c_64 => ?_)
  refine lv_aload_n hx hb dX12_black_18 rfl (lv_at hl 3 rfl) ?_
  refine va_get (D := D) (ci := 12) (v := .ref (ma 14)) (C := RX12) (T := TX12) (N := 104) hx hb hts hiX12 hown hK hP 0 rfl rfl 14 (by decide) (hts (.fieldLink RX12 60 "GhostPaneModel" "isWall" "[Z") (List.mem_of_getElem? (i := 1) rfl)) (fun _ h9 => h9) rfl dX12_black_19 ?_
  refine lv_iload_n hx hb dX12_black_22 rfl (lv_at hl 1 rfl) ?_
  refine va_zald hx hb hK hP 1 3 rfl rfl (by unfold vp_in; decide) dX12_black_23 ?_
  refine gp_ni 0 rfl ?_
  refine lv_if_eq (tgt := 51) hx hb dX12_black_24 (by decide) (fun c_65 => ?_) (fun c_65 => absurd (by decide) c_65)
  refine lv_iinc (v := 5) (lv' := [(3, .int 5), (2, .int 3), (1, .int 0), (0, .ref (ma 200))]) hx hb dX12_black_51 hl (k := 0) rfl (by decide) (by decide) rfl (fun ls hl => ?_)
  refine lv_goto (tgt := 12) hx hb dX12_black_54 (by decide) ?_
  refine lv_iload_n hx hb dX12_black_12 rfl (lv_at hl 0 rfl) ?_
  refine lv_bipush (v := 8) hx hb dX12_black_13 (by decide) ?_
  refine lv_icmp_ge (tgt := 57) hx hb dX12_black_15 (by decide) (fun c_66 => absurd c_66 (by decide)) (fun c_66 => ?_)
  refine lv_aload_n hx hb dX12_black_18 rfl (lv_at hl 3 rfl) ?_
  refine va_get (D := D) (ci := 12) (v := .ref (ma 14)) (C := RX12) (T := TX12) (N := 104) hx hb hts hiX12 hown hK hP 0 rfl rfl 14 (by decide) (hts (.fieldLink RX12 60 "GhostPaneModel" "isWall" "[Z") (List.mem_of_getElem? (i := 1) rfl)) (fun _ h9 => h9) rfl dX12_black_19 ?_
  refine lv_iload_n hx hb dX12_black_22 rfl (lv_at hl 1 rfl) ?_
  refine va_zald hx hb hK hP 1 3 rfl rfl (by unfold vp_in; decide) dX12_black_23 ?_
  refine gp_ni 0 rfl ?_
  refine lv_if_eq (tgt := 51) hx hb dX12_black_24 (by decide) (fun c_67 => ?_) (fun c_67 => absurd (by decide) c_67)
  refine lv_iinc (v := 6) (lv' := [(3, .int 6), (2, .int 3), (1, .int 0), (0, .ref (ma 200))]) hx hb dX12_black_51 hl (k := 0) rfl (by decide) (by decide) rfl (fun ls hl => ?_)
  refine lv_goto (tgt := 12) hx hb dX12_black_54 (by decide) ?_
  refine lv_iload_n hx hb dX12_black_12 rfl (lv_at hl 0 rfl) ?_
  refine lv_bipush (v := 8) hx hb dX12_black_13 (by decide) ?_
  refine lv_icmp_ge (tgt := 57) hx hb dX12_black_15 (by decide) (fun c_68 => absurd c_68 (by decide)) (fun c_68 => ?_)
  refine lv_aload_n hx hb dX12_black_18 rfl (lv_at hl 3 rfl) ?_
  refine va_get (D := D) (ci := 12) (v := .ref (ma 14)) (C := RX12) (T := TX12) (N := 104) hx hb hts hiX12 hown hK hP 0 rfl rfl 14 (by decide) (hts (.fieldLink RX12 60 "GhostPaneModel" "isWall" "[Z") (List.mem_of_getElem? (i := 1) rfl)) (fun _ h9 => h9) rfl dX12_black_19 ?_
  refine lv_iload_n hx hb dX12_black_22 rfl (lv_at hl 1 rfl) ?_
  refine va_zald hx hb hK hP 1 3 rfl rfl (by unfold vp_in; decide) dX12_black_23 ?_
  refine gp_ni 0 rfl ?_
  refine lv_if_eq (tgt := 51) hx hb dX12_black_24 (by decide) (fun c_69 => ?_) (fun c_69 => absurd (by decide) c_69)
  refine lv_iinc (v := 7) (lv' := [(3, .int 7), (2, .int 3), (1, .int 0), (0, .ref (ma 200))]) hx hb dX12_black_51 hl (k := 0) rfl (by decide) (by decide) rfl (fun ls hl => ?_)
  refine lv_goto (tgt := 12) hx hb dX12_black_54 (by decide) ?_
  refine lv_iload_n hx hb dX12_black_12 rfl (lv_at hl 0 rfl) ?_
  refine lv_bipush (v := 8) hx hb dX12_black_13 (by decide) ?_
  refine lv_icmp_ge (tgt := 57) hx hb dX12_black_15 (by decide) (fun c_70 => absurd c_70 (by decide)) (fun c_70 => ?_)
  refine lv_aload_n hx hb dX12_black_18 rfl (lv_at hl 3 rfl) ?_
  refine va_get (D := D) (ci := 12) (v := .ref (ma 14)) (C := RX12) (T := TX12) (N := 104) hx hb hts hiX12 hown hK hP 0 rfl rfl 14 (by decide) (hts (.fieldLink RX12 60 "GhostPaneModel" "isWall" "[Z") (List.mem_of_getElem? (i := 1) rfl)) (fun _ h9 => h9) rfl dX12_black_19 ?_
  refine lv_iload_n hx hb dX12_black_22 rfl (lv_at hl 1 rfl) ?_
  refine va_zald hx hb hK hP 1 3 rfl rfl (by unfold vp_in; decide) dX12_black_23 ?_
  refine gp_ni 0 rfl ?_
  refine lv_if_eq (tgt := 51) hx hb dX12_black_24 (by decide) (fun c_71 => ?_) (fun c_71 => absurd (by decide) c_71)
  refine lv_iinc (v := 8) (lv' := [(3, .int 8), (2, .int 3), (1, .int 0), (0, .ref (ma 200))]) hx hb dX12_black_51 hl (k := 0) rfl (by decide) (by decide) rfl (fun ls hl => ?_)
  refine lv_goto (tgt := 12) hx hb dX12_black_54 (by decide) ?_
  refine lv_iload_n hx hb dX12_black_12 rfl (lv_at hl 0 rfl) ?_
  refine lv_bipush (v := 8) hx hb dX12_black_13 (by decide) ?_
  refine lv_icmp_ge (tgt := 57) hx hb dX12_black_15 (by decide) (fun c_72 => ?_) (fun c_72 => absurd (by decide) c_72)
  refine lv_iinc (v := 4) (lv' := [(2, .int 4), (3, .int 8), (1, .int 0), (0, .ref (ma 200))]) hx hb dX12_black_57 hl (k := 1) rfl (by decide) (by decide) rfl (fun ls hl => ?_)
  refine lv_goto (tgt := 4) hx hb dX12_black_60 (by decide) ?_
  refine lv_iload_n hx hb dX12_black_4 rfl (lv_at hl 0 rfl) ?_
  refine lv_bipush (v := 12) hx hb dX12_black_5 (by decide) ?_
  refine lv_icmp_ge (tgt := 63) hx hb dX12_black_7 (by decide) (fun c_73 => absurd c_73 (by decide)) (fun c_73 => ?_)
  refine lv_iconst (v := 0) hx hb dX12_black_10 (by decide) ?_
  refine lv_istore_n (lv' := [(3, .int 0), (2, .int 4), (1, .int 0), (0, .ref (ma 200))]) hx hb dX12_black_11 rfl hl (by decide) rfl (fun ls hl => ?_)
  refine lv_iload_n hx hb dX12_black_12 rfl (lv_at hl 0 rfl) ?_
  refine lv_bipush (v := 8) hx hb dX12_black_13 (by decide) ?_
  refine lv_icmp_ge (tgt := 57) hx hb dX12_black_15 (by decide) (fun c_74 => absurd c_74 (by decide)) (fun c_74 => ?_)
  refine lv_aload_n hx hb dX12_black_18 rfl (lv_at hl 3 rfl) ?_
  refine va_get (D := D) (ci := 12) (v := .ref (ma 14)) (C := RX12) (T := TX12) (N := 104) hx hb hts hiX12 hown hK hP 0 rfl rfl 14 (by decide) (hts (.fieldLink RX12 60 "GhostPaneModel" "isWall" "[Z") (List.mem_of_getElem? (i := 1) rfl)) (fun _ h9 => h9) rfl dX12_black_19 ?_
  refine lv_iload_n hx hb dX12_black_22 rfl (lv_at hl 1 rfl) ?_
  refine va_zald hx hb hK hP 1 3 rfl rfl (by unfold vp_in; decide) dX12_black_23 ?_
  refine gp_ni 0 rfl ?_
  refine lv_if_eq (tgt := 51) hx hb dX12_black_24 (by decide) (fun c_75 => ?_) (fun c_75 => absurd (by decide) c_75)
  refine lv_iinc (v := 1) (lv' := [(3, .int 1), (2, .int 4), (1, .int 0), (0, .ref (ma 200))]) hx hb dX12_black_51 hl (k := 0) rfl (by decide) (by decide) rfl (fun ls hl => ?_)
  refine lv_goto (tgt := 12) hx hb dX12_black_54 (by decide) ?_
  refine lv_iload_n hx hb dX12_black_12 rfl (lv_at hl 0 rfl) ?_
  refine lv_bipush (v := 8) hx hb dX12_black_13 (by decide) ?_
  refine lv_icmp_ge (tgt := 57) hx hb dX12_black_15 (by decide) (fun c_76 => absurd c_76 (by decide)) (fun c_76 => ?_)
  refine lv_aload_n hx hb dX12_black_18 rfl (lv_at hl 3 rfl) ?_
  refine va_get (D := D) (ci := 12) (v := .ref (ma 14)) (C := RX12) (T := TX12) (N := 104) hx hb hts hiX12 hown hK hP 0 rfl rfl 14 (by decide) (hts (.fieldLink RX12 60 "GhostPaneModel" "isWall" "[Z") (List.mem_of_getElem? (i := 1) rfl)) (fun _ h9 => h9) rfl dX12_black_19 ?_
  refine lv_iload_n hx hb dX12_black_22 rfl (lv_at hl 1 rfl) ?_
  refine va_zald hx hb hK hP 1 3 rfl rfl (by unfold vp_in; decide) dX12_black_23 ?_
  refine gp_ni 0 rfl ?_
  refine lv_if_eq (tgt := 51) hx hb dX12_black_24 (by decide) (fun c_77 => ?_) (fun c_77 => absurd (by decide) c_77)
  refine lv_iinc (v := 2) (lv' := [(3, .int 2), (2, .int 4), (1, .int 0), (0, .ref (ma 200))]) hx hb dX12_black_51 hl (k := 0) rfl (by decide) (by decide) rfl (fun ls hl => ?_)
  refine lv_goto (tgt := 12) hx hb dX12_black_54 (by decide) ?_
  refine lv_iload_n hx hb dX12_black_12 rfl (lv_at hl 0 rfl) ?_
  refine lv_bipush (v := 8) hx hb dX12_black_13 (by decide) ?_
  refine lv_icmp_ge (tgt := 57) hx hb dX12_black_15 (by decide) (fun c_78 => absurd c_78 (by decide)) (fun c_78 => ?_)
  refine lv_aload_n hx hb dX12_black_18 rfl (lv_at hl 3 rfl) ?_
  refine va_get (D := D) (ci := 12) (v := .ref (ma 14)) (C := RX12) (T := TX12) (N := 104) hx hb hts hiX12 hown hK hP 0 rfl rfl 14 (by decide) (hts (.fieldLink RX12 60 "GhostPaneModel" "isWall" "[Z") (List.mem_of_getElem? (i := 1) rfl)) (fun _ h9 => h9) rfl dX12_black_19 ?_
  refine lv_iload_n hx hb dX12_black_22 rfl (lv_at hl 1 rfl) ?_
  refine va_zald hx hb hK hP 1 3 rfl rfl (by unfold vp_in; decide) dX12_black_23 ?_
  refine gp_ni 0 rfl ?_
  refine lv_if_eq (tgt := 51) hx hb dX12_black_24 (by decide) (fun c_79 => ?_) (fun c_79 => absurd (by decide) c_79)
  refine lv_iinc (v := 3) (lv' := [(3, .int 3), (2, .int 4), (1, .int 0), (0, .ref (ma 200))]) hx hb dX12_black_51 hl (k := 0) rfl (by decide) (by decide) rfl (fun ls hl => ?_)
  refine lv_goto (tgt := 12) hx hb dX12_black_54 (by decide) ?_
  refine lv_iload_n hx hb dX12_black_12 rfl (lv_at hl 0 rfl) ?_
  refine lv_bipush (v := 8) hx hb dX12_black_13 (by decide) ?_
  refine lv_icmp_ge (tgt := 57) hx hb dX12_black_15 (by decide) (fun c_80 => absurd c_80 (by decide)) (fun c_80 => ?_)
  refine lv_aload_n hx hb dX12_black_18 rfl (lv_at hl 3 rfl) ?_
  refine va_get (D := D) (ci := 12) (v := .ref (ma 14)) (C := RX12) (T := TX12) (N := 104) hx hb hts hiX12 hown hK hP 0 rfl rfl 14 (by decide) (hts (.fieldLink RX12 60 "GhostPaneModel" "isWall" "[Z") (List.mem_of_getElem? (i := 1) rfl)) (fun _ h9 => h9) rfl dX12_black_19 ?_
  refine lv_iload_n hx hb dX12_black_22 rfl (lv_at hl 1 rfl) ?_
  refine va_zald hx hb hK hP 1 3 rfl rfl (by unfold vp_in; decide) dX12_black_23 ?_
  refine gp_ni 0 rfl ?_
  refine lv_if_eq (tgt := 51) hx hb dX12_black_24 (by decide) (fun c_81 => ?_) (fun c_81 => absurd (by decide) c_81)
  refine lv_iinc (v := 4) (lv' := [(3, .int 4), (2, .int 4), (1, .int 0), (0, .ref (ma 200))]) hx hb dX12_black_51 hl (k := 0) rfl (by decide) (by decide) rfl (fun ls hl => ?_)
  refine lv_goto (tgt := 12) hx hb dX12_black_54 (by decide) ?_
  refine lv_iload_n hx hb dX12_black_12 rfl (lv_at hl 0 rfl) ?_
  refine lv_bipush (v := 8) hx hb dX12_black_13 (by decide) ?_
  refine lv_icmp_ge (tgt := 57) hx hb dX12_black_15 (by decide) (fun c_82 => absurd c_82 (by decide)) (fun c_82 => ?_)
  refine lv_aload_n hx hb dX12_black_18 rfl (lv_at hl 3 rfl) ?_
  refine va_get (D := D) (ci := 12) (v := .ref (ma 14)) (C := RX12) (T := TX12) (N := 104) hx hb hts hiX12 hown hK hP 0 rfl rfl 14 (by decide) (hts (.fieldLink RX12 60 "GhostPaneModel" "isWall" "[Z") (List.mem_of_getElem? (i := 1) rfl)) (fun _ h9 => h9) rfl dX12_black_19 ?_
  refine lv_iload_n hx hb dX12_black_22 rfl (lv_at hl 1 rfl) ?_
  refine va_zald hx hb hK hP 1 3 rfl rfl (by unfold vp_in; decide) dX12_black_23 ?_
  refine gp_ni 0 rfl ?_
  refine lv_if_eq (tgt := 51) hx hb dX12_black_24 (by decide) (fun c_83 => ?_) (fun c_83 => absurd (by decide) c_83)
  refine lv_iinc (v := 5) (lv' := [(3, .int 5), (2, .int 4), (1, .int 0), (0, .ref (ma 200))]) hx hb dX12_black_51 hl (k := 0) rfl (by decide) (by decide) rfl (fun ls hl => ?_)
  refine lv_goto (tgt := 12) hx hb dX12_black_54 (by decide) ?_
  refine lv_iload_n hx hb dX12_black_12 rfl (lv_at hl 0 rfl) ?_
  refine lv_bipush (v := 8) hx hb dX12_black_13 (by decide) ?_
  refine lv_icmp_ge (tgt := 57) hx hb dX12_black_15 (by decide) (fun c_84 => absurd c_84 (by decide)) (fun c_84 => ?_)
  refine lv_aload_n hx hb dX12_black_18 rfl (lv_at hl 3 rfl) ?_
  refine va_get (D := D) (ci := 12) (v := .ref (ma 14)) (C := RX12) (T := TX12) (N := 104) hx hb hts hiX12 hown hK hP 0 rfl rfl 14 (by decide) (hts (.fieldLink RX12 60 "GhostPaneModel" "isWall" "[Z") (List.mem_of_getElem? (i := 1) rfl)) (fun _ h9 => h9) rfl dX12_black_19 ?_
  refine lv_iload_n hx hb dX12_black_22 rfl (lv_at hl 1 rfl) ?_
  refine va_zald hx hb hK hP 1 3 rfl rfl (by unfold vp_in; decide) dX12_black_23 ?_
  refine gp_ni 0 rfl ?_
  refine lv_if_eq (tgt := 51) hx hb dX12_black_24 (by decide) (fun c_85 => ?_) (fun c_85 => absurd (by decide) c_85)
  refine lv_iinc (v := 6) (lv' := [(3, .int 6), (2, .int 4), (1, .int 0), (0, .ref (ma 200))]) hx hb dX12_black_51 hl (k := 0) rfl (by decide) (by decide) rfl (fun ls hl => ?_)
  refine lv_goto (tgt := 12) hx hb dX12_black_54 (by decide) ?_
  refine lv_iload_n hx hb dX12_black_12 rfl (lv_at hl 0 rfl) ?_
  refine lv_bipush (v := 8) hx hb dX12_black_13 (by decide) ?_
  refine lv_icmp_ge (tgt := 57) hx hb dX12_black_15 (by decide) (fun c_86 => absurd c_86 (by decide)) (fun c_86 => ?_)
  refine lv_aload_n hx hb dX12_black_18 rfl (lv_at hl 3 rfl) ?_
  refine va_get (D := D) (ci := 12) (v := .ref (ma 14)) (C := RX12) (T := TX12) (N := 104) hx hb hts hiX12 hown hK hP 0 rfl rfl 14 (by decide) (hts (.fieldLink RX12 60 "GhostPaneModel" "isWall" "[Z") (List.mem_of_getElem? (i := 1) rfl)) (fun _ h9 => h9) rfl dX12_black_19 ?_
  refine lv_iload_n hx hb dX12_black_22 rfl (lv_at hl 1 rfl) ?_
  refine va_zald hx hb hK hP 1 3 rfl rfl (by unfold vp_in; decide) dX12_black_23 ?_
  refine gp_ni 0 rfl ?_
  refine lv_if_eq (tgt := 51) hx hb dX12_black_24 (by decide) (fun c_87 => ?_) (fun c_87 => absurd (by decide) c_87)
  refine lv_iinc (v := 7) (lv' := [(3, .int 7), (2, .int 4), (1, .int 0), (0, .ref (ma 200))]) hx hb dX12_black_51 hl (k := 0) rfl (by decide) (by decide) rfl (fun ls hl => ?_)
  refine lv_goto (tgt := 12) hx hb dX12_black_54 (by decide) ?_
  refine lv_iload_n hx hb dX12_black_12 rfl (lv_at hl 0 rfl) ?_
  refine lv_bipush (v := 8) hx hb dX12_black_13 (by decide) ?_
  refine lv_icmp_ge (tgt := 57) hx hb dX12_black_15 (by decide) (fun c_88 => absurd c_88 (by decide)) (fun c_88 => ?_)
  refine lv_aload_n hx hb dX12_black_18 rfl (lv_at hl 3 rfl) ?_
  refine va_get (D := D) (ci := 12) (v := .ref (ma 14)) (C := RX12) (T := TX12) (N := 104) hx hb hts hiX12 hown hK hP 0 rfl rfl 14 (by decide) (hts (.fieldLink RX12 60 "GhostPaneModel" "isWall" "[Z") (List.mem_of_getElem? (i := 1) rfl)) (fun _ h9 => h9) rfl dX12_black_19 ?_
  refine lv_iload_n hx hb dX12_black_22 rfl (lv_at hl 1 rfl) ?_
  refine va_zald hx hb hK hP 1 3 rfl rfl (by unfold vp_in; decide) dX12_black_23 ?_
  refine gp_ni 0 rfl ?_
  refine lv_if_eq (tgt := 51) hx hb dX12_black_24 (by decide) (fun c_89 => ?_) (fun c_89 => absurd (by decide) c_89)
  refine lv_iinc (v := 8) (lv' := [(3, .int 8), (2, .int 4), (1, .int 0), (0, .ref (ma 200))]) hx hb dX12_black_51 hl (k := 0) rfl (by decide) (by decide) rfl (fun ls hl => ?_)
  refine lv_goto (tgt := 12) hx hb dX12_black_54 (by decide) ?_
  refine lv_iload_n hx hb dX12_black_12 rfl (lv_at hl 0 rfl) ?_
  refine lv_bipush (v := 8) hx hb dX12_black_13 (by decide) ?_
  refine lv_icmp_ge (tgt := 57) hx hb dX12_black_15 (by decide) (fun c_90 => ?_) (fun c_90 => absurd (by decide) c_90)
  refine lv_iinc (v := 5) (lv' := [(2, .int 5), (3, .int 8), (1, .int 0), (0, .ref (ma 200))]) hx hb dX12_black_57 hl (k := 1) rfl (by decide) (by decide) rfl (fun ls hl => ?_)
  refine lv_goto (tgt := 4) hx hb dX12_black_60 (by decide) ?_
  refine lv_iload_n hx hb dX12_black_4 rfl (lv_at hl 0 rfl) ?_
  refine lv_bipush (v := 12) hx hb dX12_black_5 (by decide) ?_
  refine lv_icmp_ge (tgt := 63) hx hb dX12_black_7 (by decide) (fun c_91 => absurd c_91 (by decide)) (fun c_91 => ?_)
  refine lv_iconst (v := 0) hx hb dX12_black_10 (by decide) ?_
  refine lv_istore_n (lv' := [(3, .int 0), (2, .int 5), (1, .int 0), (0, .ref (ma 200))]) hx hb dX12_black_11 rfl hl (by decide) rfl (fun ls hl => ?_)
  refine lv_iload_n hx hb dX12_black_12 rfl (lv_at hl 0 rfl) ?_
  refine lv_bipush (v := 8) hx hb dX12_black_13 (by decide) ?_
  refine lv_icmp_ge (tgt := 57) hx hb dX12_black_15 (by decide) (fun c_92 => absurd c_92 (by decide)) (fun c_92 => ?_)
  refine lv_aload_n hx hb dX12_black_18 rfl (lv_at hl 3 rfl) ?_
  refine va_get (D := D) (ci := 12) (v := .ref (ma 14)) (C := RX12) (T := TX12) (N := 104) hx hb hts hiX12 hown hK hP 0 rfl rfl 14 (by decide) (hts (.fieldLink RX12 60 "GhostPaneModel" "isWall" "[Z") (List.mem_of_getElem? (i := 1) rfl)) (fun _ h9 => h9) rfl dX12_black_19 ?_
  refine lv_iload_n hx hb dX12_black_22 rfl (lv_at hl 1 rfl) ?_
  refine va_zald hx hb hK hP 1 3 rfl rfl (by unfold vp_in; decide) dX12_black_23 ?_
  refine gp_ni 0 rfl ?_
  refine lv_if_eq (tgt := 51) hx hb dX12_black_24 (by decide) (fun c_93 => ?_) (fun c_93 => absurd (by decide) c_93)
  refine lv_iinc (v := 1) (lv' := [(3, .int 1), (2, .int 5), (1, .int 0), (0, .ref (ma 200))]) hx hb dX12_black_51 hl (k := 0) rfl (by decide) (by decide) rfl (fun ls hl => ?_)
  refine lv_goto (tgt := 12) hx hb dX12_black_54 (by decide) ?_
  refine lv_iload_n hx hb dX12_black_12 rfl (lv_at hl 0 rfl) ?_
  refine lv_bipush (v := 8) hx hb dX12_black_13 (by decide) ?_
  refine lv_icmp_ge (tgt := 57) hx hb dX12_black_15 (by decide) (fun c_94 => absurd c_94 (by decide)) (fun c_94 => ?_)
  refine lv_aload_n hx hb dX12_black_18 rfl (lv_at hl 3 rfl) ?_
  refine va_get (D := D) (ci := 12) (v := .ref (ma 14)) (C := RX12) (T := TX12) (N := 104) hx hb hts hiX12 hown hK hP 0 rfl rfl 14 (by decide) (hts (.fieldLink RX12 60 "GhostPaneModel" "isWall" "[Z") (List.mem_of_getElem? (i := 1) rfl)) (fun _ h9 => h9) rfl dX12_black_19 ?_
  refine lv_iload_n hx hb dX12_black_22 rfl (lv_at hl 1 rfl) ?_
  refine va_zald hx hb hK hP 1 3 rfl rfl (by unfold vp_in; decide) dX12_black_23 ?_
  refine gp_ni 0 rfl ?_
  refine lv_if_eq (tgt := 51) hx hb dX12_black_24 (by decide) (fun c_95 => ?_) (fun c_95 => absurd (by decide) c_95)
  refine lv_iinc (v := 2) (lv' := [(3, .int 2), (2, .int 5), (1, .int 0), (0, .ref (ma 200))]) hx hb dX12_black_51 hl (k := 0) rfl (by decide) (by decide) rfl (fun ls hl => ?_)
  refine lv_goto (tgt := 12) hx hb dX12_black_54 (by decide) ?_
  refine lv_iload_n hx hb dX12_black_12 rfl (lv_at hl 0 rfl) ?_
  refine lv_bipush (v := 8) hx hb dX12_black_13 (by decide) ?_
  refine lv_icmp_ge (tgt := 57) hx hb dX12_black_15 (by decide) (fun c_96 => absurd c_96 (by decide)) (fun c_96 => ?_)
  refine lv_aload_n hx hb dX12_black_18 rfl (lv_at hl 3 rfl) ?_
  refine va_get (D := D) (ci := 12) (v := .ref (ma 14)) (C := RX12) (T := TX12) (N := 104) hx hb hts hiX12 hown hK hP 0 rfl rfl 14 (by decide) (hts (.fieldLink RX12 60 "GhostPaneModel" "isWall" "[Z") (List.mem_of_getElem? (i := 1) rfl)) (fun _ h9 => h9) rfl dX12_black_19 ?_
  refine lv_iload_n hx hb dX12_black_22 rfl (lv_at hl 1 rfl) ?_
  refine va_zald hx hb hK hP 1 3 rfl rfl (by unfold vp_in; decide) dX12_black_23 ?_
  refine gp_ni 0 rfl ?_
  refine lv_if_eq (tgt := 51) hx hb dX12_black_24 (by decide) (fun c_97 => ?_) (fun c_97 => absurd (by decide) c_97)
  refine lv_iinc (v := 3) (lv' := [(3, .int 3), (2, .int 5), (1, .int 0), (0, .ref (ma 200))]) hx hb dX12_black_51 hl (k := 0) rfl (by decide) (by decide) rfl (fun ls hl => ?_)
  refine lv_goto (tgt := 12) hx hb dX12_black_54 (by decide) ?_
  refine lv_iload_n hx hb dX12_black_12 rfl (lv_at hl 0 rfl) ?_
  refine lv_bipush (v := 8) hx hb dX12_black_13 (by decide) ?_
  refine lv_icmp_ge (tgt := 57) hx hb dX12_black_15 (by decide) (fun c_98 => absurd c_98 (by decide)) (fun c_98 => ?_)
  refine lv_aload_n hx hb dX12_black_18 rfl (lv_at hl 3 rfl) ?_
  refine va_get (D := D) (ci := 12) (v := .ref (ma 14)) (C := RX12) (T := TX12) (N := 104) hx hb hts hiX12 hown hK hP 0 rfl rfl 14 (by decide) (hts (.fieldLink RX12 60 "GhostPaneModel" "isWall" "[Z") (List.mem_of_getElem? (i := 1) rfl)) (fun _ h9 => h9) rfl dX12_black_19 ?_
  refine lv_iload_n hx hb dX12_black_22 rfl (lv_at hl 1 rfl) ?_
  refine va_zald hx hb hK hP 1 3 rfl rfl (by unfold vp_in; decide) dX12_black_23 ?_
  refine gp_ni 0 rfl ?_
  refine lv_if_eq (tgt := 51) hx hb dX12_black_24 (by decide) (fun c_99 => ?_) (fun c_99 => absurd (by decide) c_99)
  refine lv_iinc (v := 4) (lv' := [(3, .int 4), (2, .int 5), (1, .int 0), (0, .ref (ma 200))]) hx hb dX12_black_51 hl (k := 0) rfl (by decide) (by decide) rfl (fun ls hl => ?_)
  refine lv_goto (tgt := 12) hx hb dX12_black_54 (by decide) ?_
  refine lv_iload_n hx hb dX12_black_12 rfl (lv_at hl 0 rfl) ?_
  refine lv_bipush (v := 8) hx hb dX12_black_13 (by decide) ?_
  refine lv_icmp_ge (tgt := 57) hx hb dX12_black_15 (by decide) (fun c_100 => absurd c_100 (by decide)) (fun c_100 => ?_)
  refine lv_aload_n hx hb dX12_black_18 rfl (lv_at hl 3 rfl) ?_
  refine va_get (D := D) (ci := 12) (v := .ref (ma 14)) (C := RX12) (T := TX12) (N := 104) hx hb hts hiX12 hown hK hP 0 rfl rfl 14 (by decide) (hts (.fieldLink RX12 60 "GhostPaneModel" "isWall" "[Z") (List.mem_of_getElem? (i := 1) rfl)) (fun _ h9 => h9) rfl dX12_black_19 ?_
  refine lv_iload_n hx hb dX12_black_22 rfl (lv_at hl 1 rfl) ?_
  refine va_zald hx hb hK hP 1 3 rfl rfl (by unfold vp_in; decide) dX12_black_23 ?_
  refine gp_ni 0 rfl ?_
  refine lv_if_eq (tgt := 51) hx hb dX12_black_24 (by decide) (fun c_101 => ?_) (fun c_101 => absurd (by decide) c_101)
  refine lv_iinc (v := 5) (lv' := [(3, .int 5), (2, .int 5), (1, .int 0), (0, .ref (ma 200))]) hx hb dX12_black_51 hl (k := 0) rfl (by decide) (by decide) rfl (fun ls hl => ?_)
  refine lv_goto (tgt := 12) hx hb dX12_black_54 (by decide) ?_
  refine lv_iload_n hx hb dX12_black_12 rfl (lv_at hl 0 rfl) ?_
  refine lv_bipush (v := 8) hx hb dX12_black_13 (by decide) ?_
  refine lv_icmp_ge (tgt := 57) hx hb dX12_black_15 (by decide) (fun c_102 => absurd c_102 (by decide)) (fun c_102 => ?_)
  refine lv_aload_n hx hb dX12_black_18 rfl (lv_at hl 3 rfl) ?_
  refine va_get (D := D) (ci := 12) (v := .ref (ma 14)) (C := RX12) (T := TX12) (N := 104) hx hb hts hiX12 hown hK hP 0 rfl rfl 14 (by decide) (hts (.fieldLink RX12 60 "GhostPaneModel" "isWall" "[Z") (List.mem_of_getElem? (i := 1) rfl)) (fun _ h9 => h9) rfl dX12_black_19 ?_
  refine lv_iload_n hx hb dX12_black_22 rfl (lv_at hl 1 rfl) ?_
  refine va_zald hx hb hK hP 1 3 rfl rfl (by unfold vp_in; decide) dX12_black_23 ?_
  refine gp_ni 0 rfl ?_
  refine lv_if_eq (tgt := 51) hx hb dX12_black_24 (by decide) (fun c_103 => ?_) (fun c_103 => absurd (by decide) c_103)
  refine lv_iinc (v := 6) (lv' := [(3, .int 6), (2, .int 5), (1, .int 0), (0, .ref (ma 200))]) hx hb dX12_black_51 hl (k := 0) rfl (by decide) (by decide) rfl (fun ls hl => ?_)
  refine lv_goto (tgt := 12) hx hb dX12_black_54 (by decide) ?_
  refine lv_iload_n hx hb dX12_black_12 rfl (lv_at hl 0 rfl) ?_
  refine lv_bipush (v := 8) hx hb dX12_black_13 (by decide) ?_
  refine lv_icmp_ge (tgt := 57) hx hb dX12_black_15 (by decide) (fun c_104 => absurd c_104 (by decide)) (fun c_104 => ?_)
  refine lv_aload_n hx hb dX12_black_18 rfl (lv_at hl 3 rfl) ?_
  refine va_get (D := D) (ci := 12) (v := .ref (ma 14)) (C := RX12) (T := TX12) (N := 104) hx hb hts hiX12 hown hK hP 0 rfl rfl 14 (by decide) (hts (.fieldLink RX12 60 "GhostPaneModel" "isWall" "[Z") (List.mem_of_getElem? (i := 1) rfl)) (fun _ h9 => h9) rfl dX12_black_19 ?_
  refine lv_iload_n hx hb dX12_black_22 rfl (lv_at hl 1 rfl) ?_
  refine va_zald hx hb hK hP 1 3 rfl rfl (by unfold vp_in; decide) dX12_black_23 ?_
  refine gp_ni 0 rfl ?_
  refine lv_if_eq (tgt := 51) hx hb dX12_black_24 (by decide) (fun c_105 => ?_) (fun c_105 => absurd (by decide) c_105)
  refine lv_iinc (v := 7) (lv' := [(3, .int 7), (2, .int 5), (1, .int 0), (0, .ref (ma 200))]) hx hb dX12_black_51 hl (k := 0) rfl (by decide) (by decide) rfl (fun ls hl => ?_)
  refine lv_goto (tgt := 12) hx hb dX12_black_54 (by decide) ?_
  refine lv_iload_n hx hb dX12_black_12 rfl (lv_at hl 0 rfl) ?_
  refine lv_bipush (v := 8) hx hb dX12_black_13 (by decide) ?_
  refine lv_icmp_ge (tgt := 57) hx hb dX12_black_15 (by decide) (fun c_106 => absurd c_106 (by decide)) (fun c_106 => ?_)
  refine lv_aload_n hx hb dX12_black_18 rfl (lv_at hl 3 rfl) ?_
  refine va_get (D := D) (ci := 12) (v := .ref (ma 14)) (C := RX12) (T := TX12) (N := 104) hx hb hts hiX12 hown hK hP 0 rfl rfl 14 (by decide) (hts (.fieldLink RX12 60 "GhostPaneModel" "isWall" "[Z") (List.mem_of_getElem? (i := 1) rfl)) (fun _ h9 => h9) rfl dX12_black_19 ?_
  refine lv_iload_n hx hb dX12_black_22 rfl (lv_at hl 1 rfl) ?_
  refine va_zald hx hb hK hP 1 3 rfl rfl (by unfold vp_in; decide) dX12_black_23 ?_
  refine gp_ni 0 rfl ?_
  refine lv_if_eq (tgt := 51) hx hb dX12_black_24 (by decide) (fun c_107 => ?_) (fun c_107 => absurd (by decide) c_107)
  refine lv_iinc (v := 8) (lv' := [(3, .int 8), (2, .int 5), (1, .int 0), (0, .ref (ma 200))]) hx hb dX12_black_51 hl (k := 0) rfl (by decide) (by decide) rfl (fun ls hl => ?_)
  refine lv_goto (tgt := 12) hx hb dX12_black_54 (by decide) ?_
  refine lv_iload_n hx hb dX12_black_12 rfl (lv_at hl 0 rfl) ?_
  refine lv_bipush (v := 8) hx hb dX12_black_13 (by decide) ?_
  refine lv_icmp_ge (tgt := 57) hx hb dX12_black_15 (by decide) (fun c_108 => ?_) (fun c_108 => absurd (by decide) c_108)
  refine lv_iinc (v := 6) (lv' := [(2, .int 6), (3, .int 8), (1, .int 0), (0, .ref (ma 200))]) hx hb dX12_black_57 hl (k := 1) rfl (by decide) (by decide) rfl (fun ls hl => ?_)
  refine lv_goto (tgt := 4) hx hb dX12_black_60 (by decide) ?_
  refine lv_iload_n hx hb dX12_black_4 rfl (lv_at hl 0 rfl) ?_
  refine lv_bipush (v := 12) hx hb dX12_black_5 (by decide) ?_
  refine lv_icmp_ge (tgt := 63) hx hb dX12_black_7 (by decide) (fun c_109 => absurd c_109 (by decide)) (fun c_109 => ?_)
  refine lv_iconst (v := 0) hx hb dX12_black_10 (by decide) ?_
  refine lv_istore_n (lv' := [(3, .int 0), (2, .int 6), (1, .int 0), (0, .ref (ma 200))]) hx hb dX12_black_11 rfl hl (by decide) rfl (fun ls hl => ?_)
  refine lv_iload_n hx hb dX12_black_12 rfl (lv_at hl 0 rfl) ?_
  refine lv_bipush (v := 8) hx hb dX12_black_13 (by decide) ?_
  refine lv_icmp_ge (tgt := 57) hx hb dX12_black_15 (by decide) (fun c_110 => absurd c_110 (by decide)) (fun c_110 => ?_)
  refine lv_aload_n hx hb dX12_black_18 rfl (lv_at hl 3 rfl) ?_
  refine va_get (D := D) (ci := 12) (v := .ref (ma 14)) (C := RX12) (T := TX12) (N := 104) hx hb hts hiX12 hown hK hP 0 rfl rfl 14 (by decide) (hts (.fieldLink RX12 60 "GhostPaneModel" "isWall" "[Z") (List.mem_of_getElem? (i := 1) rfl)) (fun _ h9 => h9) rfl dX12_black_19 ?_
  refine lv_iload_n hx hb dX12_black_22 rfl (lv_at hl 1 rfl) ?_
  refine va_zald hx hb hK hP 1 3 rfl rfl (by unfold vp_in; decide) dX12_black_23 ?_
  refine gp_ni 0 rfl ?_
  refine lv_if_eq (tgt := 51) hx hb dX12_black_24 (by decide) (fun c_111 => ?_) (fun c_111 => absurd (by decide) c_111)
  refine lv_iinc (v := 1) (lv' := [(3, .int 1), (2, .int 6), (1, .int 0), (0, .ref (ma 200))]) hx hb dX12_black_51 hl (k := 0) rfl (by decide) (by decide) rfl (fun ls hl => ?_)
  refine lv_goto (tgt := 12) hx hb dX12_black_54 (by decide) ?_
  refine lv_iload_n hx hb dX12_black_12 rfl (lv_at hl 0 rfl) ?_
  refine lv_bipush (v := 8) hx hb dX12_black_13 (by decide) ?_
  refine lv_icmp_ge (tgt := 57) hx hb dX12_black_15 (by decide) (fun c_112 => absurd c_112 (by decide)) (fun c_112 => ?_)
  refine lv_aload_n hx hb dX12_black_18 rfl (lv_at hl 3 rfl) ?_
  refine va_get (D := D) (ci := 12) (v := .ref (ma 14)) (C := RX12) (T := TX12) (N := 104) hx hb hts hiX12 hown hK hP 0 rfl rfl 14 (by decide) (hts (.fieldLink RX12 60 "GhostPaneModel" "isWall" "[Z") (List.mem_of_getElem? (i := 1) rfl)) (fun _ h9 => h9) rfl dX12_black_19 ?_
  refine lv_iload_n hx hb dX12_black_22 rfl (lv_at hl 1 rfl) ?_
  refine va_zald hx hb hK hP 1 3 rfl rfl (by unfold vp_in; decide) dX12_black_23 ?_
  refine gp_ni 0 rfl ?_
  refine lv_if_eq (tgt := 51) hx hb dX12_black_24 (by decide) (fun c_113 => ?_) (fun c_113 => absurd (by decide) c_113)
  refine lv_iinc (v := 2) (lv' := [(3, .int 2), (2, .int 6), (1, .int 0), (0, .ref (ma 200))]) hx hb dX12_black_51 hl (k := 0) rfl (by decide) (by decide) rfl (fun ls hl => ?_)
  refine lv_goto (tgt := 12) hx hb dX12_black_54 (by decide) ?_
  refine lv_iload_n hx hb dX12_black_12 rfl (lv_at hl 0 rfl) ?_
  refine lv_bipush (v := 8) hx hb dX12_black_13 (by decide) ?_
  refine lv_icmp_ge (tgt := 57) hx hb dX12_black_15 (by decide) (fun c_114 => absurd c_114 (by decide)) (fun c_114 => ?_)
  refine lv_aload_n hx hb dX12_black_18 rfl (lv_at hl 3 rfl) ?_
  refine va_get (D := D) (ci := 12) (v := .ref (ma 14)) (C := RX12) (T := TX12) (N := 104) hx hb hts hiX12 hown hK hP 0 rfl rfl 14 (by decide) (hts (.fieldLink RX12 60 "GhostPaneModel" "isWall" "[Z") (List.mem_of_getElem? (i := 1) rfl)) (fun _ h9 => h9) rfl dX12_black_19 ?_
  refine lv_iload_n hx hb dX12_black_22 rfl (lv_at hl 1 rfl) ?_
  refine va_zald hx hb hK hP 1 3 rfl rfl (by unfold vp_in; decide) dX12_black_23 ?_
  refine gp_ni 0 rfl ?_
  refine lv_if_eq (tgt := 51) hx hb dX12_black_24 (by decide) (fun c_115 => ?_) (fun c_115 => absurd (by decide) c_115)
  refine lv_iinc (v := 3) (lv' := [(3, .int 3), (2, .int 6), (1, .int 0), (0, .ref (ma 200))]) hx hb dX12_black_51 hl (k := 0) rfl (by decide) (by decide) rfl (fun ls hl => ?_)
  refine lv_goto (tgt := 12) hx hb dX12_black_54 (by decide) ?_
  refine lv_iload_n hx hb dX12_black_12 rfl (lv_at hl 0 rfl) ?_
  refine lv_bipush (v := 8) hx hb dX12_black_13 (by decide) ?_
  refine lv_icmp_ge (tgt := 57) hx hb dX12_black_15 (by decide) (fun c_116 => absurd c_116 (by decide)) (fun c_116 => ?_)
  refine lv_aload_n hx hb dX12_black_18 rfl (lv_at hl 3 rfl) ?_
  refine va_get (D := D) (ci := 12) (v := .ref (ma 14)) (C := RX12) (T := TX12) (N := 104) hx hb hts hiX12 hown hK hP 0 rfl rfl 14 (by decide) (hts (.fieldLink RX12 60 "GhostPaneModel" "isWall" "[Z") (List.mem_of_getElem? (i := 1) rfl)) (fun _ h9 => h9) rfl dX12_black_19 ?_
  refine lv_iload_n hx hb dX12_black_22 rfl (lv_at hl 1 rfl) ?_
  refine va_zald hx hb hK hP 1 3 rfl rfl (by unfold vp_in; decide) dX12_black_23 ?_
  refine gp_ni 0 rfl ?_
  refine lv_if_eq (tgt := 51) hx hb dX12_black_24 (by decide) (fun c_117 => ?_) (fun c_117 => absurd (by decide) c_117)
  refine lv_iinc (v := 4) (lv' := [(3, .int 4), (2, .int 6), (1, .int 0), (0, .ref (ma 200))]) hx hb dX12_black_51 hl (k := 0) rfl (by decide) (by decide) rfl (fun ls hl => ?_)
  refine lv_goto (tgt := 12) hx hb dX12_black_54 (by decide) ?_
  refine lv_iload_n hx hb dX12_black_12 rfl (lv_at hl 0 rfl) ?_
  refine lv_bipush (v := 8) hx hb dX12_black_13 (by decide) ?_
  refine lv_icmp_ge (tgt := 57) hx hb dX12_black_15 (by decide) (fun c_118 => absurd c_118 (by decide)) (fun c_118 => ?_)
  refine lv_aload_n hx hb dX12_black_18 rfl (lv_at hl 3 rfl) ?_
  refine va_get (D := D) (ci := 12) (v := .ref (ma 14)) (C := RX12) (T := TX12) (N := 104) hx hb hts hiX12 hown hK hP 0 rfl rfl 14 (by decide) (hts (.fieldLink RX12 60 "GhostPaneModel" "isWall" "[Z") (List.mem_of_getElem? (i := 1) rfl)) (fun _ h9 => h9) rfl dX12_black_19 ?_
  refine lv_iload_n hx hb dX12_black_22 rfl (lv_at hl 1 rfl) ?_
  refine va_zald hx hb hK hP 1 3 rfl rfl (by unfold vp_in; decide) dX12_black_23 ?_
  refine gp_ni 0 rfl ?_
  refine lv_if_eq (tgt := 51) hx hb dX12_black_24 (by decide) (fun c_119 => ?_) (fun c_119 => absurd (by decide) c_119)
  refine lv_iinc (v := 5) (lv' := [(3, .int 5), (2, .int 6), (1, .int 0), (0, .ref (ma 200))]) hx hb dX12_black_51 hl (k := 0) rfl (by decide) (by decide) rfl (fun ls hl => ?_)
  refine lv_goto (tgt := 12) hx hb dX12_black_54 (by decide) ?_
  refine lv_iload_n hx hb dX12_black_12 rfl (lv_at hl 0 rfl) ?_
  refine lv_bipush (v := 8) hx hb dX12_black_13 (by decide) ?_
  refine lv_icmp_ge (tgt := 57) hx hb dX12_black_15 (by decide) (fun c_120 => absurd c_120 (by decide)) (fun c_120 => ?_)
  refine lv_aload_n hx hb dX12_black_18 rfl (lv_at hl 3 rfl) ?_
  refine va_get (D := D) (ci := 12) (v := .ref (ma 14)) (C := RX12) (T := TX12) (N := 104) hx hb hts hiX12 hown hK hP 0 rfl rfl 14 (by decide) (hts (.fieldLink RX12 60 "GhostPaneModel" "isWall" "[Z") (List.mem_of_getElem? (i := 1) rfl)) (fun _ h9 => h9) rfl dX12_black_19 ?_
  refine lv_iload_n hx hb dX12_black_22 rfl (lv_at hl 1 rfl) ?_
  refine va_zald hx hb hK hP 1 3 rfl rfl (by unfold vp_in; decide) dX12_black_23 ?_
  refine gp_ni 0 rfl ?_
  refine lv_if_eq (tgt := 51) hx hb dX12_black_24 (by decide) (fun c_121 => ?_) (fun c_121 => absurd (by decide) c_121)
  refine lv_iinc (v := 6) (lv' := [(3, .int 6), (2, .int 6), (1, .int 0), (0, .ref (ma 200))]) hx hb dX12_black_51 hl (k := 0) rfl (by decide) (by decide) rfl (fun ls hl => ?_)
  refine lv_goto (tgt := 12) hx hb dX12_black_54 (by decide) ?_
  refine lv_iload_n hx hb dX12_black_12 rfl (lv_at hl 0 rfl) ?_
  refine lv_bipush (v := 8) hx hb dX12_black_13 (by decide) ?_
  refine lv_icmp_ge (tgt := 57) hx hb dX12_black_15 (by decide) (fun c_122 => absurd c_122 (by decide)) (fun c_122 => ?_)
  refine lv_aload_n hx hb dX12_black_18 rfl (lv_at hl 3 rfl) ?_
  refine va_get (D := D) (ci := 12) (v := .ref (ma 14)) (C := RX12) (T := TX12) (N := 104) hx hb hts hiX12 hown hK hP 0 rfl rfl 14 (by decide) (hts (.fieldLink RX12 60 "GhostPaneModel" "isWall" "[Z") (List.mem_of_getElem? (i := 1) rfl)) (fun _ h9 => h9) rfl dX12_black_19 ?_
  refine lv_iload_n hx hb dX12_black_22 rfl (lv_at hl 1 rfl) ?_
  refine va_zald hx hb hK hP 1 3 rfl rfl (by unfold vp_in; decide) dX12_black_23 ?_
  refine gp_ni 0 rfl ?_
  refine lv_if_eq (tgt := 51) hx hb dX12_black_24 (by decide) (fun c_123 => ?_) (fun c_123 => absurd (by decide) c_123)
  refine lv_iinc (v := 7) (lv' := [(3, .int 7), (2, .int 6), (1, .int 0), (0, .ref (ma 200))]) hx hb dX12_black_51 hl (k := 0) rfl (by decide) (by decide) rfl (fun ls hl => ?_)
  refine lv_goto (tgt := 12) hx hb dX12_black_54 (by decide) ?_
  refine lv_iload_n hx hb dX12_black_12 rfl (lv_at hl 0 rfl) ?_
  refine lv_bipush (v := 8) hx hb dX12_black_13 (by decide) ?_
  refine lv_icmp_ge (tgt := 57) hx hb dX12_black_15 (by decide) (fun c_124 => absurd c_124 (by decide)) (fun c_124 => ?_)
  refine lv_aload_n hx hb dX12_black_18 rfl (lv_at hl 3 rfl) ?_
  refine va_get (D := D) (ci := 12) (v := .ref (ma 14)) (C := RX12) (T := TX12) (N := 104) hx hb hts hiX12 hown hK hP 0 rfl rfl 14 (by decide) (hts (.fieldLink RX12 60 "GhostPaneModel" "isWall" "[Z") (List.mem_of_getElem? (i := 1) rfl)) (fun _ h9 => h9) rfl dX12_black_19 ?_
  refine lv_iload_n hx hb dX12_black_22 rfl (lv_at hl 1 rfl) ?_
  refine va_zald hx hb hK hP 1 3 rfl rfl (by unfold vp_in; decide) dX12_black_23 ?_
  refine gp_ni 0 rfl ?_
  refine lv_if_eq (tgt := 51) hx hb dX12_black_24 (by decide) (fun c_125 => ?_) (fun c_125 => absurd (by decide) c_125)
  refine lv_iinc (v := 8) (lv' := [(3, .int 8), (2, .int 6), (1, .int 0), (0, .ref (ma 200))]) hx hb dX12_black_51 hl (k := 0) rfl (by decide) (by decide) rfl (fun ls hl => ?_)
  refine lv_goto (tgt := 12) hx hb dX12_black_54 (by decide) ?_
  refine lv_iload_n hx hb dX12_black_12 rfl (lv_at hl 0 rfl) ?_
  refine lv_bipush (v := 8) hx hb dX12_black_13 (by decide) ?_
  refine lv_icmp_ge (tgt := 57) hx hb dX12_black_15 (by decide) (fun c_126 => ?_) (fun c_126 => absurd (by decide) c_126)
  refine lv_iinc (v := 7) (lv' := [(2, .int 7), (3, .int 8), (1, .int 0), (0, .ref (ma 200))]) hx hb dX12_black_57 hl (k := 1) rfl (by decide) (by decide) rfl (fun ls hl => ?_)
  refine lv_goto (tgt := 4) hx hb dX12_black_60 (by decide) ?_
  refine lv_iload_n hx hb dX12_black_4 rfl (lv_at hl 0 rfl) ?_
  refine lv_bipush (v := 12) hx hb dX12_black_5 (by decide) ?_
  refine lv_icmp_ge (tgt := 63) hx hb dX12_black_7 (by decide) (fun c_127 => absurd c_127 (by decide)) (fun c_127 => ?_)
  refine lv_iconst (v := 0) hx hb dX12_black_10 (by decide) ?_
  refine lv_istore_n (lv' := [(3, .int 0), (2, .int 7), (1, .int 0), (0, .ref (ma 200))]) hx hb dX12_black_11 rfl hl (by decide) rfl (fun ls hl => ?_)
  refine lv_iload_n hx hb dX12_black_12 rfl (lv_at hl 0 rfl) ?_
  refine lv_bipush (v := 8) hx hb dX12_black_13 (by decide) ?_
  refine lv_icmp_ge (tgt := 57) hx hb dX12_black_15 (by decide) (fun c_128 => absurd c_128 (by decide)) (fun c_128 => ?_)
  refine lv_aload_n hx hb dX12_black_18 rfl (lv_at hl 3 rfl) ?_
  refine va_get (D := D) (ci := 12) (v := .ref (ma 14)) (C := RX12) (T := TX12) (N := 104) hx hb hts hiX12 hown hK hP 0 rfl rfl 14 (by decide) (hts (.fieldLink RX12 60 "GhostPaneModel" "isWall" "[Z") (List.mem_of_getElem? (i := 1) rfl)) (fun _ h9 => h9) rfl dX12_black_19 ?_
  refine lv_iload_n hx hb dX12_black_22 rfl (lv_at hl 1 rfl) ?_
  refine va_zald hx hb hK hP 1 3 rfl rfl (by unfold vp_in; decide) dX12_black_23 ?_
  refine gp_ni 0 rfl ?_
  refine lv_if_eq (tgt := 51) hx hb dX12_black_24 (by decide) (fun c_129 => ?_) (fun c_129 => absurd (by decide) c_129)
  refine lv_iinc (v := 1) (lv' := [(3, .int 1), (2, .int 7), (1, .int 0), (0, .ref (ma 200))]) hx hb dX12_black_51 hl (k := 0) rfl (by decide) (by decide) rfl (fun ls hl => ?_)
  refine lv_goto (tgt := 12) hx hb dX12_black_54 (by decide) ?_
  refine lv_iload_n hx hb dX12_black_12 rfl (lv_at hl 0 rfl) ?_
  refine lv_bipush (v := 8) hx hb dX12_black_13 (by decide) ?_
  refine lv_icmp_ge (tgt := 57) hx hb dX12_black_15 (by decide) (fun c_130 => absurd c_130 (by decide)) (fun c_130 => ?_)
  refine lv_aload_n hx hb dX12_black_18 rfl (lv_at hl 3 rfl) ?_
  refine va_get (D := D) (ci := 12) (v := .ref (ma 14)) (C := RX12) (T := TX12) (N := 104) hx hb hts hiX12 hown hK hP 0 rfl rfl 14 (by decide) (hts (.fieldLink RX12 60 "GhostPaneModel" "isWall" "[Z") (List.mem_of_getElem? (i := 1) rfl)) (fun _ h9 => h9) rfl dX12_black_19 ?_
  refine lv_iload_n hx hb dX12_black_22 rfl (lv_at hl 1 rfl) ?_
  refine va_zald hx hb hK hP 1 3 rfl rfl (by unfold vp_in; decide) dX12_black_23 ?_
  refine gp_ni 0 rfl ?_
  refine lv_if_eq (tgt := 51) hx hb dX12_black_24 (by decide) (fun c_131 => ?_) (fun c_131 => absurd (by decide) c_131)
  refine lv_iinc (v := 2) (lv' := [(3, .int 2), (2, .int 7), (1, .int 0), (0, .ref (ma 200))]) hx hb dX12_black_51 hl (k := 0) rfl (by decide) (by decide) rfl (fun ls hl => ?_)
  refine lv_goto (tgt := 12) hx hb dX12_black_54 (by decide) ?_
  refine lv_iload_n hx hb dX12_black_12 rfl (lv_at hl 0 rfl) ?_
  refine lv_bipush (v := 8) hx hb dX12_black_13 (by decide) ?_
  refine lv_icmp_ge (tgt := 57) hx hb dX12_black_15 (by decide) (fun c_132 => absurd c_132 (by decide)) (fun c_132 => ?_)
  refine lv_aload_n hx hb dX12_black_18 rfl (lv_at hl 3 rfl) ?_
  refine va_get (D := D) (ci := 12) (v := .ref (ma 14)) (C := RX12) (T := TX12) (N := 104) hx hb hts hiX12 hown hK hP 0 rfl rfl 14 (by decide) (hts (.fieldLink RX12 60 "GhostPaneModel" "isWall" "[Z") (List.mem_of_getElem? (i := 1) rfl)) (fun _ h9 => h9) rfl dX12_black_19 ?_
  refine lv_iload_n hx hb dX12_black_22 rfl (lv_at hl 1 rfl) ?_
  refine va_zald hx hb hK hP 1 3 rfl rfl (by unfold vp_in; decide) dX12_black_23 ?_
  refine gp_ni 0 rfl ?_
  refine lv_if_eq (tgt := 51) hx hb dX12_black_24 (by decide) (fun c_133 => ?_) (fun c_133 => absurd (by decide) c_133)
  refine lv_iinc (v := 3) (lv' := [(3, .int 3), (2, .int 7), (1, .int 0), (0, .ref (ma 200))]) hx hb dX12_black_51 hl (k := 0) rfl (by decide) (by decide) rfl (fun ls hl => ?_)
  refine lv_goto (tgt := 12) hx hb dX12_black_54 (by decide) ?_
  refine lv_iload_n hx hb dX12_black_12 rfl (lv_at hl 0 rfl) ?_
  refine lv_bipush (v := 8) hx hb dX12_black_13 (by decide) ?_
  refine lv_icmp_ge (tgt := 57) hx hb dX12_black_15 (by decide) (fun c_134 => absurd c_134 (by decide)) (fun c_134 => ?_)
  refine lv_aload_n hx hb dX12_black_18 rfl (lv_at hl 3 rfl) ?_
  refine va_get (D := D) (ci := 12) (v := .ref (ma 14)) (C := RX12) (T := TX12) (N := 104) hx hb hts hiX12 hown hK hP 0 rfl rfl 14 (by decide) (hts (.fieldLink RX12 60 "GhostPaneModel" "isWall" "[Z") (List.mem_of_getElem? (i := 1) rfl)) (fun _ h9 => h9) rfl dX12_black_19 ?_
  refine lv_iload_n hx hb dX12_black_22 rfl (lv_at hl 1 rfl) ?_
  refine va_zald hx hb hK hP 1 3 rfl rfl (by unfold vp_in; decide) dX12_black_23 ?_
  refine gp_ni 0 rfl ?_
  refine lv_if_eq (tgt := 51) hx hb dX12_black_24 (by decide) (fun c_135 => ?_) (fun c_135 => absurd (by decide) c_135)
  refine lv_iinc (v := 4) (lv' := [(3, .int 4), (2, .int 7), (1, .int 0), (0, .ref (ma 200))]) hx hb dX12_black_51 hl (k := 0) rfl (by decide) (by decide) rfl (fun ls hl => ?_)
  refine lv_goto (tgt := 12) hx hb dX12_black_54 (by decide) ?_
  refine lv_iload_n hx hb dX12_black_12 rfl (lv_at hl 0 rfl) ?_
  refine lv_bipush (v := 8) hx hb dX12_black_13 (by decide) ?_
  refine lv_icmp_ge (tgt := 57) hx hb dX12_black_15 (by decide) (fun c_136 => absurd c_136 (by decide)) (fun c_136 => ?_)
  refine lv_aload_n hx hb dX12_black_18 rfl (lv_at hl 3 rfl) ?_
  refine va_get (D := D) (ci := 12) (v := .ref (ma 14)) (C := RX12) (T := TX12) (N := 104) hx hb hts hiX12 hown hK hP 0 rfl rfl 14 (by decide) (hts (.fieldLink RX12 60 "GhostPaneModel" "isWall" "[Z") (List.mem_of_getElem? (i := 1) rfl)) (fun _ h9 => h9) rfl dX12_black_19 ?_
  refine lv_iload_n hx hb dX12_black_22 rfl (lv_at hl 1 rfl) ?_
  refine va_zald hx hb hK hP 1 3 rfl rfl (by unfold vp_in; decide) dX12_black_23 ?_
  refine gp_ni 0 rfl ?_
  refine lv_if_eq (tgt := 51) hx hb dX12_black_24 (by decide) (fun c_137 => ?_) (fun c_137 => absurd (by decide) c_137)
  refine lv_iinc (v := 5) (lv' := [(3, .int 5), (2, .int 7), (1, .int 0), (0, .ref (ma 200))]) hx hb dX12_black_51 hl (k := 0) rfl (by decide) (by decide) rfl (fun ls hl => ?_)
  refine lv_goto (tgt := 12) hx hb dX12_black_54 (by decide) ?_
  refine lv_iload_n hx hb dX12_black_12 rfl (lv_at hl 0 rfl) ?_
  refine lv_bipush (v := 8) hx hb dX12_black_13 (by decide) ?_
  refine lv_icmp_ge (tgt := 57) hx hb dX12_black_15 (by decide) (fun c_138 => absurd c_138 (by decide)) (fun c_138 => ?_)
  refine lv_aload_n hx hb dX12_black_18 rfl (lv_at hl 3 rfl) ?_
  refine va_get (D := D) (ci := 12) (v := .ref (ma 14)) (C := RX12) (T := TX12) (N := 104) hx hb hts hiX12 hown hK hP 0 rfl rfl 14 (by decide) (hts (.fieldLink RX12 60 "GhostPaneModel" "isWall" "[Z") (List.mem_of_getElem? (i := 1) rfl)) (fun _ h9 => h9) rfl dX12_black_19 ?_
  refine lv_iload_n hx hb dX12_black_22 rfl (lv_at hl 1 rfl) ?_
  refine va_zald hx hb hK hP 1 3 rfl rfl (by unfold vp_in; decide) dX12_black_23 ?_
  refine gp_ni 0 rfl ?_
  refine lv_if_eq (tgt := 51) hx hb dX12_black_24 (by decide) (fun c_139 => ?_) (fun c_139 => absurd (by decide) c_139)
  refine lv_iinc (v := 6) (lv' := [(3, .int 6), (2, .int 7), (1, .int 0), (0, .ref (ma 200))]) hx hb dX12_black_51 hl (k := 0) rfl (by decide) (by decide) rfl (fun ls hl => ?_)
  refine lv_goto (tgt := 12) hx hb dX12_black_54 (by decide) ?_
  refine lv_iload_n hx hb dX12_black_12 rfl (lv_at hl 0 rfl) ?_
  refine lv_bipush (v := 8) hx hb dX12_black_13 (by decide) ?_
  refine lv_icmp_ge (tgt := 57) hx hb dX12_black_15 (by decide) (fun c_140 => absurd c_140 (by decide)) (fun c_140 => ?_)
  refine lv_aload_n hx hb dX12_black_18 rfl (lv_at hl 3 rfl) ?_
  refine va_get (D := D) (ci := 12) (v := .ref (ma 14)) (C := RX12) (T := TX12) (N := 104) hx hb hts hiX12 hown hK hP 0 rfl rfl 14 (by decide) (hts (.fieldLink RX12 60 "GhostPaneModel" "isWall" "[Z") (List.mem_of_getElem? (i := 1) rfl)) (fun _ h9 => h9) rfl dX12_black_19 ?_
  refine lv_iload_n hx hb dX12_black_22 rfl (lv_at hl 1 rfl) ?_
  refine va_zald hx hb hK hP 1 3 rfl rfl (by unfold vp_in; decide) dX12_black_23 ?_
  refine gp_ni 0 rfl ?_
  refine lv_if_eq (tgt := 51) hx hb dX12_black_24 (by decide) (fun c_141 => ?_) (fun c_141 => absurd (by decide) c_141)
  refine lv_iinc (v := 7) (lv' := [(3, .int 7), (2, .int 7), (1, .int 0), (0, .ref (ma 200))]) hx hb dX12_black_51 hl (k := 0) rfl (by decide) (by decide) rfl (fun ls hl => ?_)
  refine lv_goto (tgt := 12) hx hb dX12_black_54 (by decide) ?_
  refine lv_iload_n hx hb dX12_black_12 rfl (lv_at hl 0 rfl) ?_
  refine lv_bipush (v := 8) hx hb dX12_black_13 (by decide) ?_
  refine lv_icmp_ge (tgt := 57) hx hb dX12_black_15 (by decide) (fun c_142 => absurd c_142 (by decide)) (fun c_142 => ?_)
  refine lv_aload_n hx hb dX12_black_18 rfl (lv_at hl 3 rfl) ?_
  refine va_get (D := D) (ci := 12) (v := .ref (ma 14)) (C := RX12) (T := TX12) (N := 104) hx hb hts hiX12 hown hK hP 0 rfl rfl 14 (by decide) (hts (.fieldLink RX12 60 "GhostPaneModel" "isWall" "[Z") (List.mem_of_getElem? (i := 1) rfl)) (fun _ h9 => h9) rfl dX12_black_19 ?_
  refine lv_iload_n hx hb dX12_black_22 rfl (lv_at hl 1 rfl) ?_
  refine va_zald hx hb hK hP 1 3 rfl rfl (by unfold vp_in; decide) dX12_black_23 ?_
  refine gp_ni 0 rfl ?_
  refine lv_if_eq (tgt := 51) hx hb dX12_black_24 (by decide) (fun c_143 => ?_) (fun c_143 => absurd (by decide) c_143)
  refine lv_iinc (v := 8) (lv' := [(3, .int 8), (2, .int 7), (1, .int 0), (0, .ref (ma 200))]) hx hb dX12_black_51 hl (k := 0) rfl (by decide) (by decide) rfl (fun ls hl => ?_)
  refine lv_goto (tgt := 12) hx hb dX12_black_54 (by decide) ?_
  refine lv_iload_n hx hb dX12_black_12 rfl (lv_at hl 0 rfl) ?_
  refine lv_bipush (v := 8) hx hb dX12_black_13 (by decide) ?_
  refine lv_icmp_ge (tgt := 57) hx hb dX12_black_15 (by decide) (fun c_144 => ?_) (fun c_144 => absurd (by decide) c_144)
  refine lv_iinc (v := 8) (lv' := [(2, .int 8), (3, .int 8), (1, .int 0), (0, .ref (ma 200))]) hx hb dX12_black_57 hl (k := 1) rfl (by decide) (by decide) rfl (fun ls hl => ?_)
  refine lv_goto (tgt := 4) hx hb dX12_black_60 (by decide) ?_
  refine lv_iload_n hx hb dX12_black_4 rfl (lv_at hl 0 rfl) ?_
  refine lv_bipush (v := 12) hx hb dX12_black_5 (by decide) ?_
  refine lv_icmp_ge (tgt := 63) hx hb dX12_black_7 (by decide) (fun c_145 => absurd c_145 (by decide)) (fun c_145 => ?_)
  refine lv_iconst (v := 0) hx hb dX12_black_10 (by decide) ?_
  refine lv_istore_n (lv' := [(3, .int 0), (2, .int 8), (1, .int 0), (0, .ref (ma 200))]) hx hb dX12_black_11 rfl hl (by decide) rfl (fun ls hl => ?_)
  refine lv_iload_n hx hb dX12_black_12 rfl (lv_at hl 0 rfl) ?_
  refine lv_bipush (v := 8) hx hb dX12_black_13 (by decide) ?_
  refine lv_icmp_ge (tgt := 57) hx hb dX12_black_15 (by decide) (fun c_146 => absurd c_146 (by decide)) (fun c_146 => ?_)
  refine lv_aload_n hx hb dX12_black_18 rfl (lv_at hl 3 rfl) ?_
  refine va_get (D := D) (ci := 12) (v := .ref (ma 14)) (C := RX12) (T := TX12) (N := 104) hx hb hts hiX12 hown hK hP 0 rfl rfl 14 (by decide) (hts (.fieldLink RX12 60 "GhostPaneModel" "isWall" "[Z") (List.mem_of_getElem? (i := 1) rfl)) (fun _ h9 => h9) rfl dX12_black_19 ?_
  refine lv_iload_n hx hb dX12_black_22 rfl (lv_at hl 1 rfl) ?_
  refine va_zald hx hb hK hP 1 3 rfl rfl (by unfold vp_in; decide) dX12_black_23 ?_
  refine gp_ni 0 rfl ?_
  refine lv_if_eq (tgt := 51) hx hb dX12_black_24 (by decide) (fun c_147 => ?_) (fun c_147 => absurd (by decide) c_147)
  refine lv_iinc (v := 1) (lv' := [(3, .int 1), (2, .int 8), (1, .int 0), (0, .ref (ma 200))]) hx hb dX12_black_51 hl (k := 0) rfl (by decide) (by decide) rfl (fun ls hl => ?_)
  refine lv_goto (tgt := 12) hx hb dX12_black_54 (by decide) ?_
  refine lv_iload_n hx hb dX12_black_12 rfl (lv_at hl 0 rfl) ?_
  refine lv_bipush (v := 8) hx hb dX12_black_13 (by decide) ?_
  refine lv_icmp_ge (tgt := 57) hx hb dX12_black_15 (by decide) (fun c_148 => absurd c_148 (by decide)) (fun c_148 => ?_)
  refine lv_aload_n hx hb dX12_black_18 rfl (lv_at hl 3 rfl) ?_
  refine va_get (D := D) (ci := 12) (v := .ref (ma 14)) (C := RX12) (T := TX12) (N := 104) hx hb hts hiX12 hown hK hP 0 rfl rfl 14 (by decide) (hts (.fieldLink RX12 60 "GhostPaneModel" "isWall" "[Z") (List.mem_of_getElem? (i := 1) rfl)) (fun _ h9 => h9) rfl dX12_black_19 ?_
  refine lv_iload_n hx hb dX12_black_22 rfl (lv_at hl 1 rfl) ?_
  refine va_zald hx hb hK hP 1 3 rfl rfl (by unfold vp_in; decide) dX12_black_23 ?_
  refine gp_ni 0 rfl ?_
  refine lv_if_eq (tgt := 51) hx hb dX12_black_24 (by decide) (fun c_149 => ?_) (fun c_149 => absurd (by decide) c_149)
  refine lv_iinc (v := 2) (lv' := [(3, .int 2), (2, .int 8), (1, .int 0), (0, .ref (ma 200))]) hx hb dX12_black_51 hl (k := 0) rfl (by decide) (by decide) rfl (fun ls hl => ?_)
  refine lv_goto (tgt := 12) hx hb dX12_black_54 (by decide) ?_
  refine lv_iload_n hx hb dX12_black_12 rfl (lv_at hl 0 rfl) ?_
  refine lv_bipush (v := 8) hx hb dX12_black_13 (by decide) ?_
  refine lv_icmp_ge (tgt := 57) hx hb dX12_black_15 (by decide) (fun c_150 => absurd c_150 (by decide)) (fun c_150 => ?_)
  refine lv_aload_n hx hb dX12_black_18 rfl (lv_at hl 3 rfl) ?_
  refine va_get (D := D) (ci := 12) (v := .ref (ma 14)) (C := RX12) (T := TX12) (N := 104) hx hb hts hiX12 hown hK hP 0 rfl rfl 14 (by decide) (hts (.fieldLink RX12 60 "GhostPaneModel" "isWall" "[Z") (List.mem_of_getElem? (i := 1) rfl)) (fun _ h9 => h9) rfl dX12_black_19 ?_
  refine lv_iload_n hx hb dX12_black_22 rfl (lv_at hl 1 rfl) ?_
  refine va_zald hx hb hK hP 1 3 rfl rfl (by unfold vp_in; decide) dX12_black_23 ?_
  refine gp_ni 0 rfl ?_
  refine lv_if_eq (tgt := 51) hx hb dX12_black_24 (by decide) (fun c_151 => ?_) (fun c_151 => absurd (by decide) c_151)
  refine lv_iinc (v := 3) (lv' := [(3, .int 3), (2, .int 8), (1, .int 0), (0, .ref (ma 200))]) hx hb dX12_black_51 hl (k := 0) rfl (by decide) (by decide) rfl (fun ls hl => ?_)
  refine lv_goto (tgt := 12) hx hb dX12_black_54 (by decide) ?_
  refine lv_iload_n hx hb dX12_black_12 rfl (lv_at hl 0 rfl) ?_
  refine lv_bipush (v := 8) hx hb dX12_black_13 (by decide) ?_
  refine lv_icmp_ge (tgt := 57) hx hb dX12_black_15 (by decide) (fun c_152 => absurd c_152 (by decide)) (fun c_152 => ?_)
  refine lv_aload_n hx hb dX12_black_18 rfl (lv_at hl 3 rfl) ?_
  refine va_get (D := D) (ci := 12) (v := .ref (ma 14)) (C := RX12) (T := TX12) (N := 104) hx hb hts hiX12 hown hK hP 0 rfl rfl 14 (by decide) (hts (.fieldLink RX12 60 "GhostPaneModel" "isWall" "[Z") (List.mem_of_getElem? (i := 1) rfl)) (fun _ h9 => h9) rfl dX12_black_19 ?_
  refine lv_iload_n hx hb dX12_black_22 rfl (lv_at hl 1 rfl) ?_
  refine va_zald hx hb hK hP 1 3 rfl rfl (by unfold vp_in; decide) dX12_black_23 ?_
  refine gp_ni 0 rfl ?_
  refine lv_if_eq (tgt := 51) hx hb dX12_black_24 (by decide) (fun c_153 => ?_) (fun c_153 => absurd (by decide) c_153)
  refine lv_iinc (v := 4) (lv' := [(3, .int 4), (2, .int 8), (1, .int 0), (0, .ref (ma 200))]) hx hb dX12_black_51 hl (k := 0) rfl (by decide) (by decide) rfl (fun ls hl => ?_)
  refine lv_goto (tgt := 12) hx hb dX12_black_54 (by decide) ?_
  refine lv_iload_n hx hb dX12_black_12 rfl (lv_at hl 0 rfl) ?_
  refine lv_bipush (v := 8) hx hb dX12_black_13 (by decide) ?_
  refine lv_icmp_ge (tgt := 57) hx hb dX12_black_15 (by decide) (fun c_154 => absurd c_154 (by decide)) (fun c_154 => ?_)
  refine lv_aload_n hx hb dX12_black_18 rfl (lv_at hl 3 rfl) ?_
  refine va_get (D := D) (ci := 12) (v := .ref (ma 14)) (C := RX12) (T := TX12) (N := 104) hx hb hts hiX12 hown hK hP 0 rfl rfl 14 (by decide) (hts (.fieldLink RX12 60 "GhostPaneModel" "isWall" "[Z") (List.mem_of_getElem? (i := 1) rfl)) (fun _ h9 => h9) rfl dX12_black_19 ?_
  refine lv_iload_n hx hb dX12_black_22 rfl (lv_at hl 1 rfl) ?_
  refine va_zald hx hb hK hP 1 3 rfl rfl (by unfold vp_in; decide) dX12_black_23 ?_
  refine gp_ni 0 rfl ?_
  refine lv_if_eq (tgt := 51) hx hb dX12_black_24 (by decide) (fun c_155 => ?_) (fun c_155 => absurd (by decide) c_155)
  refine lv_iinc (v := 5) (lv' := [(3, .int 5), (2, .int 8), (1, .int 0), (0, .ref (ma 200))]) hx hb dX12_black_51 hl (k := 0) rfl (by decide) (by decide) rfl (fun ls hl => ?_)
  refine lv_goto (tgt := 12) hx hb dX12_black_54 (by decide) ?_
  refine lv_iload_n hx hb dX12_black_12 rfl (lv_at hl 0 rfl) ?_
  refine lv_bipush (v := 8) hx hb dX12_black_13 (by decide) ?_
  refine lv_icmp_ge (tgt := 57) hx hb dX12_black_15 (by decide) (fun c_156 => absurd c_156 (by decide)) (fun c_156 => ?_)
  refine lv_aload_n hx hb dX12_black_18 rfl (lv_at hl 3 rfl) ?_
  refine va_get (D := D) (ci := 12) (v := .ref (ma 14)) (C := RX12) (T := TX12) (N := 104) hx hb hts hiX12 hown hK hP 0 rfl rfl 14 (by decide) (hts (.fieldLink RX12 60 "GhostPaneModel" "isWall" "[Z") (List.mem_of_getElem? (i := 1) rfl)) (fun _ h9 => h9) rfl dX12_black_19 ?_
  refine lv_iload_n hx hb dX12_black_22 rfl (lv_at hl 1 rfl) ?_
  refine va_zald hx hb hK hP 1 3 rfl rfl (by unfold vp_in; decide) dX12_black_23 ?_
  refine gp_ni 0 rfl ?_
  refine lv_if_eq (tgt := 51) hx hb dX12_black_24 (by decide) (fun c_157 => ?_) (fun c_157 => absurd (by decide) c_157)
  refine lv_iinc (v := 6) (lv' := [(3, .int 6), (2, .int 8), (1, .int 0), (0, .ref (ma 200))]) hx hb dX12_black_51 hl (k := 0) rfl (by decide) (by decide) rfl (fun ls hl => ?_)
  refine lv_goto (tgt := 12) hx hb dX12_black_54 (by decide) ?_
  refine lv_iload_n hx hb dX12_black_12 rfl (lv_at hl 0 rfl) ?_
  refine lv_bipush (v := 8) hx hb dX12_black_13 (by decide) ?_
  refine lv_icmp_ge (tgt := 57) hx hb dX12_black_15 (by decide) (fun c_158 => absurd c_158 (by decide)) (fun c_158 => ?_)
  refine lv_aload_n hx hb dX12_black_18 rfl (lv_at hl 3 rfl) ?_
  refine va_get (D := D) (ci := 12) (v := .ref (ma 14)) (C := RX12) (T := TX12) (N := 104) hx hb hts hiX12 hown hK hP 0 rfl rfl 14 (by decide) (hts (.fieldLink RX12 60 "GhostPaneModel" "isWall" "[Z") (List.mem_of_getElem? (i := 1) rfl)) (fun _ h9 => h9) rfl dX12_black_19 ?_
  refine lv_iload_n hx hb dX12_black_22 rfl (lv_at hl 1 rfl) ?_
  refine va_zald hx hb hK hP 1 3 rfl rfl (by unfold vp_in; decide) dX12_black_23 ?_
  refine gp_ni 0 rfl ?_
  refine lv_if_eq (tgt := 51) hx hb dX12_black_24 (by decide) (fun c_159 => ?_) (fun c_159 => absurd (by decide) c_159)
  refine lv_iinc (v := 7) (lv' := [(3, .int 7), (2, .int 8), (1, .int 0), (0, .ref (ma 200))]) hx hb dX12_black_51 hl (k := 0) rfl (by decide) (by decide) rfl (fun ls hl => ?_)
  refine lv_goto (tgt := 12) hx hb dX12_black_54 (by decide) ?_
  refine lv_iload_n hx hb dX12_black_12 rfl (lv_at hl 0 rfl) ?_
  refine lv_bipush (v := 8) hx hb dX12_black_13 (by decide) ?_
  refine lv_icmp_ge (tgt := 57) hx hb dX12_black_15 (by decide) (fun c_160 => absurd c_160 (by decide)) (fun c_160 => ?_)
  refine lv_aload_n hx hb dX12_black_18 rfl (lv_at hl 3 rfl) ?_
  refine va_get (D := D) (ci := 12) (v := .ref (ma 14)) (C := RX12) (T := TX12) (N := 104) hx hb hts hiX12 hown hK hP 0 rfl rfl 14 (by decide) (hts (.fieldLink RX12 60 "GhostPaneModel" "isWall" "[Z") (List.mem_of_getElem? (i := 1) rfl)) (fun _ h9 => h9) rfl dX12_black_19 ?_
  refine lv_iload_n hx hb dX12_black_22 rfl (lv_at hl 1 rfl) ?_
  refine va_zald hx hb hK hP 1 3 rfl rfl (by unfold vp_in; decide) dX12_black_23 ?_
  refine gp_ni 0 rfl ?_
  refine lv_if_eq (tgt := 51) hx hb dX12_black_24 (by decide) (fun c_161 => ?_) (fun c_161 => absurd (by decide) c_161)
  refine lv_iinc (v := 8) (lv' := [(3, .int 8), (2, .int 8), (1, .int 0), (0, .ref (ma 200))]) hx hb dX12_black_51 hl (k := 0) rfl (by decide) (by decide) rfl (fun ls hl => ?_)
  refine lv_goto (tgt := 12) hx hb dX12_black_54 (by decide) ?_
  refine lv_iload_n hx hb dX12_black_12 rfl (lv_at hl 0 rfl) ?_
  refine lv_bipush (v := 8) hx hb dX12_black_13 (by decide) ?_
  refine lv_icmp_ge (tgt := 57) hx hb dX12_black_15 (by decide) (fun c_162 => ?_) (fun c_162 => absurd (by decide) c_162)
  refine lv_iinc (v := 9) (lv' := [(2, .int 9), (3, .int 8), (1, .int 0), (0, .ref (ma 200))]) hx hb dX12_black_57 hl (k := 1) rfl (by decide) (by decide) rfl (fun ls hl => ?_)
  refine lv_goto (tgt := 4) hx hb dX12_black_60 (by decide) ?_
  refine lv_iload_n hx hb dX12_black_4 rfl (lv_at hl 0 rfl) ?_
  refine lv_bipush (v := 12) hx hb dX12_black_5 (by decide) ?_
  refine lv_icmp_ge (tgt := 63) hx hb dX12_black_7 (by decide) (fun c_163 => absurd c_163 (by decide)) (fun c_163 => ?_)
  refine lv_iconst (v := 0) hx hb dX12_black_10 (by decide) ?_
  refine lv_istore_n (lv' := [(3, .int 0), (2, .int 9), (1, .int 0), (0, .ref (ma 200))]) hx hb dX12_black_11 rfl hl (by decide) rfl (fun ls hl => ?_)
  refine lv_iload_n hx hb dX12_black_12 rfl (lv_at hl 0 rfl) ?_
  refine lv_bipush (v := 8) hx hb dX12_black_13 (by decide) ?_
  refine lv_icmp_ge (tgt := 57) hx hb dX12_black_15 (by decide) (fun c_164 => absurd c_164 (by decide)) (fun c_164 => ?_)
  refine lv_aload_n hx hb dX12_black_18 rfl (lv_at hl 3 rfl) ?_
  refine va_get (D := D) (ci := 12) (v := .ref (ma 14)) (C := RX12) (T := TX12) (N := 104) hx hb hts hiX12 hown hK hP 0 rfl rfl 14 (by decide) (hts (.fieldLink RX12 60 "GhostPaneModel" "isWall" "[Z") (List.mem_of_getElem? (i := 1) rfl)) (fun _ h9 => h9) rfl dX12_black_19 ?_
  refine lv_iload_n hx hb dX12_black_22 rfl (lv_at hl 1 rfl) ?_
  refine va_zald hx hb hK hP 1 3 rfl rfl (by unfold vp_in; decide) dX12_black_23 ?_
  refine gp_ni 0 rfl ?_
  refine lv_if_eq (tgt := 51) hx hb dX12_black_24 (by decide) (fun c_165 => ?_) (fun c_165 => absurd (by decide) c_165)
  refine lv_iinc (v := 1) (lv' := [(3, .int 1), (2, .int 9), (1, .int 0), (0, .ref (ma 200))]) hx hb dX12_black_51 hl (k := 0) rfl (by decide) (by decide) rfl (fun ls hl => ?_)
  refine lv_goto (tgt := 12) hx hb dX12_black_54 (by decide) ?_
  refine lv_iload_n hx hb dX12_black_12 rfl (lv_at hl 0 rfl) ?_
  refine lv_bipush (v := 8) hx hb dX12_black_13 (by decide) ?_
  refine lv_icmp_ge (tgt := 57) hx hb dX12_black_15 (by decide) (fun c_166 => absurd c_166 (by decide)) (fun c_166 => ?_)
  refine lv_aload_n hx hb dX12_black_18 rfl (lv_at hl 3 rfl) ?_
  refine va_get (D := D) (ci := 12) (v := .ref (ma 14)) (C := RX12) (T := TX12) (N := 104) hx hb hts hiX12 hown hK hP 0 rfl rfl 14 (by decide) (hts (.fieldLink RX12 60 "GhostPaneModel" "isWall" "[Z") (List.mem_of_getElem? (i := 1) rfl)) (fun _ h9 => h9) rfl dX12_black_19 ?_
  refine lv_iload_n hx hb dX12_black_22 rfl (lv_at hl 1 rfl) ?_
  refine va_zald hx hb hK hP 1 3 rfl rfl (by unfold vp_in; decide) dX12_black_23 ?_
  refine gp_ni 0 rfl ?_
  refine lv_if_eq (tgt := 51) hx hb dX12_black_24 (by decide) (fun c_167 => ?_) (fun c_167 => absurd (by decide) c_167)
  refine lv_iinc (v := 2) (lv' := [(3, .int 2), (2, .int 9), (1, .int 0), (0, .ref (ma 200))]) hx hb dX12_black_51 hl (k := 0) rfl (by decide) (by decide) rfl (fun ls hl => ?_)
  refine lv_goto (tgt := 12) hx hb dX12_black_54 (by decide) ?_
  refine lv_iload_n hx hb dX12_black_12 rfl (lv_at hl 0 rfl) ?_
  refine lv_bipush (v := 8) hx hb dX12_black_13 (by decide) ?_
  refine lv_icmp_ge (tgt := 57) hx hb dX12_black_15 (by decide) (fun c_168 => absurd c_168 (by decide)) (fun c_168 => ?_)
  refine lv_aload_n hx hb dX12_black_18 rfl (lv_at hl 3 rfl) ?_
  refine va_get (D := D) (ci := 12) (v := .ref (ma 14)) (C := RX12) (T := TX12) (N := 104) hx hb hts hiX12 hown hK hP 0 rfl rfl 14 (by decide) (hts (.fieldLink RX12 60 "GhostPaneModel" "isWall" "[Z") (List.mem_of_getElem? (i := 1) rfl)) (fun _ h9 => h9) rfl dX12_black_19 ?_
  refine lv_iload_n hx hb dX12_black_22 rfl (lv_at hl 1 rfl) ?_
  refine va_zald hx hb hK hP 1 3 rfl rfl (by unfold vp_in; decide) dX12_black_23 ?_
  refine gp_ni 0 rfl ?_
  refine lv_if_eq (tgt := 51) hx hb dX12_black_24 (by decide) (fun c_169 => ?_) (fun c_169 => absurd (by decide) c_169)
  refine lv_iinc (v := 3) (lv' := [(3, .int 3), (2, .int 9), (1, .int 0), (0, .ref (ma 200))]) hx hb dX12_black_51 hl (k := 0) rfl (by decide) (by decide) rfl (fun ls hl => ?_)
  refine lv_goto (tgt := 12) hx hb dX12_black_54 (by decide) ?_
  refine lv_iload_n hx hb dX12_black_12 rfl (lv_at hl 0 rfl) ?_
  refine lv_bipush (v := 8) hx hb dX12_black_13 (by decide) ?_
  refine lv_icmp_ge (tgt := 57) hx hb dX12_black_15 (by decide) (fun c_170 => absurd c_170 (by decide)) (fun c_170 => ?_)
  refine lv_aload_n hx hb dX12_black_18 rfl (lv_at hl 3 rfl) ?_
  refine va_get (D := D) (ci := 12) (v := .ref (ma 14)) (C := RX12) (T := TX12) (N := 104) hx hb hts hiX12 hown hK hP 0 rfl rfl 14 (by decide) (hts (.fieldLink RX12 60 "GhostPaneModel" "isWall" "[Z") (List.mem_of_getElem? (i := 1) rfl)) (fun _ h9 => h9) rfl dX12_black_19 ?_
  refine lv_iload_n hx hb dX12_black_22 rfl (lv_at hl 1 rfl) ?_
  refine va_zald hx hb hK hP 1 3 rfl rfl (by unfold vp_in; decide) dX12_black_23 ?_
  refine gp_ni 0 rfl ?_
  refine lv_if_eq (tgt := 51) hx hb dX12_black_24 (by decide) (fun c_171 => ?_) (fun c_171 => absurd (by decide) c_171)
  refine lv_iinc (v := 4) (lv' := [(3, .int 4), (2, .int 9), (1, .int 0), (0, .ref (ma 200))]) hx hb dX12_black_51 hl (k := 0) rfl (by decide) (by decide) rfl (fun ls hl => ?_)
  refine lv_goto (tgt := 12) hx hb dX12_black_54 (by decide) ?_
  refine lv_iload_n hx hb dX12_black_12 rfl (lv_at hl 0 rfl) ?_
  refine lv_bipush (v := 8) hx hb dX12_black_13 (by decide) ?_
  refine lv_icmp_ge (tgt := 57) hx hb dX12_black_15 (by decide) (fun c_172 => absurd c_172 (by decide)) (fun c_172 => ?_)
  refine lv_aload_n hx hb dX12_black_18 rfl (lv_at hl 3 rfl) ?_
  refine va_get (D := D) (ci := 12) (v := .ref (ma 14)) (C := RX12) (T := TX12) (N := 104) hx hb hts hiX12 hown hK hP 0 rfl rfl 14 (by decide) (hts (.fieldLink RX12 60 "GhostPaneModel" "isWall" "[Z") (List.mem_of_getElem? (i := 1) rfl)) (fun _ h9 => h9) rfl dX12_black_19 ?_
  refine lv_iload_n hx hb dX12_black_22 rfl (lv_at hl 1 rfl) ?_
  refine va_zald hx hb hK hP 1 3 rfl rfl (by unfold vp_in; decide) dX12_black_23 ?_
  refine gp_ni 0 rfl ?_
  refine lv_if_eq (tgt := 51) hx hb dX12_black_24 (by decide) (fun c_173 => ?_) (fun c_173 => absurd (by decide) c_173)
  refine lv_iinc (v := 5) (lv' := [(3, .int 5), (2, .int 9), (1, .int 0), (0, .ref (ma 200))]) hx hb dX12_black_51 hl (k := 0) rfl (by decide) (by decide) rfl (fun ls hl => ?_)
  refine lv_goto (tgt := 12) hx hb dX12_black_54 (by decide) ?_
  refine lv_iload_n hx hb dX12_black_12 rfl (lv_at hl 0 rfl) ?_
  refine lv_bipush (v := 8) hx hb dX12_black_13 (by decide) ?_
  refine lv_icmp_ge (tgt := 57) hx hb dX12_black_15 (by decide) (fun c_174 => absurd c_174 (by decide)) (fun c_174 => ?_)
  refine lv_aload_n hx hb dX12_black_18 rfl (lv_at hl 3 rfl) ?_
  refine va_get (D := D) (ci := 12) (v := .ref (ma 14)) (C := RX12) (T := TX12) (N := 104) hx hb hts hiX12 hown hK hP 0 rfl rfl 14 (by decide) (hts (.fieldLink RX12 60 "GhostPaneModel" "isWall" "[Z") (List.mem_of_getElem? (i := 1) rfl)) (fun _ h9 => h9) rfl dX12_black_19 ?_
  refine lv_iload_n hx hb dX12_black_22 rfl (lv_at hl 1 rfl) ?_
  refine va_zald hx hb hK hP 1 3 rfl rfl (by unfold vp_in; decide) dX12_black_23 ?_
  refine gp_ni 0 rfl ?_
  refine lv_if_eq (tgt := 51) hx hb dX12_black_24 (by decide) (fun c_175 => ?_) (fun c_175 => absurd (by decide) c_175)
  refine lv_iinc (v := 6) (lv' := [(3, .int 6), (2, .int 9), (1, .int 0), (0, .ref (ma 200))]) hx hb dX12_black_51 hl (k := 0) rfl (by decide) (by decide) rfl (fun ls hl => ?_)
  refine lv_goto (tgt := 12) hx hb dX12_black_54 (by decide) ?_
  refine lv_iload_n hx hb dX12_black_12 rfl (lv_at hl 0 rfl) ?_
  refine lv_bipush (v := 8) hx hb dX12_black_13 (by decide) ?_
  refine lv_icmp_ge (tgt := 57) hx hb dX12_black_15 (by decide) (fun c_176 => absurd c_176 (by decide)) (fun c_176 => ?_)
  refine lv_aload_n hx hb dX12_black_18 rfl (lv_at hl 3 rfl) ?_
  refine va_get (D := D) (ci := 12) (v := .ref (ma 14)) (C := RX12) (T := TX12) (N := 104) hx hb hts hiX12 hown hK hP 0 rfl rfl 14 (by decide) (hts (.fieldLink RX12 60 "GhostPaneModel" "isWall" "[Z") (List.mem_of_getElem? (i := 1) rfl)) (fun _ h9 => h9) rfl dX12_black_19 ?_
  refine lv_iload_n hx hb dX12_black_22 rfl (lv_at hl 1 rfl) ?_
  refine va_zald hx hb hK hP 1 3 rfl rfl (by unfold vp_in; decide) dX12_black_23 ?_
  refine gp_ni 0 rfl ?_
  refine lv_if_eq (tgt := 51) hx hb dX12_black_24 (by decide) (fun c_177 => ?_) (fun c_177 => absurd (by decide) c_177)
  refine lv_iinc (v := 7) (lv' := [(3, .int 7), (2, .int 9), (1, .int 0), (0, .ref (ma 200))]) hx hb dX12_black_51 hl (k := 0) rfl (by decide) (by decide) rfl (fun ls hl => ?_)
  refine lv_goto (tgt := 12) hx hb dX12_black_54 (by decide) ?_
  refine lv_iload_n hx hb dX12_black_12 rfl (lv_at hl 0 rfl) ?_
  refine lv_bipush (v := 8) hx hb dX12_black_13 (by decide) ?_
  refine lv_icmp_ge (tgt := 57) hx hb dX12_black_15 (by decide) (fun c_178 => absurd c_178 (by decide)) (fun c_178 => ?_)
  refine lv_aload_n hx hb dX12_black_18 rfl (lv_at hl 3 rfl) ?_
  refine va_get (D := D) (ci := 12) (v := .ref (ma 14)) (C := RX12) (T := TX12) (N := 104) hx hb hts hiX12 hown hK hP 0 rfl rfl 14 (by decide) (hts (.fieldLink RX12 60 "GhostPaneModel" "isWall" "[Z") (List.mem_of_getElem? (i := 1) rfl)) (fun _ h9 => h9) rfl dX12_black_19 ?_
  refine lv_iload_n hx hb dX12_black_22 rfl (lv_at hl 1 rfl) ?_
  refine va_zald hx hb hK hP 1 3 rfl rfl (by unfold vp_in; decide) dX12_black_23 ?_
  refine gp_ni 0 rfl ?_
  refine lv_if_eq (tgt := 51) hx hb dX12_black_24 (by decide) (fun c_179 => ?_) (fun c_179 => absurd (by decide) c_179)
  refine lv_iinc (v := 8) (lv' := [(3, .int 8), (2, .int 9), (1, .int 0), (0, .ref (ma 200))]) hx hb dX12_black_51 hl (k := 0) rfl (by decide) (by decide) rfl (fun ls hl => ?_)
  refine lv_goto (tgt := 12) hx hb dX12_black_54 (by decide) ?_
  refine lv_iload_n hx hb dX12_black_12 rfl (lv_at hl 0 rfl) ?_
  refine lv_bipush (v := 8) hx hb dX12_black_13 (by decide) ?_
  refine lv_icmp_ge (tgt := 57) hx hb dX12_black_15 (by decide) (fun c_180 => ?_) (fun c_180 => absurd (by decide) c_180)
  refine lv_iinc (v := 10) (lv' := [(2, .int 10), (3, .int 8), (1, .int 0), (0, .ref (ma 200))]) hx hb dX12_black_57 hl (k := 1) rfl (by decide) (by decide) rfl (fun ls hl => ?_)
  refine lv_goto (tgt := 4) hx hb dX12_black_60 (by decide) ?_
  refine lv_iload_n hx hb dX12_black_4 rfl (lv_at hl 0 rfl) ?_
  refine lv_bipush (v := 12) hx hb dX12_black_5 (by decide) ?_
  refine lv_icmp_ge (tgt := 63) hx hb dX12_black_7 (by decide) (fun c_181 => absurd c_181 (by decide)) (fun c_181 => ?_)
  refine lv_iconst (v := 0) hx hb dX12_black_10 (by decide) ?_
  refine lv_istore_n (lv' := [(3, .int 0), (2, .int 10), (1, .int 0), (0, .ref (ma 200))]) hx hb dX12_black_11 rfl hl (by decide) rfl (fun ls hl => ?_)
  refine lv_iload_n hx hb dX12_black_12 rfl (lv_at hl 0 rfl) ?_
  refine lv_bipush (v := 8) hx hb dX12_black_13 (by decide) ?_
  refine lv_icmp_ge (tgt := 57) hx hb dX12_black_15 (by decide) (fun c_182 => absurd c_182 (by decide)) (fun c_182 => ?_)
  refine lv_aload_n hx hb dX12_black_18 rfl (lv_at hl 3 rfl) ?_
  refine va_get (D := D) (ci := 12) (v := .ref (ma 14)) (C := RX12) (T := TX12) (N := 104) hx hb hts hiX12 hown hK hP 0 rfl rfl 14 (by decide) (hts (.fieldLink RX12 60 "GhostPaneModel" "isWall" "[Z") (List.mem_of_getElem? (i := 1) rfl)) (fun _ h9 => h9) rfl dX12_black_19 ?_
  refine lv_iload_n hx hb dX12_black_22 rfl (lv_at hl 1 rfl) ?_
  refine va_zald hx hb hK hP 1 3 rfl rfl (by unfold vp_in; decide) dX12_black_23 ?_
  refine gp_ni 0 rfl ?_
  refine lv_if_eq (tgt := 51) hx hb dX12_black_24 (by decide) (fun c_183 => ?_) (fun c_183 => absurd (by decide) c_183)
  refine lv_iinc (v := 1) (lv' := [(3, .int 1), (2, .int 10), (1, .int 0), (0, .ref (ma 200))]) hx hb dX12_black_51 hl (k := 0) rfl (by decide) (by decide) rfl (fun ls hl => ?_)
  refine lv_goto (tgt := 12) hx hb dX12_black_54 (by decide) ?_
  refine lv_iload_n hx hb dX12_black_12 rfl (lv_at hl 0 rfl) ?_
  refine lv_bipush (v := 8) hx hb dX12_black_13 (by decide) ?_
  refine lv_icmp_ge (tgt := 57) hx hb dX12_black_15 (by decide) (fun c_184 => absurd c_184 (by decide)) (fun c_184 => ?_)
  refine lv_aload_n hx hb dX12_black_18 rfl (lv_at hl 3 rfl) ?_
  refine va_get (D := D) (ci := 12) (v := .ref (ma 14)) (C := RX12) (T := TX12) (N := 104) hx hb hts hiX12 hown hK hP 0 rfl rfl 14 (by decide) (hts (.fieldLink RX12 60 "GhostPaneModel" "isWall" "[Z") (List.mem_of_getElem? (i := 1) rfl)) (fun _ h9 => h9) rfl dX12_black_19 ?_
  refine lv_iload_n hx hb dX12_black_22 rfl (lv_at hl 1 rfl) ?_
  refine va_zald hx hb hK hP 1 3 rfl rfl (by unfold vp_in; decide) dX12_black_23 ?_
  refine gp_ni 0 rfl ?_
  refine lv_if_eq (tgt := 51) hx hb dX12_black_24 (by decide) (fun c_185 => ?_) (fun c_185 => absurd (by decide) c_185)
  refine lv_iinc (v := 2) (lv' := [(3, .int 2), (2, .int 10), (1, .int 0), (0, .ref (ma 200))]) hx hb dX12_black_51 hl (k := 0) rfl (by decide) (by decide) rfl (fun ls hl => ?_)
  refine lv_goto (tgt := 12) hx hb dX12_black_54 (by decide) ?_
  refine lv_iload_n hx hb dX12_black_12 rfl (lv_at hl 0 rfl) ?_
  refine lv_bipush (v := 8) hx hb dX12_black_13 (by decide) ?_
  refine lv_icmp_ge (tgt := 57) hx hb dX12_black_15 (by decide) (fun c_186 => absurd c_186 (by decide)) (fun c_186 => ?_)
  refine lv_aload_n hx hb dX12_black_18 rfl (lv_at hl 3 rfl) ?_
  refine va_get (D := D) (ci := 12) (v := .ref (ma 14)) (C := RX12) (T := TX12) (N := 104) hx hb hts hiX12 hown hK hP 0 rfl rfl 14 (by decide) (hts (.fieldLink RX12 60 "GhostPaneModel" "isWall" "[Z") (List.mem_of_getElem? (i := 1) rfl)) (fun _ h9 => h9) rfl dX12_black_19 ?_
  refine lv_iload_n hx hb dX12_black_22 rfl (lv_at hl 1 rfl) ?_
  refine va_zald hx hb hK hP 1 3 rfl rfl (by unfold vp_in; decide) dX12_black_23 ?_
  refine gp_ni 0 rfl ?_
  refine lv_if_eq (tgt := 51) hx hb dX12_black_24 (by decide) (fun c_187 => ?_) (fun c_187 => absurd (by decide) c_187)
  refine lv_iinc (v := 3) (lv' := [(3, .int 3), (2, .int 10), (1, .int 0), (0, .ref (ma 200))]) hx hb dX12_black_51 hl (k := 0) rfl (by decide) (by decide) rfl (fun ls hl => ?_)
  refine lv_goto (tgt := 12) hx hb dX12_black_54 (by decide) ?_
  refine lv_iload_n hx hb dX12_black_12 rfl (lv_at hl 0 rfl) ?_
  refine lv_bipush (v := 8) hx hb dX12_black_13 (by decide) ?_
  refine lv_icmp_ge (tgt := 57) hx hb dX12_black_15 (by decide) (fun c_188 => absurd c_188 (by decide)) (fun c_188 => ?_)
  refine lv_aload_n hx hb dX12_black_18 rfl (lv_at hl 3 rfl) ?_
  refine va_get (D := D) (ci := 12) (v := .ref (ma 14)) (C := RX12) (T := TX12) (N := 104) hx hb hts hiX12 hown hK hP 0 rfl rfl 14 (by decide) (hts (.fieldLink RX12 60 "GhostPaneModel" "isWall" "[Z") (List.mem_of_getElem? (i := 1) rfl)) (fun _ h9 => h9) rfl dX12_black_19 ?_
  refine lv_iload_n hx hb dX12_black_22 rfl (lv_at hl 1 rfl) ?_
  refine va_zald hx hb hK hP 1 3 rfl rfl (by unfold vp_in; decide) dX12_black_23 ?_
  refine gp_ni 0 rfl ?_
  refine lv_if_eq (tgt := 51) hx hb dX12_black_24 (by decide) (fun c_189 => ?_) (fun c_189 => absurd (by decide) c_189)
  refine lv_iinc (v := 4) (lv' := [(3, .int 4), (2, .int 10), (1, .int 0), (0, .ref (ma 200))]) hx hb dX12_black_51 hl (k := 0) rfl (by decide) (by decide) rfl (fun ls hl => ?_)
  refine lv_goto (tgt := 12) hx hb dX12_black_54 (by decide) ?_
  refine lv_iload_n hx hb dX12_black_12 rfl (lv_at hl 0 rfl) ?_
  refine lv_bipush (v := 8) hx hb dX12_black_13 (by decide) ?_
  refine lv_icmp_ge (tgt := 57) hx hb dX12_black_15 (by decide) (fun c_190 => absurd c_190 (by decide)) (fun c_190 => ?_)
  refine lv_aload_n hx hb dX12_black_18 rfl (lv_at hl 3 rfl) ?_
  refine va_get (D := D) (ci := 12) (v := .ref (ma 14)) (C := RX12) (T := TX12) (N := 104) hx hb hts hiX12 hown hK hP 0 rfl rfl 14 (by decide) (hts (.fieldLink RX12 60 "GhostPaneModel" "isWall" "[Z") (List.mem_of_getElem? (i := 1) rfl)) (fun _ h9 => h9) rfl dX12_black_19 ?_
  refine lv_iload_n hx hb dX12_black_22 rfl (lv_at hl 1 rfl) ?_
  refine va_zald hx hb hK hP 1 3 rfl rfl (by unfold vp_in; decide) dX12_black_23 ?_
  refine gp_ni 0 rfl ?_
  refine lv_if_eq (tgt := 51) hx hb dX12_black_24 (by decide) (fun c_191 => ?_) (fun c_191 => absurd (by decide) c_191)
  refine lv_iinc (v := 5) (lv' := [(3, .int 5), (2, .int 10), (1, .int 0), (0, .ref (ma 200))]) hx hb dX12_black_51 hl (k := 0) rfl (by decide) (by decide) rfl (fun ls hl => ?_)
  refine lv_goto (tgt := 12) hx hb dX12_black_54 (by decide) ?_
  refine lv_iload_n hx hb dX12_black_12 rfl (lv_at hl 0 rfl) ?_
  refine lv_bipush (v := 8) hx hb dX12_black_13 (by decide) ?_
  refine lv_icmp_ge (tgt := 57) hx hb dX12_black_15 (by decide) (fun c_192 => absurd c_192 (by decide)) (fun c_192 => ?_)
  refine lv_aload_n hx hb dX12_black_18 rfl (lv_at hl 3 rfl) ?_
  refine va_get (D := D) (ci := 12) (v := .ref (ma 14)) (C := RX12) (T := TX12) (N := 104) hx hb hts hiX12 hown hK hP 0 rfl rfl 14 (by decide) (hts (.fieldLink RX12 60 "GhostPaneModel" "isWall" "[Z") (List.mem_of_getElem? (i := 1) rfl)) (fun _ h9 => h9) rfl dX12_black_19 ?_
  refine lv_iload_n hx hb dX12_black_22 rfl (lv_at hl 1 rfl) ?_
  refine va_zald hx hb hK hP 1 3 rfl rfl (by unfold vp_in; decide) dX12_black_23 ?_
  refine gp_ni 0 rfl ?_
  refine lv_if_eq (tgt := 51) hx hb dX12_black_24 (by decide) (fun c_193 => ?_) (fun c_193 => absurd (by decide) c_193)
  refine lv_iinc (v := 6) (lv' := [(3, .int 6), (2, .int 10), (1, .int 0), (0, .ref (ma 200))]) hx hb dX12_black_51 hl (k := 0) rfl (by decide) (by decide) rfl (fun ls hl => ?_)
  refine lv_goto (tgt := 12) hx hb dX12_black_54 (by decide) ?_
  refine lv_iload_n hx hb dX12_black_12 rfl (lv_at hl 0 rfl) ?_
  refine lv_bipush (v := 8) hx hb dX12_black_13 (by decide) ?_
  refine lv_icmp_ge (tgt := 57) hx hb dX12_black_15 (by decide) (fun c_194 => absurd c_194 (by decide)) (fun c_194 => ?_)
  refine lv_aload_n hx hb dX12_black_18 rfl (lv_at hl 3 rfl) ?_
  refine va_get (D := D) (ci := 12) (v := .ref (ma 14)) (C := RX12) (T := TX12) (N := 104) hx hb hts hiX12 hown hK hP 0 rfl rfl 14 (by decide) (hts (.fieldLink RX12 60 "GhostPaneModel" "isWall" "[Z") (List.mem_of_getElem? (i := 1) rfl)) (fun _ h9 => h9) rfl dX12_black_19 ?_
  refine lv_iload_n hx hb dX12_black_22 rfl (lv_at hl 1 rfl) ?_
  refine va_zald hx hb hK hP 1 3 rfl rfl (by unfold vp_in; decide) dX12_black_23 ?_
  refine gp_ni 0 rfl ?_
  refine lv_if_eq (tgt := 51) hx hb dX12_black_24 (by decide) (fun c_195 => ?_) (fun c_195 => absurd (by decide) c_195)
  refine lv_iinc (v := 7) (lv' := [(3, .int 7), (2, .int 10), (1, .int 0), (0, .ref (ma 200))]) hx hb dX12_black_51 hl (k := 0) rfl (by decide) (by decide) rfl (fun ls hl => ?_)
  refine lv_goto (tgt := 12) hx hb dX12_black_54 (by decide) ?_
  refine lv_iload_n hx hb dX12_black_12 rfl (lv_at hl 0 rfl) ?_
  refine lv_bipush (v := 8) hx hb dX12_black_13 (by decide) ?_
  refine lv_icmp_ge (tgt := 57) hx hb dX12_black_15 (by decide) (fun c_196 => absurd c_196 (by decide)) (fun c_196 => ?_)
  refine lv_aload_n hx hb dX12_black_18 rfl (lv_at hl 3 rfl) ?_
  refine va_get (D := D) (ci := 12) (v := .ref (ma 14)) (C := RX12) (T := TX12) (N := 104) hx hb hts hiX12 hown hK hP 0 rfl rfl 14 (by decide) (hts (.fieldLink RX12 60 "GhostPaneModel" "isWall" "[Z") (List.mem_of_getElem? (i := 1) rfl)) (fun _ h9 => h9) rfl dX12_black_19 ?_
  refine lv_iload_n hx hb dX12_black_22 rfl (lv_at hl 1 rfl) ?_
  refine va_zald hx hb hK hP 1 3 rfl rfl (by unfold vp_in; decide) dX12_black_23 ?_
  refine gp_ni 0 rfl ?_
  refine lv_if_eq (tgt := 51) hx hb dX12_black_24 (by decide) (fun c_197 => ?_) (fun c_197 => absurd (by decide) c_197)
  refine lv_iinc (v := 8) (lv' := [(3, .int 8), (2, .int 10), (1, .int 0), (0, .ref (ma 200))]) hx hb dX12_black_51 hl (k := 0) rfl (by decide) (by decide) rfl (fun ls hl => ?_)
  refine lv_goto (tgt := 12) hx hb dX12_black_54 (by decide) ?_
  refine lv_iload_n hx hb dX12_black_12 rfl (lv_at hl 0 rfl) ?_
  refine lv_bipush (v := 8) hx hb dX12_black_13 (by decide) ?_
  refine lv_icmp_ge (tgt := 57) hx hb dX12_black_15 (by decide) (fun c_198 => ?_) (fun c_198 => absurd (by decide) c_198)
  refine lv_iinc (v := 11) (lv' := [(2, .int 11), (3, .int 8), (1, .int 0), (0, .ref (ma 200))]) hx hb dX12_black_57 hl (k := 1) rfl (by decide) (by decide) rfl (fun ls hl => ?_)
  refine lv_goto (tgt := 4) hx hb dX12_black_60 (by decide) ?_
  refine lv_iload_n hx hb dX12_black_4 rfl (lv_at hl 0 rfl) ?_
  refine lv_bipush (v := 12) hx hb dX12_black_5 (by decide) ?_
  refine lv_icmp_ge (tgt := 63) hx hb dX12_black_7 (by decide) (fun c_199 => absurd c_199 (by decide)) (fun c_199 => ?_)
  refine lv_iconst (v := 0) hx hb dX12_black_10 (by decide) ?_
  refine lv_istore_n (lv' := [(3, .int 0), (2, .int 11), (1, .int 0), (0, .ref (ma 200))]) hx hb dX12_black_11 rfl hl (by decide) rfl (fun ls hl => ?_)
  refine lv_iload_n hx hb dX12_black_12 rfl (lv_at hl 0 rfl) ?_
  refine lv_bipush (v := 8) hx hb dX12_black_13 (by decide) ?_
  refine lv_icmp_ge (tgt := 57) hx hb dX12_black_15 (by decide) (fun c_200 => absurd c_200 (by decide)) (fun c_200 => ?_)
  refine lv_aload_n hx hb dX12_black_18 rfl (lv_at hl 3 rfl) ?_
  refine va_get (D := D) (ci := 12) (v := .ref (ma 14)) (C := RX12) (T := TX12) (N := 104) hx hb hts hiX12 hown hK hP 0 rfl rfl 14 (by decide) (hts (.fieldLink RX12 60 "GhostPaneModel" "isWall" "[Z") (List.mem_of_getElem? (i := 1) rfl)) (fun _ h9 => h9) rfl dX12_black_19 ?_
  refine lv_iload_n hx hb dX12_black_22 rfl (lv_at hl 1 rfl) ?_
  refine va_zald hx hb hK hP 1 3 rfl rfl (by unfold vp_in; decide) dX12_black_23 ?_
  refine gp_ni 0 rfl ?_
  refine lv_if_eq (tgt := 51) hx hb dX12_black_24 (by decide) (fun c_201 => ?_) (fun c_201 => absurd (by decide) c_201)
  refine lv_iinc (v := 1) (lv' := [(3, .int 1), (2, .int 11), (1, .int 0), (0, .ref (ma 200))]) hx hb dX12_black_51 hl (k := 0) rfl (by decide) (by decide) rfl (fun ls hl => ?_)
  refine lv_goto (tgt := 12) hx hb dX12_black_54 (by decide) ?_
  refine lv_iload_n hx hb dX12_black_12 rfl (lv_at hl 0 rfl) ?_
  refine lv_bipush (v := 8) hx hb dX12_black_13 (by decide) ?_
  refine lv_icmp_ge (tgt := 57) hx hb dX12_black_15 (by decide) (fun c_202 => absurd c_202 (by decide)) (fun c_202 => ?_)
  refine lv_aload_n hx hb dX12_black_18 rfl (lv_at hl 3 rfl) ?_
  refine va_get (D := D) (ci := 12) (v := .ref (ma 14)) (C := RX12) (T := TX12) (N := 104) hx hb hts hiX12 hown hK hP 0 rfl rfl 14 (by decide) (hts (.fieldLink RX12 60 "GhostPaneModel" "isWall" "[Z") (List.mem_of_getElem? (i := 1) rfl)) (fun _ h9 => h9) rfl dX12_black_19 ?_
  refine lv_iload_n hx hb dX12_black_22 rfl (lv_at hl 1 rfl) ?_
  refine va_zald hx hb hK hP 1 3 rfl rfl (by unfold vp_in; decide) dX12_black_23 ?_
  refine gp_ni 0 rfl ?_
  refine lv_if_eq (tgt := 51) hx hb dX12_black_24 (by decide) (fun c_203 => ?_) (fun c_203 => absurd (by decide) c_203)
  refine lv_iinc (v := 2) (lv' := [(3, .int 2), (2, .int 11), (1, .int 0), (0, .ref (ma 200))]) hx hb dX12_black_51 hl (k := 0) rfl (by decide) (by decide) rfl (fun ls hl => ?_)
  refine lv_goto (tgt := 12) hx hb dX12_black_54 (by decide) ?_
  refine lv_iload_n hx hb dX12_black_12 rfl (lv_at hl 0 rfl) ?_
  refine lv_bipush (v := 8) hx hb dX12_black_13 (by decide) ?_
  refine lv_icmp_ge (tgt := 57) hx hb dX12_black_15 (by decide) (fun c_204 => absurd c_204 (by decide)) (fun c_204 => ?_)
  refine lv_aload_n hx hb dX12_black_18 rfl (lv_at hl 3 rfl) ?_
  refine va_get (D := D) (ci := 12) (v := .ref (ma 14)) (C := RX12) (T := TX12) (N := 104) hx hb hts hiX12 hown hK hP 0 rfl rfl 14 (by decide) (hts (.fieldLink RX12 60 "GhostPaneModel" "isWall" "[Z") (List.mem_of_getElem? (i := 1) rfl)) (fun _ h9 => h9) rfl dX12_black_19 ?_
  refine lv_iload_n hx hb dX12_black_22 rfl (lv_at hl 1 rfl) ?_
  refine va_zald hx hb hK hP 1 3 rfl rfl (by unfold vp_in; decide) dX12_black_23 ?_
  refine gp_ni 0 rfl ?_
  refine lv_if_eq (tgt := 51) hx hb dX12_black_24 (by decide) (fun c_205 => ?_) (fun c_205 => absurd (by decide) c_205)
  refine lv_iinc (v := 3) (lv' := [(3, .int 3), (2, .int 11), (1, .int 0), (0, .ref (ma 200))]) hx hb dX12_black_51 hl (k := 0) rfl (by decide) (by decide) rfl (fun ls hl => ?_)
  refine lv_goto (tgt := 12) hx hb dX12_black_54 (by decide) ?_
  refine lv_iload_n hx hb dX12_black_12 rfl (lv_at hl 0 rfl) ?_
  refine lv_bipush (v := 8) hx hb dX12_black_13 (by decide) ?_
  refine lv_icmp_ge (tgt := 57) hx hb dX12_black_15 (by decide) (fun c_206 => absurd c_206 (by decide)) (fun c_206 => ?_)
  refine lv_aload_n hx hb dX12_black_18 rfl (lv_at hl 3 rfl) ?_
  refine va_get (D := D) (ci := 12) (v := .ref (ma 14)) (C := RX12) (T := TX12) (N := 104) hx hb hts hiX12 hown hK hP 0 rfl rfl 14 (by decide) (hts (.fieldLink RX12 60 "GhostPaneModel" "isWall" "[Z") (List.mem_of_getElem? (i := 1) rfl)) (fun _ h9 => h9) rfl dX12_black_19 ?_
  refine lv_iload_n hx hb dX12_black_22 rfl (lv_at hl 1 rfl) ?_
  refine va_zald hx hb hK hP 1 3 rfl rfl (by unfold vp_in; decide) dX12_black_23 ?_
  refine gp_ni 0 rfl ?_
  refine lv_if_eq (tgt := 51) hx hb dX12_black_24 (by decide) (fun c_207 => ?_) (fun c_207 => absurd (by decide) c_207)
  refine lv_iinc (v := 4) (lv' := [(3, .int 4), (2, .int 11), (1, .int 0), (0, .ref (ma 200))]) hx hb dX12_black_51 hl (k := 0) rfl (by decide) (by decide) rfl (fun ls hl => ?_)
  refine lv_goto (tgt := 12) hx hb dX12_black_54 (by decide) ?_
  refine lv_iload_n hx hb dX12_black_12 rfl (lv_at hl 0 rfl) ?_
  refine lv_bipush (v := 8) hx hb dX12_black_13 (by decide) ?_
  refine lv_icmp_ge (tgt := 57) hx hb dX12_black_15 (by decide) (fun c_208 => absurd c_208 (by decide)) (fun c_208 => ?_)
  refine lv_aload_n hx hb dX12_black_18 rfl (lv_at hl 3 rfl) ?_
  refine va_get (D := D) (ci := 12) (v := .ref (ma 14)) (C := RX12) (T := TX12) (N := 104) hx hb hts hiX12 hown hK hP 0 rfl rfl 14 (by decide) (hts (.fieldLink RX12 60 "GhostPaneModel" "isWall" "[Z") (List.mem_of_getElem? (i := 1) rfl)) (fun _ h9 => h9) rfl dX12_black_19 ?_
  refine lv_iload_n hx hb dX12_black_22 rfl (lv_at hl 1 rfl) ?_
  refine va_zald hx hb hK hP 1 3 rfl rfl (by unfold vp_in; decide) dX12_black_23 ?_
  refine gp_ni 0 rfl ?_
  refine lv_if_eq (tgt := 51) hx hb dX12_black_24 (by decide) (fun c_209 => ?_) (fun c_209 => absurd (by decide) c_209)
  refine lv_iinc (v := 5) (lv' := [(3, .int 5), (2, .int 11), (1, .int 0), (0, .ref (ma 200))]) hx hb dX12_black_51 hl (k := 0) rfl (by decide) (by decide) rfl (fun ls hl => ?_)
  refine lv_goto (tgt := 12) hx hb dX12_black_54 (by decide) ?_
  refine lv_iload_n hx hb dX12_black_12 rfl (lv_at hl 0 rfl) ?_
  refine lv_bipush (v := 8) hx hb dX12_black_13 (by decide) ?_
  refine lv_icmp_ge (tgt := 57) hx hb dX12_black_15 (by decide) (fun c_210 => absurd c_210 (by decide)) (fun c_210 => ?_)
  refine lv_aload_n hx hb dX12_black_18 rfl (lv_at hl 3 rfl) ?_
  refine va_get (D := D) (ci := 12) (v := .ref (ma 14)) (C := RX12) (T := TX12) (N := 104) hx hb hts hiX12 hown hK hP 0 rfl rfl 14 (by decide) (hts (.fieldLink RX12 60 "GhostPaneModel" "isWall" "[Z") (List.mem_of_getElem? (i := 1) rfl)) (fun _ h9 => h9) rfl dX12_black_19 ?_
  refine lv_iload_n hx hb dX12_black_22 rfl (lv_at hl 1 rfl) ?_
  refine va_zald hx hb hK hP 1 3 rfl rfl (by unfold vp_in; decide) dX12_black_23 ?_
  refine gp_ni 0 rfl ?_
  refine lv_if_eq (tgt := 51) hx hb dX12_black_24 (by decide) (fun c_211 => ?_) (fun c_211 => absurd (by decide) c_211)
  refine lv_iinc (v := 6) (lv' := [(3, .int 6), (2, .int 11), (1, .int 0), (0, .ref (ma 200))]) hx hb dX12_black_51 hl (k := 0) rfl (by decide) (by decide) rfl (fun ls hl => ?_)
  refine lv_goto (tgt := 12) hx hb dX12_black_54 (by decide) ?_
  refine lv_iload_n hx hb dX12_black_12 rfl (lv_at hl 0 rfl) ?_
  refine lv_bipush (v := 8) hx hb dX12_black_13 (by decide) ?_
  refine lv_icmp_ge (tgt := 57) hx hb dX12_black_15 (by decide) (fun c_212 => absurd c_212 (by decide)) (fun c_212 => ?_)
  refine lv_aload_n hx hb dX12_black_18 rfl (lv_at hl 3 rfl) ?_
  refine va_get (D := D) (ci := 12) (v := .ref (ma 14)) (C := RX12) (T := TX12) (N := 104) hx hb hts hiX12 hown hK hP 0 rfl rfl 14 (by decide) (hts (.fieldLink RX12 60 "GhostPaneModel" "isWall" "[Z") (List.mem_of_getElem? (i := 1) rfl)) (fun _ h9 => h9) rfl dX12_black_19 ?_
  refine lv_iload_n hx hb dX12_black_22 rfl (lv_at hl 1 rfl) ?_
  refine va_zald hx hb hK hP 1 3 rfl rfl (by unfold vp_in; decide) dX12_black_23 ?_
  refine gp_ni 0 rfl ?_
  refine lv_if_eq (tgt := 51) hx hb dX12_black_24 (by decide) (fun c_213 => ?_) (fun c_213 => absurd (by decide) c_213)
  refine lv_iinc (v := 7) (lv' := [(3, .int 7), (2, .int 11), (1, .int 0), (0, .ref (ma 200))]) hx hb dX12_black_51 hl (k := 0) rfl (by decide) (by decide) rfl (fun ls hl => ?_)
  refine lv_goto (tgt := 12) hx hb dX12_black_54 (by decide) ?_
  refine lv_iload_n hx hb dX12_black_12 rfl (lv_at hl 0 rfl) ?_
  refine lv_bipush (v := 8) hx hb dX12_black_13 (by decide) ?_
  refine lv_icmp_ge (tgt := 57) hx hb dX12_black_15 (by decide) (fun c_214 => absurd c_214 (by decide)) (fun c_214 => ?_)
  refine lv_aload_n hx hb dX12_black_18 rfl (lv_at hl 3 rfl) ?_
  refine va_get (D := D) (ci := 12) (v := .ref (ma 14)) (C := RX12) (T := TX12) (N := 104) hx hb hts hiX12 hown hK hP 0 rfl rfl 14 (by decide) (hts (.fieldLink RX12 60 "GhostPaneModel" "isWall" "[Z") (List.mem_of_getElem? (i := 1) rfl)) (fun _ h9 => h9) rfl dX12_black_19 ?_
  refine lv_iload_n hx hb dX12_black_22 rfl (lv_at hl 1 rfl) ?_
  refine va_zald hx hb hK hP 1 3 rfl rfl (by unfold vp_in; decide) dX12_black_23 ?_
  refine gp_ni 0 rfl ?_
  refine lv_if_eq (tgt := 51) hx hb dX12_black_24 (by decide) (fun c_215 => ?_) (fun c_215 => absurd (by decide) c_215)
  refine lv_iinc (v := 8) (lv' := [(3, .int 8), (2, .int 11), (1, .int 0), (0, .ref (ma 200))]) hx hb dX12_black_51 hl (k := 0) rfl (by decide) (by decide) rfl (fun ls hl => ?_)
  refine lv_goto (tgt := 12) hx hb dX12_black_54 (by decide) ?_
  refine lv_iload_n hx hb dX12_black_12 rfl (lv_at hl 0 rfl) ?_
  refine lv_bipush (v := 8) hx hb dX12_black_13 (by decide) ?_
  refine lv_icmp_ge (tgt := 57) hx hb dX12_black_15 (by decide) (fun c_216 => ?_) (fun c_216 => absurd (by decide) c_216)
  refine lv_iinc (v := 12) (lv' := [(2, .int 12), (3, .int 8), (1, .int 0), (0, .ref (ma 200))]) hx hb dX12_black_57 hl (k := 1) rfl (by decide) (by decide) rfl (fun ls hl => ?_)
  refine lv_goto (tgt := 4) hx hb dX12_black_60 (by decide) ?_
  refine lv_iload_n hx hb dX12_black_4 rfl (lv_at hl 0 rfl) ?_
  refine lv_bipush (v := 12) hx hb dX12_black_5 (by decide) ?_
  refine lv_icmp_ge (tgt := 63) hx hb dX12_black_7 (by decide) (fun c_217 => ?_) (fun c_217 => absurd (by decide) c_217)
  refine lv_iload_n hx hb dX12_black_63 rfl (lv_at hl 2 rfl) ?_
  exact W.iret (v := 0) hx hb hr (fun t ht hW => ⟨⟨0, (), rfl, rfl, gp_end ht (hP.sub (ws' := []) [] rfl) (hD.sub (ws' := []) [] (by decide) rfl)⟩, hS.F ht⟩) hS.2.2 dX12_black_64

theorem lf_kX12_all_1 (ma : Nat → Nat) (w : Int32) (k_1 : w = 0) : (0 : Int32) = (if sp_in w 0 5 then 0 else (-1)) := by
  first | grind | (simp only [sp_in, sp_pl, sp_far, sp_two] at *; grind)
theorem lf_kX12_all_2 (ma : Nat → Nat) (w : Int32) (k_1 : ¬ w = 0) (k_19 : w = 1) : (0 : Int32) = (if sp_in w 0 5 then 0 else (-1)) := by
  first | grind | (simp only [sp_in, sp_pl, sp_far, sp_two] at *; grind)
theorem lf_kX12_all_3 (ma : Nat → Nat) (w : Int32) (k_1 : ¬ w = 0) (k_19 : ¬ w = 1) (k_45 : w = 2) : (0 : Int32) = (if sp_in w 0 5 then 0 else (-1)) := by
  first | grind | (simp only [sp_in, sp_pl, sp_far, sp_two] at *; grind)
theorem lf_kX12_all_4 (ma : Nat → Nat) (w : Int32) (k_1 : ¬ w = 0) (k_19 : ¬ w = 1) (k_45 : ¬ w = 2) (k_63 : w = 3) : (0 : Int32) = (if sp_in w 0 5 then 0 else (-1)) := by
  first | grind | (simp only [sp_in, sp_pl, sp_far, sp_two] at *; grind)
theorem lf_kX12_all_5 (ma : Nat → Nat) (w : Int32) (k_1 : ¬ w = 0) (k_19 : ¬ w = 1) (k_45 : ¬ w = 2) (k_63 : ¬ w = 3) (k_64 : w = 4) : (0 : Int32) = (if sp_in w 0 5 then 0 else (-1)) := by
  first | grind | (simp only [sp_in, sp_pl, sp_far, sp_two] at *; grind)
theorem lf_kX12_all_6 (ma : Nat → Nat) (w : Int32) (k_1 : ¬ w = 0) (k_19 : ¬ w = 1) (k_45 : ¬ w = 2) (k_63 : ¬ w = 3) (k_64 : ¬ w = 4) (k_66 : w = 5) : (0 : Int32) = (if sp_in w 0 5 then 0 else (-1)) := by
  first | grind | (simp only [sp_in, sp_pl, sp_far, sp_two] at *; grind)
theorem lf_kX12_all_7 (ma : Nat → Nat) (w : Int32) (k_1 : ¬ w = 0) (k_19 : ¬ w = 1) (k_45 : ¬ w = 2) (k_63 : ¬ w = 3) (k_64 : ¬ w = 4) (k_66 : ¬ w = 5) : ((-1) : Int32) = (if sp_in w 0 5 then 0 else (-1)) := by
  first | grind | (simp only [sp_in, sp_pl, sp_far, sp_two] at *; grind)
def v_kX12_all : List Cond := .code yX12_all cX12_all 4 (some .int) :: ([.fieldLink RX12 49 "GhostPaneModel" "isSeat" "[Z", .fieldLink RX12 60 "GhostPaneModel" "isWall" "[Z", .fieldLink RX12 78 "GhostPaneModel" "isThing" "[Z", .fieldLink RX12 559 "GhostPaneModel" "acts" "I", .code yX12_settings cX12_settings 1 (some .int), .fieldLink RX12 504 "GhostPaneModel" "hasGrid" "Z", .methodLink RX12 532 yX12_settings, .instanceMethod yX12_settings, .selects RX12 yX12_settings yX12_settings, .initialized RX12, .fieldLink RX12 464 "GhostPaneModel" "last" "I"] ++ wsX120)
set_option maxRecDepth 20000 in
theorem gg_kX12_all_kX12_settings : GoodIn v_kX12_all v_kX12_settings := goodIn_ca (goodIn_r (.code yX12_settings cX12_settings 1 (some .int) :: [.fieldLink RX12 504 "GhostPaneModel" "hasGrid" "Z"]) [5, 6] rfl (by decide +kernel)) (goodIn_sub (fun _ h => List.mem_cons_of_mem _ (List.mem_append_right _ h)) gwX12)
set_option maxRecDepth 20000 in
theorem g_kX12_all_kX12_settings_0 : GoodIn v_kX12_all (wsV RX12 532 RX12 yX12_settings v_kX12_settings) := goodIn_app (goodIn_r [.methodLink RX12 532 yX12_settings, .instanceMethod yX12_settings, .selects RX12 yX12_settings yX12_settings, .initialized RX12] [7, 8, 9, 10] rfl (by decide +kernel)) gg_kX12_all_kX12_settings
set_option maxHeartbeats 4000000 in
set_option maxRecDepth 100000 in
theorem kX12_all (l : Launch) (D : va_G) (cy : Nat → ClassId) (sz : Nat) (ma : Nat → Nat) (w : Int32) : Met l yX12_all v_kX12_all ({ frames := 1, cells := 0, slots := 0, locals := 20 } : Room) (va_Pc [.ref (ma 200), .int w] (gp_B D cy sz [((ma 200), mo_0 ma), ((ma 11), .inl (cy 3, 8, .inl (fun _ => 0))), ((ma 14), .inl (cy 3, 12, .inl (fun _ => 0))), ((ma 20), .inl (cy 3, 8, .inl (fun _ => 0)))])) (va_Qi (fun (r : Int32) (u : Unit) => r = (if sp_in w 0 5 then 0 else (-1))) (fun u => gp_E D (va_A [((ma 200), mo_0 ma), ((ma 11), .inl (cy 3, 8, .inl (fun _ => 0))), ((ma 14), .inl (cy 3, 12, .inl (fun _ => 0))), ((ma 20), .inl (cy 3, 8, .inl (fun _ => 0)))] sz) []) (va_A [((ma 200), mo_0 ma), ((ma 11), .inl (cy 3, 8, .inl (fun _ => 0))), ((ma 14), .inl (cy 3, 12, .inl (fun _ => 0))), ((ma 20), .inl (cy 3, 8, .inl (fun _ => 0)))] sz)) 0 0 (va_A [((ma 200), mo_0 ma), ((ma 11), .inl (cy 3, 8, .inl (fun _ => 0))), ((ma 14), .inl (cy 3, 12, .inl (fun _ => 0))), ((ma 20), .inl (cy 3, 8, .inl (fun _ => 0)))] sz) := by
  refine gp_met (Qc := fun A => va_Qi (fun (r : Int32) (u : Unit) => r = (if sp_in w 0 5 then 0 else (-1))) (fun u => gp_E D A []) A) (cc := cX12_all) (maxL := 4) (ret := (some .int)) (by decide) rfl (Nat.le_of_ble_eq_true rfl) ?_
  intro p e s m below meth c A ls H hx hb hml hr hlocks hts hown hin hK hN hS hP hD hA hl
  have hown : s.vm.findClass RX12 = some m.cls := hown
  have hl : lv_has ls 4 [(0, .ref (ma 200)), (1, .int w)] := hl
  have hiX12 : ∀ w ∈ u_ws RX12 TX12 104, w ∈ v_kX12_all := fun _ h => List.mem_cons_of_mem _ (List.mem_append_right _ h)
  refine lv_iconst (v := 0) hx hb dX12_all_0 (by decide) ?_
  refine lv_istore_n (lv' := [(2, .int 0), (0, .ref (ma 200)), (1, .int w)]) hx hb dX12_all_1 rfl hl (by decide) rfl (fun ls hl => ?_)
  refine lv_iload_n hx hb dX12_all_2 rfl (lv_at hl 2 rfl) ?_
  by_cases k_1 : w = 0
  · refine lv_tableIn (off := 37) (tgt := 40) hx hb dX12_all_3 (by rw [k_1]; decide) (by rw [k_1]; decide) (by rw [k_1]; decide +kernel) (by decide) ?_
    refine lv_iconst (v := 0) hx hb dX12_all_40 (by decide) ?_
    refine lv_istore_n (lv' := [(3, .int 0), (2, .int 0), (0, .ref (ma 200)), (1, .int w)]) hx hb dX12_all_41 rfl hl (by decide) rfl (fun ls hl => ?_)
    refine lv_iload_n hx hb dX12_all_42 rfl (lv_at hl 0 rfl) ?_
    refine lv_bipush (v := 8) hx hb dX12_all_43 (by decide) ?_
    refine lv_icmp_ge (tgt := 66) hx hb dX12_all_45 (by decide) (fun c_2 => absurd c_2 (by decide)) (fun c_2 => ?_)
    refine lv_aload_n hx hb dX12_all_48 rfl (lv_at hl 2 rfl) ?_
    refine va_get (D := D) (ci := 12) (v := .ref (ma 11)) (C := RX12) (T := TX12) (N := 104) hx hb hts hiX12 hown hK hP 0 rfl rfl 11 (by decide) (hts (.fieldLink RX12 49 "GhostPaneModel" "isSeat" "[Z") (List.mem_of_getElem? (i := 1) rfl)) (fun _ h9 => h9) rfl dX12_all_49 ?_
    refine lv_iload_n hx hb dX12_all_52 rfl (lv_at hl 0 rfl) ?_
    refine va_zald hx hb hK hP 1 3 rfl rfl (by unfold vp_in; decide) dX12_all_53 ?_
    refine gp_ni 0 rfl ?_
    refine lv_if_eq (tgt := 60) hx hb dX12_all_54 (by decide) (fun c_3 => ?_) (fun c_3 => absurd (by decide) c_3)
    refine lv_iinc (v := 1) (lv' := [(3, .int 1), (2, .int 0), (0, .ref (ma 200)), (1, .int w)]) hx hb dX12_all_60 hl (k := 0) rfl (by decide) (by decide) rfl (fun ls hl => ?_)
    refine lv_goto (tgt := 42) hx hb dX12_all_63 (by decide) ?_
    refine lv_iload_n hx hb dX12_all_42 rfl (lv_at hl 0 rfl) ?_
    refine lv_bipush (v := 8) hx hb dX12_all_43 (by decide) ?_
    refine lv_icmp_ge (tgt := 66) hx hb dX12_all_45 (by decide) (fun c_4 => absurd c_4 (by decide)) (fun c_4 => ?_)
    refine lv_aload_n hx hb dX12_all_48 rfl (lv_at hl 2 rfl) ?_
    refine va_get (D := D) (ci := 12) (v := .ref (ma 11)) (C := RX12) (T := TX12) (N := 104) hx hb hts hiX12 hown hK hP 0 rfl rfl 11 (by decide) (hts (.fieldLink RX12 49 "GhostPaneModel" "isSeat" "[Z") (List.mem_of_getElem? (i := 1) rfl)) (fun _ h9 => h9) rfl dX12_all_49 ?_
    refine lv_iload_n hx hb dX12_all_52 rfl (lv_at hl 0 rfl) ?_
    refine va_zald hx hb hK hP 1 3 rfl rfl (by unfold vp_in; decide) dX12_all_53 ?_
    refine gp_ni 0 rfl ?_
    refine lv_if_eq (tgt := 60) hx hb dX12_all_54 (by decide) (fun c_5 => ?_) (fun c_5 => absurd (by decide) c_5)
    refine lv_iinc (v := 2) (lv' := [(3, .int 2), (2, .int 0), (0, .ref (ma 200)), (1, .int w)]) hx hb dX12_all_60 hl (k := 0) rfl (by decide) (by decide) rfl (fun ls hl => ?_)
    refine lv_goto (tgt := 42) hx hb dX12_all_63 (by decide) ?_
    refine lv_iload_n hx hb dX12_all_42 rfl (lv_at hl 0 rfl) ?_
    refine lv_bipush (v := 8) hx hb dX12_all_43 (by decide) ?_
    refine lv_icmp_ge (tgt := 66) hx hb dX12_all_45 (by decide) (fun c_6 => absurd c_6 (by decide)) (fun c_6 => ?_)
    refine lv_aload_n hx hb dX12_all_48 rfl (lv_at hl 2 rfl) ?_
    refine va_get (D := D) (ci := 12) (v := .ref (ma 11)) (C := RX12) (T := TX12) (N := 104) hx hb hts hiX12 hown hK hP 0 rfl rfl 11 (by decide) (hts (.fieldLink RX12 49 "GhostPaneModel" "isSeat" "[Z") (List.mem_of_getElem? (i := 1) rfl)) (fun _ h9 => h9) rfl dX12_all_49 ?_
    refine lv_iload_n hx hb dX12_all_52 rfl (lv_at hl 0 rfl) ?_
    refine va_zald hx hb hK hP 1 3 rfl rfl (by unfold vp_in; decide) dX12_all_53 ?_
    refine gp_ni 0 rfl ?_
    refine lv_if_eq (tgt := 60) hx hb dX12_all_54 (by decide) (fun c_7 => ?_) (fun c_7 => absurd (by decide) c_7)
    refine lv_iinc (v := 3) (lv' := [(3, .int 3), (2, .int 0), (0, .ref (ma 200)), (1, .int w)]) hx hb dX12_all_60 hl (k := 0) rfl (by decide) (by decide) rfl (fun ls hl => ?_)
    refine lv_goto (tgt := 42) hx hb dX12_all_63 (by decide) ?_
    refine lv_iload_n hx hb dX12_all_42 rfl (lv_at hl 0 rfl) ?_
    refine lv_bipush (v := 8) hx hb dX12_all_43 (by decide) ?_
    refine lv_icmp_ge (tgt := 66) hx hb dX12_all_45 (by decide) (fun c_8 => absurd c_8 (by decide)) (fun c_8 => ?_)
    refine lv_aload_n hx hb dX12_all_48 rfl (lv_at hl 2 rfl) ?_
    refine va_get (D := D) (ci := 12) (v := .ref (ma 11)) (C := RX12) (T := TX12) (N := 104) hx hb hts hiX12 hown hK hP 0 rfl rfl 11 (by decide) (hts (.fieldLink RX12 49 "GhostPaneModel" "isSeat" "[Z") (List.mem_of_getElem? (i := 1) rfl)) (fun _ h9 => h9) rfl dX12_all_49 ?_
    refine lv_iload_n hx hb dX12_all_52 rfl (lv_at hl 0 rfl) ?_
    refine va_zald hx hb hK hP 1 3 rfl rfl (by unfold vp_in; decide) dX12_all_53 ?_
    refine gp_ni 0 rfl ?_
    refine lv_if_eq (tgt := 60) hx hb dX12_all_54 (by decide) (fun c_9 => ?_) (fun c_9 => absurd (by decide) c_9)
    refine lv_iinc (v := 4) (lv' := [(3, .int 4), (2, .int 0), (0, .ref (ma 200)), (1, .int w)]) hx hb dX12_all_60 hl (k := 0) rfl (by decide) (by decide) rfl (fun ls hl => ?_)
    refine lv_goto (tgt := 42) hx hb dX12_all_63 (by decide) ?_
    refine lv_iload_n hx hb dX12_all_42 rfl (lv_at hl 0 rfl) ?_
    refine lv_bipush (v := 8) hx hb dX12_all_43 (by decide) ?_
    refine lv_icmp_ge (tgt := 66) hx hb dX12_all_45 (by decide) (fun c_10 => absurd c_10 (by decide)) (fun c_10 => ?_)
    refine lv_aload_n hx hb dX12_all_48 rfl (lv_at hl 2 rfl) ?_
    refine va_get (D := D) (ci := 12) (v := .ref (ma 11)) (C := RX12) (T := TX12) (N := 104) hx hb hts hiX12 hown hK hP 0 rfl rfl 11 (by decide) (hts (.fieldLink RX12 49 "GhostPaneModel" "isSeat" "[Z") (List.mem_of_getElem? (i := 1) rfl)) (fun _ h9 => h9) rfl dX12_all_49 ?_
    refine lv_iload_n hx hb dX12_all_52 rfl (lv_at hl 0 rfl) ?_
    refine va_zald hx hb hK hP 1 3 rfl rfl (by unfold vp_in; decide) dX12_all_53 ?_
    refine gp_ni 0 rfl ?_
    refine lv_if_eq (tgt := 60) hx hb dX12_all_54 (by decide) (fun c_11 => ?_) (fun c_11 => absurd (by decide) c_11)
    refine lv_iinc (v := 5) (lv' := [(3, .int 5), (2, .int 0), (0, .ref (ma 200)), (1, .int w)]) hx hb dX12_all_60 hl (k := 0) rfl (by decide) (by decide) rfl (fun ls hl => ?_)
    refine lv_goto (tgt := 42) hx hb dX12_all_63 (by decide) ?_
    refine lv_iload_n hx hb dX12_all_42 rfl (lv_at hl 0 rfl) ?_
    refine lv_bipush (v := 8) hx hb dX12_all_43 (by decide) ?_
    refine lv_icmp_ge (tgt := 66) hx hb dX12_all_45 (by decide) (fun c_12 => absurd c_12 (by decide)) (fun c_12 => ?_)
    refine lv_aload_n hx hb dX12_all_48 rfl (lv_at hl 2 rfl) ?_
    refine va_get (D := D) (ci := 12) (v := .ref (ma 11)) (C := RX12) (T := TX12) (N := 104) hx hb hts hiX12 hown hK hP 0 rfl rfl 11 (by decide) (hts (.fieldLink RX12 49 "GhostPaneModel" "isSeat" "[Z") (List.mem_of_getElem? (i := 1) rfl)) (fun _ h9 => h9) rfl dX12_all_49 ?_
    refine lv_iload_n hx hb dX12_all_52 rfl (lv_at hl 0 rfl) ?_
    refine va_zald hx hb hK hP 1 3 rfl rfl (by unfold vp_in; decide) dX12_all_53 ?_
    refine gp_ni 0 rfl ?_
    refine lv_if_eq (tgt := 60) hx hb dX12_all_54 (by decide) (fun c_13 => ?_) (fun c_13 => absurd (by decide) c_13)
    refine lv_iinc (v := 6) (lv' := [(3, .int 6), (2, .int 0), (0, .ref (ma 200)), (1, .int w)]) hx hb dX12_all_60 hl (k := 0) rfl (by decide) (by decide) rfl (fun ls hl => ?_)
    refine lv_goto (tgt := 42) hx hb dX12_all_63 (by decide) ?_
    refine lv_iload_n hx hb dX12_all_42 rfl (lv_at hl 0 rfl) ?_
    refine lv_bipush (v := 8) hx hb dX12_all_43 (by decide) ?_
    refine lv_icmp_ge (tgt := 66) hx hb dX12_all_45 (by decide) (fun c_14 => absurd c_14 (by decide)) (fun c_14 => ?_)
    refine lv_aload_n hx hb dX12_all_48 rfl (lv_at hl 2 rfl) ?_
    refine va_get (D := D) (ci := 12) (v := .ref (ma 11)) (C := RX12) (T := TX12) (N := 104) hx hb hts hiX12 hown hK hP 0 rfl rfl 11 (by decide) (hts (.fieldLink RX12 49 "GhostPaneModel" "isSeat" "[Z") (List.mem_of_getElem? (i := 1) rfl)) (fun _ h9 => h9) rfl dX12_all_49 ?_
    refine lv_iload_n hx hb dX12_all_52 rfl (lv_at hl 0 rfl) ?_
    refine va_zald hx hb hK hP 1 3 rfl rfl (by unfold vp_in; decide) dX12_all_53 ?_
    refine gp_ni 0 rfl ?_
    refine lv_if_eq (tgt := 60) hx hb dX12_all_54 (by decide) (fun c_15 => ?_) (fun c_15 => absurd (by decide) c_15)
    refine lv_iinc (v := 7) (lv' := [(3, .int 7), (2, .int 0), (0, .ref (ma 200)), (1, .int w)]) hx hb dX12_all_60 hl (k := 0) rfl (by decide) (by decide) rfl (fun ls hl => ?_)
    refine lv_goto (tgt := 42) hx hb dX12_all_63 (by decide) ?_
    refine lv_iload_n hx hb dX12_all_42 rfl (lv_at hl 0 rfl) ?_
    refine lv_bipush (v := 8) hx hb dX12_all_43 (by decide) ?_
    refine lv_icmp_ge (tgt := 66) hx hb dX12_all_45 (by decide) (fun c_16 => absurd c_16 (by decide)) (fun c_16 => ?_)
    refine lv_aload_n hx hb dX12_all_48 rfl (lv_at hl 2 rfl) ?_
    refine va_get (D := D) (ci := 12) (v := .ref (ma 11)) (C := RX12) (T := TX12) (N := 104) hx hb hts hiX12 hown hK hP 0 rfl rfl 11 (by decide) (hts (.fieldLink RX12 49 "GhostPaneModel" "isSeat" "[Z") (List.mem_of_getElem? (i := 1) rfl)) (fun _ h9 => h9) rfl dX12_all_49 ?_
    refine lv_iload_n hx hb dX12_all_52 rfl (lv_at hl 0 rfl) ?_
    refine va_zald hx hb hK hP 1 3 rfl rfl (by unfold vp_in; decide) dX12_all_53 ?_
    refine gp_ni 0 rfl ?_
    refine lv_if_eq (tgt := 60) hx hb dX12_all_54 (by decide) (fun c_17 => ?_) (fun c_17 => absurd (by decide) c_17)
    refine lv_iinc (v := 8) (lv' := [(3, .int 8), (2, .int 0), (0, .ref (ma 200)), (1, .int w)]) hx hb dX12_all_60 hl (k := 0) rfl (by decide) (by decide) rfl (fun ls hl => ?_)
    refine lv_goto (tgt := 42) hx hb dX12_all_63 (by decide) ?_
    refine lv_iload_n hx hb dX12_all_42 rfl (lv_at hl 0 rfl) ?_
    refine lv_bipush (v := 8) hx hb dX12_all_43 (by decide) ?_
    refine lv_icmp_ge (tgt := 66) hx hb dX12_all_45 (by decide) (fun c_18 => ?_) (fun c_18 => absurd (by decide) c_18)
    refine lv_iload_n hx hb dX12_all_66 rfl (lv_at hl 1 rfl) ?_
    exact W.iret (v := 0) hx hb hr (fun t ht hW => ⟨⟨0, (), rfl, (lf_kX12_all_1 ma w k_1), gp_end ht (hP.sub (ws' := []) [] rfl) (hD.sub (ws' := []) [] (by decide) rfl)⟩, hS.F ht⟩) hS.2.2 dX12_all_67
  by_cases k_19 : w = 1
  · refine lv_tableIn (off := 65) (tgt := 68) hx hb dX12_all_3 (by rw [k_19]; decide) (by rw [k_19]; decide) (by rw [k_19]; decide +kernel) (by decide) ?_
    refine lv_iconst (v := 0) hx hb dX12_all_68 (by decide) ?_
    refine lv_istore_n (lv' := [(3, .int 0), (2, .int 0), (0, .ref (ma 200)), (1, .int w)]) hx hb dX12_all_69 rfl hl (by decide) rfl (fun ls hl => ?_)
    refine lv_iload_n hx hb dX12_all_70 rfl (lv_at hl 0 rfl) ?_
    refine lv_bipush (v := 12) hx hb dX12_all_71 (by decide) ?_
    refine lv_icmp_ge (tgt := 94) hx hb dX12_all_73 (by decide) (fun c_20 => absurd c_20 (by decide)) (fun c_20 => ?_)
    refine lv_aload_n hx hb dX12_all_76 rfl (lv_at hl 2 rfl) ?_
    refine va_get (D := D) (ci := 12) (v := .ref (ma 14)) (C := RX12) (T := TX12) (N := 104) hx hb hts hiX12 hown hK hP 0 rfl rfl 14 (by decide) (hts (.fieldLink RX12 60 "GhostPaneModel" "isWall" "[Z") (List.mem_of_getElem? (i := 2) rfl)) (fun _ h9 => h9) rfl dX12_all_77 ?_
    refine lv_iload_n hx hb dX12_all_80 rfl (lv_at hl 0 rfl) ?_
    refine va_zald hx hb hK hP 2 3 rfl rfl (by unfold vp_in; decide) dX12_all_81 ?_
    refine gp_ni 0 rfl ?_
    refine lv_if_eq (tgt := 88) hx hb dX12_all_82 (by decide) (fun c_21 => ?_) (fun c_21 => absurd (by decide) c_21)
    refine lv_iinc (v := 1) (lv' := [(3, .int 1), (2, .int 0), (0, .ref (ma 200)), (1, .int w)]) hx hb dX12_all_88 hl (k := 0) rfl (by decide) (by decide) rfl (fun ls hl => ?_)
    refine lv_goto (tgt := 70) hx hb dX12_all_91 (by decide) ?_
    refine lv_iload_n hx hb dX12_all_70 rfl (lv_at hl 0 rfl) ?_
    refine lv_bipush (v := 12) hx hb dX12_all_71 (by decide) ?_
    refine lv_icmp_ge (tgt := 94) hx hb dX12_all_73 (by decide) (fun c_22 => absurd c_22 (by decide)) (fun c_22 => ?_)
    refine lv_aload_n hx hb dX12_all_76 rfl (lv_at hl 2 rfl) ?_
    refine va_get (D := D) (ci := 12) (v := .ref (ma 14)) (C := RX12) (T := TX12) (N := 104) hx hb hts hiX12 hown hK hP 0 rfl rfl 14 (by decide) (hts (.fieldLink RX12 60 "GhostPaneModel" "isWall" "[Z") (List.mem_of_getElem? (i := 2) rfl)) (fun _ h9 => h9) rfl dX12_all_77 ?_
    refine lv_iload_n hx hb dX12_all_80 rfl (lv_at hl 0 rfl) ?_
    refine va_zald hx hb hK hP 2 3 rfl rfl (by unfold vp_in; decide) dX12_all_81 ?_
    refine gp_ni 0 rfl ?_
    refine lv_if_eq (tgt := 88) hx hb dX12_all_82 (by decide) (fun c_23 => ?_) (fun c_23 => absurd (by decide) c_23)
    refine lv_iinc (v := 2) (lv' := [(3, .int 2), (2, .int 0), (0, .ref (ma 200)), (1, .int w)]) hx hb dX12_all_88 hl (k := 0) rfl (by decide) (by decide) rfl (fun ls hl => ?_)
    refine lv_goto (tgt := 70) hx hb dX12_all_91 (by decide) ?_
    refine lv_iload_n hx hb dX12_all_70 rfl (lv_at hl 0 rfl) ?_
    refine lv_bipush (v := 12) hx hb dX12_all_71 (by decide) ?_
    refine lv_icmp_ge (tgt := 94) hx hb dX12_all_73 (by decide) (fun c_24 => absurd c_24 (by decide)) (fun c_24 => ?_)
    refine lv_aload_n hx hb dX12_all_76 rfl (lv_at hl 2 rfl) ?_
    refine va_get (D := D) (ci := 12) (v := .ref (ma 14)) (C := RX12) (T := TX12) (N := 104) hx hb hts hiX12 hown hK hP 0 rfl rfl 14 (by decide) (hts (.fieldLink RX12 60 "GhostPaneModel" "isWall" "[Z") (List.mem_of_getElem? (i := 2) rfl)) (fun _ h9 => h9) rfl dX12_all_77 ?_
    refine lv_iload_n hx hb dX12_all_80 rfl (lv_at hl 0 rfl) ?_
    refine va_zald hx hb hK hP 2 3 rfl rfl (by unfold vp_in; decide) dX12_all_81 ?_
    refine gp_ni 0 rfl ?_
    refine lv_if_eq (tgt := 88) hx hb dX12_all_82 (by decide) (fun c_25 => ?_) (fun c_25 => absurd (by decide) c_25)
    refine lv_iinc (v := 3) (lv' := [(3, .int 3), (2, .int 0), (0, .ref (ma 200)), (1, .int w)]) hx hb dX12_all_88 hl (k := 0) rfl (by decide) (by decide) rfl (fun ls hl => ?_)
    refine lv_goto (tgt := 70) hx hb dX12_all_91 (by decide) ?_
    refine lv_iload_n hx hb dX12_all_70 rfl (lv_at hl 0 rfl) ?_
    refine lv_bipush (v := 12) hx hb dX12_all_71 (by decide) ?_
    refine lv_icmp_ge (tgt := 94) hx hb dX12_all_73 (by decide) (fun c_26 => absurd c_26 (by decide)) (fun c_26 => ?_)
    refine lv_aload_n hx hb dX12_all_76 rfl (lv_at hl 2 rfl) ?_
    refine va_get (D := D) (ci := 12) (v := .ref (ma 14)) (C := RX12) (T := TX12) (N := 104) hx hb hts hiX12 hown hK hP 0 rfl rfl 14 (by decide) (hts (.fieldLink RX12 60 "GhostPaneModel" "isWall" "[Z") (List.mem_of_getElem? (i := 2) rfl)) (fun _ h9 => h9) rfl dX12_all_77 ?_
    refine lv_iload_n hx hb dX12_all_80 rfl (lv_at hl 0 rfl) ?_
    refine va_zald hx hb hK hP 2 3 rfl rfl (by unfold vp_in; decide) dX12_all_81 ?_
    refine gp_ni 0 rfl ?_
    refine lv_if_eq (tgt := 88) hx hb dX12_all_82 (by decide) (fun c_27 => ?_) (fun c_27 => absurd (by decide) c_27)
    refine lv_iinc (v := 4) (lv' := [(3, .int 4), (2, .int 0), (0, .ref (ma 200)), (1, .int w)]) hx hb dX12_all_88 hl (k := 0) rfl (by decide) (by decide) rfl (fun ls hl => ?_)
    refine lv_goto (tgt := 70) hx hb dX12_all_91 (by decide) ?_
    refine lv_iload_n hx hb dX12_all_70 rfl (lv_at hl 0 rfl) ?_
    refine lv_bipush (v := 12) hx hb dX12_all_71 (by decide) ?_
    refine lv_icmp_ge (tgt := 94) hx hb dX12_all_73 (by decide) (fun c_28 => absurd c_28 (by decide)) (fun c_28 => ?_)
    refine lv_aload_n hx hb dX12_all_76 rfl (lv_at hl 2 rfl) ?_
    refine va_get (D := D) (ci := 12) (v := .ref (ma 14)) (C := RX12) (T := TX12) (N := 104) hx hb hts hiX12 hown hK hP 0 rfl rfl 14 (by decide) (hts (.fieldLink RX12 60 "GhostPaneModel" "isWall" "[Z") (List.mem_of_getElem? (i := 2) rfl)) (fun _ h9 => h9) rfl dX12_all_77 ?_
    refine lv_iload_n hx hb dX12_all_80 rfl (lv_at hl 0 rfl) ?_
    refine va_zald hx hb hK hP 2 3 rfl rfl (by unfold vp_in; decide) dX12_all_81 ?_
    refine gp_ni 0 rfl ?_
    refine lv_if_eq (tgt := 88) hx hb dX12_all_82 (by decide) (fun c_29 => ?_) (fun c_29 => absurd (by decide) c_29)
    refine lv_iinc (v := 5) (lv' := [(3, .int 5), (2, .int 0), (0, .ref (ma 200)), (1, .int w)]) hx hb dX12_all_88 hl (k := 0) rfl (by decide) (by decide) rfl (fun ls hl => ?_)
    refine lv_goto (tgt := 70) hx hb dX12_all_91 (by decide) ?_
    refine lv_iload_n hx hb dX12_all_70 rfl (lv_at hl 0 rfl) ?_
    refine lv_bipush (v := 12) hx hb dX12_all_71 (by decide) ?_
    refine lv_icmp_ge (tgt := 94) hx hb dX12_all_73 (by decide) (fun c_30 => absurd c_30 (by decide)) (fun c_30 => ?_)
    refine lv_aload_n hx hb dX12_all_76 rfl (lv_at hl 2 rfl) ?_
    refine va_get (D := D) (ci := 12) (v := .ref (ma 14)) (C := RX12) (T := TX12) (N := 104) hx hb hts hiX12 hown hK hP 0 rfl rfl 14 (by decide) (hts (.fieldLink RX12 60 "GhostPaneModel" "isWall" "[Z") (List.mem_of_getElem? (i := 2) rfl)) (fun _ h9 => h9) rfl dX12_all_77 ?_
    refine lv_iload_n hx hb dX12_all_80 rfl (lv_at hl 0 rfl) ?_
    refine va_zald hx hb hK hP 2 3 rfl rfl (by unfold vp_in; decide) dX12_all_81 ?_
    refine gp_ni 0 rfl ?_
    refine lv_if_eq (tgt := 88) hx hb dX12_all_82 (by decide) (fun c_31 => ?_) (fun c_31 => absurd (by decide) c_31)
    refine lv_iinc (v := 6) (lv' := [(3, .int 6), (2, .int 0), (0, .ref (ma 200)), (1, .int w)]) hx hb dX12_all_88 hl (k := 0) rfl (by decide) (by decide) rfl (fun ls hl => ?_)
    refine lv_goto (tgt := 70) hx hb dX12_all_91 (by decide) ?_
    refine lv_iload_n hx hb dX12_all_70 rfl (lv_at hl 0 rfl) ?_
    refine lv_bipush (v := 12) hx hb dX12_all_71 (by decide) ?_
    refine lv_icmp_ge (tgt := 94) hx hb dX12_all_73 (by decide) (fun c_32 => absurd c_32 (by decide)) (fun c_32 => ?_)
    refine lv_aload_n hx hb dX12_all_76 rfl (lv_at hl 2 rfl) ?_
    refine va_get (D := D) (ci := 12) (v := .ref (ma 14)) (C := RX12) (T := TX12) (N := 104) hx hb hts hiX12 hown hK hP 0 rfl rfl 14 (by decide) (hts (.fieldLink RX12 60 "GhostPaneModel" "isWall" "[Z") (List.mem_of_getElem? (i := 2) rfl)) (fun _ h9 => h9) rfl dX12_all_77 ?_
    refine lv_iload_n hx hb dX12_all_80 rfl (lv_at hl 0 rfl) ?_
    refine va_zald hx hb hK hP 2 3 rfl rfl (by unfold vp_in; decide) dX12_all_81 ?_
    refine gp_ni 0 rfl ?_
    refine lv_if_eq (tgt := 88) hx hb dX12_all_82 (by decide) (fun c_33 => ?_) (fun c_33 => absurd (by decide) c_33)
    refine lv_iinc (v := 7) (lv' := [(3, .int 7), (2, .int 0), (0, .ref (ma 200)), (1, .int w)]) hx hb dX12_all_88 hl (k := 0) rfl (by decide) (by decide) rfl (fun ls hl => ?_)
    refine lv_goto (tgt := 70) hx hb dX12_all_91 (by decide) ?_
    refine lv_iload_n hx hb dX12_all_70 rfl (lv_at hl 0 rfl) ?_
    refine lv_bipush (v := 12) hx hb dX12_all_71 (by decide) ?_
    refine lv_icmp_ge (tgt := 94) hx hb dX12_all_73 (by decide) (fun c_34 => absurd c_34 (by decide)) (fun c_34 => ?_)
    refine lv_aload_n hx hb dX12_all_76 rfl (lv_at hl 2 rfl) ?_
    refine va_get (D := D) (ci := 12) (v := .ref (ma 14)) (C := RX12) (T := TX12) (N := 104) hx hb hts hiX12 hown hK hP 0 rfl rfl 14 (by decide) (hts (.fieldLink RX12 60 "GhostPaneModel" "isWall" "[Z") (List.mem_of_getElem? (i := 2) rfl)) (fun _ h9 => h9) rfl dX12_all_77 ?_
    refine lv_iload_n hx hb dX12_all_80 rfl (lv_at hl 0 rfl) ?_
    refine va_zald hx hb hK hP 2 3 rfl rfl (by unfold vp_in; decide) dX12_all_81 ?_
    refine gp_ni 0 rfl ?_
    refine lv_if_eq (tgt := 88) hx hb dX12_all_82 (by decide) (fun c_35 => ?_) (fun c_35 => absurd (by decide) c_35)
    refine lv_iinc (v := 8) (lv' := [(3, .int 8), (2, .int 0), (0, .ref (ma 200)), (1, .int w)]) hx hb dX12_all_88 hl (k := 0) rfl (by decide) (by decide) rfl (fun ls hl => ?_)
    refine lv_goto (tgt := 70) hx hb dX12_all_91 (by decide) ?_
    refine lv_iload_n hx hb dX12_all_70 rfl (lv_at hl 0 rfl) ?_
    refine lv_bipush (v := 12) hx hb dX12_all_71 (by decide) ?_
    refine lv_icmp_ge (tgt := 94) hx hb dX12_all_73 (by decide) (fun c_36 => absurd c_36 (by decide)) (fun c_36 => ?_)
    refine lv_aload_n hx hb dX12_all_76 rfl (lv_at hl 2 rfl) ?_
    refine va_get (D := D) (ci := 12) (v := .ref (ma 14)) (C := RX12) (T := TX12) (N := 104) hx hb hts hiX12 hown hK hP 0 rfl rfl 14 (by decide) (hts (.fieldLink RX12 60 "GhostPaneModel" "isWall" "[Z") (List.mem_of_getElem? (i := 2) rfl)) (fun _ h9 => h9) rfl dX12_all_77 ?_
    refine lv_iload_n hx hb dX12_all_80 rfl (lv_at hl 0 rfl) ?_
    refine va_zald hx hb hK hP 2 3 rfl rfl (by unfold vp_in; decide) dX12_all_81 ?_
    refine gp_ni 0 rfl ?_
    refine lv_if_eq (tgt := 88) hx hb dX12_all_82 (by decide) (fun c_37 => ?_) (fun c_37 => absurd (by decide) c_37)
    refine lv_iinc (v := 9) (lv' := [(3, .int 9), (2, .int 0), (0, .ref (ma 200)), (1, .int w)]) hx hb dX12_all_88 hl (k := 0) rfl (by decide) (by decide) rfl (fun ls hl => ?_)
    refine lv_goto (tgt := 70) hx hb dX12_all_91 (by decide) ?_
    refine lv_iload_n hx hb dX12_all_70 rfl (lv_at hl 0 rfl) ?_
    refine lv_bipush (v := 12) hx hb dX12_all_71 (by decide) ?_
    refine lv_icmp_ge (tgt := 94) hx hb dX12_all_73 (by decide) (fun c_38 => absurd c_38 (by decide)) (fun c_38 => ?_)
    refine lv_aload_n hx hb dX12_all_76 rfl (lv_at hl 2 rfl) ?_
    refine va_get (D := D) (ci := 12) (v := .ref (ma 14)) (C := RX12) (T := TX12) (N := 104) hx hb hts hiX12 hown hK hP 0 rfl rfl 14 (by decide) (hts (.fieldLink RX12 60 "GhostPaneModel" "isWall" "[Z") (List.mem_of_getElem? (i := 2) rfl)) (fun _ h9 => h9) rfl dX12_all_77 ?_
    refine lv_iload_n hx hb dX12_all_80 rfl (lv_at hl 0 rfl) ?_
    refine va_zald hx hb hK hP 2 3 rfl rfl (by unfold vp_in; decide) dX12_all_81 ?_
    refine gp_ni 0 rfl ?_
    refine lv_if_eq (tgt := 88) hx hb dX12_all_82 (by decide) (fun c_39 => ?_) (fun c_39 => absurd (by decide) c_39)
    refine lv_iinc (v := 10) (lv' := [(3, .int 10), (2, .int 0), (0, .ref (ma 200)), (1, .int w)]) hx hb dX12_all_88 hl (k := 0) rfl (by decide) (by decide) rfl (fun ls hl => ?_)
    refine lv_goto (tgt := 70) hx hb dX12_all_91 (by decide) ?_
    refine lv_iload_n hx hb dX12_all_70 rfl (lv_at hl 0 rfl) ?_
    refine lv_bipush (v := 12) hx hb dX12_all_71 (by decide) ?_
    refine lv_icmp_ge (tgt := 94) hx hb dX12_all_73 (by decide) (fun c_40 => absurd c_40 (by decide)) (fun c_40 => ?_)
    refine lv_aload_n hx hb dX12_all_76 rfl (lv_at hl 2 rfl) ?_
    refine va_get (D := D) (ci := 12) (v := .ref (ma 14)) (C := RX12) (T := TX12) (N := 104) hx hb hts hiX12 hown hK hP 0 rfl rfl 14 (by decide) (hts (.fieldLink RX12 60 "GhostPaneModel" "isWall" "[Z") (List.mem_of_getElem? (i := 2) rfl)) (fun _ h9 => h9) rfl dX12_all_77 ?_
    refine lv_iload_n hx hb dX12_all_80 rfl (lv_at hl 0 rfl) ?_
    refine va_zald hx hb hK hP 2 3 rfl rfl (by unfold vp_in; decide) dX12_all_81 ?_
    refine gp_ni 0 rfl ?_
    refine lv_if_eq (tgt := 88) hx hb dX12_all_82 (by decide) (fun c_41 => ?_) (fun c_41 => absurd (by decide) c_41)
    refine lv_iinc (v := 11) (lv' := [(3, .int 11), (2, .int 0), (0, .ref (ma 200)), (1, .int w)]) hx hb dX12_all_88 hl (k := 0) rfl (by decide) (by decide) rfl (fun ls hl => ?_)
    refine lv_goto (tgt := 70) hx hb dX12_all_91 (by decide) ?_
    refine lv_iload_n hx hb dX12_all_70 rfl (lv_at hl 0 rfl) ?_
    refine lv_bipush (v := 12) hx hb dX12_all_71 (by decide) ?_
    refine lv_icmp_ge (tgt := 94) hx hb dX12_all_73 (by decide) (fun c_42 => absurd c_42 (by decide)) (fun c_42 => ?_)
    refine lv_aload_n hx hb dX12_all_76 rfl (lv_at hl 2 rfl) ?_
    refine va_get (D := D) (ci := 12) (v := .ref (ma 14)) (C := RX12) (T := TX12) (N := 104) hx hb hts hiX12 hown hK hP 0 rfl rfl 14 (by decide) (hts (.fieldLink RX12 60 "GhostPaneModel" "isWall" "[Z") (List.mem_of_getElem? (i := 2) rfl)) (fun _ h9 => h9) rfl dX12_all_77 ?_
    refine lv_iload_n hx hb dX12_all_80 rfl (lv_at hl 0 rfl) ?_
    refine va_zald hx hb hK hP 2 3 rfl rfl (by unfold vp_in; decide) dX12_all_81 ?_
    refine gp_ni 0 rfl ?_
    refine lv_if_eq (tgt := 88) hx hb dX12_all_82 (by decide) (fun c_43 => ?_) (fun c_43 => absurd (by decide) c_43)
    refine lv_iinc (v := 12) (lv' := [(3, .int 12), (2, .int 0), (0, .ref (ma 200)), (1, .int w)]) hx hb dX12_all_88 hl (k := 0) rfl (by decide) (by decide) rfl (fun ls hl => ?_)
    refine lv_goto (tgt := 70) hx hb dX12_all_91 (by decide) ?_
    refine lv_iload_n hx hb dX12_all_70 rfl (lv_at hl 0 rfl) ?_
    refine lv_bipush (v := 12) hx hb dX12_all_71 (by decide) ?_
    refine lv_icmp_ge (tgt := 94) hx hb dX12_all_73 (by decide) (fun c_44 => ?_) (fun c_44 => absurd (by decide) c_44)
    refine lv_iload_n hx hb dX12_all_94 rfl (lv_at hl 1 rfl) ?_
    exact W.iret (v := 0) hx hb hr (fun t ht hW => ⟨⟨0, (), rfl, (lf_kX12_all_2 ma w k_1 k_19), gp_end ht (hP.sub (ws' := []) [] rfl) (hD.sub (ws' := []) [] (by decide) rfl)⟩, hS.F ht⟩) hS.2.2 dX12_all_95
  by_cases k_45 : w = 2
  · refine lv_tableIn (off := 93) (tgt := 96) hx hb dX12_all_3 (by rw [k_45]; decide) (by rw [k_45]; decide) (by rw [k_45]; decide +kernel) (by decide) ?_
    refine lv_iconst (v := 0) hx hb dX12_all_96 (by decide) ?_
    refine lv_istore_n (lv' := [(3, .int 0), (2, .int 0), (0, .ref (ma 200)), (1, .int w)]) hx hb dX12_all_97 rfl hl (by decide) rfl (fun ls hl => ?_)
    refine lv_iload_n hx hb dX12_all_98 rfl (lv_at hl 0 rfl) ?_
    refine lv_bipush (v := 8) hx hb dX12_all_99 (by decide) ?_
    refine lv_icmp_ge (tgt := 122) hx hb dX12_all_101 (by decide) (fun c_46 => absurd c_46 (by decide)) (fun c_46 => ?_)
    refine lv_aload_n hx hb dX12_all_104 rfl (lv_at hl 2 rfl) ?_
    refine va_get (D := D) (ci := 12) (v := .ref (ma 20)) (C := RX12) (T := TX12) (N := 104) hx hb hts hiX12 hown hK hP 0 rfl rfl 20 (by decide) (hts (.fieldLink RX12 78 "GhostPaneModel" "isThing" "[Z") (List.mem_of_getElem? (i := 3) rfl)) (fun _ h9 => h9) rfl dX12_all_105 ?_
    refine lv_iload_n hx hb dX12_all_108 rfl (lv_at hl 0 rfl) ?_
    refine va_zald hx hb hK hP 3 3 rfl rfl (by unfold vp_in; decide) dX12_all_109 ?_
    refine gp_ni 0 rfl ?_
    refine lv_if_eq (tgt := 116) hx hb dX12_all_110 (by decide) (fun c_47 => ?_) (fun c_47 => absurd (by decide) c_47)
    refine lv_iinc (v := 1) (lv' := [(3, .int 1), (2, .int 0), (0, .ref (ma 200)), (1, .int w)]) hx hb dX12_all_116 hl (k := 0) rfl (by decide) (by decide) rfl (fun ls hl => ?_)
    refine lv_goto (tgt := 98) hx hb dX12_all_119 (by decide) ?_
    refine lv_iload_n hx hb dX12_all_98 rfl (lv_at hl 0 rfl) ?_
    refine lv_bipush (v := 8) hx hb dX12_all_99 (by decide) ?_
    refine lv_icmp_ge (tgt := 122) hx hb dX12_all_101 (by decide) (fun c_48 => absurd c_48 (by decide)) (fun c_48 => ?_)
    refine lv_aload_n hx hb dX12_all_104 rfl (lv_at hl 2 rfl) ?_
    refine va_get (D := D) (ci := 12) (v := .ref (ma 20)) (C := RX12) (T := TX12) (N := 104) hx hb hts hiX12 hown hK hP 0 rfl rfl 20 (by decide) (hts (.fieldLink RX12 78 "GhostPaneModel" "isThing" "[Z") (List.mem_of_getElem? (i := 3) rfl)) (fun _ h9 => h9) rfl dX12_all_105 ?_
    refine lv_iload_n hx hb dX12_all_108 rfl (lv_at hl 0 rfl) ?_
    refine va_zald hx hb hK hP 3 3 rfl rfl (by unfold vp_in; decide) dX12_all_109 ?_
    refine gp_ni 0 rfl ?_
    refine lv_if_eq (tgt := 116) hx hb dX12_all_110 (by decide) (fun c_49 => ?_) (fun c_49 => absurd (by decide) c_49)
    refine lv_iinc (v := 2) (lv' := [(3, .int 2), (2, .int 0), (0, .ref (ma 200)), (1, .int w)]) hx hb dX12_all_116 hl (k := 0) rfl (by decide) (by decide) rfl (fun ls hl => ?_)
    refine lv_goto (tgt := 98) hx hb dX12_all_119 (by decide) ?_
    refine lv_iload_n hx hb dX12_all_98 rfl (lv_at hl 0 rfl) ?_
    refine lv_bipush (v := 8) hx hb dX12_all_99 (by decide) ?_
    refine lv_icmp_ge (tgt := 122) hx hb dX12_all_101 (by decide) (fun c_50 => absurd c_50 (by decide)) (fun c_50 => ?_)
    refine lv_aload_n hx hb dX12_all_104 rfl (lv_at hl 2 rfl) ?_
    refine va_get (D := D) (ci := 12) (v := .ref (ma 20)) (C := RX12) (T := TX12) (N := 104) hx hb hts hiX12 hown hK hP 0 rfl rfl 20 (by decide) (hts (.fieldLink RX12 78 "GhostPaneModel" "isThing" "[Z") (List.mem_of_getElem? (i := 3) rfl)) (fun _ h9 => h9) rfl dX12_all_105 ?_
    refine lv_iload_n hx hb dX12_all_108 rfl (lv_at hl 0 rfl) ?_
    refine va_zald hx hb hK hP 3 3 rfl rfl (by unfold vp_in; decide) dX12_all_109 ?_
    refine gp_ni 0 rfl ?_
    refine lv_if_eq (tgt := 116) hx hb dX12_all_110 (by decide) (fun c_51 => ?_) (fun c_51 => absurd (by decide) c_51)
    refine lv_iinc (v := 3) (lv' := [(3, .int 3), (2, .int 0), (0, .ref (ma 200)), (1, .int w)]) hx hb dX12_all_116 hl (k := 0) rfl (by decide) (by decide) rfl (fun ls hl => ?_)
    refine lv_goto (tgt := 98) hx hb dX12_all_119 (by decide) ?_
    refine lv_iload_n hx hb dX12_all_98 rfl (lv_at hl 0 rfl) ?_
    refine lv_bipush (v := 8) hx hb dX12_all_99 (by decide) ?_
    refine lv_icmp_ge (tgt := 122) hx hb dX12_all_101 (by decide) (fun c_52 => absurd c_52 (by decide)) (fun c_52 => ?_)
    refine lv_aload_n hx hb dX12_all_104 rfl (lv_at hl 2 rfl) ?_
    refine va_get (D := D) (ci := 12) (v := .ref (ma 20)) (C := RX12) (T := TX12) (N := 104) hx hb hts hiX12 hown hK hP 0 rfl rfl 20 (by decide) (hts (.fieldLink RX12 78 "GhostPaneModel" "isThing" "[Z") (List.mem_of_getElem? (i := 3) rfl)) (fun _ h9 => h9) rfl dX12_all_105 ?_
    refine lv_iload_n hx hb dX12_all_108 rfl (lv_at hl 0 rfl) ?_
    refine va_zald hx hb hK hP 3 3 rfl rfl (by unfold vp_in; decide) dX12_all_109 ?_
    refine gp_ni 0 rfl ?_
    refine lv_if_eq (tgt := 116) hx hb dX12_all_110 (by decide) (fun c_53 => ?_) (fun c_53 => absurd (by decide) c_53)
    refine lv_iinc (v := 4) (lv' := [(3, .int 4), (2, .int 0), (0, .ref (ma 200)), (1, .int w)]) hx hb dX12_all_116 hl (k := 0) rfl (by decide) (by decide) rfl (fun ls hl => ?_)
    refine lv_goto (tgt := 98) hx hb dX12_all_119 (by decide) ?_
    refine lv_iload_n hx hb dX12_all_98 rfl (lv_at hl 0 rfl) ?_
    refine lv_bipush (v := 8) hx hb dX12_all_99 (by decide) ?_
    refine lv_icmp_ge (tgt := 122) hx hb dX12_all_101 (by decide) (fun c_54 => absurd c_54 (by decide)) (fun c_54 => ?_)
    refine lv_aload_n hx hb dX12_all_104 rfl (lv_at hl 2 rfl) ?_
    refine va_get (D := D) (ci := 12) (v := .ref (ma 20)) (C := RX12) (T := TX12) (N := 104) hx hb hts hiX12 hown hK hP 0 rfl rfl 20 (by decide) (hts (.fieldLink RX12 78 "GhostPaneModel" "isThing" "[Z") (List.mem_of_getElem? (i := 3) rfl)) (fun _ h9 => h9) rfl dX12_all_105 ?_
    refine lv_iload_n hx hb dX12_all_108 rfl (lv_at hl 0 rfl) ?_
    refine va_zald hx hb hK hP 3 3 rfl rfl (by unfold vp_in; decide) dX12_all_109 ?_
    refine gp_ni 0 rfl ?_
    refine lv_if_eq (tgt := 116) hx hb dX12_all_110 (by decide) (fun c_55 => ?_) (fun c_55 => absurd (by decide) c_55)
    refine lv_iinc (v := 5) (lv' := [(3, .int 5), (2, .int 0), (0, .ref (ma 200)), (1, .int w)]) hx hb dX12_all_116 hl (k := 0) rfl (by decide) (by decide) rfl (fun ls hl => ?_)
    refine lv_goto (tgt := 98) hx hb dX12_all_119 (by decide) ?_
    refine lv_iload_n hx hb dX12_all_98 rfl (lv_at hl 0 rfl) ?_
    refine lv_bipush (v := 8) hx hb dX12_all_99 (by decide) ?_
    refine lv_icmp_ge (tgt := 122) hx hb dX12_all_101 (by decide) (fun c_56 => absurd c_56 (by decide)) (fun c_56 => ?_)
    refine lv_aload_n hx hb dX12_all_104 rfl (lv_at hl 2 rfl) ?_
    refine va_get (D := D) (ci := 12) (v := .ref (ma 20)) (C := RX12) (T := TX12) (N := 104) hx hb hts hiX12 hown hK hP 0 rfl rfl 20 (by decide) (hts (.fieldLink RX12 78 "GhostPaneModel" "isThing" "[Z") (List.mem_of_getElem? (i := 3) rfl)) (fun _ h9 => h9) rfl dX12_all_105 ?_
    refine lv_iload_n hx hb dX12_all_108 rfl (lv_at hl 0 rfl) ?_
    refine va_zald hx hb hK hP 3 3 rfl rfl (by unfold vp_in; decide) dX12_all_109 ?_
    refine gp_ni 0 rfl ?_
    refine lv_if_eq (tgt := 116) hx hb dX12_all_110 (by decide) (fun c_57 => ?_) (fun c_57 => absurd (by decide) c_57)
    refine lv_iinc (v := 6) (lv' := [(3, .int 6), (2, .int 0), (0, .ref (ma 200)), (1, .int w)]) hx hb dX12_all_116 hl (k := 0) rfl (by decide) (by decide) rfl (fun ls hl => ?_)
    refine lv_goto (tgt := 98) hx hb dX12_all_119 (by decide) ?_
    refine lv_iload_n hx hb dX12_all_98 rfl (lv_at hl 0 rfl) ?_
    refine lv_bipush (v := 8) hx hb dX12_all_99 (by decide) ?_
    refine lv_icmp_ge (tgt := 122) hx hb dX12_all_101 (by decide) (fun c_58 => absurd c_58 (by decide)) (fun c_58 => ?_)
    refine lv_aload_n hx hb dX12_all_104 rfl (lv_at hl 2 rfl) ?_
    refine va_get (D := D) (ci := 12) (v := .ref (ma 20)) (C := RX12) (T := TX12) (N := 104) hx hb hts hiX12 hown hK hP 0 rfl rfl 20 (by decide) (hts (.fieldLink RX12 78 "GhostPaneModel" "isThing" "[Z") (List.mem_of_getElem? (i := 3) rfl)) (fun _ h9 => h9) rfl dX12_all_105 ?_
    refine lv_iload_n hx hb dX12_all_108 rfl (lv_at hl 0 rfl) ?_
    refine va_zald hx hb hK hP 3 3 rfl rfl (by unfold vp_in; decide) dX12_all_109 ?_
    refine gp_ni 0 rfl ?_
    refine lv_if_eq (tgt := 116) hx hb dX12_all_110 (by decide) (fun c_59 => ?_) (fun c_59 => absurd (by decide) c_59)
    refine lv_iinc (v := 7) (lv' := [(3, .int 7), (2, .int 0), (0, .ref (ma 200)), (1, .int w)]) hx hb dX12_all_116 hl (k := 0) rfl (by decide) (by decide) rfl (fun ls hl => ?_)
    refine lv_goto (tgt := 98) hx hb dX12_all_119 (by decide) ?_
    refine lv_iload_n hx hb dX12_all_98 rfl (lv_at hl 0 rfl) ?_
    refine lv_bipush (v := 8) hx hb dX12_all_99 (by decide) ?_
    refine lv_icmp_ge (tgt := 122) hx hb dX12_all_101 (by decide) (fun c_60 => absurd c_60 (by decide)) (fun c_60 => ?_)
    refine lv_aload_n hx hb dX12_all_104 rfl (lv_at hl 2 rfl) ?_
    refine va_get (D := D) (ci := 12) (v := .ref (ma 20)) (C := RX12) (T := TX12) (N := 104) hx hb hts hiX12 hown hK hP 0 rfl rfl 20 (by decide) (hts (.fieldLink RX12 78 "GhostPaneModel" "isThing" "[Z") (List.mem_of_getElem? (i := 3) rfl)) (fun _ h9 => h9) rfl dX12_all_105 ?_
    refine lv_iload_n hx hb dX12_all_108 rfl (lv_at hl 0 rfl) ?_
    refine va_zald hx hb hK hP 3 3 rfl rfl (by unfold vp_in; decide) dX12_all_109 ?_
    refine gp_ni 0 rfl ?_
    refine lv_if_eq (tgt := 116) hx hb dX12_all_110 (by decide) (fun c_61 => ?_) (fun c_61 => absurd (by decide) c_61)
    refine lv_iinc (v := 8) (lv' := [(3, .int 8), (2, .int 0), (0, .ref (ma 200)), (1, .int w)]) hx hb dX12_all_116 hl (k := 0) rfl (by decide) (by decide) rfl (fun ls hl => ?_)
    refine lv_goto (tgt := 98) hx hb dX12_all_119 (by decide) ?_
    refine lv_iload_n hx hb dX12_all_98 rfl (lv_at hl 0 rfl) ?_
    refine lv_bipush (v := 8) hx hb dX12_all_99 (by decide) ?_
    refine lv_icmp_ge (tgt := 122) hx hb dX12_all_101 (by decide) (fun c_62 => ?_) (fun c_62 => absurd (by decide) c_62)
    refine lv_iload_n hx hb dX12_all_122 rfl (lv_at hl 1 rfl) ?_
    exact W.iret (v := 0) hx hb hr (fun t ht hW => ⟨⟨0, (), rfl, (lf_kX12_all_3 ma w k_1 k_19 k_45), gp_end ht (hP.sub (ws' := []) [] rfl) (hD.sub (ws' := []) [] (by decide) rfl)⟩, hS.F ht⟩) hS.2.2 dX12_all_123
  by_cases k_63 : w = 3
  · refine lv_tableIn (off := 121) (tgt := 124) hx hb dX12_all_3 (by rw [k_63]; decide) (by rw [k_63]; decide) (by rw [k_63]; decide +kernel) (by decide) ?_
    refine lv_aload_n hx hb dX12_all_124 rfl (lv_at hl 1 rfl) ?_
    refine va_get (D := D) (ci := 12) (v := .int 0) (C := RX12) (T := TX12) (N := 104) hx hb hts hiX12 hown hK hP 0 rfl rfl 96 (by decide) (hts (.fieldLink RX12 559 "GhostPaneModel" "acts" "I") (List.mem_of_getElem? (i := 4) rfl)) (fun _ h9 => h9) rfl dX12_all_125 ?_
    exact W.iret (v := 0) hx hb hr (fun t ht hW => ⟨⟨0, (), rfl, (lf_kX12_all_4 ma w k_1 k_19 k_45 k_63), gp_end ht (hP.sub (ws' := []) [] rfl) (hD.sub (ws' := []) [] (by decide) rfl)⟩, hS.F ht⟩) hS.2.2 dX12_all_128
  by_cases k_64 : w = 4
  · refine lv_tableIn (off := 126) (tgt := 129) hx hb dX12_all_3 (by rw [k_64]; decide) (by rw [k_64]; decide) (by rw [k_64]; decide +kernel) (by decide) ?_
    refine lv_aload_n hx hb dX12_all_129 rfl (lv_at hl 1 rfl) ?_
    have hPc := hP.sub (ws' := [((ma 200), mo_0 ma)]) [0] rfl
    have hDc := hD.sub (ws' := [((ma 200), mo_0 ma)]) [0] (by decide) rfl
    have hFc := va_free (wc := [((ma 200), mo_0 ma)]) hD hS hA [0] rfl
    refine va_calli (va_runV (As := []) (rest := []) ⟨hx, hb, hml, hown, hts⟩ (kX12_settings l D cy H.size ma) (cwV 0 hts g_kX12_all_kX12_settings_0 rfl rfl rfl (by decide +kernel) ⟨Nat.le_of_ble_eq_true rfl, Nat.le_of_ble_eq_true rfl⟩) (gp_preV (RX12, TX12, 104) 12 0 hPc hDc hK hN rfl rfl) rfl rfl hl.1 rfl (lv_room (Nat.le_of_ble_eq_true rfl)) dX12_all_130 ⟨Nat.le_of_ble_eq_true rfl, Nat.le_of_ble_eq_true rfl⟩) hS (fun q _ h => hFc q h) hFc (fun r_65 u t H locs ht hvm hw hB hz1 hk1 hS => ?_)
    obtain ⟨hP, hD⟩ := gp_join (wr := [((ma 11), .inl (cy 3, 8, .inl (fun _ => 0))), ((ma 14), .inl (cy 3, 12, .inl (fun _ => 0))), ((ma 20), .inl (cy 3, 8, .inl (fun _ => 0)))]) (w1 := [((ma 200), mo_0 ma)]) hP hD [0] [1, 2, 3] rfl rfl (by decide) (by decide) hk1 hFc ht hB
    have hP : va_P D vwCl [((ma 11), .inl (cy 3, 8, .inl (fun _ => 0))), ((ma 14), .inl (cy 3, 12, .inl (fun _ => 0))), ((ma 20), .inl (cy 3, 8, .inl (fun _ => 0))), ((ma 200), mo_0 ma)] H := hP
    have hD : va_D A [((ma 11), .inl (cy 3, 8, .inl (fun _ => 0))), ((ma 14), .inl (cy 3, 12, .inl (fun _ => 0))), ((ma 20), .inl (cy 3, 8, .inl (fun _ => 0))), ((ma 200), mo_0 ma)] := hD
    obtain rfl : r_65 = 0 := hw
    exact W.iret (v := 0) hx hb hr (fun t ht hW => ⟨⟨0, (), rfl, (lf_kX12_all_5 ma w k_1 k_19 k_45 k_63 k_64), gp_end ht (hP.sub (ws' := []) [] rfl) (hD.sub (ws' := []) [] (by decide) rfl)⟩, hS.F ht⟩) hS.2.2 dX12_all_133
  by_cases k_66 : w = 5
  · refine lv_tableIn (off := 131) (tgt := 134) hx hb dX12_all_3 (by rw [k_66]; decide) (by rw [k_66]; decide) (by rw [k_66]; decide +kernel) (by decide) ?_
    refine lv_aload_n hx hb dX12_all_134 rfl (lv_at hl 1 rfl) ?_
    refine va_get (D := D) (ci := 12) (v := .int 0) (C := RX12) (T := TX12) (N := 104) hx hb hts hiX12 hown hK hP 0 rfl rfl 72 (by decide) (hts (.fieldLink RX12 464 "GhostPaneModel" "last" "I") (List.mem_of_getElem? (i := 11) rfl)) (fun _ h9 => h9) rfl dX12_all_135 ?_
    exact W.iret (v := 0) hx hb hr (fun t ht hW => ⟨⟨0, (), rfl, (lf_kX12_all_6 ma w k_1 k_19 k_45 k_63 k_64 k_66), gp_end ht (hP.sub (ws' := []) [] rfl) (hD.sub (ws' := []) [] (by decide) rfl)⟩, hS.F ht⟩) hS.2.2 dX12_all_138
  have ho_3 : (w).toInt < 0 ∨ 5 < (w).toInt := gp_sw0_5 k_1 k_19 k_45 k_63 k_64 k_66
  refine lv_tableOut (tgt := 139) hx hb dX12_all_3 ho_3 (by decide) ?_
  refine lv_iconst (v := (-1)) hx hb dX12_all_139 (by decide) ?_
  exact W.iret (v := (-1)) hx hb hr (fun t ht hW => ⟨⟨(-1), (), rfl, (lf_kX12_all_7 ma w k_1 k_19 k_45 k_63 k_64 k_66), gp_end ht (hP.sub (ws' := []) [] rfl) (hD.sub (ws' := []) [] (by decide) rfl)⟩, hS.F ht⟩) hS.2.2 dX12_all_140
