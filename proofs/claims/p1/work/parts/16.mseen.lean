def v_kX12_along : List Cond := .code yX12_along cX12_along 5 (some .long) :: ([.fieldLink RX12 15 "GhostPaneModel" "ax" "I", .fieldLink RX12 22 "GhostPaneModel" "bx" "I", .fieldLink RX12 19 "GhostPaneModel" "ay" "I", .fieldLink RX12 25 "GhostPaneModel" "by" "I"] ++ wsX120)
set_option maxHeartbeats 4000000 in
set_option maxRecDepth 100000 in
theorem kX12_along (l : Launch) (D : va_G) (cy : Nat → ClassId) (sz : Nat) (ma : Nat → Nat) (x2 : Int64) (y2 : Int64) : Met l yX12_along v_kX12_along ({ frames := 0, cells := 0, slots := 0, locals := 0 } : Room) (va_Pc [.ref (ma 200), .long x2, .long y2] (gp_B D cy sz [((ma 200), mo_0 ma)])) (va_Ql (fun (r : Int64) (u : Unit) => r = ((x2 - (-50)) * 100 + (y2 - 0) * 80)) (fun u => gp_E D (va_A [((ma 200), mo_0 ma)] sz) [((ma 200), mo_0 ma)]) (va_A [((ma 200), mo_0 ma)] sz)) 0 0 (va_A [((ma 200), mo_0 ma)] sz) := by
  refine gp_met (Qc := fun A => va_Ql (fun (r : Int64) (u : Unit) => r = ((x2 - (-50)) * 100 + (y2 - 0) * 80)) (fun u => gp_E D A [((ma 200), mo_0 ma)]) A) (cc := cX12_along) (maxL := 5) (ret := (some .long)) (by decide) rfl (Nat.le_of_ble_eq_true rfl) ?_
  intro p e s m below meth c A ls H hx hb hml hr hlocks hts hown hin hK hN hS hP hD hA hl
  have hown : s.vm.findClass RX12 = some m.cls := hown
  have hl : lv_has ls 5 [(0, .ref (ma 200)), (1, .long x2), (3, .long y2)] := hl
  have hiX12 : ∀ w ∈ u_ws RX12 TX12 104, w ∈ v_kX12_along := fun _ h => List.mem_cons_of_mem _ (List.mem_append_right _ h)
  refine lv_lload_n hx hb dX12_along_0 rfl (lv_at hl 1 rfl) ?_
  refine lv_aload_n hx hb dX12_along_1 rfl (lv_at hl 0 rfl) ?_
  refine va_get (D := D) (ci := 12) (v := .int (-50)) (C := RX12) (T := TX12) (N := 104) hx hb hts hiX12 hown hK hP 0 rfl rfl 0 (by decide) (hts (.fieldLink RX12 15 "GhostPaneModel" "ax" "I") (List.mem_of_getElem? (i := 1) rfl)) (fun _ h9 => h9) rfl dX12_along_2 ?_
  refine lv_i2l (v := (-50)) hx hb dX12_along_5 (by decide) ?_
  refine lv_lsub hx hb dX12_along_6 ?_
  refine lv_aload_n hx hb dX12_along_7 rfl (lv_at hl 0 rfl) ?_
  refine va_get (D := D) (ci := 12) (v := .int 50) (C := RX12) (T := TX12) (N := 104) hx hb hts hiX12 hown hK hP 0 rfl rfl 2 (by decide) (hts (.fieldLink RX12 22 "GhostPaneModel" "bx" "I") (List.mem_of_getElem? (i := 2) rfl)) (fun _ h9 => h9) rfl dX12_along_8 ?_
  refine lv_aload_n hx hb dX12_along_11 rfl (lv_at hl 0 rfl) ?_
  refine va_get (D := D) (ci := 12) (v := .int (-50)) (C := RX12) (T := TX12) (N := 104) hx hb hts hiX12 hown hK hP 0 rfl rfl 0 (by decide) (hts (.fieldLink RX12 15 "GhostPaneModel" "ax" "I") (List.mem_of_getElem? (i := 1) rfl)) (fun _ h9 => h9) rfl dX12_along_12 ?_
  refine lv_isub hx hb dX12_along_15 ?_
  refine gp_ni 100 (by decide) ?_
  refine lv_i2l (v := 100) hx hb dX12_along_16 (by decide) ?_
  refine lv_lmul hx hb dX12_along_17 ?_
  refine lv_lload_n hx hb dX12_along_18 rfl (lv_at hl 2 rfl) ?_
  refine lv_aload_n hx hb dX12_along_19 rfl (lv_at hl 0 rfl) ?_
  refine va_get (D := D) (ci := 12) (v := .int 0) (C := RX12) (T := TX12) (N := 104) hx hb hts hiX12 hown hK hP 0 rfl rfl 1 (by decide) (hts (.fieldLink RX12 19 "GhostPaneModel" "ay" "I") (List.mem_of_getElem? (i := 3) rfl)) (fun _ h9 => h9) rfl dX12_along_20 ?_
  refine lv_i2l (v := 0) hx hb dX12_along_23 (by decide) ?_
  refine lv_lsub hx hb dX12_along_24 ?_
  refine lv_aload_n hx hb dX12_along_25 rfl (lv_at hl 0 rfl) ?_
  refine va_get (D := D) (ci := 12) (v := .int 80) (C := RX12) (T := TX12) (N := 104) hx hb hts hiX12 hown hK hP 0 rfl rfl 3 (by decide) (hts (.fieldLink RX12 25 "GhostPaneModel" "by" "I") (List.mem_of_getElem? (i := 4) rfl)) (fun _ h9 => h9) rfl dX12_along_26 ?_
  refine lv_aload_n hx hb dX12_along_29 rfl (lv_at hl 0 rfl) ?_
  refine va_get (D := D) (ci := 12) (v := .int 0) (C := RX12) (T := TX12) (N := 104) hx hb hts hiX12 hown hK hP 0 rfl rfl 1 (by decide) (hts (.fieldLink RX12 19 "GhostPaneModel" "ay" "I") (List.mem_of_getElem? (i := 3) rfl)) (fun _ h9 => h9) rfl dX12_along_30 ?_
  refine lv_isub hx hb dX12_along_33 ?_
  refine gp_ni 80 (by decide) ?_
  refine lv_i2l (v := 80) hx hb dX12_along_34 (by decide) ?_
  refine lv_lmul hx hb dX12_along_35 ?_
  refine lv_ladd hx hb dX12_along_36 ?_
  exact W.lret (v := (((x2 - (-50)) * 100) + ((y2 - 0) * 80))) hx hb hr (fun t ht hW => ⟨⟨(((x2 - (-50)) * 100) + ((y2 - 0) * 80)), (), rfl, rfl, gp_end ht (hP.sub (ws' := [((ma 200), mo_0 ma)]) [0] rfl) (hD.sub (ws' := [((ma 200), mo_0 ma)]) [0] (by decide) rfl)⟩, hS.F ht⟩) hS.2.2 dX12_along_37

def v_kX12_off : List Cond := .code yX12_off cX12_off 5 (some .long) :: ([.fieldLink RX12 15 "GhostPaneModel" "ax" "I", .fieldLink RX12 25 "GhostPaneModel" "by" "I", .fieldLink RX12 19 "GhostPaneModel" "ay" "I", .fieldLink RX12 22 "GhostPaneModel" "bx" "I"] ++ wsX120)
set_option maxHeartbeats 4000000 in
set_option maxRecDepth 100000 in
theorem kX12_off (l : Launch) (D : va_G) (cy : Nat → ClassId) (sz : Nat) (ma : Nat → Nat) (x2 : Int64) (y2 : Int64) : Met l yX12_off v_kX12_off ({ frames := 0, cells := 0, slots := 0, locals := 0 } : Room) (va_Pc [.ref (ma 200), .long x2, .long y2] (gp_B D cy sz [((ma 200), mo_0 ma)])) (va_Ql (fun (r : Int64) (u : Unit) => r = ((-(x2 - (-50))) * 80 + (y2 - 0) * 100)) (fun u => gp_E D (va_A [((ma 200), mo_0 ma)] sz) [((ma 200), mo_0 ma)]) (va_A [((ma 200), mo_0 ma)] sz)) 0 0 (va_A [((ma 200), mo_0 ma)] sz) := by
  refine gp_met (Qc := fun A => va_Ql (fun (r : Int64) (u : Unit) => r = ((-(x2 - (-50))) * 80 + (y2 - 0) * 100)) (fun u => gp_E D A [((ma 200), mo_0 ma)]) A) (cc := cX12_off) (maxL := 5) (ret := (some .long)) (by decide) rfl (Nat.le_of_ble_eq_true rfl) ?_
  intro p e s m below meth c A ls H hx hb hml hr hlocks hts hown hin hK hN hS hP hD hA hl
  have hown : s.vm.findClass RX12 = some m.cls := hown
  have hl : lv_has ls 5 [(0, .ref (ma 200)), (1, .long x2), (3, .long y2)] := hl
  have hiX12 : ∀ w ∈ u_ws RX12 TX12 104, w ∈ v_kX12_off := fun _ h => List.mem_cons_of_mem _ (List.mem_append_right _ h)
  refine lv_lload_n hx hb dX12_off_0 rfl (lv_at hl 1 rfl) ?_
  refine lv_aload_n hx hb dX12_off_1 rfl (lv_at hl 0 rfl) ?_
  refine va_get (D := D) (ci := 12) (v := .int (-50)) (C := RX12) (T := TX12) (N := 104) hx hb hts hiX12 hown hK hP 0 rfl rfl 0 (by decide) (hts (.fieldLink RX12 15 "GhostPaneModel" "ax" "I") (List.mem_of_getElem? (i := 1) rfl)) (fun _ h9 => h9) rfl dX12_off_2 ?_
  refine lv_i2l (v := (-50)) hx hb dX12_off_5 (by decide) ?_
  refine lv_lsub hx hb dX12_off_6 ?_
  refine lv_lneg hx hb dX12_off_7 ?_
  refine lv_aload_n hx hb dX12_off_8 rfl (lv_at hl 0 rfl) ?_
  refine va_get (D := D) (ci := 12) (v := .int 80) (C := RX12) (T := TX12) (N := 104) hx hb hts hiX12 hown hK hP 0 rfl rfl 3 (by decide) (hts (.fieldLink RX12 25 "GhostPaneModel" "by" "I") (List.mem_of_getElem? (i := 2) rfl)) (fun _ h9 => h9) rfl dX12_off_9 ?_
  refine lv_aload_n hx hb dX12_off_12 rfl (lv_at hl 0 rfl) ?_
  refine va_get (D := D) (ci := 12) (v := .int 0) (C := RX12) (T := TX12) (N := 104) hx hb hts hiX12 hown hK hP 0 rfl rfl 1 (by decide) (hts (.fieldLink RX12 19 "GhostPaneModel" "ay" "I") (List.mem_of_getElem? (i := 3) rfl)) (fun _ h9 => h9) rfl dX12_off_13 ?_
  refine lv_isub hx hb dX12_off_16 ?_
  refine gp_ni 80 (by decide) ?_
  refine lv_i2l (v := 80) hx hb dX12_off_17 (by decide) ?_
  refine lv_lmul hx hb dX12_off_18 ?_
  refine lv_lload_n hx hb dX12_off_19 rfl (lv_at hl 2 rfl) ?_
  refine lv_aload_n hx hb dX12_off_20 rfl (lv_at hl 0 rfl) ?_
  refine va_get (D := D) (ci := 12) (v := .int 0) (C := RX12) (T := TX12) (N := 104) hx hb hts hiX12 hown hK hP 0 rfl rfl 1 (by decide) (hts (.fieldLink RX12 19 "GhostPaneModel" "ay" "I") (List.mem_of_getElem? (i := 3) rfl)) (fun _ h9 => h9) rfl dX12_off_21 ?_
  refine lv_i2l (v := 0) hx hb dX12_off_24 (by decide) ?_
  refine lv_lsub hx hb dX12_off_25 ?_
  refine lv_aload_n hx hb dX12_off_26 rfl (lv_at hl 0 rfl) ?_
  refine va_get (D := D) (ci := 12) (v := .int 50) (C := RX12) (T := TX12) (N := 104) hx hb hts hiX12 hown hK hP 0 rfl rfl 2 (by decide) (hts (.fieldLink RX12 22 "GhostPaneModel" "bx" "I") (List.mem_of_getElem? (i := 4) rfl)) (fun _ h9 => h9) rfl dX12_off_27 ?_
  refine lv_aload_n hx hb dX12_off_30 rfl (lv_at hl 0 rfl) ?_
  refine va_get (D := D) (ci := 12) (v := .int (-50)) (C := RX12) (T := TX12) (N := 104) hx hb hts hiX12 hown hK hP 0 rfl rfl 0 (by decide) (hts (.fieldLink RX12 15 "GhostPaneModel" "ax" "I") (List.mem_of_getElem? (i := 1) rfl)) (fun _ h9 => h9) rfl dX12_off_31 ?_
  refine lv_isub hx hb dX12_off_34 ?_
  refine gp_ni 100 (by decide) ?_
  refine lv_i2l (v := 100) hx hb dX12_off_35 (by decide) ?_
  refine lv_lmul hx hb dX12_off_36 ?_
  refine lv_ladd hx hb dX12_off_37 ?_
  exact W.lret (v := (((-(x2 - (-50))) * 80) + ((y2 - 0) * 100))) hx hb hr (fun t ht hW => ⟨⟨(((-(x2 - (-50))) * 80) + ((y2 - 0) * 100)), (), rfl, rfl, gp_end ht (hP.sub (ws' := [((ma 200), mo_0 ma)]) [0] rfl) (hD.sub (ws' := [((ma 200), mo_0 ma)]) [0] (by decide) rfl)⟩, hS.F ht⟩) hS.2.2 dX12_off_38

def v_kX12_length : List Cond := .code yX12_length cX12_length 1 (some .long) :: ([.fieldLink RX12 22 "GhostPaneModel" "bx" "I", .fieldLink RX12 25 "GhostPaneModel" "by" "I", .code yX12_along cX12_along 5 (some .long), .fieldLink RX12 15 "GhostPaneModel" "ax" "I", .fieldLink RX12 19 "GhostPaneModel" "ay" "I", .methodLink RX12 100 yX12_along, .instanceMethod yX12_along, .selects RX12 yX12_along yX12_along, .initialized RX12] ++ wsX120)
set_option maxRecDepth 20000 in
theorem gg_kX12_length_kX12_along : GoodIn v_kX12_length v_kX12_along := goodIn_ca (goodIn_r (.code yX12_along cX12_along 5 (some .long) :: [.fieldLink RX12 15 "GhostPaneModel" "ax" "I", .fieldLink RX12 22 "GhostPaneModel" "bx" "I", .fieldLink RX12 19 "GhostPaneModel" "ay" "I", .fieldLink RX12 25 "GhostPaneModel" "by" "I"]) [3, 4, 1, 5, 2] rfl (by decide +kernel)) (goodIn_sub (fun _ h => List.mem_cons_of_mem _ (List.mem_append_right _ h)) gwX12)
set_option maxRecDepth 20000 in
theorem g_kX12_length_kX12_along_0 : GoodIn v_kX12_length (wsV RX12 100 RX12 yX12_along v_kX12_along) := goodIn_app (goodIn_r [.methodLink RX12 100 yX12_along, .instanceMethod yX12_along, .selects RX12 yX12_along yX12_along, .initialized RX12] [6, 7, 8, 9] rfl (by decide +kernel)) gg_kX12_length_kX12_along
set_option maxHeartbeats 4000000 in
set_option maxRecDepth 100000 in
theorem kX12_length (l : Launch) (D : va_G) (cy : Nat → ClassId) (sz : Nat) (ma : Nat → Nat) : Met l yX12_length v_kX12_length ({ frames := 1, cells := 0, slots := 0, locals := 24 } : Room) (va_Pc [.ref (ma 200)] (gp_B D cy sz [((ma 200), mo_0 ma)])) (va_Ql (fun (r : Int64) (u : Unit) => r = 16400) (fun u => gp_E D (va_A [((ma 200), mo_0 ma)] sz) [((ma 200), mo_0 ma)]) (va_A [((ma 200), mo_0 ma)] sz)) 0 0 (va_A [((ma 200), mo_0 ma)] sz) := by
  refine gp_met (Qc := fun A => va_Ql (fun (r : Int64) (u : Unit) => r = 16400) (fun u => gp_E D A [((ma 200), mo_0 ma)]) A) (cc := cX12_length) (maxL := 1) (ret := (some .long)) (by decide) rfl (Nat.le_of_ble_eq_true rfl) ?_
  intro p e s m below meth c A ls H hx hb hml hr hlocks hts hown hin hK hN hS hP hD hA hl
  have hown : s.vm.findClass RX12 = some m.cls := hown
  have hl : lv_has ls 1 [(0, .ref (ma 200))] := hl
  have hiX12 : ∀ w ∈ u_ws RX12 TX12 104, w ∈ v_kX12_length := fun _ h => List.mem_cons_of_mem _ (List.mem_append_right _ h)
  refine lv_aload_n hx hb dX12_length_0 rfl (lv_at hl 0 rfl) ?_
  refine lv_aload_n hx hb dX12_length_1 rfl (lv_at hl 0 rfl) ?_
  refine va_get (D := D) (ci := 12) (v := .int 50) (C := RX12) (T := TX12) (N := 104) hx hb hts hiX12 hown hK hP 0 rfl rfl 2 (by decide) (hts (.fieldLink RX12 22 "GhostPaneModel" "bx" "I") (List.mem_of_getElem? (i := 1) rfl)) (fun _ h9 => h9) rfl dX12_length_2 ?_
  refine lv_i2l (v := 50) hx hb dX12_length_5 (by decide) ?_
  refine lv_aload_n hx hb dX12_length_6 rfl (lv_at hl 0 rfl) ?_
  refine va_get (D := D) (ci := 12) (v := .int 80) (C := RX12) (T := TX12) (N := 104) hx hb hts hiX12 hown hK hP 0 rfl rfl 3 (by decide) (hts (.fieldLink RX12 25 "GhostPaneModel" "by" "I") (List.mem_of_getElem? (i := 2) rfl)) (fun _ h9 => h9) rfl dX12_length_7 ?_
  refine lv_i2l (v := 80) hx hb dX12_length_10 (by decide) ?_
  have hPc := hP.sub (ws' := [((ma 200), mo_0 ma)]) [0] rfl
  have hDc := hD.sub (ws' := [((ma 200), mo_0 ma)]) [0] (by decide) rfl
  have hFc := va_free (wc := [((ma 200), mo_0 ma)]) hD hS hA [0] rfl
  refine va_calll (va_runV (As := [.long 50, .long 80]) (rest := []) ⟨hx, hb, hml, hown, hts⟩ (kX12_along l D cy H.size ma 50 80) (cwV 2 hts g_kX12_length_kX12_along_0 rfl rfl rfl (by decide +kernel) ⟨Nat.le_of_ble_eq_true rfl, Nat.le_of_ble_eq_true rfl⟩) (gp_preV (RX12, TX12, 104) 12 0 hPc hDc hK hN rfl rfl) rfl rfl hl.1 rfl (lv_room (Nat.le_of_ble_eq_true rfl)) dX12_length_11 ⟨Nat.le_of_ble_eq_true rfl, Nat.le_of_ble_eq_true rfl⟩) hS (fun q _ h => hFc q h) hFc (fun r_1 u t H locs ht hvm hw hB hz1 hk1 hS => ?_)
  obtain ⟨hP, hD⟩ := gp_join (wr := []) (w1 := [((ma 200), mo_0 ma)]) hP hD [0] [] rfl rfl (by decide) (by decide) hk1 hFc ht hB
  have hP : va_P D vwCl [((ma 200), mo_0 ma)] H := hP
  have hD : va_D A [((ma 200), mo_0 ma)] := hD
  obtain rfl : r_1 = ((50 - (-50)) * 100 + (80 - 0) * 80) := hw
  refine gp_nl 16400 (by decide) ?_
  exact W.lret (v := 16400) hx hb hr (fun t ht hW => ⟨⟨16400, (), rfl, rfl, gp_end ht (hP.sub (ws' := [((ma 200), mo_0 ma)]) [0] rfl) (hD.sub (ws' := [((ma 200), mo_0 ma)]) [0] (by decide) rfl)⟩, hS.F ht⟩) hS.2.2 dX12_length_14

def v_kX12_mirroredX : List Cond := .code yX12_mirroredX cX12_mirroredX 5 (some .long) :: ([.code yX12_length cX12_length 1 (some .long), .fieldLink RX12 22 "GhostPaneModel" "bx" "I", .fieldLink RX12 25 "GhostPaneModel" "by" "I", .code yX12_along cX12_along 5 (some .long), .fieldLink RX12 15 "GhostPaneModel" "ax" "I", .fieldLink RX12 19 "GhostPaneModel" "ay" "I", .methodLink RX12 100 yX12_along, .instanceMethod yX12_along, .selects RX12 yX12_along yX12_along, .initialized RX12, .methodLink RX12 104 yX12_length, .instanceMethod yX12_length, .selects RX12 yX12_length yX12_length, .constantLong RX12 108 2, .code yX12_off cX12_off 5 (some .long), .methodLink RX12 110 yX12_off, .instanceMethod yX12_off, .selects RX12 yX12_off yX12_off] ++ wsX120)
set_option maxRecDepth 20000 in
theorem gg_kX12_mirroredX_kX12_length : GoodIn v_kX12_mirroredX v_kX12_length := goodIn_ca (goodIn_r (.code yX12_length cX12_length 1 (some .long) :: [.fieldLink RX12 22 "GhostPaneModel" "bx" "I", .fieldLink RX12 25 "GhostPaneModel" "by" "I", .code yX12_along cX12_along 5 (some .long), .fieldLink RX12 15 "GhostPaneModel" "ax" "I", .fieldLink RX12 19 "GhostPaneModel" "ay" "I", .methodLink RX12 100 yX12_along, .instanceMethod yX12_along, .selects RX12 yX12_along yX12_along, .initialized RX12]) [1, 2, 3, 4, 5, 6, 7, 8, 9, 10] rfl (by decide +kernel)) (goodIn_sub (fun _ h => List.mem_cons_of_mem _ (List.mem_append_right _ h)) gwX12)
set_option maxRecDepth 20000 in
theorem g_kX12_mirroredX_kX12_length_0 : GoodIn v_kX12_mirroredX (wsV RX12 104 RX12 yX12_length v_kX12_length) := goodIn_app (goodIn_r [.methodLink RX12 104 yX12_length, .instanceMethod yX12_length, .selects RX12 yX12_length yX12_length, .initialized RX12] [11, 12, 13, 10] rfl (by decide +kernel)) gg_kX12_mirroredX_kX12_length
set_option maxRecDepth 20000 in
theorem gg_kX12_mirroredX_kX12_off : GoodIn v_kX12_mirroredX v_kX12_off := goodIn_ca (goodIn_r (.code yX12_off cX12_off 5 (some .long) :: [.fieldLink RX12 15 "GhostPaneModel" "ax" "I", .fieldLink RX12 25 "GhostPaneModel" "by" "I", .fieldLink RX12 19 "GhostPaneModel" "ay" "I", .fieldLink RX12 22 "GhostPaneModel" "bx" "I"]) [15, 5, 3, 6, 2] rfl (by decide +kernel)) (goodIn_sub (fun _ h => List.mem_cons_of_mem _ (List.mem_append_right _ h)) gwX12)
set_option maxRecDepth 20000 in
theorem g_kX12_mirroredX_kX12_off_1 : GoodIn v_kX12_mirroredX (wsV RX12 110 RX12 yX12_off v_kX12_off) := goodIn_app (goodIn_r [.methodLink RX12 110 yX12_off, .instanceMethod yX12_off, .selects RX12 yX12_off yX12_off, .initialized RX12] [16, 17, 18, 10] rfl (by decide +kernel)) gg_kX12_mirroredX_kX12_off
set_option maxHeartbeats 4000000 in
set_option maxRecDepth 100000 in
theorem kX12_mirroredX (l : Launch) (D : va_G) (cy : Nat → ClassId) (sz : Nat) (ma : Nat → Nat) (x2 : Int64) (y2 : Int64) : Met l yX12_mirroredX v_kX12_mirroredX ({ frames := 2, cells := 0, slots := 0, locals := 44 } : Room) (va_Pc [.ref (ma 200), .long x2, .long y2] (gp_B D cy sz [((ma 200), mo_0 ma)])) (va_Ql (fun (r : Int64) (u : Unit) => r = (x2 * 16400 + 2 * ((-(x2 - (-50))) * 80 + (y2 - 0) * 100) * 80)) (fun u => gp_E D (va_A [((ma 200), mo_0 ma)] sz) [((ma 200), mo_0 ma)]) (va_A [((ma 200), mo_0 ma)] sz)) 0 0 (va_A [((ma 200), mo_0 ma)] sz) := by
  refine gp_met (Qc := fun A => va_Ql (fun (r : Int64) (u : Unit) => r = (x2 * 16400 + 2 * ((-(x2 - (-50))) * 80 + (y2 - 0) * 100) * 80)) (fun u => gp_E D A [((ma 200), mo_0 ma)]) A) (cc := cX12_mirroredX) (maxL := 5) (ret := (some .long)) (by decide) rfl (Nat.le_of_ble_eq_true rfl) ?_
  intro p e s m below meth c A ls H hx hb hml hr hlocks hts hown hin hK hN hS hP hD hA hl
  have hown : s.vm.findClass RX12 = some m.cls := hown
  have hl : lv_has ls 5 [(0, .ref (ma 200)), (1, .long x2), (3, .long y2)] := hl
  have hiX12 : ∀ w ∈ u_ws RX12 TX12 104, w ∈ v_kX12_mirroredX := fun _ h => List.mem_cons_of_mem _ (List.mem_append_right _ h)
  refine lv_lload_n hx hb dX12_mirroredX_0 rfl (lv_at hl 1 rfl) ?_
  refine lv_aload_n hx hb dX12_mirroredX_1 rfl (lv_at hl 0 rfl) ?_
  have hPc := hP.sub (ws' := [((ma 200), mo_0 ma)]) [0] rfl
  have hDc := hD.sub (ws' := [((ma 200), mo_0 ma)]) [0] (by decide) rfl
  have hFc := va_free (wc := [((ma 200), mo_0 ma)]) hD hS hA [0] rfl
  refine va_calll (va_runV (As := []) (rest := [.long x2]) ⟨hx, hb, hml, hown, hts⟩ (kX12_length l D cy H.size ma) (cwV 0 hts g_kX12_mirroredX_kX12_length_0 rfl rfl rfl (by decide +kernel) ⟨Nat.le_of_ble_eq_true rfl, Nat.le_of_ble_eq_true rfl⟩) (gp_preV (RX12, TX12, 104) 12 0 hPc hDc hK hN rfl rfl) rfl rfl hl.1 rfl (lv_room (Nat.le_of_ble_eq_true rfl)) dX12_mirroredX_2 ⟨Nat.le_of_ble_eq_true rfl, Nat.le_of_ble_eq_true rfl⟩) hS (fun q _ h => hFc q h) hFc (fun r_1 u t H locs ht hvm hw hB hz1 hk1 hS => ?_)
  obtain ⟨hP, hD⟩ := gp_join (wr := []) (w1 := [((ma 200), mo_0 ma)]) hP hD [0] [] rfl rfl (by decide) (by decide) hk1 hFc ht hB
  have hP : va_P D vwCl [((ma 200), mo_0 ma)] H := hP
  have hD : va_D A [((ma 200), mo_0 ma)] := hD
  obtain rfl : r_1 = 16400 := hw
  refine lv_lmul hx hb dX12_mirroredX_5 ?_
  refine lv_ldc2 (v := 2) hx hb hown (hts (.constantLong RX12 108 2) (List.mem_of_getElem? (i := 14) rfl)) dX12_mirroredX_6 ?_
  refine lv_aload_n hx hb dX12_mirroredX_9 rfl (lv_at hl 0 rfl) ?_
  refine lv_lload_n hx hb dX12_mirroredX_10 rfl (lv_at hl 1 rfl) ?_
  refine lv_lload_n hx hb dX12_mirroredX_11 rfl (lv_at hl 2 rfl) ?_
  have hPc := hP.sub (ws' := [((ma 200), mo_0 ma)]) [0] rfl
  have hDc := hD.sub (ws' := [((ma 200), mo_0 ma)]) [0] (by decide) rfl
  have hFc := va_free (wc := [((ma 200), mo_0 ma)]) hD hS hA [0] rfl
  refine va_calll (va_runV (As := [.long x2, .long y2]) (rest := [.long 2, .long (x2 * 16400)]) ⟨hx, hb, hml, hown, hts⟩ (kX12_off l D cy H.size ma x2 y2) (cwV 2 hts g_kX12_mirroredX_kX12_off_1 rfl rfl rfl (by decide +kernel) ⟨Nat.le_of_ble_eq_true rfl, Nat.le_of_ble_eq_true rfl⟩) (gp_preV (RX12, TX12, 104) 12 0 hPc hDc hK hN rfl rfl) rfl rfl hl.1 rfl (lv_room (Nat.le_of_ble_eq_true rfl)) dX12_mirroredX_12 ⟨Nat.le_of_ble_eq_true rfl, Nat.le_of_ble_eq_true rfl⟩) hS (fun q _ h => hFc q h) hFc (fun r_2 u t H locs ht hvm hw hB hz1 hk1 hS => ?_)
  obtain ⟨hP, hD⟩ := gp_join (wr := []) (w1 := [((ma 200), mo_0 ma)]) hP hD [0] [] rfl rfl (by decide) (by decide) hk1 hFc ht hB
  have hP : va_P D vwCl [((ma 200), mo_0 ma)] H := hP
  have hD : va_D A [((ma 200), mo_0 ma)] := hD
  obtain rfl : r_2 = ((-(x2 - (-50))) * 80 + (y2 - 0) * 100) := hw
  refine lv_lmul hx hb dX12_mirroredX_15 ?_
  refine lv_aload_n hx hb dX12_mirroredX_16 rfl (lv_at hl 0 rfl) ?_
  refine va_get (D := D) (ci := 12) (v := .int 80) (C := RX12) (T := TX12) (N := 104) hx hb hts hiX12 hown hK hP 0 rfl rfl 3 (by decide) (hts (.fieldLink RX12 25 "GhostPaneModel" "by" "I") (List.mem_of_getElem? (i := 3) rfl)) (fun _ h9 => h9) rfl dX12_mirroredX_17 ?_
  refine lv_aload_n hx hb dX12_mirroredX_20 rfl (lv_at hl 0 rfl) ?_
  refine va_get (D := D) (ci := 12) (v := .int 0) (C := RX12) (T := TX12) (N := 104) hx hb hts hiX12 hown hK hP 0 rfl rfl 1 (by decide) (hts (.fieldLink RX12 19 "GhostPaneModel" "ay" "I") (List.mem_of_getElem? (i := 6) rfl)) (fun _ h9 => h9) rfl dX12_mirroredX_21 ?_
  refine lv_isub hx hb dX12_mirroredX_24 ?_
  refine gp_ni 80 (by decide) ?_
  refine lv_i2l (v := 80) hx hb dX12_mirroredX_25 (by decide) ?_
  refine lv_lmul hx hb dX12_mirroredX_26 ?_
  refine lv_ladd hx hb dX12_mirroredX_27 ?_
  exact W.lret (v := ((x2 * 16400) + ((2 * ((-(x2 - (-50))) * 80 + (y2 - 0) * 100)) * 80))) hx hb hr (fun t ht hW => ⟨⟨((x2 * 16400) + ((2 * ((-(x2 - (-50))) * 80 + (y2 - 0) * 100)) * 80)), (), rfl, rfl, gp_end ht (hP.sub (ws' := [((ma 200), mo_0 ma)]) [0] rfl) (hD.sub (ws' := [((ma 200), mo_0 ma)]) [0] (by decide) rfl)⟩, hS.F ht⟩) hS.2.2 dX12_mirroredX_28

def v_kX12_mirroredY : List Cond := .code yX12_mirroredY cX12_mirroredY 5 (some .long) :: ([.code yX12_length cX12_length 1 (some .long), .fieldLink RX12 22 "GhostPaneModel" "bx" "I", .fieldLink RX12 25 "GhostPaneModel" "by" "I", .code yX12_along cX12_along 5 (some .long), .fieldLink RX12 15 "GhostPaneModel" "ax" "I", .fieldLink RX12 19 "GhostPaneModel" "ay" "I", .methodLink RX12 100 yX12_along, .instanceMethod yX12_along, .selects RX12 yX12_along yX12_along, .initialized RX12, .methodLink RX12 104 yX12_length, .instanceMethod yX12_length, .selects RX12 yX12_length yX12_length, .constantLong RX12 108 2, .code yX12_off cX12_off 5 (some .long), .methodLink RX12 110 yX12_off, .instanceMethod yX12_off, .selects RX12 yX12_off yX12_off] ++ wsX120)
set_option maxRecDepth 20000 in
theorem gg_kX12_mirroredY_kX12_length : GoodIn v_kX12_mirroredY v_kX12_length := goodIn_ca (goodIn_r (.code yX12_length cX12_length 1 (some .long) :: [.fieldLink RX12 22 "GhostPaneModel" "bx" "I", .fieldLink RX12 25 "GhostPaneModel" "by" "I", .code yX12_along cX12_along 5 (some .long), .fieldLink RX12 15 "GhostPaneModel" "ax" "I", .fieldLink RX12 19 "GhostPaneModel" "ay" "I", .methodLink RX12 100 yX12_along, .instanceMethod yX12_along, .selects RX12 yX12_along yX12_along, .initialized RX12]) [1, 2, 3, 4, 5, 6, 7, 8, 9, 10] rfl (by decide +kernel)) (goodIn_sub (fun _ h => List.mem_cons_of_mem _ (List.mem_append_right _ h)) gwX12)
set_option maxRecDepth 20000 in
theorem g_kX12_mirroredY_kX12_length_0 : GoodIn v_kX12_mirroredY (wsV RX12 104 RX12 yX12_length v_kX12_length) := goodIn_app (goodIn_r [.methodLink RX12 104 yX12_length, .instanceMethod yX12_length, .selects RX12 yX12_length yX12_length, .initialized RX12] [11, 12, 13, 10] rfl (by decide +kernel)) gg_kX12_mirroredY_kX12_length
set_option maxRecDepth 20000 in
theorem gg_kX12_mirroredY_kX12_off : GoodIn v_kX12_mirroredY v_kX12_off := goodIn_ca (goodIn_r (.code yX12_off cX12_off 5 (some .long) :: [.fieldLink RX12 15 "GhostPaneModel" "ax" "I", .fieldLink RX12 25 "GhostPaneModel" "by" "I", .fieldLink RX12 19 "GhostPaneModel" "ay" "I", .fieldLink RX12 22 "GhostPaneModel" "bx" "I"]) [15, 5, 3, 6, 2] rfl (by decide +kernel)) (goodIn_sub (fun _ h => List.mem_cons_of_mem _ (List.mem_append_right _ h)) gwX12)
set_option maxRecDepth 20000 in
theorem g_kX12_mirroredY_kX12_off_1 : GoodIn v_kX12_mirroredY (wsV RX12 110 RX12 yX12_off v_kX12_off) := goodIn_app (goodIn_r [.methodLink RX12 110 yX12_off, .instanceMethod yX12_off, .selects RX12 yX12_off yX12_off, .initialized RX12] [16, 17, 18, 10] rfl (by decide +kernel)) gg_kX12_mirroredY_kX12_off
set_option maxHeartbeats 4000000 in
set_option maxRecDepth 100000 in
theorem kX12_mirroredY (l : Launch) (D : va_G) (cy : Nat → ClassId) (sz : Nat) (ma : Nat → Nat) (x2 : Int64) (y2 : Int64) : Met l yX12_mirroredY v_kX12_mirroredY ({ frames := 2, cells := 0, slots := 0, locals := 44 } : Room) (va_Pc [.ref (ma 200), .long x2, .long y2] (gp_B D cy sz [((ma 200), mo_0 ma)])) (va_Ql (fun (r : Int64) (u : Unit) => r = (y2 * 16400 - 2 * ((-(x2 - (-50))) * 80 + (y2 - 0) * 100) * 100)) (fun u => gp_E D (va_A [((ma 200), mo_0 ma)] sz) [((ma 200), mo_0 ma)]) (va_A [((ma 200), mo_0 ma)] sz)) 0 0 (va_A [((ma 200), mo_0 ma)] sz) := by
  refine gp_met (Qc := fun A => va_Ql (fun (r : Int64) (u : Unit) => r = (y2 * 16400 - 2 * ((-(x2 - (-50))) * 80 + (y2 - 0) * 100) * 100)) (fun u => gp_E D A [((ma 200), mo_0 ma)]) A) (cc := cX12_mirroredY) (maxL := 5) (ret := (some .long)) (by decide) rfl (Nat.le_of_ble_eq_true rfl) ?_
  intro p e s m below meth c A ls H hx hb hml hr hlocks hts hown hin hK hN hS hP hD hA hl
  have hown : s.vm.findClass RX12 = some m.cls := hown
  have hl : lv_has ls 5 [(0, .ref (ma 200)), (1, .long x2), (3, .long y2)] := hl
  have hiX12 : ∀ w ∈ u_ws RX12 TX12 104, w ∈ v_kX12_mirroredY := fun _ h => List.mem_cons_of_mem _ (List.mem_append_right _ h)
  refine lv_lload_n hx hb dX12_mirroredY_0 rfl (lv_at hl 2 rfl) ?_
  refine lv_aload_n hx hb dX12_mirroredY_1 rfl (lv_at hl 0 rfl) ?_
  have hPc := hP.sub (ws' := [((ma 200), mo_0 ma)]) [0] rfl
  have hDc := hD.sub (ws' := [((ma 200), mo_0 ma)]) [0] (by decide) rfl
  have hFc := va_free (wc := [((ma 200), mo_0 ma)]) hD hS hA [0] rfl
  refine va_calll (va_runV (As := []) (rest := [.long y2]) ⟨hx, hb, hml, hown, hts⟩ (kX12_length l D cy H.size ma) (cwV 0 hts g_kX12_mirroredY_kX12_length_0 rfl rfl rfl (by decide +kernel) ⟨Nat.le_of_ble_eq_true rfl, Nat.le_of_ble_eq_true rfl⟩) (gp_preV (RX12, TX12, 104) 12 0 hPc hDc hK hN rfl rfl) rfl rfl hl.1 rfl (lv_room (Nat.le_of_ble_eq_true rfl)) dX12_mirroredY_2 ⟨Nat.le_of_ble_eq_true rfl, Nat.le_of_ble_eq_true rfl⟩) hS (fun q _ h => hFc q h) hFc (fun r_1 u t H locs ht hvm hw hB hz1 hk1 hS => ?_)
  obtain ⟨hP, hD⟩ := gp_join (wr := []) (w1 := [((ma 200), mo_0 ma)]) hP hD [0] [] rfl rfl (by decide) (by decide) hk1 hFc ht hB
  have hP : va_P D vwCl [((ma 200), mo_0 ma)] H := hP
  have hD : va_D A [((ma 200), mo_0 ma)] := hD
  obtain rfl : r_1 = 16400 := hw
  refine lv_lmul hx hb dX12_mirroredY_5 ?_
  refine lv_ldc2 (v := 2) hx hb hown (hts (.constantLong RX12 108 2) (List.mem_of_getElem? (i := 14) rfl)) dX12_mirroredY_6 ?_
  refine lv_aload_n hx hb dX12_mirroredY_9 rfl (lv_at hl 0 rfl) ?_
  refine lv_lload_n hx hb dX12_mirroredY_10 rfl (lv_at hl 1 rfl) ?_
  refine lv_lload_n hx hb dX12_mirroredY_11 rfl (lv_at hl 2 rfl) ?_
  have hPc := hP.sub (ws' := [((ma 200), mo_0 ma)]) [0] rfl
  have hDc := hD.sub (ws' := [((ma 200), mo_0 ma)]) [0] (by decide) rfl
  have hFc := va_free (wc := [((ma 200), mo_0 ma)]) hD hS hA [0] rfl
  refine va_calll (va_runV (As := [.long x2, .long y2]) (rest := [.long 2, .long (y2 * 16400)]) ⟨hx, hb, hml, hown, hts⟩ (kX12_off l D cy H.size ma x2 y2) (cwV 2 hts g_kX12_mirroredY_kX12_off_1 rfl rfl rfl (by decide +kernel) ⟨Nat.le_of_ble_eq_true rfl, Nat.le_of_ble_eq_true rfl⟩) (gp_preV (RX12, TX12, 104) 12 0 hPc hDc hK hN rfl rfl) rfl rfl hl.1 rfl (lv_room (Nat.le_of_ble_eq_true rfl)) dX12_mirroredY_12 ⟨Nat.le_of_ble_eq_true rfl, Nat.le_of_ble_eq_true rfl⟩) hS (fun q _ h => hFc q h) hFc (fun r_2 u t H locs ht hvm hw hB hz1 hk1 hS => ?_)
  obtain ⟨hP, hD⟩ := gp_join (wr := []) (w1 := [((ma 200), mo_0 ma)]) hP hD [0] [] rfl rfl (by decide) (by decide) hk1 hFc ht hB
  have hP : va_P D vwCl [((ma 200), mo_0 ma)] H := hP
  have hD : va_D A [((ma 200), mo_0 ma)] := hD
  obtain rfl : r_2 = ((-(x2 - (-50))) * 80 + (y2 - 0) * 100) := hw
  refine lv_lmul hx hb dX12_mirroredY_15 ?_
  refine lv_aload_n hx hb dX12_mirroredY_16 rfl (lv_at hl 0 rfl) ?_
  refine va_get (D := D) (ci := 12) (v := .int 50) (C := RX12) (T := TX12) (N := 104) hx hb hts hiX12 hown hK hP 0 rfl rfl 2 (by decide) (hts (.fieldLink RX12 22 "GhostPaneModel" "bx" "I") (List.mem_of_getElem? (i := 2) rfl)) (fun _ h9 => h9) rfl dX12_mirroredY_17 ?_
  refine lv_aload_n hx hb dX12_mirroredY_20 rfl (lv_at hl 0 rfl) ?_
  refine va_get (D := D) (ci := 12) (v := .int (-50)) (C := RX12) (T := TX12) (N := 104) hx hb hts hiX12 hown hK hP 0 rfl rfl 0 (by decide) (hts (.fieldLink RX12 15 "GhostPaneModel" "ax" "I") (List.mem_of_getElem? (i := 5) rfl)) (fun _ h9 => h9) rfl dX12_mirroredY_21 ?_
  refine lv_isub hx hb dX12_mirroredY_24 ?_
  refine gp_ni 100 (by decide) ?_
  refine lv_i2l (v := 100) hx hb dX12_mirroredY_25 (by decide) ?_
  refine lv_lmul hx hb dX12_mirroredY_26 ?_
  refine lv_lsub hx hb dX12_mirroredY_27 ?_
  exact W.lret (v := ((y2 * 16400) - ((2 * ((-(x2 - (-50))) * 80 + (y2 - 0) * 100)) * 100))) hx hb hr (fun t ht hW => ⟨⟨((y2 * 16400) - ((2 * ((-(x2 - (-50))) * 80 + (y2 - 0) * 100)) * 100)), (), rfl, rfl, gp_end ht (hP.sub (ws' := [((ma 200), mo_0 ma)]) [0] rfl) (hD.sub (ws' := [((ma 200), mo_0 ma)]) [0] (by decide) rfl)⟩, hS.F ht⟩) hS.2.2 dX12_mirroredY_28

theorem lf_kX12_of_1 (ma : Nat → Nat) (px : Int32) (py : Int32) (w : Int32) (p_2 : sp_far px py) (k_4 : w = 0) : ((((Int32.toInt64 px) - (-50)) * 100 + ((Int32.toInt64 py) - 0) * 80) : Int64) = (if sp_far px py then sp_of px py w else (-100000000)) := by
  subst k_4; rw [if_pos p_2]; rfl
theorem lf_kX12_of_2 (ma : Nat → Nat) (px : Int32) (py : Int32) (w : Int32) (p_2 : sp_far px py) (k_4 : ¬ w = 0) (k_6 : w = 1) : (((-((Int32.toInt64 px) - (-50))) * 80 + ((Int32.toInt64 py) - 0) * 100) : Int64) = (if sp_far px py then sp_of px py w else (-100000000)) := by
  subst k_6; rw [if_pos p_2]; rfl
theorem lf_kX12_of_3 (ma : Nat → Nat) (px : Int32) (py : Int32) (w : Int32) (p_2 : sp_far px py) (k_4 : ¬ w = 0) (k_6 : ¬ w = 1) (k_8 : w = 2) : (16400 : Int64) = (if sp_far px py then sp_of px py w else (-100000000)) := by
  subst k_8; rw [if_pos p_2]; rfl
theorem lf_kX12_of_4 (ma : Nat → Nat) (px : Int32) (py : Int32) (w : Int32) (p_2 : sp_far px py) (k_4 : ¬ w = 0) (k_6 : ¬ w = 1) (k_8 : ¬ w = 2) (k_10 : w = 3) : (((Int32.toInt64 px) * 16400 + 2 * ((-((Int32.toInt64 px) - (-50))) * 80 + ((Int32.toInt64 py) - 0) * 100) * 80) : Int64) = (if sp_far px py then sp_of px py w else (-100000000)) := by
  subst k_10; rw [if_pos p_2]; rfl
theorem lf_kX12_of_5 (ma : Nat → Nat) (px : Int32) (py : Int32) (w : Int32) (p_2 : sp_far px py) (k_4 : ¬ w = 0) (k_6 : ¬ w = 1) (k_8 : ¬ w = 2) (k_10 : ¬ w = 3) (k_12 : w = 4) : (((Int32.toInt64 py) * 16400 - 2 * ((-((Int32.toInt64 px) - (-50))) * 80 + ((Int32.toInt64 py) - 0) * 100) * 100) : Int64) = (if sp_far px py then sp_of px py w else (-100000000)) := by
  subst k_12; rw [if_pos p_2]; rfl
theorem lf_kX12_of_6 (ma : Nat → Nat) (px : Int32) (py : Int32) (w : Int32) (p_2 : sp_far px py) (k_4 : ¬ w = 0) (k_6 : ¬ w = 1) (k_8 : ¬ w = 2) (k_10 : ¬ w = 3) (k_12 : ¬ w = 4) : ((-100000000) : Int64) = (if sp_far px py then sp_of px py w else (-100000000)) := by
  rw [if_pos p_2]; unfold sp_of; rw [if_neg k_4]; rw [if_neg k_6]; rw [if_neg k_8]; rw [if_neg k_10]; rw [if_neg k_12]
theorem lf_kX12_of_7 (ma : Nat → Nat) (px : Int32) (py : Int32) (w : Int32) (p_2 : ¬ sp_far px py) : ((-100000000) : Int64) = (if sp_far px py then sp_of px py w else (-100000000)) := by
  rw [if_neg p_2]
def v_kX12_of : List Cond := .code yX12_of cX12_of 4 (some .long) :: ([.code yX12_isWide cX12_isWide 2 (some .boolean), .code yX12_isIn cX12_isIn 3 (some .boolean), .methodLink RX12 3 yX12_isIn, .static yX12_isIn, .initialized RX12, .methodLink RX12 113 yX12_isWide, .static yX12_isWide, .code yX12_along cX12_along 5 (some .long), .fieldLink RX12 15 "GhostPaneModel" "ax" "I", .fieldLink RX12 22 "GhostPaneModel" "bx" "I", .fieldLink RX12 19 "GhostPaneModel" "ay" "I", .fieldLink RX12 25 "GhostPaneModel" "by" "I", .methodLink RX12 100 yX12_along, .instanceMethod yX12_along, .selects RX12 yX12_along yX12_along, .code yX12_off cX12_off 5 (some .long), .methodLink RX12 110 yX12_off, .instanceMethod yX12_off, .selects RX12 yX12_off yX12_off, .code yX12_length cX12_length 1 (some .long), .methodLink RX12 104 yX12_length, .instanceMethod yX12_length, .selects RX12 yX12_length yX12_length, .code yX12_mirroredX cX12_mirroredX 5 (some .long), .constantLong RX12 108 2, .methodLink RX12 118 yX12_mirroredX, .instanceMethod yX12_mirroredX, .selects RX12 yX12_mirroredX yX12_mirroredX, .code yX12_mirroredY cX12_mirroredY 5 (some .long), .methodLink RX12 121 yX12_mirroredY, .instanceMethod yX12_mirroredY, .selects RX12 yX12_mirroredY yX12_mirroredY, .constantLong RX12 116 (-100000000)] ++ wsX120)
set_option maxRecDepth 20000 in
theorem gg_kX12_of_kX12_isWide : GoodIn v_kX12_of v_kX12_isWide := goodIn_r (.code yX12_isWide cX12_isWide 2 (some .boolean) :: [.code yX12_isIn cX12_isIn 3 (some .boolean), .methodLink RX12 3 yX12_isIn, .static yX12_isIn, .initialized RX12]) [1, 2, 3, 4, 5] rfl (by decide +kernel)
set_option maxRecDepth 20000 in
theorem g_kX12_of_kX12_isWide_0 : GoodIn v_kX12_of (va_wsS RX12 113 yX12_isWide v_kX12_isWide) := goodIn_app (goodIn_r [.methodLink RX12 113 yX12_isWide, .static yX12_isWide, .initialized RX12] [6, 7, 5] rfl (by decide +kernel)) gg_kX12_of_kX12_isWide
set_option maxRecDepth 20000 in
theorem gg_kX12_of_kX12_along : GoodIn v_kX12_of v_kX12_along := goodIn_ca (goodIn_r (.code yX12_along cX12_along 5 (some .long) :: [.fieldLink RX12 15 "GhostPaneModel" "ax" "I", .fieldLink RX12 22 "GhostPaneModel" "bx" "I", .fieldLink RX12 19 "GhostPaneModel" "ay" "I", .fieldLink RX12 25 "GhostPaneModel" "by" "I"]) [8, 9, 10, 11, 12] rfl (by decide +kernel)) (goodIn_sub (fun _ h => List.mem_cons_of_mem _ (List.mem_append_right _ h)) gwX12)
set_option maxRecDepth 20000 in
theorem g_kX12_of_kX12_along_1 : GoodIn v_kX12_of (wsV RX12 100 RX12 yX12_along v_kX12_along) := goodIn_app (goodIn_r [.methodLink RX12 100 yX12_along, .instanceMethod yX12_along, .selects RX12 yX12_along yX12_along, .initialized RX12] [13, 14, 15, 5] rfl (by decide +kernel)) gg_kX12_of_kX12_along
set_option maxRecDepth 20000 in
theorem gg_kX12_of_kX12_off : GoodIn v_kX12_of v_kX12_off := goodIn_ca (goodIn_r (.code yX12_off cX12_off 5 (some .long) :: [.fieldLink RX12 15 "GhostPaneModel" "ax" "I", .fieldLink RX12 25 "GhostPaneModel" "by" "I", .fieldLink RX12 19 "GhostPaneModel" "ay" "I", .fieldLink RX12 22 "GhostPaneModel" "bx" "I"]) [16, 9, 12, 11, 10] rfl (by decide +kernel)) (goodIn_sub (fun _ h => List.mem_cons_of_mem _ (List.mem_append_right _ h)) gwX12)
set_option maxRecDepth 20000 in
theorem g_kX12_of_kX12_off_2 : GoodIn v_kX12_of (wsV RX12 110 RX12 yX12_off v_kX12_off) := goodIn_app (goodIn_r [.methodLink RX12 110 yX12_off, .instanceMethod yX12_off, .selects RX12 yX12_off yX12_off, .initialized RX12] [17, 18, 19, 5] rfl (by decide +kernel)) gg_kX12_of_kX12_off
set_option maxRecDepth 20000 in
theorem gg_kX12_of_kX12_length : GoodIn v_kX12_of v_kX12_length := goodIn_ca (goodIn_r (.code yX12_length cX12_length 1 (some .long) :: [.fieldLink RX12 22 "GhostPaneModel" "bx" "I", .fieldLink RX12 25 "GhostPaneModel" "by" "I", .code yX12_along cX12_along 5 (some .long), .fieldLink RX12 15 "GhostPaneModel" "ax" "I", .fieldLink RX12 19 "GhostPaneModel" "ay" "I", .methodLink RX12 100 yX12_along, .instanceMethod yX12_along, .selects RX12 yX12_along yX12_along, .initialized RX12]) [20, 10, 12, 8, 9, 11, 13, 14, 15, 5] rfl (by decide +kernel)) (goodIn_sub (fun _ h => List.mem_cons_of_mem _ (List.mem_append_right _ h)) gwX12)
set_option maxRecDepth 20000 in
theorem g_kX12_of_kX12_length_3 : GoodIn v_kX12_of (wsV RX12 104 RX12 yX12_length v_kX12_length) := goodIn_app (goodIn_r [.methodLink RX12 104 yX12_length, .instanceMethod yX12_length, .selects RX12 yX12_length yX12_length, .initialized RX12] [21, 22, 23, 5] rfl (by decide +kernel)) gg_kX12_of_kX12_length
set_option maxRecDepth 20000 in
theorem gg_kX12_of_kX12_mirroredX : GoodIn v_kX12_of v_kX12_mirroredX := goodIn_ca (goodIn_r (.code yX12_mirroredX cX12_mirroredX 5 (some .long) :: [.code yX12_length cX12_length 1 (some .long), .fieldLink RX12 22 "GhostPaneModel" "bx" "I", .fieldLink RX12 25 "GhostPaneModel" "by" "I", .code yX12_along cX12_along 5 (some .long), .fieldLink RX12 15 "GhostPaneModel" "ax" "I", .fieldLink RX12 19 "GhostPaneModel" "ay" "I", .methodLink RX12 100 yX12_along, .instanceMethod yX12_along, .selects RX12 yX12_along yX12_along, .initialized RX12, .methodLink RX12 104 yX12_length, .instanceMethod yX12_length, .selects RX12 yX12_length yX12_length, .constantLong RX12 108 2, .code yX12_off cX12_off 5 (some .long), .methodLink RX12 110 yX12_off, .instanceMethod yX12_off, .selects RX12 yX12_off yX12_off]) [24, 20, 10, 12, 8, 9, 11, 13, 14, 15, 5, 21, 22, 23, 25, 16, 17, 18, 19] rfl (by decide +kernel)) (goodIn_sub (fun _ h => List.mem_cons_of_mem _ (List.mem_append_right _ h)) gwX12)
set_option maxRecDepth 20000 in
theorem g_kX12_of_kX12_mirroredX_4 : GoodIn v_kX12_of (wsV RX12 118 RX12 yX12_mirroredX v_kX12_mirroredX) := goodIn_app (goodIn_r [.methodLink RX12 118 yX12_mirroredX, .instanceMethod yX12_mirroredX, .selects RX12 yX12_mirroredX yX12_mirroredX, .initialized RX12] [26, 27, 28, 5] rfl (by decide +kernel)) gg_kX12_of_kX12_mirroredX
set_option maxRecDepth 20000 in
theorem gg_kX12_of_kX12_mirroredY : GoodIn v_kX12_of v_kX12_mirroredY := goodIn_ca (goodIn_r (.code yX12_mirroredY cX12_mirroredY 5 (some .long) :: [.code yX12_length cX12_length 1 (some .long), .fieldLink RX12 22 "GhostPaneModel" "bx" "I", .fieldLink RX12 25 "GhostPaneModel" "by" "I", .code yX12_along cX12_along 5 (some .long), .fieldLink RX12 15 "GhostPaneModel" "ax" "I", .fieldLink RX12 19 "GhostPaneModel" "ay" "I", .methodLink RX12 100 yX12_along, .instanceMethod yX12_along, .selects RX12 yX12_along yX12_along, .initialized RX12, .methodLink RX12 104 yX12_length, .instanceMethod yX12_length, .selects RX12 yX12_length yX12_length, .constantLong RX12 108 2, .code yX12_off cX12_off 5 (some .long), .methodLink RX12 110 yX12_off, .instanceMethod yX12_off, .selects RX12 yX12_off yX12_off]) [29, 20, 10, 12, 8, 9, 11, 13, 14, 15, 5, 21, 22, 23, 25, 16, 17, 18, 19] rfl (by decide +kernel)) (goodIn_sub (fun _ h => List.mem_cons_of_mem _ (List.mem_append_right _ h)) gwX12)
set_option maxRecDepth 20000 in
theorem g_kX12_of_kX12_mirroredY_5 : GoodIn v_kX12_of (wsV RX12 121 RX12 yX12_mirroredY v_kX12_mirroredY) := goodIn_app (goodIn_r [.methodLink RX12 121 yX12_mirroredY, .instanceMethod yX12_mirroredY, .selects RX12 yX12_mirroredY yX12_mirroredY, .initialized RX12] [30, 31, 32, 5] rfl (by decide +kernel)) gg_kX12_of_kX12_mirroredY
set_option maxHeartbeats 4000000 in
set_option maxRecDepth 100000 in
theorem kX12_of (l : Launch) (D : va_G) (cy : Nat → ClassId) (sz : Nat) (ma : Nat → Nat) (px : Int32) (py : Int32) (w : Int32) : Met l yX12_of v_kX12_of ({ frames := 3, cells := 0, slots := 0, locals := 68 } : Room) (va_Pc [.ref (ma 200), .int px, .int py, .int w] (gp_B D cy sz [((ma 200), mo_0 ma)])) (va_Ql (fun (r : Int64) (u : Unit) => r = (if sp_far px py then sp_of px py w else (-100000000))) (fun u => gp_E D (va_A [((ma 200), mo_0 ma)] sz) []) (va_A [((ma 200), mo_0 ma)] sz)) 0 0 (va_A [((ma 200), mo_0 ma)] sz) := by
  refine gp_met (Qc := fun A => va_Ql (fun (r : Int64) (u : Unit) => r = (if sp_far px py then sp_of px py w else (-100000000))) (fun u => gp_E D A []) A) (cc := cX12_of) (maxL := 4) (ret := (some .long)) (by decide) rfl (Nat.le_of_ble_eq_true rfl) ?_
  intro p e s m below meth c A ls H hx hb hml hr hlocks hts hown hin hK hN hS hP hD hA hl
  have hown : s.vm.findClass RX12 = some m.cls := hown
  have hl : lv_has ls 4 [(0, .ref (ma 200)), (1, .int px), (2, .int py), (3, .int w)] := hl
  refine lv_iload_n hx hb dX12_of_0 rfl (lv_at hl 1 rfl) ?_
  refine lv_iload_n hx hb dX12_of_1 rfl (lv_at hl 2 rfl) ?_
  have hPc := hP.sub (ws' := []) [] rfl
  have hDc := hD.sub (ws' := []) [] (by decide) rfl
  have hFc := va_free (wc := []) hD hS hA [] rfl
  refine va_calli (va_runS (As := [.int px, .int py]) (rest := []) ⟨hx, hb, hml, hown, hts⟩ (kX12_isWide l D cy H.size px py) (va_cwS 2 hts g_kX12_of_kX12_isWide_0 rfl rfl rfl (by decide +kernel) ⟨Nat.le_of_ble_eq_true rfl, Nat.le_of_ble_eq_true rfl⟩) (gp_preS hPc hDc hK hN) rfl rfl hl.1 rfl (lv_room (Nat.le_of_ble_eq_true rfl)) dX12_of_2 ⟨Nat.le_of_ble_eq_true rfl, Nat.le_of_ble_eq_true rfl⟩) hS (fun q _ h => hFc q h) hFc (fun r_1 u t H locs ht hvm hw hB hz1 hk1 hS => ?_)
  obtain ⟨hP, hD⟩ := gp_join (wr := [((ma 200), mo_0 ma)]) (w1 := []) hP hD [] [0] rfl rfl (by decide) (by decide) hk1 hFc ht hB
  have hP : va_P D vwCl [((ma 200), mo_0 ma)] H := hP
  have hD : va_D A [((ma 200), mo_0 ma)] := hD
  rcases hw with ⟨rfl, p_2⟩ | ⟨rfl, p_2⟩
  · refine lv_if_ne (tgt := 12) hx hb dX12_of_5 (by decide) (fun c_3 => ?_) (fun c_3 => absurd c_3 (by decide))
    refine lv_iload_n hx hb dX12_of_12 rfl (lv_at hl 3 rfl) ?_
    by_cases k_4 : w = 0
    · refine lv_tableIn (off := 35) (tgt := 48) hx hb dX12_of_13 (by rw [k_4]; decide) (by rw [k_4]; decide) (by rw [k_4]; decide +kernel) (by decide) ?_
      refine lv_aload_n hx hb dX12_of_48 rfl (lv_at hl 0 rfl) ?_
      refine lv_iload_n hx hb dX12_of_49 rfl (lv_at hl 1 rfl) ?_
      refine lv_i2l (v := (Int32.toInt64 px)) hx hb dX12_of_50 rfl ?_
      refine lv_iload_n hx hb dX12_of_51 rfl (lv_at hl 2 rfl) ?_
      refine lv_i2l (v := (Int32.toInt64 py)) hx hb dX12_of_52 rfl ?_
      have hPc := hP.sub (ws' := [((ma 200), mo_0 ma)]) [0] rfl
      have hDc := hD.sub (ws' := [((ma 200), mo_0 ma)]) [0] (by decide) rfl
      have hFc := va_free (wc := [((ma 200), mo_0 ma)]) hD hS hA [0] rfl
      refine va_calll (va_runV (As := [.long (Int32.toInt64 px), .long (Int32.toInt64 py)]) (rest := []) ⟨hx, hb, hml, hown, hts⟩ (kX12_along l D cy H.size ma (Int32.toInt64 px) (Int32.toInt64 py)) (cwV 2 hts g_kX12_of_kX12_along_1 rfl rfl rfl (by decide +kernel) ⟨Nat.le_of_ble_eq_true rfl, Nat.le_of_ble_eq_true rfl⟩) (gp_preV (RX12, TX12, 104) 12 0 hPc hDc hK hN rfl rfl) rfl rfl hl.1 rfl (lv_room (Nat.le_of_ble_eq_true rfl)) dX12_of_53 ⟨Nat.le_of_ble_eq_true rfl, Nat.le_of_ble_eq_true rfl⟩) hS (fun q _ h => hFc q h) hFc (fun r_5 u t H locs ht hvm hw hB hz1 hk1 hS => ?_)
      obtain ⟨hP, hD⟩ := gp_join (wr := []) (w1 := [((ma 200), mo_0 ma)]) hP hD [0] [] rfl rfl (by decide) (by decide) hk1 hFc ht hB
      have hP : va_P D vwCl [((ma 200), mo_0 ma)] H := hP
      have hD : va_D A [((ma 200), mo_0 ma)] := hD
      obtain rfl : r_5 = (((Int32.toInt64 px) - (-50)) * 100 + ((Int32.toInt64 py) - 0) * 80) := hw
      exact W.lret (v := (((Int32.toInt64 px) - (-50)) * 100 + ((Int32.toInt64 py) - 0) * 80)) hx hb hr (fun t ht hW => ⟨⟨(((Int32.toInt64 px) - (-50)) * 100 + ((Int32.toInt64 py) - 0) * 80), (), rfl, (lf_kX12_of_1 ma px py w p_2 k_4), gp_end ht (hP.sub (ws' := []) [] rfl) (hD.sub (ws' := []) [] (by decide) rfl)⟩, hS.F ht⟩) hS.2.2 dX12_of_56
    by_cases k_6 : w = 1
    · refine lv_tableIn (off := 44) (tgt := 57) hx hb dX12_of_13 (by rw [k_6]; decide) (by rw [k_6]; decide) (by rw [k_6]; decide +kernel) (by decide) ?_
      refine lv_aload_n hx hb dX12_of_57 rfl (lv_at hl 0 rfl) ?_
      refine lv_iload_n hx hb dX12_of_58 rfl (lv_at hl 1 rfl) ?_
      refine lv_i2l (v := (Int32.toInt64 px)) hx hb dX12_of_59 rfl ?_
      refine lv_iload_n hx hb dX12_of_60 rfl (lv_at hl 2 rfl) ?_
      refine lv_i2l (v := (Int32.toInt64 py)) hx hb dX12_of_61 rfl ?_
      have hPc := hP.sub (ws' := [((ma 200), mo_0 ma)]) [0] rfl
      have hDc := hD.sub (ws' := [((ma 200), mo_0 ma)]) [0] (by decide) rfl
      have hFc := va_free (wc := [((ma 200), mo_0 ma)]) hD hS hA [0] rfl
      refine va_calll (va_runV (As := [.long (Int32.toInt64 px), .long (Int32.toInt64 py)]) (rest := []) ⟨hx, hb, hml, hown, hts⟩ (kX12_off l D cy H.size ma (Int32.toInt64 px) (Int32.toInt64 py)) (cwV 2 hts g_kX12_of_kX12_off_2 rfl rfl rfl (by decide +kernel) ⟨Nat.le_of_ble_eq_true rfl, Nat.le_of_ble_eq_true rfl⟩) (gp_preV (RX12, TX12, 104) 12 0 hPc hDc hK hN rfl rfl) rfl rfl hl.1 rfl (lv_room (Nat.le_of_ble_eq_true rfl)) dX12_of_62 ⟨Nat.le_of_ble_eq_true rfl, Nat.le_of_ble_eq_true rfl⟩) hS (fun q _ h => hFc q h) hFc (fun r_7 u t H locs ht hvm hw hB hz1 hk1 hS => ?_)
      obtain ⟨hP, hD⟩ := gp_join (wr := []) (w1 := [((ma 200), mo_0 ma)]) hP hD [0] [] rfl rfl (by decide) (by decide) hk1 hFc ht hB
      have hP : va_P D vwCl [((ma 200), mo_0 ma)] H := hP
      have hD : va_D A [((ma 200), mo_0 ma)] := hD
      obtain rfl : r_7 = ((-((Int32.toInt64 px) - (-50))) * 80 + ((Int32.toInt64 py) - 0) * 100) := hw
      exact W.lret (v := ((-((Int32.toInt64 px) - (-50))) * 80 + ((Int32.toInt64 py) - 0) * 100)) hx hb hr (fun t ht hW => ⟨⟨((-((Int32.toInt64 px) - (-50))) * 80 + ((Int32.toInt64 py) - 0) * 100), (), rfl, (lf_kX12_of_2 ma px py w p_2 k_4 k_6), gp_end ht (hP.sub (ws' := []) [] rfl) (hD.sub (ws' := []) [] (by decide) rfl)⟩, hS.F ht⟩) hS.2.2 dX12_of_65
    by_cases k_8 : w = 2
    · refine lv_tableIn (off := 53) (tgt := 66) hx hb dX12_of_13 (by rw [k_8]; decide) (by rw [k_8]; decide) (by rw [k_8]; decide +kernel) (by decide) ?_
      refine lv_aload_n hx hb dX12_of_66 rfl (lv_at hl 0 rfl) ?_
      have hPc := hP.sub (ws' := [((ma 200), mo_0 ma)]) [0] rfl
      have hDc := hD.sub (ws' := [((ma 200), mo_0 ma)]) [0] (by decide) rfl
      have hFc := va_free (wc := [((ma 200), mo_0 ma)]) hD hS hA [0] rfl
      refine va_calll (va_runV (As := []) (rest := []) ⟨hx, hb, hml, hown, hts⟩ (kX12_length l D cy H.size ma) (cwV 0 hts g_kX12_of_kX12_length_3 rfl rfl rfl (by decide +kernel) ⟨Nat.le_of_ble_eq_true rfl, Nat.le_of_ble_eq_true rfl⟩) (gp_preV (RX12, TX12, 104) 12 0 hPc hDc hK hN rfl rfl) rfl rfl hl.1 rfl (lv_room (Nat.le_of_ble_eq_true rfl)) dX12_of_67 ⟨Nat.le_of_ble_eq_true rfl, Nat.le_of_ble_eq_true rfl⟩) hS (fun q _ h => hFc q h) hFc (fun r_9 u t H locs ht hvm hw hB hz1 hk1 hS => ?_)
      obtain ⟨hP, hD⟩ := gp_join (wr := []) (w1 := [((ma 200), mo_0 ma)]) hP hD [0] [] rfl rfl (by decide) (by decide) hk1 hFc ht hB
      have hP : va_P D vwCl [((ma 200), mo_0 ma)] H := hP
      have hD : va_D A [((ma 200), mo_0 ma)] := hD
      obtain rfl : r_9 = 16400 := hw
      exact W.lret (v := 16400) hx hb hr (fun t ht hW => ⟨⟨16400, (), rfl, (lf_kX12_of_3 ma px py w p_2 k_4 k_6 k_8), gp_end ht (hP.sub (ws' := []) [] rfl) (hD.sub (ws' := []) [] (by decide) rfl)⟩, hS.F ht⟩) hS.2.2 dX12_of_70
    by_cases k_10 : w = 3
    · refine lv_tableIn (off := 58) (tgt := 71) hx hb dX12_of_13 (by rw [k_10]; decide) (by rw [k_10]; decide) (by rw [k_10]; decide +kernel) (by decide) ?_
      refine lv_aload_n hx hb dX12_of_71 rfl (lv_at hl 0 rfl) ?_
      refine lv_iload_n hx hb dX12_of_72 rfl (lv_at hl 1 rfl) ?_
      refine lv_i2l (v := (Int32.toInt64 px)) hx hb dX12_of_73 rfl ?_
      refine lv_iload_n hx hb dX12_of_74 rfl (lv_at hl 2 rfl) ?_
      refine lv_i2l (v := (Int32.toInt64 py)) hx hb dX12_of_75 rfl ?_
      have hPc := hP.sub (ws' := [((ma 200), mo_0 ma)]) [0] rfl
      have hDc := hD.sub (ws' := [((ma 200), mo_0 ma)]) [0] (by decide) rfl
      have hFc := va_free (wc := [((ma 200), mo_0 ma)]) hD hS hA [0] rfl
      refine va_calll (va_runV (As := [.long (Int32.toInt64 px), .long (Int32.toInt64 py)]) (rest := []) ⟨hx, hb, hml, hown, hts⟩ (kX12_mirroredX l D cy H.size ma (Int32.toInt64 px) (Int32.toInt64 py)) (cwV 2 hts g_kX12_of_kX12_mirroredX_4 rfl rfl rfl (by decide +kernel) ⟨Nat.le_of_ble_eq_true rfl, Nat.le_of_ble_eq_true rfl⟩) (gp_preV (RX12, TX12, 104) 12 0 hPc hDc hK hN rfl rfl) rfl rfl hl.1 rfl (lv_room (Nat.le_of_ble_eq_true rfl)) dX12_of_76 ⟨Nat.le_of_ble_eq_true rfl, Nat.le_of_ble_eq_true rfl⟩) hS (fun q _ h => hFc q h) hFc (fun r_11 u t H locs ht hvm hw hB hz1 hk1 hS => ?_)
      obtain ⟨hP, hD⟩ := gp_join (wr := []) (w1 := [((ma 200), mo_0 ma)]) hP hD [0] [] rfl rfl (by decide) (by decide) hk1 hFc ht hB
      have hP : va_P D vwCl [((ma 200), mo_0 ma)] H := hP
      have hD : va_D A [((ma 200), mo_0 ma)] := hD
      obtain rfl : r_11 = ((Int32.toInt64 px) * 16400 + 2 * ((-((Int32.toInt64 px) - (-50))) * 80 + ((Int32.toInt64 py) - 0) * 100) * 80) := hw
      exact W.lret (v := ((Int32.toInt64 px) * 16400 + 2 * ((-((Int32.toInt64 px) - (-50))) * 80 + ((Int32.toInt64 py) - 0) * 100) * 80)) hx hb hr (fun t ht hW => ⟨⟨((Int32.toInt64 px) * 16400 + 2 * ((-((Int32.toInt64 px) - (-50))) * 80 + ((Int32.toInt64 py) - 0) * 100) * 80), (), rfl, (lf_kX12_of_4 ma px py w p_2 k_4 k_6 k_8 k_10), gp_end ht (hP.sub (ws' := []) [] rfl) (hD.sub (ws' := []) [] (by decide) rfl)⟩, hS.F ht⟩) hS.2.2 dX12_of_79
    by_cases k_12 : w = 4
    · refine lv_tableIn (off := 67) (tgt := 80) hx hb dX12_of_13 (by rw [k_12]; decide) (by rw [k_12]; decide) (by rw [k_12]; decide +kernel) (by decide) ?_
      refine lv_aload_n hx hb dX12_of_80 rfl (lv_at hl 0 rfl) ?_
      refine lv_iload_n hx hb dX12_of_81 rfl (lv_at hl 1 rfl) ?_
      refine lv_i2l (v := (Int32.toInt64 px)) hx hb dX12_of_82 rfl ?_
      refine lv_iload_n hx hb dX12_of_83 rfl (lv_at hl 2 rfl) ?_
      refine lv_i2l (v := (Int32.toInt64 py)) hx hb dX12_of_84 rfl ?_
      have hPc := hP.sub (ws' := [((ma 200), mo_0 ma)]) [0] rfl
      have hDc := hD.sub (ws' := [((ma 200), mo_0 ma)]) [0] (by decide) rfl
      have hFc := va_free (wc := [((ma 200), mo_0 ma)]) hD hS hA [0] rfl
      refine va_calll (va_runV (As := [.long (Int32.toInt64 px), .long (Int32.toInt64 py)]) (rest := []) ⟨hx, hb, hml, hown, hts⟩ (kX12_mirroredY l D cy H.size ma (Int32.toInt64 px) (Int32.toInt64 py)) (cwV 2 hts g_kX12_of_kX12_mirroredY_5 rfl rfl rfl (by decide +kernel) ⟨Nat.le_of_ble_eq_true rfl, Nat.le_of_ble_eq_true rfl⟩) (gp_preV (RX12, TX12, 104) 12 0 hPc hDc hK hN rfl rfl) rfl rfl hl.1 rfl (lv_room (Nat.le_of_ble_eq_true rfl)) dX12_of_85 ⟨Nat.le_of_ble_eq_true rfl, Nat.le_of_ble_eq_true rfl⟩) hS (fun q _ h => hFc q h) hFc (fun r_13 u t H locs ht hvm hw hB hz1 hk1 hS => ?_)
      obtain ⟨hP, hD⟩ := gp_join (wr := []) (w1 := [((ma 200), mo_0 ma)]) hP hD [0] [] rfl rfl (by decide) (by decide) hk1 hFc ht hB
      have hP : va_P D vwCl [((ma 200), mo_0 ma)] H := hP
      have hD : va_D A [((ma 200), mo_0 ma)] := hD
      obtain rfl : r_13 = ((Int32.toInt64 py) * 16400 - 2 * ((-((Int32.toInt64 px) - (-50))) * 80 + ((Int32.toInt64 py) - 0) * 100) * 100) := hw
      exact W.lret (v := ((Int32.toInt64 py) * 16400 - 2 * ((-((Int32.toInt64 px) - (-50))) * 80 + ((Int32.toInt64 py) - 0) * 100) * 100)) hx hb hr (fun t ht hW => ⟨⟨((Int32.toInt64 py) * 16400 - 2 * ((-((Int32.toInt64 px) - (-50))) * 80 + ((Int32.toInt64 py) - 0) * 100) * 100), (), rfl, (lf_kX12_of_5 ma px py w p_2 k_4 k_6 k_8 k_10 k_12), gp_end ht (hP.sub (ws' := []) [] rfl) (hD.sub (ws' := []) [] (by decide) rfl)⟩, hS.F ht⟩) hS.2.2 dX12_of_88
    have ho_13 : (w).toInt < 0 ∨ 4 < (w).toInt := gp_sw0_4 k_4 k_6 k_8 k_10 k_12
    refine lv_tableOut (tgt := 89) hx hb dX12_of_13 ho_13 (by decide) ?_
    refine lv_ldc2 (v := (-100000000)) hx hb hown (hts (.constantLong RX12 116 (-100000000)) (List.mem_of_getElem? (i := 33) rfl)) dX12_of_89 ?_
    exact W.lret (v := (-100000000)) hx hb hr (fun t ht hW => ⟨⟨(-100000000), (), rfl, (lf_kX12_of_6 ma px py w p_2 k_4 k_6 k_8 k_10 k_12), gp_end ht (hP.sub (ws' := []) [] rfl) (hD.sub (ws' := []) [] (by decide) rfl)⟩, hS.F ht⟩) hS.2.2 dX12_of_92
  · refine lv_if_ne (tgt := 12) hx hb dX12_of_5 (by decide) (fun c_14 => absurd (by decide) c_14) (fun c_14 => ?_)
    refine lv_ldc2 (v := (-100000000)) hx hb hown (hts (.constantLong RX12 116 (-100000000)) (List.mem_of_getElem? (i := 33) rfl)) dX12_of_8 ?_
    exact W.lret (v := (-100000000)) hx hb hr (fun t ht hW => ⟨⟨(-100000000), (), rfl, (lf_kX12_of_7 ma px py w p_2), gp_end ht (hP.sub (ws' := []) [] rfl) (hD.sub (ws' := []) [] (by decide) rfl)⟩, hS.F ht⟩) hS.2.2 dX12_of_11

def v_kX12_floorOf : List Cond := .code yX12_floorOf cX12_floorOf 2 (some .int) :: ([])
set_option maxHeartbeats 4000000 in
set_option maxRecDepth 100000 in
theorem kX12_floorOf (l : Launch) (D : va_G) (cy : Nat → ClassId) (sz : Nat) : Met l yX12_floorOf v_kX12_floorOf ({ frames := 0, cells := 0, slots := 0, locals := 0 } : Room) (va_Pc [.int 0, .int 1000] (gp_B D cy sz [])) (va_Qi (fun (r : Int32) (u : Unit) => r = 0) (fun u => gp_E D (va_A [] sz) []) (va_A [] sz)) 0 0 (va_A [] sz) := by
  refine gp_met (Qc := fun A => va_Qi (fun (r : Int32) (u : Unit) => r = 0) (fun u => gp_E D A []) A) (cc := cX12_floorOf) (maxL := 2) (ret := (some .int)) (by decide) rfl (Nat.le_of_ble_eq_true rfl) ?_
  intro p e s m below meth c A ls H hx hb hml hr hlocks hts hown hin hK hN hS hP hD hA hl
  have hown : s.vm.findClass RX12 = some m.cls := hown
  have hl : lv_has ls 2 [(0, .int 0), (1, .int 1000)] := hl
  refine lv_iload_n hx hb dX12_floorOf_0 rfl (lv_at hl 0 rfl) ?_
  refine lv_if_lt (tgt := 10) hx hb dX12_floorOf_1 (by decide) (fun c_1 => absurd c_1 (by decide)) (fun c_1 => ?_)
  refine lv_iload_n hx hb dX12_floorOf_4 rfl (lv_at hl 0 rfl) ?_
  refine lv_iload_n hx hb dX12_floorOf_5 rfl (lv_at hl 1 rfl) ?_
  refine lv_idiv hx hb dX12_floorOf_6 (by decide) ?_
  refine gp_ni 0 (by decide) ?_
  refine lv_goto (tgt := 18) hx hb dX12_floorOf_7 (by decide) ?_
  exact W.iret (v := 0) hx hb hr (fun t ht hW => ⟨⟨0, (), rfl, rfl, gp_end ht (hP.sub (ws' := []) [] rfl) (hD.sub (ws' := []) [] (by decide) rfl)⟩, hS.F ht⟩) hS.2.2 dX12_floorOf_18

def v_kX12_feetX : List Cond := .code yX12_feetX cX12_feetX 2 (some .int) :: ([.fieldLink RX12 28 "GhostPaneModel" "cx" "I", .fieldLink RX12 34 "GhostPaneModel" "dx" "I", .fieldLink RX12 381 "GhostPaneModel" "place" "[I", .code yX12_floorOf cX12_floorOf 2 (some .int), .methodLink RX12 441 yX12_floorOf, .static yX12_floorOf, .initialized RX12] ++ wsX120)
set_option maxRecDepth 20000 in
theorem gg_kX12_feetX_kX12_floorOf : GoodIn v_kX12_feetX v_kX12_floorOf := goodIn_r (.code yX12_floorOf cX12_floorOf 2 (some .int) :: []) [4] rfl (by decide +kernel)
set_option maxRecDepth 20000 in
theorem g_kX12_feetX_kX12_floorOf_0 : GoodIn v_kX12_feetX (va_wsS RX12 441 yX12_floorOf v_kX12_floorOf) := goodIn_app (goodIn_r [.methodLink RX12 441 yX12_floorOf, .static yX12_floorOf, .initialized RX12] [5, 6, 7] rfl (by decide +kernel)) gg_kX12_feetX_kX12_floorOf
set_option maxHeartbeats 4000000 in
set_option maxRecDepth 100000 in
theorem kX12_feetX (l : Launch) (D : va_G) (cy : Nat → ClassId) (sz : Nat) (ma : Nat → Nat) : Met l yX12_feetX v_kX12_feetX ({ frames := 1, cells := 0, slots := 0, locals := 21 } : Room) (va_Pc [.ref (ma 200), .int 0] (gp_B D cy sz [((ma 200), mo_0 ma), ((ma 73), .inl (cy 1, 241, .inl (fun _ => 0)))])) (va_Qi (fun (r : Int32) (u : Unit) => r = (-60)) (fun u => gp_E D (va_A [((ma 200), mo_0 ma), ((ma 73), .inl (cy 1, 241, .inl (fun _ => 0)))] sz) [((ma 200), mo_0 ma), ((ma 73), .inl (cy 1, 241, .inl (fun _ => 0)))]) (va_A [((ma 200), mo_0 ma), ((ma 73), .inl (cy 1, 241, .inl (fun _ => 0)))] sz)) 0 0 (va_A [((ma 200), mo_0 ma), ((ma 73), .inl (cy 1, 241, .inl (fun _ => 0)))] sz) := by
  refine gp_met (Qc := fun A => va_Qi (fun (r : Int32) (u : Unit) => r = (-60)) (fun u => gp_E D A [((ma 200), mo_0 ma), ((ma 73), .inl (cy 1, 241, .inl (fun _ => 0)))]) A) (cc := cX12_feetX) (maxL := 2) (ret := (some .int)) (by decide) rfl (Nat.le_of_ble_eq_true rfl) ?_
  intro p e s m below meth c A ls H hx hb hml hr hlocks hts hown hin hK hN hS hP hD hA hl
  have hown : s.vm.findClass RX12 = some m.cls := hown
  have hl : lv_has ls 2 [(0, .ref (ma 200)), (1, .int 0)] := hl
  have hiX12 : ∀ w ∈ u_ws RX12 TX12 104, w ∈ v_kX12_feetX := fun _ h => List.mem_cons_of_mem _ (List.mem_append_right _ h)
  refine lv_aload_n hx hb dX12_feetX_0 rfl (lv_at hl 0 rfl) ?_
  refine va_get (D := D) (ci := 12) (v := .int (-60)) (C := RX12) (T := TX12) (N := 104) hx hb hts hiX12 hown hK hP 0 rfl rfl 4 (by decide) (hts (.fieldLink RX12 28 "GhostPaneModel" "cx" "I") (List.mem_of_getElem? (i := 1) rfl)) (fun _ h9 => h9) rfl dX12_feetX_1 ?_
  refine lv_aload_n hx hb dX12_feetX_4 rfl (lv_at hl 0 rfl) ?_
  refine va_get (D := D) (ci := 12) (v := .int 60) (C := RX12) (T := TX12) (N := 104) hx hb hts hiX12 hown hK hP 0 rfl rfl 6 (by decide) (hts (.fieldLink RX12 34 "GhostPaneModel" "dx" "I") (List.mem_of_getElem? (i := 2) rfl)) (fun _ h9 => h9) rfl dX12_feetX_5 ?_
  refine lv_aload_n hx hb dX12_feetX_8 rfl (lv_at hl 0 rfl) ?_
  refine va_get (D := D) (ci := 12) (v := .int (-60)) (C := RX12) (T := TX12) (N := 104) hx hb hts hiX12 hown hK hP 0 rfl rfl 4 (by decide) (hts (.fieldLink RX12 28 "GhostPaneModel" "cx" "I") (List.mem_of_getElem? (i := 1) rfl)) (fun _ h9 => h9) rfl dX12_feetX_9 ?_
  refine lv_isub hx hb dX12_feetX_12 ?_
  refine gp_ni 120 (by decide) ?_
  refine lv_aload_n hx hb dX12_feetX_13 rfl (lv_at hl 0 rfl) ?_
  refine va_get (D := D) (ci := 12) (v := .ref (ma 73)) (C := RX12) (T := TX12) (N := 104) hx hb hts hiX12 hown hK hP 0 rfl rfl 73 (by decide) (hts (.fieldLink RX12 381 "GhostPaneModel" "place" "[I") (List.mem_of_getElem? (i := 3) rfl)) (fun _ h9 => h9) rfl dX12_feetX_14 ?_
  refine lv_iload_n hx hb dX12_feetX_17 rfl (lv_at hl 1 rfl) ?_
  refine va_iald hx hb hK hP 1 1 rfl rfl (by unfold vp_in; decide) dX12_feetX_18 ?_
  refine gp_ni 0 rfl ?_
  refine lv_imul hx hb dX12_feetX_19 ?_
  refine gp_ni 0 (by decide) ?_
  refine lv_sipush (v := 1000) hx hb dX12_feetX_20 (by decide) ?_
  have hPc := hP.sub (ws' := []) [] rfl
  have hDc := hD.sub (ws' := []) [] (by decide) rfl
  have hFc := va_free (wc := []) hD hS hA [] rfl
  refine va_calli (va_runS (As := [.int 0, .int 1000]) (rest := [.int (-60)]) ⟨hx, hb, hml, hown, hts⟩ (kX12_floorOf l D cy H.size) (va_cwS 2 hts g_kX12_feetX_kX12_floorOf_0 rfl rfl rfl (by decide +kernel) ⟨Nat.le_of_ble_eq_true rfl, Nat.le_of_ble_eq_true rfl⟩) (gp_preS hPc hDc hK hN) rfl rfl hl.1 rfl (lv_room (Nat.le_of_ble_eq_true rfl)) dX12_feetX_23 ⟨Nat.le_of_ble_eq_true rfl, Nat.le_of_ble_eq_true rfl⟩) hS (fun q _ h => hFc q h) hFc (fun r_1 u t H locs ht hvm hw hB hz1 hk1 hS => ?_)
  obtain ⟨hP, hD⟩ := gp_join (wr := [((ma 200), mo_0 ma), ((ma 73), .inl (cy 1, 241, .inl (fun _ => 0)))]) (w1 := []) hP hD [] [0, 1] rfl rfl (by decide) (by decide) hk1 hFc ht hB
  have hP : va_P D vwCl [((ma 200), mo_0 ma), ((ma 73), .inl (cy 1, 241, .inl (fun _ => 0)))] H := hP
  have hD : va_D A [((ma 200), mo_0 ma), ((ma 73), .inl (cy 1, 241, .inl (fun _ => 0)))] := hD
  obtain rfl : r_1 = 0 := hw
  refine lv_iadd hx hb dX12_feetX_26 ?_
  refine gp_ni (-60) (by decide) ?_
  exact W.iret (v := (-60)) hx hb hr (fun t ht hW => ⟨⟨(-60), (), rfl, rfl, gp_end ht (hP.sub (ws' := [((ma 200), mo_0 ma), ((ma 73), .inl (cy 1, 241, .inl (fun _ => 0)))]) [0, 1] rfl) (hD.sub (ws' := [((ma 200), mo_0 ma), ((ma 73), .inl (cy 1, 241, .inl (fun _ => 0)))]) [0, 1] (by decide) rfl)⟩, hS.F ht⟩) hS.2.2 dX12_feetX_27

def v_kX12_feetY : List Cond := .code yX12_feetY cX12_feetY 2 (some .int) :: ([.fieldLink RX12 31 "GhostPaneModel" "cy" "I", .fieldLink RX12 46 "GhostPaneModel" "deep" "I", .fieldLink RX12 37 "GhostPaneModel" "dy" "I", .fieldLink RX12 381 "GhostPaneModel" "place" "[I", .code yX12_floorOf cX12_floorOf 2 (some .int), .methodLink RX12 441 yX12_floorOf, .static yX12_floorOf, .initialized RX12] ++ wsX120)
set_option maxRecDepth 20000 in
theorem gg_kX12_feetY_kX12_floorOf : GoodIn v_kX12_feetY v_kX12_floorOf := goodIn_r (.code yX12_floorOf cX12_floorOf 2 (some .int) :: []) [5] rfl (by decide +kernel)
set_option maxRecDepth 20000 in
theorem g_kX12_feetY_kX12_floorOf_0 : GoodIn v_kX12_feetY (va_wsS RX12 441 yX12_floorOf v_kX12_floorOf) := goodIn_app (goodIn_r [.methodLink RX12 441 yX12_floorOf, .static yX12_floorOf, .initialized RX12] [6, 7, 8] rfl (by decide +kernel)) gg_kX12_feetY_kX12_floorOf
set_option maxHeartbeats 4000000 in
set_option maxRecDepth 100000 in
theorem kX12_feetY (l : Launch) (D : va_G) (cy : Nat → ClassId) (sz : Nat) (ma : Nat → Nat) : Met l yX12_feetY v_kX12_feetY ({ frames := 1, cells := 0, slots := 0, locals := 21 } : Room) (va_Pc [.ref (ma 200), .int 0] (gp_B D cy sz [((ma 200), mo_0 ma), ((ma 73), .inl (cy 1, 241, .inl (fun _ => 0)))])) (va_Qi (fun (r : Int32) (u : Unit) => r = (-40)) (fun u => gp_E D (va_A [((ma 200), mo_0 ma), ((ma 73), .inl (cy 1, 241, .inl (fun _ => 0)))] sz) [((ma 200), mo_0 ma), ((ma 73), .inl (cy 1, 241, .inl (fun _ => 0)))]) (va_A [((ma 200), mo_0 ma), ((ma 73), .inl (cy 1, 241, .inl (fun _ => 0)))] sz)) 0 0 (va_A [((ma 200), mo_0 ma), ((ma 73), .inl (cy 1, 241, .inl (fun _ => 0)))] sz) := by
  refine gp_met (Qc := fun A => va_Qi (fun (r : Int32) (u : Unit) => r = (-40)) (fun u => gp_E D A [((ma 200), mo_0 ma), ((ma 73), .inl (cy 1, 241, .inl (fun _ => 0)))]) A) (cc := cX12_feetY) (maxL := 2) (ret := (some .int)) (by decide) rfl (Nat.le_of_ble_eq_true rfl) ?_
  intro p e s m below meth c A ls H hx hb hml hr hlocks hts hown hin hK hN hS hP hD hA hl
  have hown : s.vm.findClass RX12 = some m.cls := hown
  have hl : lv_has ls 2 [(0, .ref (ma 200)), (1, .int 0)] := hl
  have hiX12 : ∀ w ∈ u_ws RX12 TX12 104, w ∈ v_kX12_feetY := fun _ h => List.mem_cons_of_mem _ (List.mem_append_right _ h)
  refine lv_aload_n hx hb dX12_feetY_0 rfl (lv_at hl 0 rfl) ?_
  refine va_get (D := D) (ci := 12) (v := .int (-40)) (C := RX12) (T := TX12) (N := 104) hx hb hts hiX12 hown hK hP 0 rfl rfl 5 (by decide) (hts (.fieldLink RX12 31 "GhostPaneModel" "cy" "I") (List.mem_of_getElem? (i := 1) rfl)) (fun _ h9 => h9) rfl dX12_feetY_1 ?_
  refine lv_aload_n hx hb dX12_feetY_4 rfl (lv_at hl 0 rfl) ?_
  refine va_get (D := D) (ci := 12) (v := .int 0) (C := RX12) (T := TX12) (N := 104) hx hb hts hiX12 hown hK hP 0 rfl rfl 10 (by decide) (hts (.fieldLink RX12 46 "GhostPaneModel" "deep" "I") (List.mem_of_getElem? (i := 2) rfl)) (fun _ h9 => h9) rfl dX12_feetY_5 ?_
  refine lv_isub hx hb dX12_feetY_8 ?_
  refine gp_ni (-40) (by decide) ?_
  refine lv_aload_n hx hb dX12_feetY_9 rfl (lv_at hl 0 rfl) ?_
  refine va_get (D := D) (ci := 12) (v := .int (-40)) (C := RX12) (T := TX12) (N := 104) hx hb hts hiX12 hown hK hP 0 rfl rfl 7 (by decide) (hts (.fieldLink RX12 37 "GhostPaneModel" "dy" "I") (List.mem_of_getElem? (i := 3) rfl)) (fun _ h9 => h9) rfl dX12_feetY_10 ?_
  refine lv_aload_n hx hb dX12_feetY_13 rfl (lv_at hl 0 rfl) ?_
  refine va_get (D := D) (ci := 12) (v := .int (-40)) (C := RX12) (T := TX12) (N := 104) hx hb hts hiX12 hown hK hP 0 rfl rfl 5 (by decide) (hts (.fieldLink RX12 31 "GhostPaneModel" "cy" "I") (List.mem_of_getElem? (i := 1) rfl)) (fun _ h9 => h9) rfl dX12_feetY_14 ?_
  refine lv_isub hx hb dX12_feetY_17 ?_
  refine gp_ni 0 (by decide) ?_
  refine lv_aload_n hx hb dX12_feetY_18 rfl (lv_at hl 0 rfl) ?_
  refine va_get (D := D) (ci := 12) (v := .ref (ma 73)) (C := RX12) (T := TX12) (N := 104) hx hb hts hiX12 hown hK hP 0 rfl rfl 73 (by decide) (hts (.fieldLink RX12 381 "GhostPaneModel" "place" "[I") (List.mem_of_getElem? (i := 4) rfl)) (fun _ h9 => h9) rfl dX12_feetY_19 ?_
  refine lv_iload_n hx hb dX12_feetY_22 rfl (lv_at hl 1 rfl) ?_
  refine va_iald hx hb hK hP 1 1 rfl rfl (by unfold vp_in; decide) dX12_feetY_23 ?_
  refine gp_ni 0 rfl ?_
  refine lv_imul hx hb dX12_feetY_24 ?_
  refine gp_ni 0 (by decide) ?_
  refine lv_sipush (v := 1000) hx hb dX12_feetY_25 (by decide) ?_
  have hPc := hP.sub (ws' := []) [] rfl
  have hDc := hD.sub (ws' := []) [] (by decide) rfl
  have hFc := va_free (wc := []) hD hS hA [] rfl
  refine va_calli (va_runS (As := [.int 0, .int 1000]) (rest := [.int (-40)]) ⟨hx, hb, hml, hown, hts⟩ (kX12_floorOf l D cy H.size) (va_cwS 2 hts g_kX12_feetY_kX12_floorOf_0 rfl rfl rfl (by decide +kernel) ⟨Nat.le_of_ble_eq_true rfl, Nat.le_of_ble_eq_true rfl⟩) (gp_preS hPc hDc hK hN) rfl rfl hl.1 rfl (lv_room (Nat.le_of_ble_eq_true rfl)) dX12_feetY_28 ⟨Nat.le_of_ble_eq_true rfl, Nat.le_of_ble_eq_true rfl⟩) hS (fun q _ h => hFc q h) hFc (fun r_1 u t H locs ht hvm hw hB hz1 hk1 hS => ?_)
  obtain ⟨hP, hD⟩ := gp_join (wr := [((ma 200), mo_0 ma), ((ma 73), .inl (cy 1, 241, .inl (fun _ => 0)))]) (w1 := []) hP hD [] [0, 1] rfl rfl (by decide) (by decide) hk1 hFc ht hB
  have hP : va_P D vwCl [((ma 200), mo_0 ma), ((ma 73), .inl (cy 1, 241, .inl (fun _ => 0)))] H := hP
  have hD : va_D A [((ma 200), mo_0 ma), ((ma 73), .inl (cy 1, 241, .inl (fun _ => 0)))] := hD
  obtain rfl : r_1 = 0 := hw
  refine lv_iadd hx hb dX12_feetY_31 ?_
  refine gp_ni (-40) (by decide) ?_
  exact W.iret (v := (-40)) hx hb hr (fun t ht hW => ⟨⟨(-40), (), rfl, rfl, gp_end ht (hP.sub (ws' := [((ma 200), mo_0 ma), ((ma 73), .inl (cy 1, 241, .inl (fun _ => 0)))]) [0, 1] rfl) (hD.sub (ws' := [((ma 200), mo_0 ma), ((ma 73), .inl (cy 1, 241, .inl (fun _ => 0)))]) [0, 1] (by decide) rfl)⟩, hS.F ht⟩) hS.2.2 dX12_feetY_32

def v_kX12_isHeld : List Cond := .code yX12_isHeld cX12_isHeld 4 (some .boolean) :: ([.code yX12_feetX cX12_feetX 2 (some .int), .fieldLink RX12 28 "GhostPaneModel" "cx" "I", .fieldLink RX12 34 "GhostPaneModel" "dx" "I", .fieldLink RX12 381 "GhostPaneModel" "place" "[I", .code yX12_floorOf cX12_floorOf 2 (some .int), .methodLink RX12 441 yX12_floorOf, .static yX12_floorOf, .initialized RX12, .methodLink RX12 476 yX12_feetX, .instanceMethod yX12_feetX, .selects RX12 yX12_feetX yX12_feetX, .code yX12_feetY cX12_feetY 2 (some .int), .fieldLink RX12 31 "GhostPaneModel" "cy" "I", .fieldLink RX12 46 "GhostPaneModel" "deep" "I", .fieldLink RX12 37 "GhostPaneModel" "dy" "I", .methodLink RX12 479 yX12_feetY, .instanceMethod yX12_feetY, .selects RX12 yX12_feetY yX12_feetY, .code yX12_mirroredY cX12_mirroredY 5 (some .long), .code yX12_length cX12_length 1 (some .long), .fieldLink RX12 22 "GhostPaneModel" "bx" "I", .fieldLink RX12 25 "GhostPaneModel" "by" "I", .code yX12_along cX12_along 5 (some .long), .fieldLink RX12 15 "GhostPaneModel" "ax" "I", .fieldLink RX12 19 "GhostPaneModel" "ay" "I", .methodLink RX12 100 yX12_along, .instanceMethod yX12_along, .selects RX12 yX12_along yX12_along, .methodLink RX12 104 yX12_length, .instanceMethod yX12_length, .selects RX12 yX12_length yX12_length, .constantLong RX12 108 2, .code yX12_off cX12_off 5 (some .long), .methodLink RX12 110 yX12_off, .instanceMethod yX12_off, .selects RX12 yX12_off yX12_off, .methodLink RX12 121 yX12_mirroredY, .instanceMethod yX12_mirroredY, .selects RX12 yX12_mirroredY yX12_mirroredY, .fieldLink RX12 40 "GhostPaneModel" "floor" "I", .fieldLink RX12 43 "GhostPaneModel" "hand" "I"] ++ wsX120)
set_option maxRecDepth 20000 in
theorem gg_kX12_isHeld_kX12_feetX : GoodIn v_kX12_isHeld v_kX12_feetX := goodIn_ca (goodIn_r (.code yX12_feetX cX12_feetX 2 (some .int) :: [.fieldLink RX12 28 "GhostPaneModel" "cx" "I", .fieldLink RX12 34 "GhostPaneModel" "dx" "I", .fieldLink RX12 381 "GhostPaneModel" "place" "[I", .code yX12_floorOf cX12_floorOf 2 (some .int), .methodLink RX12 441 yX12_floorOf, .static yX12_floorOf, .initialized RX12]) [1, 2, 3, 4, 5, 6, 7, 8] rfl (by decide +kernel)) (goodIn_sub (fun _ h => List.mem_cons_of_mem _ (List.mem_append_right _ h)) gwX12)
set_option maxRecDepth 20000 in
theorem g_kX12_isHeld_kX12_feetX_0 : GoodIn v_kX12_isHeld (wsV RX12 476 RX12 yX12_feetX v_kX12_feetX) := goodIn_app (goodIn_r [.methodLink RX12 476 yX12_feetX, .instanceMethod yX12_feetX, .selects RX12 yX12_feetX yX12_feetX, .initialized RX12] [9, 10, 11, 8] rfl (by decide +kernel)) gg_kX12_isHeld_kX12_feetX
set_option maxRecDepth 20000 in
theorem gg_kX12_isHeld_kX12_feetY : GoodIn v_kX12_isHeld v_kX12_feetY := goodIn_ca (goodIn_r (.code yX12_feetY cX12_feetY 2 (some .int) :: [.fieldLink RX12 31 "GhostPaneModel" "cy" "I", .fieldLink RX12 46 "GhostPaneModel" "deep" "I", .fieldLink RX12 37 "GhostPaneModel" "dy" "I", .fieldLink RX12 381 "GhostPaneModel" "place" "[I", .code yX12_floorOf cX12_floorOf 2 (some .int), .methodLink RX12 441 yX12_floorOf, .static yX12_floorOf, .initialized RX12]) [12, 13, 14, 15, 4, 5, 6, 7, 8] rfl (by decide +kernel)) (goodIn_sub (fun _ h => List.mem_cons_of_mem _ (List.mem_append_right _ h)) gwX12)
set_option maxRecDepth 20000 in
theorem g_kX12_isHeld_kX12_feetY_1 : GoodIn v_kX12_isHeld (wsV RX12 479 RX12 yX12_feetY v_kX12_feetY) := goodIn_app (goodIn_r [.methodLink RX12 479 yX12_feetY, .instanceMethod yX12_feetY, .selects RX12 yX12_feetY yX12_feetY, .initialized RX12] [16, 17, 18, 8] rfl (by decide +kernel)) gg_kX12_isHeld_kX12_feetY
set_option maxRecDepth 20000 in
theorem gg_kX12_isHeld_kX12_mirroredY : GoodIn v_kX12_isHeld v_kX12_mirroredY := goodIn_ca (goodIn_r (.code yX12_mirroredY cX12_mirroredY 5 (some .long) :: [.code yX12_length cX12_length 1 (some .long), .fieldLink RX12 22 "GhostPaneModel" "bx" "I", .fieldLink RX12 25 "GhostPaneModel" "by" "I", .code yX12_along cX12_along 5 (some .long), .fieldLink RX12 15 "GhostPaneModel" "ax" "I", .fieldLink RX12 19 "GhostPaneModel" "ay" "I", .methodLink RX12 100 yX12_along, .instanceMethod yX12_along, .selects RX12 yX12_along yX12_along, .initialized RX12, .methodLink RX12 104 yX12_length, .instanceMethod yX12_length, .selects RX12 yX12_length yX12_length, .constantLong RX12 108 2, .code yX12_off cX12_off 5 (some .long), .methodLink RX12 110 yX12_off, .instanceMethod yX12_off, .selects RX12 yX12_off yX12_off]) [19, 20, 21, 22, 23, 24, 25, 26, 27, 28, 8, 29, 30, 31, 32, 33, 34, 35, 36] rfl (by decide +kernel)) (goodIn_sub (fun _ h => List.mem_cons_of_mem _ (List.mem_append_right _ h)) gwX12)
set_option maxRecDepth 20000 in
theorem g_kX12_isHeld_kX12_mirroredY_2 : GoodIn v_kX12_isHeld (wsV RX12 121 RX12 yX12_mirroredY v_kX12_mirroredY) := goodIn_app (goodIn_r [.methodLink RX12 121 yX12_mirroredY, .instanceMethod yX12_mirroredY, .selects RX12 yX12_mirroredY yX12_mirroredY, .initialized RX12] [37, 38, 39, 8] rfl (by decide +kernel)) gg_kX12_isHeld_kX12_mirroredY
set_option maxRecDepth 20000 in
theorem gg_kX12_isHeld_kX12_length : GoodIn v_kX12_isHeld v_kX12_length := goodIn_ca (goodIn_r (.code yX12_length cX12_length 1 (some .long) :: [.fieldLink RX12 22 "GhostPaneModel" "bx" "I", .fieldLink RX12 25 "GhostPaneModel" "by" "I", .code yX12_along cX12_along 5 (some .long), .fieldLink RX12 15 "GhostPaneModel" "ax" "I", .fieldLink RX12 19 "GhostPaneModel" "ay" "I", .methodLink RX12 100 yX12_along, .instanceMethod yX12_along, .selects RX12 yX12_along yX12_along, .initialized RX12]) [20, 21, 22, 23, 24, 25, 26, 27, 28, 8] rfl (by decide +kernel)) (goodIn_sub (fun _ h => List.mem_cons_of_mem _ (List.mem_append_right _ h)) gwX12)
set_option maxRecDepth 20000 in
theorem g_kX12_isHeld_kX12_length_3 : GoodIn v_kX12_isHeld (wsV RX12 104 RX12 yX12_length v_kX12_length) := goodIn_app (goodIn_r [.methodLink RX12 104 yX12_length, .instanceMethod yX12_length, .selects RX12 yX12_length yX12_length, .initialized RX12] [29, 30, 31, 8] rfl (by decide +kernel)) gg_kX12_isHeld_kX12_length
set_option maxHeartbeats 4000000 in
set_option maxRecDepth 100000 in
theorem kX12_isHeld (l : Launch) (D : va_G) (cy : Nat → ClassId) (sz : Nat) (ma : Nat → Nat) : Met l yX12_isHeld v_kX12_isHeld ({ frames := 3, cells := 0, slots := 0, locals := 68 } : Room) (va_Pc [.ref (ma 200), .int 0] (gp_B D cy sz [((ma 200), mo_0 ma), ((ma 73), .inl (cy 1, 241, .inl (fun _ => 0)))])) (va_Qi (fun (r : Int32) (u : Unit) => r = 1) (fun u => gp_E D (va_A [((ma 200), mo_0 ma), ((ma 73), .inl (cy 1, 241, .inl (fun _ => 0)))] sz) [((ma 200), mo_0 ma), ((ma 73), .inl (cy 1, 241, .inl (fun _ => 0)))]) (va_A [((ma 200), mo_0 ma), ((ma 73), .inl (cy 1, 241, .inl (fun _ => 0)))] sz)) 0 0 (va_A [((ma 200), mo_0 ma), ((ma 73), .inl (cy 1, 241, .inl (fun _ => 0)))] sz) := by
  refine gp_met (Qc := fun A => va_Qi (fun (r : Int32) (u : Unit) => r = 1) (fun u => gp_E D A [((ma 200), mo_0 ma), ((ma 73), .inl (cy 1, 241, .inl (fun _ => 0)))]) A) (cc := cX12_isHeld) (maxL := 4) (ret := (some .boolean)) (by decide) rfl (Nat.le_of_ble_eq_true rfl) ?_
  intro p e s m below meth c A ls H hx hb hml hr hlocks hts hown hin hK hN hS hP hD hA hl
  have hown : s.vm.findClass RX12 = some m.cls := hown
  have hl : lv_has ls 4 [(0, .ref (ma 200)), (1, .int 0)] := hl
  have hiX12 : ∀ w ∈ u_ws RX12 TX12 104, w ∈ v_kX12_isHeld := fun _ h => List.mem_cons_of_mem _ (List.mem_append_right _ h)
  refine lv_aload_n hx hb dX12_isHeld_0 rfl (lv_at hl 0 rfl) ?_
  refine lv_aload_n hx hb dX12_isHeld_1 rfl (lv_at hl 0 rfl) ?_
  refine lv_iload_n hx hb dX12_isHeld_2 rfl (lv_at hl 1 rfl) ?_
  have hPc := hP.sub (ws' := [((ma 200), mo_0 ma), ((ma 73), .inl (cy 1, 241, .inl (fun _ => 0)))]) [0, 1] rfl
  have hDc := hD.sub (ws' := [((ma 200), mo_0 ma), ((ma 73), .inl (cy 1, 241, .inl (fun _ => 0)))]) [0, 1] (by decide) rfl
  have hFc := va_free (wc := [((ma 200), mo_0 ma), ((ma 73), .inl (cy 1, 241, .inl (fun _ => 0)))]) hD hS hA [0, 1] rfl
  refine va_calli (va_runV (As := [.int 0]) (rest := [.ref (ma 200)]) ⟨hx, hb, hml, hown, hts⟩ (kX12_feetX l D cy H.size ma) (cwV 1 hts g_kX12_isHeld_kX12_feetX_0 rfl rfl rfl (by decide +kernel) ⟨Nat.le_of_ble_eq_true rfl, Nat.le_of_ble_eq_true rfl⟩) (gp_preV (RX12, TX12, 104) 12 0 hPc hDc hK hN rfl rfl) rfl rfl hl.1 rfl (lv_room (Nat.le_of_ble_eq_true rfl)) dX12_isHeld_3 ⟨Nat.le_of_ble_eq_true rfl, Nat.le_of_ble_eq_true rfl⟩) hS (fun q _ h => hFc q h) hFc (fun r_1 u t H locs ht hvm hw hB hz1 hk1 hS => ?_)
  obtain ⟨hP, hD⟩ := gp_join (wr := []) (w1 := [((ma 200), mo_0 ma), ((ma 73), .inl (cy 1, 241, .inl (fun _ => 0)))]) hP hD [0, 1] [] rfl rfl (by decide) (by decide) hk1 hFc ht hB
  have hP : va_P D vwCl [((ma 200), mo_0 ma), ((ma 73), .inl (cy 1, 241, .inl (fun _ => 0)))] H := hP
  have hD : va_D A [((ma 200), mo_0 ma), ((ma 73), .inl (cy 1, 241, .inl (fun _ => 0)))] := hD
  obtain rfl : r_1 = (-60) := hw
  refine lv_i2l (v := (-60)) hx hb dX12_isHeld_6 (by decide) ?_
  refine lv_aload_n hx hb dX12_isHeld_7 rfl (lv_at hl 0 rfl) ?_
  refine lv_iload_n hx hb dX12_isHeld_8 rfl (lv_at hl 1 rfl) ?_
  have hPc := hP.sub (ws' := [((ma 200), mo_0 ma), ((ma 73), .inl (cy 1, 241, .inl (fun _ => 0)))]) [0, 1] rfl
  have hDc := hD.sub (ws' := [((ma 200), mo_0 ma), ((ma 73), .inl (cy 1, 241, .inl (fun _ => 0)))]) [0, 1] (by decide) rfl
  have hFc := va_free (wc := [((ma 200), mo_0 ma), ((ma 73), .inl (cy 1, 241, .inl (fun _ => 0)))]) hD hS hA [0, 1] rfl
  refine va_calli (va_runV (As := [.int 0]) (rest := [.long (-60), .ref (ma 200)]) ⟨hx, hb, hml, hown, hts⟩ (kX12_feetY l D cy H.size ma) (cwV 1 hts g_kX12_isHeld_kX12_feetY_1 rfl rfl rfl (by decide +kernel) ⟨Nat.le_of_ble_eq_true rfl, Nat.le_of_ble_eq_true rfl⟩) (gp_preV (RX12, TX12, 104) 12 0 hPc hDc hK hN rfl rfl) rfl rfl hl.1 rfl (lv_room (Nat.le_of_ble_eq_true rfl)) dX12_isHeld_9 ⟨Nat.le_of_ble_eq_true rfl, Nat.le_of_ble_eq_true rfl⟩) hS (fun q _ h => hFc q h) hFc (fun r_2 u t H locs ht hvm hw hB hz1 hk1 hS => ?_)
  obtain ⟨hP, hD⟩ := gp_join (wr := []) (w1 := [((ma 200), mo_0 ma), ((ma 73), .inl (cy 1, 241, .inl (fun _ => 0)))]) hP hD [0, 1] [] rfl rfl (by decide) (by decide) hk1 hFc ht hB
  have hP : va_P D vwCl [((ma 200), mo_0 ma), ((ma 73), .inl (cy 1, 241, .inl (fun _ => 0)))] H := hP
  have hD : va_D A [((ma 200), mo_0 ma), ((ma 73), .inl (cy 1, 241, .inl (fun _ => 0)))] := hD
  obtain rfl : r_2 = (-40) := hw
  refine lv_i2l (v := (-40)) hx hb dX12_isHeld_12 (by decide) ?_
  have hPc := hP.sub (ws' := [((ma 200), mo_0 ma)]) [0] rfl
  have hDc := hD.sub (ws' := [((ma 200), mo_0 ma)]) [0] (by decide) rfl
  have hFc := va_free (wc := [((ma 200), mo_0 ma)]) hD hS hA [0] rfl
  refine va_calll (va_runV (As := [.long (-60), .long (-40)]) (rest := []) ⟨hx, hb, hml, hown, hts⟩ (kX12_mirroredY l D cy H.size ma (-60) (-40)) (cwV 2 hts g_kX12_isHeld_kX12_mirroredY_2 rfl rfl rfl (by decide +kernel) ⟨Nat.le_of_ble_eq_true rfl, Nat.le_of_ble_eq_true rfl⟩) (gp_preV (RX12, TX12, 104) 12 0 hPc hDc hK hN rfl rfl) rfl rfl hl.1 rfl (lv_room (Nat.le_of_ble_eq_true rfl)) dX12_isHeld_13 ⟨Nat.le_of_ble_eq_true rfl, Nat.le_of_ble_eq_true rfl⟩) hS (fun q _ h => hFc q h) hFc (fun r_3 u t H locs ht hvm hw hB hz1 hk1 hS => ?_)
  obtain ⟨hP, hD⟩ := gp_join (wr := [((ma 73), .inl (cy 1, 241, .inl (fun _ => 0)))]) (w1 := [((ma 200), mo_0 ma)]) hP hD [0] [1] rfl rfl (by decide) (by decide) hk1 hFc ht hB
  have hP : va_P D vwCl [((ma 73), .inl (cy 1, 241, .inl (fun _ => 0))), ((ma 200), mo_0 ma)] H := hP
  have hD : va_D A [((ma 73), .inl (cy 1, 241, .inl (fun _ => 0))), ((ma 200), mo_0 ma)] := hD
  obtain rfl : r_3 = ((-40) * 16400 - 2 * ((-((-60) - (-50))) * 80 + ((-40) - 0) * 100) * 100) := hw
  refine gp_nl (-16000) (by decide) ?_
  refine lv_aload_n hx hb dX12_isHeld_16 rfl (lv_at hl 0 rfl) ?_
  refine va_get (D := D) (ci := 12) (v := .int 0) (C := RX12) (T := TX12) (N := 104) hx hb hts hiX12 hown hK hP 1 rfl rfl 8 (by decide) (hts (.fieldLink RX12 40 "GhostPaneModel" "floor" "I") (List.mem_of_getElem? (i := 40) rfl)) (fun _ h9 => h9) rfl dX12_isHeld_17 ?_
  refine lv_i2l (v := 0) hx hb dX12_isHeld_20 (by decide) ?_
  refine lv_aload_n hx hb dX12_isHeld_21 rfl (lv_at hl 0 rfl) ?_
  have hPc := hP.sub (ws' := [((ma 200), mo_0 ma)]) [1] rfl
  have hDc := hD.sub (ws' := [((ma 200), mo_0 ma)]) [1] (by decide) rfl
  have hFc := va_free (wc := [((ma 200), mo_0 ma)]) hD hS hA [1] rfl
  refine va_calll (va_runV (As := []) (rest := [.long 0, .long (-16000)]) ⟨hx, hb, hml, hown, hts⟩ (kX12_length l D cy H.size ma) (cwV 0 hts g_kX12_isHeld_kX12_length_3 rfl rfl rfl (by decide +kernel) ⟨Nat.le_of_ble_eq_true rfl, Nat.le_of_ble_eq_true rfl⟩) (gp_preV (RX12, TX12, 104) 12 0 hPc hDc hK hN rfl rfl) rfl rfl hl.1 rfl (lv_room (Nat.le_of_ble_eq_true rfl)) dX12_isHeld_22 ⟨Nat.le_of_ble_eq_true rfl, Nat.le_of_ble_eq_true rfl⟩) hS (fun q _ h => hFc q h) hFc (fun r_4 u t H locs ht hvm hw hB hz1 hk1 hS => ?_)
  obtain ⟨hP, hD⟩ := gp_join (wr := [((ma 73), .inl (cy 1, 241, .inl (fun _ => 0)))]) (w1 := [((ma 200), mo_0 ma)]) hP hD [1] [0] rfl rfl (by decide) (by decide) hk1 hFc ht hB
  have hP : va_P D vwCl [((ma 73), .inl (cy 1, 241, .inl (fun _ => 0))), ((ma 200), mo_0 ma)] H := hP
  have hD : va_D A [((ma 73), .inl (cy 1, 241, .inl (fun _ => 0))), ((ma 200), mo_0 ma)] := hD
  obtain rfl : r_4 = 16400 := hw
  refine lv_lmul hx hb dX12_isHeld_25 ?_
  refine gp_nl 0 (by decide) ?_
  refine lv_lsub hx hb dX12_isHeld_26 ?_
  refine gp_nl (-16000) (by decide) ?_
  refine lv_lstore_n (lv' := [(2, .long (-16000)), (0, .ref (ma 200)), (1, .int 0)]) hx hb dX12_isHeld_27 rfl hl (by decide) rfl (fun ls hl => ?_)
  refine lv_lload_n hx hb dX12_isHeld_28 rfl (lv_at hl 0 rfl) ?_
  refine lv_aload_n hx hb dX12_isHeld_29 rfl (lv_at hl 1 rfl) ?_
  refine va_get (D := D) (ci := 12) (v := .int 4) (C := RX12) (T := TX12) (N := 104) hx hb hts hiX12 hown hK hP 1 rfl rfl 9 (by decide) (hts (.fieldLink RX12 43 "GhostPaneModel" "hand" "I") (List.mem_of_getElem? (i := 41) rfl)) (fun _ h9 => h9) rfl dX12_isHeld_30 ?_
  refine lv_i2l (v := 4) hx hb dX12_isHeld_33 (by decide) ?_
  refine lv_aload_n hx hb dX12_isHeld_34 rfl (lv_at hl 1 rfl) ?_
  have hPc := hP.sub (ws' := [((ma 200), mo_0 ma)]) [1] rfl
  have hDc := hD.sub (ws' := [((ma 200), mo_0 ma)]) [1] (by decide) rfl
  have hFc := va_free (wc := [((ma 200), mo_0 ma)]) hD hS hA [1] rfl
  refine va_calll (va_runV (As := []) (rest := [.long 4, .long (-16000)]) ⟨hx, hb, hml, hown, hts⟩ (kX12_length l D cy H.size ma) (cwV 0 hts g_kX12_isHeld_kX12_length_3 rfl rfl rfl (by decide +kernel) ⟨Nat.le_of_ble_eq_true rfl, Nat.le_of_ble_eq_true rfl⟩) (gp_preV (RX12, TX12, 104) 12 0 hPc hDc hK hN rfl rfl) rfl rfl hl.1 rfl (lv_room (Nat.le_of_ble_eq_true rfl)) dX12_isHeld_35 ⟨Nat.le_of_ble_eq_true rfl, Nat.le_of_ble_eq_true rfl⟩) hS (fun q _ h => hFc q h) hFc (fun r_5 u t H locs ht hvm hw hB hz1 hk1 hS => ?_)
  obtain ⟨hP, hD⟩ := gp_join (wr := [((ma 73), .inl (cy 1, 241, .inl (fun _ => 0)))]) (w1 := [((ma 200), mo_0 ma)]) hP hD [1] [0] rfl rfl (by decide) (by decide) hk1 hFc ht hB
  have hP : va_P D vwCl [((ma 73), .inl (cy 1, 241, .inl (fun _ => 0))), ((ma 200), mo_0 ma)] H := hP
  have hD : va_D A [((ma 73), .inl (cy 1, 241, .inl (fun _ => 0))), ((ma 200), mo_0 ma)] := hD
  obtain rfl : r_5 = 16400 := hw
  refine lv_lmul hx hb dX12_isHeld_38 ?_
  refine gp_nl 65600 (by decide) ?_
  refine W.lcmp hx hb dX12_isHeld_39 ?_
  refine gp_ni (-1) (by decide) ?_
  refine lv_if_gt (tgt := 63) hx hb dX12_isHeld_40 (by decide) (fun c_6 => absurd c_6 (by decide)) (fun c_6 => ?_)
  refine lv_lload_n hx hb dX12_isHeld_43 rfl (lv_at hl 0 rfl) ?_
  refine lv_lneg hx hb dX12_isHeld_44 ?_
  refine gp_nl 16000 (by decide) ?_
  refine lv_aload_n hx hb dX12_isHeld_45 rfl (lv_at hl 1 rfl) ?_
  refine va_get (D := D) (ci := 12) (v := .int 4) (C := RX12) (T := TX12) (N := 104) hx hb hts hiX12 hown hK hP 1 rfl rfl 9 (by decide) (hts (.fieldLink RX12 43 "GhostPaneModel" "hand" "I") (List.mem_of_getElem? (i := 41) rfl)) (fun _ h9 => h9) rfl dX12_isHeld_46 ?_
  refine lv_i2l (v := 4) hx hb dX12_isHeld_49 (by decide) ?_
  refine lv_aload_n hx hb dX12_isHeld_50 rfl (lv_at hl 1 rfl) ?_
  have hPc := hP.sub (ws' := [((ma 200), mo_0 ma)]) [1] rfl
  have hDc := hD.sub (ws' := [((ma 200), mo_0 ma)]) [1] (by decide) rfl
  have hFc := va_free (wc := [((ma 200), mo_0 ma)]) hD hS hA [1] rfl
  refine va_calll (va_runV (As := []) (rest := [.long 4, .long 16000]) ⟨hx, hb, hml, hown, hts⟩ (kX12_length l D cy H.size ma) (cwV 0 hts g_kX12_isHeld_kX12_length_3 rfl rfl rfl (by decide +kernel) ⟨Nat.le_of_ble_eq_true rfl, Nat.le_of_ble_eq_true rfl⟩) (gp_preV (RX12, TX12, 104) 12 0 hPc hDc hK hN rfl rfl) rfl rfl hl.1 rfl (lv_room (Nat.le_of_ble_eq_true rfl)) dX12_isHeld_51 ⟨Nat.le_of_ble_eq_true rfl, Nat.le_of_ble_eq_true rfl⟩) hS (fun q _ h => hFc q h) hFc (fun r_7 u t H locs ht hvm hw hB hz1 hk1 hS => ?_)
  obtain ⟨hP, hD⟩ := gp_join (wr := [((ma 73), .inl (cy 1, 241, .inl (fun _ => 0)))]) (w1 := [((ma 200), mo_0 ma)]) hP hD [1] [0] rfl rfl (by decide) (by decide) hk1 hFc ht hB
  have hP : va_P D vwCl [((ma 73), .inl (cy 1, 241, .inl (fun _ => 0))), ((ma 200), mo_0 ma)] H := hP
  have hD : va_D A [((ma 73), .inl (cy 1, 241, .inl (fun _ => 0))), ((ma 200), mo_0 ma)] := hD
  obtain rfl : r_7 = 16400 := hw
  refine lv_lmul hx hb dX12_isHeld_54 ?_
  refine gp_nl 65600 (by decide) ?_
  refine W.lcmp hx hb dX12_isHeld_55 ?_
  refine gp_ni (-1) (by decide) ?_
  refine lv_if_gt (tgt := 63) hx hb dX12_isHeld_56 (by decide) (fun c_8 => absurd c_8 (by decide)) (fun c_8 => ?_)
  refine lv_iconst (v := 1) hx hb dX12_isHeld_59 (by decide) ?_
  refine lv_goto (tgt := 64) hx hb dX12_isHeld_60 (by decide) ?_
  exact W.zret (v := 1) hx hb hr narrow_b1 (fun t ht hW => ⟨⟨1, (), rfl, rfl, gp_end ht (hP.sub (ws' := [((ma 200), mo_0 ma), ((ma 73), .inl (cy 1, 241, .inl (fun _ => 0)))]) [1, 0] rfl) (hD.sub (ws' := [((ma 200), mo_0 ma), ((ma 73), .inl (cy 1, 241, .inl (fun _ => 0)))]) [1, 0] (by decide) rfl)⟩, hS.F ht⟩) hS.2.2 dX12_isHeld_64

def v_kX12_clashes : List Cond := .code yX12_clashes cX12_clashes 10 (some .int) :: ([.code yX12_feetX cX12_feetX 2 (some .int), .fieldLink RX12 28 "GhostPaneModel" "cx" "I", .fieldLink RX12 34 "GhostPaneModel" "dx" "I", .fieldLink RX12 381 "GhostPaneModel" "place" "[I", .code yX12_floorOf cX12_floorOf 2 (some .int), .methodLink RX12 441 yX12_floorOf, .static yX12_floorOf, .initialized RX12, .methodLink RX12 476 yX12_feetX, .instanceMethod yX12_feetX, .selects RX12 yX12_feetX yX12_feetX, .code yX12_feetY cX12_feetY 2 (some .int), .fieldLink RX12 31 "GhostPaneModel" "cy" "I", .fieldLink RX12 46 "GhostPaneModel" "deep" "I", .fieldLink RX12 37 "GhostPaneModel" "dy" "I", .methodLink RX12 479 yX12_feetY, .instanceMethod yX12_feetY, .selects RX12 yX12_feetY yX12_feetY, .fieldLink RX12 384 "GhostPaneModel" "height" "[I", .code yX12_mirroredX cX12_mirroredX 5 (some .long), .code yX12_length cX12_length 1 (some .long), .fieldLink RX12 22 "GhostPaneModel" "bx" "I", .fieldLink RX12 25 "GhostPaneModel" "by" "I", .code yX12_along cX12_along 5 (some .long), .fieldLink RX12 15 "GhostPaneModel" "ax" "I", .fieldLink RX12 19 "GhostPaneModel" "ay" "I", .methodLink RX12 100 yX12_along, .instanceMethod yX12_along, .selects RX12 yX12_along yX12_along, .methodLink RX12 104 yX12_length, .instanceMethod yX12_length, .selects RX12 yX12_length yX12_length, .constantLong RX12 108 2, .code yX12_off cX12_off 5 (some .long), .methodLink RX12 110 yX12_off, .instanceMethod yX12_off, .selects RX12 yX12_off yX12_off, .methodLink RX12 118 yX12_mirroredX, .instanceMethod yX12_mirroredX, .selects RX12 yX12_mirroredX yX12_mirroredX, .code yX12_mirroredY cX12_mirroredY 5 (some .long), .methodLink RX12 121 yX12_mirroredY, .instanceMethod yX12_mirroredY, .selects RX12 yX12_mirroredY yX12_mirroredY, .fieldLink RX12 78 "GhostPaneModel" "isThing" "[Z"] ++ wsX120)
set_option maxRecDepth 20000 in
theorem gg_kX12_clashes_kX12_feetX : GoodIn v_kX12_clashes v_kX12_feetX := goodIn_ca (goodIn_r (.code yX12_feetX cX12_feetX 2 (some .int) :: [.fieldLink RX12 28 "GhostPaneModel" "cx" "I", .fieldLink RX12 34 "GhostPaneModel" "dx" "I", .fieldLink RX12 381 "GhostPaneModel" "place" "[I", .code yX12_floorOf cX12_floorOf 2 (some .int), .methodLink RX12 441 yX12_floorOf, .static yX12_floorOf, .initialized RX12]) [1, 2, 3, 4, 5, 6, 7, 8] rfl (by decide +kernel)) (goodIn_sub (fun _ h => List.mem_cons_of_mem _ (List.mem_append_right _ h)) gwX12)
set_option maxRecDepth 20000 in
theorem g_kX12_clashes_kX12_feetX_0 : GoodIn v_kX12_clashes (wsV RX12 476 RX12 yX12_feetX v_kX12_feetX) := goodIn_app (goodIn_r [.methodLink RX12 476 yX12_feetX, .instanceMethod yX12_feetX, .selects RX12 yX12_feetX yX12_feetX, .initialized RX12] [9, 10, 11, 8] rfl (by decide +kernel)) gg_kX12_clashes_kX12_feetX
set_option maxRecDepth 20000 in
theorem gg_kX12_clashes_kX12_feetY : GoodIn v_kX12_clashes v_kX12_feetY := goodIn_ca (goodIn_r (.code yX12_feetY cX12_feetY 2 (some .int) :: [.fieldLink RX12 31 "GhostPaneModel" "cy" "I", .fieldLink RX12 46 "GhostPaneModel" "deep" "I", .fieldLink RX12 37 "GhostPaneModel" "dy" "I", .fieldLink RX12 381 "GhostPaneModel" "place" "[I", .code yX12_floorOf cX12_floorOf 2 (some .int), .methodLink RX12 441 yX12_floorOf, .static yX12_floorOf, .initialized RX12]) [12, 13, 14, 15, 4, 5, 6, 7, 8] rfl (by decide +kernel)) (goodIn_sub (fun _ h => List.mem_cons_of_mem _ (List.mem_append_right _ h)) gwX12)
set_option maxRecDepth 20000 in
theorem g_kX12_clashes_kX12_feetY_1 : GoodIn v_kX12_clashes (wsV RX12 479 RX12 yX12_feetY v_kX12_feetY) := goodIn_app (goodIn_r [.methodLink RX12 479 yX12_feetY, .instanceMethod yX12_feetY, .selects RX12 yX12_feetY yX12_feetY, .initialized RX12] [16, 17, 18, 8] rfl (by decide +kernel)) gg_kX12_clashes_kX12_feetY
set_option maxRecDepth 20000 in
theorem gg_kX12_clashes_kX12_mirroredX : GoodIn v_kX12_clashes v_kX12_mirroredX := goodIn_ca (goodIn_r (.code yX12_mirroredX cX12_mirroredX 5 (some .long) :: [.code yX12_length cX12_length 1 (some .long), .fieldLink RX12 22 "GhostPaneModel" "bx" "I", .fieldLink RX12 25 "GhostPaneModel" "by" "I", .code yX12_along cX12_along 5 (some .long), .fieldLink RX12 15 "GhostPaneModel" "ax" "I", .fieldLink RX12 19 "GhostPaneModel" "ay" "I", .methodLink RX12 100 yX12_along, .instanceMethod yX12_along, .selects RX12 yX12_along yX12_along, .initialized RX12, .methodLink RX12 104 yX12_length, .instanceMethod yX12_length, .selects RX12 yX12_length yX12_length, .constantLong RX12 108 2, .code yX12_off cX12_off 5 (some .long), .methodLink RX12 110 yX12_off, .instanceMethod yX12_off, .selects RX12 yX12_off yX12_off]) [20, 21, 22, 23, 24, 25, 26, 27, 28, 29, 8, 30, 31, 32, 33, 34, 35, 36, 37] rfl (by decide +kernel)) (goodIn_sub (fun _ h => List.mem_cons_of_mem _ (List.mem_append_right _ h)) gwX12)
set_option maxRecDepth 20000 in
theorem g_kX12_clashes_kX12_mirroredX_2 : GoodIn v_kX12_clashes (wsV RX12 118 RX12 yX12_mirroredX v_kX12_mirroredX) := goodIn_app (goodIn_r [.methodLink RX12 118 yX12_mirroredX, .instanceMethod yX12_mirroredX, .selects RX12 yX12_mirroredX yX12_mirroredX, .initialized RX12] [38, 39, 40, 8] rfl (by decide +kernel)) gg_kX12_clashes_kX12_mirroredX
set_option maxRecDepth 20000 in
theorem gg_kX12_clashes_kX12_mirroredY : GoodIn v_kX12_clashes v_kX12_mirroredY := goodIn_ca (goodIn_r (.code yX12_mirroredY cX12_mirroredY 5 (some .long) :: [.code yX12_length cX12_length 1 (some .long), .fieldLink RX12 22 "GhostPaneModel" "bx" "I", .fieldLink RX12 25 "GhostPaneModel" "by" "I", .code yX12_along cX12_along 5 (some .long), .fieldLink RX12 15 "GhostPaneModel" "ax" "I", .fieldLink RX12 19 "GhostPaneModel" "ay" "I", .methodLink RX12 100 yX12_along, .instanceMethod yX12_along, .selects RX12 yX12_along yX12_along, .initialized RX12, .methodLink RX12 104 yX12_length, .instanceMethod yX12_length, .selects RX12 yX12_length yX12_length, .constantLong RX12 108 2, .code yX12_off cX12_off 5 (some .long), .methodLink RX12 110 yX12_off, .instanceMethod yX12_off, .selects RX12 yX12_off yX12_off]) [41, 21, 22, 23, 24, 25, 26, 27, 28, 29, 8, 30, 31, 32, 33, 34, 35, 36, 37] rfl (by decide +kernel)) (goodIn_sub (fun _ h => List.mem_cons_of_mem _ (List.mem_append_right _ h)) gwX12)
set_option maxRecDepth 20000 in
theorem g_kX12_clashes_kX12_mirroredY_3 : GoodIn v_kX12_clashes (wsV RX12 121 RX12 yX12_mirroredY v_kX12_mirroredY) := goodIn_app (goodIn_r [.methodLink RX12 121 yX12_mirroredY, .instanceMethod yX12_mirroredY, .selects RX12 yX12_mirroredY yX12_mirroredY, .initialized RX12] [42, 43, 44, 8] rfl (by decide +kernel)) gg_kX12_clashes_kX12_mirroredY
set_option maxRecDepth 20000 in
theorem gg_kX12_clashes_kX12_length : GoodIn v_kX12_clashes v_kX12_length := goodIn_ca (goodIn_r (.code yX12_length cX12_length 1 (some .long) :: [.fieldLink RX12 22 "GhostPaneModel" "bx" "I", .fieldLink RX12 25 "GhostPaneModel" "by" "I", .code yX12_along cX12_along 5 (some .long), .fieldLink RX12 15 "GhostPaneModel" "ax" "I", .fieldLink RX12 19 "GhostPaneModel" "ay" "I", .methodLink RX12 100 yX12_along, .instanceMethod yX12_along, .selects RX12 yX12_along yX12_along, .initialized RX12]) [21, 22, 23, 24, 25, 26, 27, 28, 29, 8] rfl (by decide +kernel)) (goodIn_sub (fun _ h => List.mem_cons_of_mem _ (List.mem_append_right _ h)) gwX12)
set_option maxRecDepth 20000 in
theorem g_kX12_clashes_kX12_length_4 : GoodIn v_kX12_clashes (wsV RX12 104 RX12 yX12_length v_kX12_length) := goodIn_app (goodIn_r [.methodLink RX12 104 yX12_length, .instanceMethod yX12_length, .selects RX12 yX12_length yX12_length, .initialized RX12] [30, 31, 32, 8] rfl (by decide +kernel)) gg_kX12_clashes_kX12_length
set_option maxHeartbeats 4000000 in
set_option maxRecDepth 100000 in
theorem kX12_clashes (l : Launch) (D : va_G) (cy : Nat → ClassId) (sz : Nat) (ma : Nat → Nat) : Met l yX12_clashes v_kX12_clashes ({ frames := 3, cells := 0, slots := 0, locals := 68 } : Room) (va_Pc [.ref (ma 200), .int 0] (gp_B D cy sz [((ma 200), mo_0 ma), ((ma 20), .inl (cy 3, 8, .inl (fun _ => 0))), ((ma 73), .inl (cy 1, 241, .inl (fun _ => 0))), ((ma 74), .inl (cy 1, 241, .inl (fun _ => 0)))])) (va_Qi (fun (r : Int32) (u : Unit) => r = 0) (fun u => gp_E D (va_A [((ma 200), mo_0 ma), ((ma 20), .inl (cy 3, 8, .inl (fun _ => 0))), ((ma 73), .inl (cy 1, 241, .inl (fun _ => 0))), ((ma 74), .inl (cy 1, 241, .inl (fun _ => 0)))] sz) [((ma 200), mo_0 ma), ((ma 20), .inl (cy 3, 8, .inl (fun _ => 0))), ((ma 73), .inl (cy 1, 241, .inl (fun _ => 0))), ((ma 74), .inl (cy 1, 241, .inl (fun _ => 0)))]) (va_A [((ma 200), mo_0 ma), ((ma 20), .inl (cy 3, 8, .inl (fun _ => 0))), ((ma 73), .inl (cy 1, 241, .inl (fun _ => 0))), ((ma 74), .inl (cy 1, 241, .inl (fun _ => 0)))] sz)) 0 0 (va_A [((ma 200), mo_0 ma), ((ma 20), .inl (cy 3, 8, .inl (fun _ => 0))), ((ma 73), .inl (cy 1, 241, .inl (fun _ => 0))), ((ma 74), .inl (cy 1, 241, .inl (fun _ => 0)))] sz) := by
  refine gp_met (Qc := fun A => va_Qi (fun (r : Int32) (u : Unit) => r = 0) (fun u => gp_E D A [((ma 200), mo_0 ma), ((ma 20), .inl (cy 3, 8, .inl (fun _ => 0))), ((ma 73), .inl (cy 1, 241, .inl (fun _ => 0))), ((ma 74), .inl (cy 1, 241, .inl (fun _ => 0)))]) A) (cc := cX12_clashes) (maxL := 10) (ret := (some .int)) (by decide) rfl (Nat.le_of_ble_eq_true rfl) ?_
  intro p e s m below meth c A ls H hx hb hml hr hlocks hts hown hin hK hN hS hP hD hA hl
  have hown : s.vm.findClass RX12 = some m.cls := hown
  have hl : lv_has ls 10 [(0, .ref (ma 200)), (1, .int 0)] := hl
  have hiX12 : ∀ w ∈ u_ws RX12 TX12 104, w ∈ v_kX12_clashes := fun _ h => List.mem_cons_of_mem _ (List.mem_append_right _ h)
  refine lv_aload_n hx hb dX12_clashes_0 rfl (lv_at hl 0 rfl) ?_
  refine lv_aload_n hx hb dX12_clashes_1 rfl (lv_at hl 0 rfl) ?_
  refine lv_iload_n hx hb dX12_clashes_2 rfl (lv_at hl 1 rfl) ?_
  have hPc := hP.sub (ws' := [((ma 200), mo_0 ma), ((ma 73), .inl (cy 1, 241, .inl (fun _ => 0)))]) [0, 2] rfl
  have hDc := hD.sub (ws' := [((ma 200), mo_0 ma), ((ma 73), .inl (cy 1, 241, .inl (fun _ => 0)))]) [0, 2] (by decide) rfl
  have hFc := va_free (wc := [((ma 200), mo_0 ma), ((ma 73), .inl (cy 1, 241, .inl (fun _ => 0)))]) hD hS hA [0, 2] rfl
  refine va_calli (va_runV (As := [.int 0]) (rest := [.ref (ma 200)]) ⟨hx, hb, hml, hown, hts⟩ (kX12_feetX l D cy H.size ma) (cwV 1 hts g_kX12_clashes_kX12_feetX_0 rfl rfl rfl (by decide +kernel) ⟨Nat.le_of_ble_eq_true rfl, Nat.le_of_ble_eq_true rfl⟩) (gp_preV (RX12, TX12, 104) 12 0 hPc hDc hK hN rfl rfl) rfl rfl hl.1 rfl (lv_room (Nat.le_of_ble_eq_true rfl)) dX12_clashes_3 ⟨Nat.le_of_ble_eq_true rfl, Nat.le_of_ble_eq_true rfl⟩) hS (fun q _ h => hFc q h) hFc (fun r_1 u t H locs ht hvm hw hB hz1 hk1 hS => ?_)
  obtain ⟨hP, hD⟩ := gp_join (wr := [((ma 20), .inl (cy 3, 8, .inl (fun _ => 0))), ((ma 74), .inl (cy 1, 241, .inl (fun _ => 0)))]) (w1 := [((ma 200), mo_0 ma), ((ma 73), .inl (cy 1, 241, .inl (fun _ => 0)))]) hP hD [0, 2] [1, 3] rfl rfl (by decide) (by decide) hk1 hFc ht hB
  have hP : va_P D vwCl [((ma 20), .inl (cy 3, 8, .inl (fun _ => 0))), ((ma 74), .inl (cy 1, 241, .inl (fun _ => 0))), ((ma 200), mo_0 ma), ((ma 73), .inl (cy 1, 241, .inl (fun _ => 0)))] H := hP
  have hD : va_D A [((ma 20), .inl (cy 3, 8, .inl (fun _ => 0))), ((ma 74), .inl (cy 1, 241, .inl (fun _ => 0))), ((ma 200), mo_0 ma), ((ma 73), .inl (cy 1, 241, .inl (fun _ => 0)))] := hD
  obtain rfl : r_1 = (-60) := hw
  refine lv_i2l (v := (-60)) hx hb dX12_clashes_6 (by decide) ?_
  refine lv_aload_n hx hb dX12_clashes_7 rfl (lv_at hl 0 rfl) ?_
  refine lv_iload_n hx hb dX12_clashes_8 rfl (lv_at hl 1 rfl) ?_
  have hPc := hP.sub (ws' := [((ma 200), mo_0 ma), ((ma 73), .inl (cy 1, 241, .inl (fun _ => 0)))]) [2, 3] rfl
  have hDc := hD.sub (ws' := [((ma 200), mo_0 ma), ((ma 73), .inl (cy 1, 241, .inl (fun _ => 0)))]) [2, 3] (by decide) rfl
  have hFc := va_free (wc := [((ma 200), mo_0 ma), ((ma 73), .inl (cy 1, 241, .inl (fun _ => 0)))]) hD hS hA [2, 3] rfl
  refine va_calli (va_runV (As := [.int 0]) (rest := [.long (-60), .ref (ma 200)]) ⟨hx, hb, hml, hown, hts⟩ (kX12_feetY l D cy H.size ma) (cwV 1 hts g_kX12_clashes_kX12_feetY_1 rfl rfl rfl (by decide +kernel) ⟨Nat.le_of_ble_eq_true rfl, Nat.le_of_ble_eq_true rfl⟩) (gp_preV (RX12, TX12, 104) 12 0 hPc hDc hK hN rfl rfl) rfl rfl hl.1 rfl (lv_room (Nat.le_of_ble_eq_true rfl)) dX12_clashes_9 ⟨Nat.le_of_ble_eq_true rfl, Nat.le_of_ble_eq_true rfl⟩) hS (fun q _ h => hFc q h) hFc (fun r_2 u t H locs ht hvm hw hB hz1 hk1 hS => ?_)
  obtain ⟨hP, hD⟩ := gp_join (wr := [((ma 20), .inl (cy 3, 8, .inl (fun _ => 0))), ((ma 74), .inl (cy 1, 241, .inl (fun _ => 0)))]) (w1 := [((ma 200), mo_0 ma), ((ma 73), .inl (cy 1, 241, .inl (fun _ => 0)))]) hP hD [2, 3] [0, 1] rfl rfl (by decide) (by decide) hk1 hFc ht hB
  have hP : va_P D vwCl [((ma 20), .inl (cy 3, 8, .inl (fun _ => 0))), ((ma 74), .inl (cy 1, 241, .inl (fun _ => 0))), ((ma 200), mo_0 ma), ((ma 73), .inl (cy 1, 241, .inl (fun _ => 0)))] H := hP
  have hD : va_D A [((ma 20), .inl (cy 3, 8, .inl (fun _ => 0))), ((ma 74), .inl (cy 1, 241, .inl (fun _ => 0))), ((ma 200), mo_0 ma), ((ma 73), .inl (cy 1, 241, .inl (fun _ => 0)))] := hD
  obtain rfl : r_2 = (-40) := hw
  refine lv_aload_n hx hb dX12_clashes_12 rfl (lv_at hl 0 rfl) ?_
  refine va_get (D := D) (ci := 12) (v := .ref (ma 74)) (C := RX12) (T := TX12) (N := 104) hx hb hts hiX12 hown hK hP 2 rfl rfl 74 (by decide) (hts (.fieldLink RX12 384 "GhostPaneModel" "height" "[I") (List.mem_of_getElem? (i := 19) rfl)) (fun _ h9 => h9) rfl dX12_clashes_13 ?_
  refine lv_iload_n hx hb dX12_clashes_16 rfl (lv_at hl 1 rfl) ?_
  refine va_iald hx hb hK hP 1 1 rfl rfl (by unfold vp_in; decide) dX12_clashes_17 ?_
  refine gp_ni 0 rfl ?_
  refine lv_iadd hx hb dX12_clashes_18 ?_
  refine gp_ni (-40) (by decide) ?_
  refine lv_i2l (v := (-40)) hx hb dX12_clashes_19 (by decide) ?_
  have hPc := hP.sub (ws' := [((ma 200), mo_0 ma)]) [2] rfl
  have hDc := hD.sub (ws' := [((ma 200), mo_0 ma)]) [2] (by decide) rfl
  have hFc := va_free (wc := [((ma 200), mo_0 ma)]) hD hS hA [2] rfl
  refine va_calll (va_runV (As := [.long (-60), .long (-40)]) (rest := []) ⟨hx, hb, hml, hown, hts⟩ (kX12_mirroredX l D cy H.size ma (-60) (-40)) (cwV 2 hts g_kX12_clashes_kX12_mirroredX_2 rfl rfl rfl (by decide +kernel) ⟨Nat.le_of_ble_eq_true rfl, Nat.le_of_ble_eq_true rfl⟩) (gp_preV (RX12, TX12, 104) 12 0 hPc hDc hK hN rfl rfl) rfl rfl hl.1 rfl (lv_room (Nat.le_of_ble_eq_true rfl)) dX12_clashes_20 ⟨Nat.le_of_ble_eq_true rfl, Nat.le_of_ble_eq_true rfl⟩) hS (fun q _ h => hFc q h) hFc (fun r_3 u t H locs ht hvm hw hB hz1 hk1 hS => ?_)
  obtain ⟨hP, hD⟩ := gp_join (wr := [((ma 20), .inl (cy 3, 8, .inl (fun _ => 0))), ((ma 74), .inl (cy 1, 241, .inl (fun _ => 0))), ((ma 73), .inl (cy 1, 241, .inl (fun _ => 0)))]) (w1 := [((ma 200), mo_0 ma)]) hP hD [2] [0, 1, 3] rfl rfl (by decide) (by decide) hk1 hFc ht hB
  have hP : va_P D vwCl [((ma 20), .inl (cy 3, 8, .inl (fun _ => 0))), ((ma 74), .inl (cy 1, 241, .inl (fun _ => 0))), ((ma 73), .inl (cy 1, 241, .inl (fun _ => 0))), ((ma 200), mo_0 ma)] H := hP
  have hD : va_D A [((ma 20), .inl (cy 3, 8, .inl (fun _ => 0))), ((ma 74), .inl (cy 1, 241, .inl (fun _ => 0))), ((ma 73), .inl (cy 1, 241, .inl (fun _ => 0))), ((ma 200), mo_0 ma)] := hD
  obtain rfl : r_3 = ((-60) * 16400 + 2 * ((-((-60) - (-50))) * 80 + ((-40) - 0) * 100) * 80) := hw
  refine gp_nl (-1496000) (by decide) ?_
  refine lv_lstore_n (lv' := [(2, .long (-1496000)), (0, .ref (ma 200)), (1, .int 0)]) hx hb dX12_clashes_23 rfl hl (by decide) rfl (fun ls hl => ?_)
  refine lv_aload_n hx hb dX12_clashes_24 rfl (lv_at hl 1 rfl) ?_
  refine lv_aload_n hx hb dX12_clashes_25 rfl (lv_at hl 1 rfl) ?_
  refine lv_iload_n hx hb dX12_clashes_26 rfl (lv_at hl 2 rfl) ?_
  have hPc := hP.sub (ws' := [((ma 200), mo_0 ma), ((ma 73), .inl (cy 1, 241, .inl (fun _ => 0)))]) [3, 2] rfl
  have hDc := hD.sub (ws' := [((ma 200), mo_0 ma), ((ma 73), .inl (cy 1, 241, .inl (fun _ => 0)))]) [3, 2] (by decide) rfl
  have hFc := va_free (wc := [((ma 200), mo_0 ma), ((ma 73), .inl (cy 1, 241, .inl (fun _ => 0)))]) hD hS hA [3, 2] rfl
  refine va_calli (va_runV (As := [.int 0]) (rest := [.ref (ma 200)]) ⟨hx, hb, hml, hown, hts⟩ (kX12_feetX l D cy H.size ma) (cwV 1 hts g_kX12_clashes_kX12_feetX_0 rfl rfl rfl (by decide +kernel) ⟨Nat.le_of_ble_eq_true rfl, Nat.le_of_ble_eq_true rfl⟩) (gp_preV (RX12, TX12, 104) 12 0 hPc hDc hK hN rfl rfl) rfl rfl hl.1 rfl (lv_room (Nat.le_of_ble_eq_true rfl)) dX12_clashes_27 ⟨Nat.le_of_ble_eq_true rfl, Nat.le_of_ble_eq_true rfl⟩) hS (fun q _ h => hFc q h) hFc (fun r_4 u t H locs ht hvm hw hB hz1 hk1 hS => ?_)
  obtain ⟨hP, hD⟩ := gp_join (wr := [((ma 20), .inl (cy 3, 8, .inl (fun _ => 0))), ((ma 74), .inl (cy 1, 241, .inl (fun _ => 0)))]) (w1 := [((ma 200), mo_0 ma), ((ma 73), .inl (cy 1, 241, .inl (fun _ => 0)))]) hP hD [3, 2] [0, 1] rfl rfl (by decide) (by decide) hk1 hFc ht hB
  have hP : va_P D vwCl [((ma 20), .inl (cy 3, 8, .inl (fun _ => 0))), ((ma 74), .inl (cy 1, 241, .inl (fun _ => 0))), ((ma 200), mo_0 ma), ((ma 73), .inl (cy 1, 241, .inl (fun _ => 0)))] H := hP
  have hD : va_D A [((ma 20), .inl (cy 3, 8, .inl (fun _ => 0))), ((ma 74), .inl (cy 1, 241, .inl (fun _ => 0))), ((ma 200), mo_0 ma), ((ma 73), .inl (cy 1, 241, .inl (fun _ => 0)))] := hD
  obtain rfl : r_4 = (-60) := hw
  refine lv_i2l (v := (-60)) hx hb dX12_clashes_30 (by decide) ?_
  refine lv_aload_n hx hb dX12_clashes_31 rfl (lv_at hl 1 rfl) ?_
  refine lv_iload_n hx hb dX12_clashes_32 rfl (lv_at hl 2 rfl) ?_
  have hPc := hP.sub (ws' := [((ma 200), mo_0 ma), ((ma 73), .inl (cy 1, 241, .inl (fun _ => 0)))]) [2, 3] rfl
  have hDc := hD.sub (ws' := [((ma 200), mo_0 ma), ((ma 73), .inl (cy 1, 241, .inl (fun _ => 0)))]) [2, 3] (by decide) rfl
  have hFc := va_free (wc := [((ma 200), mo_0 ma), ((ma 73), .inl (cy 1, 241, .inl (fun _ => 0)))]) hD hS hA [2, 3] rfl
  refine va_calli (va_runV (As := [.int 0]) (rest := [.long (-60), .ref (ma 200)]) ⟨hx, hb, hml, hown, hts⟩ (kX12_feetY l D cy H.size ma) (cwV 1 hts g_kX12_clashes_kX12_feetY_1 rfl rfl rfl (by decide +kernel) ⟨Nat.le_of_ble_eq_true rfl, Nat.le_of_ble_eq_true rfl⟩) (gp_preV (RX12, TX12, 104) 12 0 hPc hDc hK hN rfl rfl) rfl rfl hl.1 rfl (lv_room (Nat.le_of_ble_eq_true rfl)) dX12_clashes_33 ⟨Nat.le_of_ble_eq_true rfl, Nat.le_of_ble_eq_true rfl⟩) hS (fun q _ h => hFc q h) hFc (fun r_5 u t H locs ht hvm hw hB hz1 hk1 hS => ?_)
  obtain ⟨hP, hD⟩ := gp_join (wr := [((ma 20), .inl (cy 3, 8, .inl (fun _ => 0))), ((ma 74), .inl (cy 1, 241, .inl (fun _ => 0)))]) (w1 := [((ma 200), mo_0 ma), ((ma 73), .inl (cy 1, 241, .inl (fun _ => 0)))]) hP hD [2, 3] [0, 1] rfl rfl (by decide) (by decide) hk1 hFc ht hB
  have hP : va_P D vwCl [((ma 20), .inl (cy 3, 8, .inl (fun _ => 0))), ((ma 74), .inl (cy 1, 241, .inl (fun _ => 0))), ((ma 200), mo_0 ma), ((ma 73), .inl (cy 1, 241, .inl (fun _ => 0)))] H := hP
  have hD : va_D A [((ma 20), .inl (cy 3, 8, .inl (fun _ => 0))), ((ma 74), .inl (cy 1, 241, .inl (fun _ => 0))), ((ma 200), mo_0 ma), ((ma 73), .inl (cy 1, 241, .inl (fun _ => 0)))] := hD
  obtain rfl : r_5 = (-40) := hw
  refine lv_aload_n hx hb dX12_clashes_36 rfl (lv_at hl 1 rfl) ?_
  refine va_get (D := D) (ci := 12) (v := .ref (ma 74)) (C := RX12) (T := TX12) (N := 104) hx hb hts hiX12 hown hK hP 2 rfl rfl 74 (by decide) (hts (.fieldLink RX12 384 "GhostPaneModel" "height" "[I") (List.mem_of_getElem? (i := 19) rfl)) (fun _ h9 => h9) rfl dX12_clashes_37 ?_
  refine lv_iload_n hx hb dX12_clashes_40 rfl (lv_at hl 2 rfl) ?_
  refine va_iald hx hb hK hP 1 1 rfl rfl (by unfold vp_in; decide) dX12_clashes_41 ?_
  refine gp_ni 0 rfl ?_
  refine lv_iadd hx hb dX12_clashes_42 ?_
  refine gp_ni (-40) (by decide) ?_
  refine lv_i2l (v := (-40)) hx hb dX12_clashes_43 (by decide) ?_
  have hPc := hP.sub (ws' := [((ma 200), mo_0 ma)]) [2] rfl
  have hDc := hD.sub (ws' := [((ma 200), mo_0 ma)]) [2] (by decide) rfl
  have hFc := va_free (wc := [((ma 200), mo_0 ma)]) hD hS hA [2] rfl
  refine va_calll (va_runV (As := [.long (-60), .long (-40)]) (rest := []) ⟨hx, hb, hml, hown, hts⟩ (kX12_mirroredY l D cy H.size ma (-60) (-40)) (cwV 2 hts g_kX12_clashes_kX12_mirroredY_3 rfl rfl rfl (by decide +kernel) ⟨Nat.le_of_ble_eq_true rfl, Nat.le_of_ble_eq_true rfl⟩) (gp_preV (RX12, TX12, 104) 12 0 hPc hDc hK hN rfl rfl) rfl rfl hl.1 rfl (lv_room (Nat.le_of_ble_eq_true rfl)) dX12_clashes_44 ⟨Nat.le_of_ble_eq_true rfl, Nat.le_of_ble_eq_true rfl⟩) hS (fun q _ h => hFc q h) hFc (fun r_6 u t H locs ht hvm hw hB hz1 hk1 hS => ?_)
  obtain ⟨hP, hD⟩ := gp_join (wr := [((ma 20), .inl (cy 3, 8, .inl (fun _ => 0))), ((ma 74), .inl (cy 1, 241, .inl (fun _ => 0))), ((ma 73), .inl (cy 1, 241, .inl (fun _ => 0)))]) (w1 := [((ma 200), mo_0 ma)]) hP hD [2] [0, 1, 3] rfl rfl (by decide) (by decide) hk1 hFc ht hB
  have hP : va_P D vwCl [((ma 20), .inl (cy 3, 8, .inl (fun _ => 0))), ((ma 74), .inl (cy 1, 241, .inl (fun _ => 0))), ((ma 73), .inl (cy 1, 241, .inl (fun _ => 0))), ((ma 200), mo_0 ma)] H := hP
  have hD : va_D A [((ma 20), .inl (cy 3, 8, .inl (fun _ => 0))), ((ma 74), .inl (cy 1, 241, .inl (fun _ => 0))), ((ma 73), .inl (cy 1, 241, .inl (fun _ => 0))), ((ma 200), mo_0 ma)] := hD
  obtain rfl : r_6 = ((-40) * 16400 - 2 * ((-((-60) - (-50))) * 80 + ((-40) - 0) * 100) * 100) := hw
  refine gp_nl (-16000) (by decide) ?_
  refine lv_lstore (lv' := [(4, .long (-16000)), (2, .long (-1496000)), (0, .ref (ma 200)), (1, .int 0)]) hx hb dX12_clashes_47 hl (by decide) rfl (fun ls hl => ?_)
  refine lv_aload_n hx hb dX12_clashes_49 rfl (lv_at hl 2 rfl) ?_
  have hPc := hP.sub (ws' := [((ma 200), mo_0 ma)]) [3] rfl
  have hDc := hD.sub (ws' := [((ma 200), mo_0 ma)]) [3] (by decide) rfl
  have hFc := va_free (wc := [((ma 200), mo_0 ma)]) hD hS hA [3] rfl
  refine va_calll (va_runV (As := []) (rest := []) ⟨hx, hb, hml, hown, hts⟩ (kX12_length l D cy H.size ma) (cwV 0 hts g_kX12_clashes_kX12_length_4 rfl rfl rfl (by decide +kernel) ⟨Nat.le_of_ble_eq_true rfl, Nat.le_of_ble_eq_true rfl⟩) (gp_preV (RX12, TX12, 104) 12 0 hPc hDc hK hN rfl rfl) rfl rfl hl.1 rfl (lv_room (Nat.le_of_ble_eq_true rfl)) dX12_clashes_50 ⟨Nat.le_of_ble_eq_true rfl, Nat.le_of_ble_eq_true rfl⟩) hS (fun q _ h => hFc q h) hFc (fun r_7 u t H locs ht hvm hw hB hz1 hk1 hS => ?_)
  obtain ⟨hP, hD⟩ := gp_join (wr := [((ma 20), .inl (cy 3, 8, .inl (fun _ => 0))), ((ma 74), .inl (cy 1, 241, .inl (fun _ => 0))), ((ma 73), .inl (cy 1, 241, .inl (fun _ => 0)))]) (w1 := [((ma 200), mo_0 ma)]) hP hD [3] [0, 1, 2] rfl rfl (by decide) (by decide) hk1 hFc ht hB
  have hP : va_P D vwCl [((ma 20), .inl (cy 3, 8, .inl (fun _ => 0))), ((ma 74), .inl (cy 1, 241, .inl (fun _ => 0))), ((ma 73), .inl (cy 1, 241, .inl (fun _ => 0))), ((ma 200), mo_0 ma)] H := hP
  have hD : va_D A [((ma 20), .inl (cy 3, 8, .inl (fun _ => 0))), ((ma 74), .inl (cy 1, 241, .inl (fun _ => 0))), ((ma 73), .inl (cy 1, 241, .inl (fun _ => 0))), ((ma 200), mo_0 ma)] := hD
  obtain rfl : r_7 = 16400 := hw
  refine lv_lstore (lv' := [(6, .long 16400), (4, .long (-16000)), (2, .long (-1496000)), (0, .ref (ma 200)), (1, .int 0)]) hx hb dX12_clashes_53 hl (by decide) rfl (fun ls hl => ?_)
  refine lv_iconst (v := 0) hx hb dX12_clashes_55 (by decide) ?_
  refine lv_istore (lv' := [(8, .int 0), (6, .long 16400), (4, .long (-16000)), (2, .long (-1496000)), (0, .ref (ma 200)), (1, .int 0)]) hx hb dX12_clashes_56 hl (by decide) rfl (fun ls hl => ?_)
  refine lv_iconst (v := 0) hx hb dX12_clashes_58 (by decide) ?_
  refine lv_istore (lv' := [(9, .int 0), (8, .int 0), (6, .long 16400), (4, .long (-16000)), (2, .long (-1496000)), (0, .ref (ma 200)), (1, .int 0)]) hx hb dX12_clashes_59 hl (by decide) rfl (fun ls hl => ?_)
  refine lv_iload hx hb dX12_clashes_61 (lv_at hl 0 rfl) ?_
  refine lv_bipush (v := 8) hx hb dX12_clashes_63 (by decide) ?_
  refine lv_icmp_ge (tgt := 159) hx hb dX12_clashes_65 (by decide) (fun c_8 => absurd c_8 (by decide)) (fun c_8 => ?_)
  refine lv_aload_n hx hb dX12_clashes_68 rfl (lv_at hl 5 rfl) ?_
  refine va_get (D := D) (ci := 12) (v := .ref (ma 20)) (C := RX12) (T := TX12) (N := 104) hx hb hts hiX12 hown hK hP 3 rfl rfl 20 (by decide) (hts (.fieldLink RX12 78 "GhostPaneModel" "isThing" "[Z") (List.mem_of_getElem? (i := 45) rfl)) (fun _ h9 => h9) rfl dX12_clashes_69 ?_
  refine lv_iload hx hb dX12_clashes_72 (lv_at hl 0 rfl) ?_
  refine va_zald hx hb hK hP 0 3 rfl rfl (by unfold vp_in; decide) dX12_clashes_74 ?_
  refine gp_ni 0 rfl ?_
  refine lv_if_eq (tgt := 153) hx hb dX12_clashes_75 (by decide) (fun c_9 => ?_) (fun c_9 => absurd (by decide) c_9)
  refine lv_iinc (v := 1) (lv' := [(9, .int 1), (8, .int 0), (6, .long 16400), (4, .long (-16000)), (2, .long (-1496000)), (0, .ref (ma 200)), (1, .int 0)]) hx hb dX12_clashes_153 hl (k := 0) rfl (by decide) (by decide) rfl (fun ls hl => ?_)
  refine lv_goto (tgt := 61) hx hb dX12_clashes_156 (by decide) ?_
  refine lv_iload hx hb dX12_clashes_61 (lv_at hl 0 rfl) ?_
  refine lv_bipush (v := 8) hx hb dX12_clashes_63 (by decide) ?_
  refine lv_icmp_ge (tgt := 159) hx hb dX12_clashes_65 (by decide) (fun c_10 => absurd c_10 (by decide)) (fun c_10 => ?_)
  refine lv_aload_n hx hb dX12_clashes_68 rfl (lv_at hl 5 rfl) ?_
  refine va_get (D := D) (ci := 12) (v := .ref (ma 20)) (C := RX12) (T := TX12) (N := 104) hx hb hts hiX12 hown hK hP 3 rfl rfl 20 (by decide) (hts (.fieldLink RX12 78 "GhostPaneModel" "isThing" "[Z") (List.mem_of_getElem? (i := 45) rfl)) (fun _ h9 => h9) rfl dX12_clashes_69 ?_
  refine lv_iload hx hb dX12_clashes_72 (lv_at hl 0 rfl) ?_
  refine va_zald hx hb hK hP 0 3 rfl rfl (by unfold vp_in; decide) dX12_clashes_74 ?_
  refine gp_ni 0 rfl ?_
  refine lv_if_eq (tgt := 153) hx hb dX12_clashes_75 (by decide) (fun c_11 => ?_) (fun c_11 => absurd (by decide) c_11)
  refine lv_iinc (v := 2) (lv' := [(9, .int 2), (8, .int 0), (6, .long 16400), (4, .long (-16000)), (2, .long (-1496000)), (0, .ref (ma 200)), (1, .int 0)]) hx hb dX12_clashes_153 hl (k := 0) rfl (by decide) (by decide) rfl (fun ls hl => ?_)
  refine lv_goto (tgt := 61) hx hb dX12_clashes_156 (by decide) ?_
  refine lv_iload hx hb dX12_clashes_61 (lv_at hl 0 rfl) ?_
  refine lv_bipush (v := 8) hx hb dX12_clashes_63 (by decide) ?_
  refine lv_icmp_ge (tgt := 159) hx hb dX12_clashes_65 (by decide) (fun c_12 => absurd c_12 (by decide)) (fun c_12 => ?_)
  refine lv_aload_n hx hb dX12_clashes_68 rfl (lv_at hl 5 rfl) ?_
  refine va_get (D := D) (ci := 12) (v := .ref (ma 20)) (C := RX12) (T := TX12) (N := 104) hx hb hts hiX12 hown hK hP 3 rfl rfl 20 (by decide) (hts (.fieldLink RX12 78 "GhostPaneModel" "isThing" "[Z") (List.mem_of_getElem? (i := 45) rfl)) (fun _ h9 => h9) rfl dX12_clashes_69 ?_
  refine lv_iload hx hb dX12_clashes_72 (lv_at hl 0 rfl) ?_
  refine va_zald hx hb hK hP 0 3 rfl rfl (by unfold vp_in; decide) dX12_clashes_74 ?_
  refine gp_ni 0 rfl ?_
  refine lv_if_eq (tgt := 153) hx hb dX12_clashes_75 (by decide) (fun c_13 => ?_) (fun c_13 => absurd (by decide) c_13)
  refine lv_iinc (v := 3) (lv' := [(9, .int 3), (8, .int 0), (6, .long 16400), (4, .long (-16000)), (2, .long (-1496000)), (0, .ref (ma 200)), (1, .int 0)]) hx hb dX12_clashes_153 hl (k := 0) rfl (by decide) (by decide) rfl (fun ls hl => ?_)
  refine lv_goto (tgt := 61) hx hb dX12_clashes_156 (by decide) ?_
  refine lv_iload hx hb dX12_clashes_61 (lv_at hl 0 rfl) ?_
  refine lv_bipush (v := 8) hx hb dX12_clashes_63 (by decide) ?_
  refine lv_icmp_ge (tgt := 159) hx hb dX12_clashes_65 (by decide) (fun c_14 => absurd c_14 (by decide)) (fun c_14 => ?_)
  refine lv_aload_n hx hb dX12_clashes_68 rfl (lv_at hl 5 rfl) ?_
  refine va_get (D := D) (ci := 12) (v := .ref (ma 20)) (C := RX12) (T := TX12) (N := 104) hx hb hts hiX12 hown hK hP 3 rfl rfl 20 (by decide) (hts (.fieldLink RX12 78 "GhostPaneModel" "isThing" "[Z") (List.mem_of_getElem? (i := 45) rfl)) (fun _ h9 => h9) rfl dX12_clashes_69 ?_
  refine lv_iload hx hb dX12_clashes_72 (lv_at hl 0 rfl) ?_
  refine va_zald hx hb hK hP 0 3 rfl rfl (by unfold vp_in; decide) dX12_clashes_74 ?_
  refine gp_ni 0 rfl ?_
  refine lv_if_eq (tgt := 153) hx hb dX12_clashes_75 (by decide) (fun c_15 => ?_) (fun c_15 => absurd (by decide) c_15)
  refine lv_iinc (v := 4) (lv' := [(9, .int 4), (8, .int 0), (6, .long 16400), (4, .long (-16000)), (2, .long (-1496000)), (0, .ref (ma 200)), (1, .int 0)]) hx hb dX12_clashes_153 hl (k := 0) rfl (by decide) (by decide) rfl (fun ls hl => ?_)
  refine lv_goto (tgt := 61) hx hb dX12_clashes_156 (by decide) ?_
  refine lv_iload hx hb dX12_clashes_61 (lv_at hl 0 rfl) ?_
  refine lv_bipush (v := 8) hx hb dX12_clashes_63 (by decide) ?_
  refine lv_icmp_ge (tgt := 159) hx hb dX12_clashes_65 (by decide) (fun c_16 => absurd c_16 (by decide)) (fun c_16 => ?_)
  refine lv_aload_n hx hb dX12_clashes_68 rfl (lv_at hl 5 rfl) ?_
  refine va_get (D := D) (ci := 12) (v := .ref (ma 20)) (C := RX12) (T := TX12) (N := 104) hx hb hts hiX12 hown hK hP 3 rfl rfl 20 (by decide) (hts (.fieldLink RX12 78 "GhostPaneModel" "isThing" "[Z") (List.mem_of_getElem? (i := 45) rfl)) (fun _ h9 => h9) rfl dX12_clashes_69 ?_
  refine lv_iload hx hb dX12_clashes_72 (lv_at hl 0 rfl) ?_
  refine va_zald hx hb hK hP 0 3 rfl rfl (by unfold vp_in; decide) dX12_clashes_74 ?_
  refine gp_ni 0 rfl ?_
  refine lv_if_eq (tgt := 153) hx hb dX12_clashes_75 (by decide) (fun c_17 => ?_) (fun c_17 => absurd (by decide) c_17)
  refine lv_iinc (v := 5) (lv' := [(9, .int 5), (8, .int 0), (6, .long 16400), (4, .long (-16000)), (2, .long (-1496000)), (0, .ref (ma 200)), (1, .int 0)]) hx hb dX12_clashes_153 hl (k := 0) rfl (by decide) (by decide) rfl (fun ls hl => ?_)
  refine lv_goto (tgt := 61) hx hb dX12_clashes_156 (by decide) ?_
  refine lv_iload hx hb dX12_clashes_61 (lv_at hl 0 rfl) ?_
  refine lv_bipush (v := 8) hx hb dX12_clashes_63 (by decide) ?_
  refine lv_icmp_ge (tgt := 159) hx hb dX12_clashes_65 (by decide) (fun c_18 => absurd c_18 (by decide)) (fun c_18 => ?_)
  refine lv_aload_n hx hb dX12_clashes_68 rfl (lv_at hl 5 rfl) ?_
  refine va_get (D := D) (ci := 12) (v := .ref (ma 20)) (C := RX12) (T := TX12) (N := 104) hx hb hts hiX12 hown hK hP 3 rfl rfl 20 (by decide) (hts (.fieldLink RX12 78 "GhostPaneModel" "isThing" "[Z") (List.mem_of_getElem? (i := 45) rfl)) (fun _ h9 => h9) rfl dX12_clashes_69 ?_
  refine lv_iload hx hb dX12_clashes_72 (lv_at hl 0 rfl) ?_
  refine va_zald hx hb hK hP 0 3 rfl rfl (by unfold vp_in; decide) dX12_clashes_74 ?_
  refine gp_ni 0 rfl ?_
  refine lv_if_eq (tgt := 153) hx hb dX12_clashes_75 (by decide) (fun c_19 => ?_) (fun c_19 => absurd (by decide) c_19)
  refine lv_iinc (v := 6) (lv' := [(9, .int 6), (8, .int 0), (6, .long 16400), (4, .long (-16000)), (2, .long (-1496000)), (0, .ref (ma 200)), (1, .int 0)]) hx hb dX12_clashes_153 hl (k := 0) rfl (by decide) (by decide) rfl (fun ls hl => ?_)
  refine lv_goto (tgt := 61) hx hb dX12_clashes_156 (by decide) ?_
  refine lv_iload hx hb dX12_clashes_61 (lv_at hl 0 rfl) ?_
  refine lv_bipush (v := 8) hx hb dX12_clashes_63 (by decide) ?_
  refine lv_icmp_ge (tgt := 159) hx hb dX12_clashes_65 (by decide) (fun c_20 => absurd c_20 (by decide)) (fun c_20 => ?_)
  refine lv_aload_n hx hb dX12_clashes_68 rfl (lv_at hl 5 rfl) ?_
  refine va_get (D := D) (ci := 12) (v := .ref (ma 20)) (C := RX12) (T := TX12) (N := 104) hx hb hts hiX12 hown hK hP 3 rfl rfl 20 (by decide) (hts (.fieldLink RX12 78 "GhostPaneModel" "isThing" "[Z") (List.mem_of_getElem? (i := 45) rfl)) (fun _ h9 => h9) rfl dX12_clashes_69 ?_
  refine lv_iload hx hb dX12_clashes_72 (lv_at hl 0 rfl) ?_
  refine va_zald hx hb hK hP 0 3 rfl rfl (by unfold vp_in; decide) dX12_clashes_74 ?_
  refine gp_ni 0 rfl ?_
  refine lv_if_eq (tgt := 153) hx hb dX12_clashes_75 (by decide) (fun c_21 => ?_) (fun c_21 => absurd (by decide) c_21)
  refine lv_iinc (v := 7) (lv' := [(9, .int 7), (8, .int 0), (6, .long 16400), (4, .long (-16000)), (2, .long (-1496000)), (0, .ref (ma 200)), (1, .int 0)]) hx hb dX12_clashes_153 hl (k := 0) rfl (by decide) (by decide) rfl (fun ls hl => ?_)
  refine lv_goto (tgt := 61) hx hb dX12_clashes_156 (by decide) ?_
  refine lv_iload hx hb dX12_clashes_61 (lv_at hl 0 rfl) ?_
  refine lv_bipush (v := 8) hx hb dX12_clashes_63 (by decide) ?_
  refine lv_icmp_ge (tgt := 159) hx hb dX12_clashes_65 (by decide) (fun c_22 => absurd c_22 (by decide)) (fun c_22 => ?_)
  refine lv_aload_n hx hb dX12_clashes_68 rfl (lv_at hl 5 rfl) ?_
  refine va_get (D := D) (ci := 12) (v := .ref (ma 20)) (C := RX12) (T := TX12) (N := 104) hx hb hts hiX12 hown hK hP 3 rfl rfl 20 (by decide) (hts (.fieldLink RX12 78 "GhostPaneModel" "isThing" "[Z") (List.mem_of_getElem? (i := 45) rfl)) (fun _ h9 => h9) rfl dX12_clashes_69 ?_
  refine lv_iload hx hb dX12_clashes_72 (lv_at hl 0 rfl) ?_
  refine va_zald hx hb hK hP 0 3 rfl rfl (by unfold vp_in; decide) dX12_clashes_74 ?_
  refine gp_ni 0 rfl ?_
  refine lv_if_eq (tgt := 153) hx hb dX12_clashes_75 (by decide) (fun c_23 => ?_) (fun c_23 => absurd (by decide) c_23)
  refine lv_iinc (v := 8) (lv' := [(9, .int 8), (8, .int 0), (6, .long 16400), (4, .long (-16000)), (2, .long (-1496000)), (0, .ref (ma 200)), (1, .int 0)]) hx hb dX12_clashes_153 hl (k := 0) rfl (by decide) (by decide) rfl (fun ls hl => ?_)
  refine lv_goto (tgt := 61) hx hb dX12_clashes_156 (by decide) ?_
  refine lv_iload hx hb dX12_clashes_61 (lv_at hl 0 rfl) ?_
  refine lv_bipush (v := 8) hx hb dX12_clashes_63 (by decide) ?_
  refine lv_icmp_ge (tgt := 159) hx hb dX12_clashes_65 (by decide) (fun c_24 => ?_) (fun c_24 => absurd (by decide) c_24)
  refine lv_iload hx hb dX12_clashes_159 (lv_at hl 1 rfl) ?_
  exact W.iret (v := 0) hx hb hr (fun t ht hW => ⟨⟨0, (), rfl, rfl, gp_end ht (hP.sub (ws' := [((ma 200), mo_0 ma), ((ma 20), .inl (cy 3, 8, .inl (fun _ => 0))), ((ma 73), .inl (cy 1, 241, .inl (fun _ => 0))), ((ma 74), .inl (cy 1, 241, .inl (fun _ => 0)))]) [3, 0, 2, 1] rfl) (hD.sub (ws' := [((ma 200), mo_0 ma), ((ma 20), .inl (cy 3, 8, .inl (fun _ => 0))), ((ma 73), .inl (cy 1, 241, .inl (fun _ => 0))), ((ma 74), .inl (cy 1, 241, .inl (fun _ => 0)))]) [3, 0, 2, 1] (by decide) rfl)⟩, hS.F ht⟩) hS.2.2 dX12_clashes_161

theorem lf_kX12_isCount_1 (ma : Nat → Nat) (n : Int32) (p_2 : sp_in n 0 0) : sp_in n 0 0 := by
  first | grind | (simp only [sp_in, sp_pl, sp_far, sp_two] at *; grind)
theorem lf_kX12_isCount_2 (ma : Nat → Nat) (n : Int32) (p_2 : ¬ sp_in n 0 0) : ¬ (sp_in n 0 0) := by
  first | grind | (simp only [sp_in, sp_pl, sp_far, sp_two] at *; grind)
def v_kX12_isCount : List Cond := .code yX12_isCount cX12_isCount 2 (some .boolean) :: ([.fieldLink RX12 464 "GhostPaneModel" "last" "I", .code yX12_isIn cX12_isIn 3 (some .boolean), .methodLink RX12 3 yX12_isIn, .static yX12_isIn, .initialized RX12] ++ wsX120)
set_option maxRecDepth 20000 in
theorem gg_kX12_isCount_kX12_isIn : GoodIn v_kX12_isCount v_kX12_isIn := goodIn_r (.code yX12_isIn cX12_isIn 3 (some .boolean) :: []) [2] rfl (by decide +kernel)
set_option maxRecDepth 20000 in
theorem g_kX12_isCount_kX12_isIn_0 : GoodIn v_kX12_isCount (va_wsS RX12 3 yX12_isIn v_kX12_isIn) := goodIn_app (goodIn_r [.methodLink RX12 3 yX12_isIn, .static yX12_isIn, .initialized RX12] [3, 4, 5] rfl (by decide +kernel)) gg_kX12_isCount_kX12_isIn
set_option maxHeartbeats 4000000 in
set_option maxRecDepth 100000 in
theorem kX12_isCount (l : Launch) (D : va_G) (cy : Nat → ClassId) (sz : Nat) (ma : Nat → Nat) (n : Int32) : Met l yX12_isCount v_kX12_isCount ({ frames := 1, cells := 0, slots := 0, locals := 22 } : Room) (va_Pc [.ref (ma 200), .int n] (gp_B D cy sz [((ma 200), mo_0 ma)])) (va_Qi (fun (r : Int32) (u : Unit) => (r = 1 ∧ (sp_in n 0 0)) ∨ (r = 0 ∧ ¬ (sp_in n 0 0))) (fun u => gp_E D (va_A [((ma 200), mo_0 ma)] sz) [((ma 200), mo_0 ma)]) (va_A [((ma 200), mo_0 ma)] sz)) 0 0 (va_A [((ma 200), mo_0 ma)] sz) := by
  refine gp_met (Qc := fun A => va_Qi (fun (r : Int32) (u : Unit) => (r = 1 ∧ (sp_in n 0 0)) ∨ (r = 0 ∧ ¬ (sp_in n 0 0))) (fun u => gp_E D A [((ma 200), mo_0 ma)]) A) (cc := cX12_isCount) (maxL := 2) (ret := (some .boolean)) (by decide) rfl (Nat.le_of_ble_eq_true rfl) ?_
  intro p e s m below meth c A ls H hx hb hml hr hlocks hts hown hin hK hN hS hP hD hA hl
  have hown : s.vm.findClass RX12 = some m.cls := hown
  have hl : lv_has ls 2 [(0, .ref (ma 200)), (1, .int n)] := hl
  have hiX12 : ∀ w ∈ u_ws RX12 TX12 104, w ∈ v_kX12_isCount := fun _ h => List.mem_cons_of_mem _ (List.mem_append_right _ h)
  refine lv_iload_n hx hb dX12_isCount_0 rfl (lv_at hl 1 rfl) ?_
  refine lv_iconst (v := 0) hx hb dX12_isCount_1 (by decide) ?_
  refine lv_aload_n hx hb dX12_isCount_2 rfl (lv_at hl 0 rfl) ?_
  refine va_get (D := D) (ci := 12) (v := .int 0) (C := RX12) (T := TX12) (N := 104) hx hb hts hiX12 hown hK hP 0 rfl rfl 72 (by decide) (hts (.fieldLink RX12 464 "GhostPaneModel" "last" "I") (List.mem_of_getElem? (i := 1) rfl)) (fun _ h9 => h9) rfl dX12_isCount_3 ?_
  have hPc := hP.sub (ws' := []) [] rfl
  have hDc := hD.sub (ws' := []) [] (by decide) rfl
  have hFc := va_free (wc := []) hD hS hA [] rfl
  refine va_calli (va_runS (As := [.int n, .int 0, .int 0]) (rest := []) ⟨hx, hb, hml, hown, hts⟩ (kX12_isIn l D cy H.size n 0 0) (va_cwS 3 hts g_kX12_isCount_kX12_isIn_0 rfl rfl rfl (by decide +kernel) ⟨Nat.le_of_ble_eq_true rfl, Nat.le_of_ble_eq_true rfl⟩) (gp_preS hPc hDc hK hN) rfl rfl hl.1 rfl (lv_room (Nat.le_of_ble_eq_true rfl)) dX12_isCount_6 ⟨Nat.le_of_ble_eq_true rfl, Nat.le_of_ble_eq_true rfl⟩) hS (fun q _ h => hFc q h) hFc (fun r_1 u t H locs ht hvm hw hB hz1 hk1 hS => ?_)
  obtain ⟨hP, hD⟩ := gp_join (wr := [((ma 200), mo_0 ma)]) (w1 := []) hP hD [] [0] rfl rfl (by decide) (by decide) hk1 hFc ht hB
  have hP : va_P D vwCl [((ma 200), mo_0 ma)] H := hP
  have hD : va_D A [((ma 200), mo_0 ma)] := hD
  rcases hw with ⟨rfl, p_2⟩ | ⟨rfl, p_2⟩
  · exact W.zret (v := 1) hx hb hr narrow_b1 (fun t ht hW => ⟨⟨1, (), rfl, Or.inl ⟨rfl, (lf_kX12_isCount_1 ma n p_2)⟩, gp_end ht (hP.sub (ws' := [((ma 200), mo_0 ma)]) [0] rfl) (hD.sub (ws' := [((ma 200), mo_0 ma)]) [0] (by decide) rfl)⟩, hS.F ht⟩) hS.2.2 dX12_isCount_9
  · exact W.zret (v := 0) hx hb hr narrow_b0 (fun t ht hW => ⟨⟨0, (), rfl, Or.inr ⟨rfl, (lf_kX12_isCount_2 ma n p_2)⟩, gp_end ht (hP.sub (ws' := [((ma 200), mo_0 ma)]) [0] rfl) (hD.sub (ws' := [((ma 200), mo_0 ma)]) [0] (by decide) rfl)⟩, hS.F ht⟩) hS.2.2 dX12_isCount_9

theorem lf_kX12_count_1 (ma : Nat → Nat) (n : Int32) (w : Int32) (p_2 : sp_in n 0 0) : n = 0 := by
  grind
theorem lf_kX12_count_2 (ma : Nat → Nat) (n : Int32) (w : Int32) (p_2 : sp_in n 0 0) (k_4 : w = 0) : (0 : Int32) = (if sp_in n 0 0 then sp_cnt w else (-1000)) := by
  grind [sp_cnt]
theorem lf_kX12_count_3 (ma : Nat → Nat) (n : Int32) (w : Int32) (p_2 : sp_in n 0 0) (k_4 : ¬ w = 0) (k_5 : w = 1) : (0 : Int32) = (if sp_in n 0 0 then sp_cnt w else (-1000)) := by
  grind [sp_cnt]
theorem lf_kX12_count_4 (ma : Nat → Nat) (n : Int32) (w : Int32) (p_2 : sp_in n 0 0) (k_4 : ¬ w = 0) (k_5 : ¬ w = 1) (k_6 : w = 2) : (1 : Int32) = (if sp_in n 0 0 then sp_cnt w else (-1000)) := by
  grind [sp_cnt]
theorem lf_kX12_count_5 (ma : Nat → Nat) (n : Int32) (w : Int32) (p_2 : sp_in n 0 0) (k_4 : ¬ w = 0) (k_5 : ¬ w = 1) (k_6 : ¬ w = 2) (k_7 : w = 3) : ((-60) : Int32) = (if sp_in n 0 0 then sp_cnt w else (-1000)) := by
  grind [sp_cnt]
theorem lf_kX12_count_6 (ma : Nat → Nat) (n : Int32) (w : Int32) (p_2 : sp_in n 0 0) (k_4 : ¬ w = 0) (k_5 : ¬ w = 1) (k_6 : ¬ w = 2) (k_7 : ¬ w = 3) (k_9 : w = 4) : ((-40) : Int32) = (if sp_in n 0 0 then sp_cnt w else (-1000)) := by
  grind [sp_cnt]
theorem lf_kX12_count_7 (ma : Nat → Nat) (n : Int32) (w : Int32) (p_2 : sp_in n 0 0) (k_4 : ¬ w = 0) (k_5 : ¬ w = 1) (k_6 : ¬ w = 2) (k_7 : ¬ w = 3) (k_9 : ¬ w = 4) (k_11 : w = 5) : (1 : Int32) = (if sp_in n 0 0 then sp_cnt w else (-1000)) := by
  grind [sp_cnt]
theorem lf_kX12_count_8 (ma : Nat → Nat) (n : Int32) (w : Int32) (p_2 : sp_in n 0 0) (k_4 : ¬ w = 0) (k_5 : ¬ w = 1) (k_6 : ¬ w = 2) (k_7 : ¬ w = 3) (k_9 : ¬ w = 4) (k_11 : ¬ w = 5) (k_14 : w = 6) : (0 : Int32) = (if sp_in n 0 0 then sp_cnt w else (-1000)) := by
  grind [sp_cnt]
theorem lf_kX12_count_9 (ma : Nat → Nat) (n : Int32) (w : Int32) (p_2 : sp_in n 0 0) (k_4 : ¬ w = 0) (k_5 : ¬ w = 1) (k_6 : ¬ w = 2) (k_7 : ¬ w = 3) (k_9 : ¬ w = 4) (k_11 : ¬ w = 5) (k_14 : ¬ w = 6) : ((-1000) : Int32) = (if sp_in n 0 0 then sp_cnt w else (-1000)) := by
  grind [sp_cnt]
theorem lf_kX12_count_10 (ma : Nat → Nat) (n : Int32) (w : Int32) (p_2 : ¬ sp_in n 0 0) : ((-1000) : Int32) = (if sp_in n 0 0 then sp_cnt w else (-1000)) := by
  grind [sp_cnt]
def v_kX12_count : List Cond := .code yX12_count cX12_count 3 (some .int) :: ([.code yX12_isCount cX12_isCount 2 (some .boolean), .fieldLink RX12 464 "GhostPaneModel" "last" "I", .code yX12_isIn cX12_isIn 3 (some .boolean), .methodLink RX12 3 yX12_isIn, .static yX12_isIn, .initialized RX12, .methodLink RX12 482 yX12_isCount, .instanceMethod yX12_isCount, .selects RX12 yX12_isCount yX12_isCount, .fieldLink RX12 381 "GhostPaneModel" "place" "[I", .fieldLink RX12 384 "GhostPaneModel" "height" "[I", .fieldLink RX12 387 "GhostPaneModel" "light" "[I", .code yX12_feetX cX12_feetX 2 (some .int), .fieldLink RX12 28 "GhostPaneModel" "cx" "I", .fieldLink RX12 34 "GhostPaneModel" "dx" "I", .code yX12_floorOf cX12_floorOf 2 (some .int), .methodLink RX12 441 yX12_floorOf, .static yX12_floorOf, .methodLink RX12 476 yX12_feetX, .instanceMethod yX12_feetX, .selects RX12 yX12_feetX yX12_feetX, .code yX12_feetY cX12_feetY 2 (some .int), .fieldLink RX12 31 "GhostPaneModel" "cy" "I", .fieldLink RX12 46 "GhostPaneModel" "deep" "I", .fieldLink RX12 37 "GhostPaneModel" "dy" "I", .methodLink RX12 479 yX12_feetY, .instanceMethod yX12_feetY, .selects RX12 yX12_feetY yX12_feetY, .code yX12_isHeld cX12_isHeld 4 (some .boolean), .code yX12_mirroredY cX12_mirroredY 5 (some .long), .code yX12_length cX12_length 1 (some .long), .fieldLink RX12 22 "GhostPaneModel" "bx" "I", .fieldLink RX12 25 "GhostPaneModel" "by" "I", .code yX12_along cX12_along 5 (some .long), .fieldLink RX12 15 "GhostPaneModel" "ax" "I", .fieldLink RX12 19 "GhostPaneModel" "ay" "I", .methodLink RX12 100 yX12_along, .instanceMethod yX12_along, .selects RX12 yX12_along yX12_along, .methodLink RX12 104 yX12_length, .instanceMethod yX12_length, .selects RX12 yX12_length yX12_length, .constantLong RX12 108 2, .code yX12_off cX12_off 5 (some .long), .methodLink RX12 110 yX12_off, .instanceMethod yX12_off, .selects RX12 yX12_off yX12_off, .methodLink RX12 121 yX12_mirroredY, .instanceMethod yX12_mirroredY, .selects RX12 yX12_mirroredY yX12_mirroredY, .fieldLink RX12 40 "GhostPaneModel" "floor" "I", .fieldLink RX12 43 "GhostPaneModel" "hand" "I", .methodLink RX12 485 yX12_isHeld, .instanceMethod yX12_isHeld, .selects RX12 yX12_isHeld yX12_isHeld, .code yX12_clashes cX12_clashes 10 (some .int), .code yX12_mirroredX cX12_mirroredX 5 (some .long), .methodLink RX12 118 yX12_mirroredX, .instanceMethod yX12_mirroredX, .selects RX12 yX12_mirroredX yX12_mirroredX, .fieldLink RX12 78 "GhostPaneModel" "isThing" "[Z", .methodLink RX12 488 yX12_clashes, .instanceMethod yX12_clashes, .selects RX12 yX12_clashes yX12_clashes] ++ wsX120)
set_option maxRecDepth 20000 in
theorem gg_kX12_count_kX12_isCount : GoodIn v_kX12_count v_kX12_isCount := goodIn_ca (goodIn_r (.code yX12_isCount cX12_isCount 2 (some .boolean) :: [.fieldLink RX12 464 "GhostPaneModel" "last" "I", .code yX12_isIn cX12_isIn 3 (some .boolean), .methodLink RX12 3 yX12_isIn, .static yX12_isIn, .initialized RX12]) [1, 2, 3, 4, 5, 6] rfl (by decide +kernel)) (goodIn_sub (fun _ h => List.mem_cons_of_mem _ (List.mem_append_right _ h)) gwX12)
set_option maxRecDepth 20000 in
theorem g_kX12_count_kX12_isCount_0 : GoodIn v_kX12_count (wsV RX12 482 RX12 yX12_isCount v_kX12_isCount) := goodIn_app (goodIn_r [.methodLink RX12 482 yX12_isCount, .instanceMethod yX12_isCount, .selects RX12 yX12_isCount yX12_isCount, .initialized RX12] [7, 8, 9, 6] rfl (by decide +kernel)) gg_kX12_count_kX12_isCount
set_option maxRecDepth 20000 in
theorem gg_kX12_count_kX12_feetX : GoodIn v_kX12_count v_kX12_feetX := goodIn_ca (goodIn_r (.code yX12_feetX cX12_feetX 2 (some .int) :: [.fieldLink RX12 28 "GhostPaneModel" "cx" "I", .fieldLink RX12 34 "GhostPaneModel" "dx" "I", .fieldLink RX12 381 "GhostPaneModel" "place" "[I", .code yX12_floorOf cX12_floorOf 2 (some .int), .methodLink RX12 441 yX12_floorOf, .static yX12_floorOf, .initialized RX12]) [13, 14, 15, 10, 16, 17, 18, 6] rfl (by decide +kernel)) (goodIn_sub (fun _ h => List.mem_cons_of_mem _ (List.mem_append_right _ h)) gwX12)
set_option maxRecDepth 20000 in
theorem g_kX12_count_kX12_feetX_1 : GoodIn v_kX12_count (wsV RX12 476 RX12 yX12_feetX v_kX12_feetX) := goodIn_app (goodIn_r [.methodLink RX12 476 yX12_feetX, .instanceMethod yX12_feetX, .selects RX12 yX12_feetX yX12_feetX, .initialized RX12] [19, 20, 21, 6] rfl (by decide +kernel)) gg_kX12_count_kX12_feetX
set_option maxRecDepth 20000 in
theorem gg_kX12_count_kX12_feetY : GoodIn v_kX12_count v_kX12_feetY := goodIn_ca (goodIn_r (.code yX12_feetY cX12_feetY 2 (some .int) :: [.fieldLink RX12 31 "GhostPaneModel" "cy" "I", .fieldLink RX12 46 "GhostPaneModel" "deep" "I", .fieldLink RX12 37 "GhostPaneModel" "dy" "I", .fieldLink RX12 381 "GhostPaneModel" "place" "[I", .code yX12_floorOf cX12_floorOf 2 (some .int), .methodLink RX12 441 yX12_floorOf, .static yX12_floorOf, .initialized RX12]) [22, 23, 24, 25, 10, 16, 17, 18, 6] rfl (by decide +kernel)) (goodIn_sub (fun _ h => List.mem_cons_of_mem _ (List.mem_append_right _ h)) gwX12)
set_option maxRecDepth 20000 in
theorem g_kX12_count_kX12_feetY_2 : GoodIn v_kX12_count (wsV RX12 479 RX12 yX12_feetY v_kX12_feetY) := goodIn_app (goodIn_r [.methodLink RX12 479 yX12_feetY, .instanceMethod yX12_feetY, .selects RX12 yX12_feetY yX12_feetY, .initialized RX12] [26, 27, 28, 6] rfl (by decide +kernel)) gg_kX12_count_kX12_feetY
set_option maxRecDepth 20000 in
theorem gg_kX12_count_kX12_isHeld : GoodIn v_kX12_count v_kX12_isHeld := goodIn_ca (goodIn_r (.code yX12_isHeld cX12_isHeld 4 (some .boolean) :: [.code yX12_feetX cX12_feetX 2 (some .int), .fieldLink RX12 28 "GhostPaneModel" "cx" "I", .fieldLink RX12 34 "GhostPaneModel" "dx" "I", .fieldLink RX12 381 "GhostPaneModel" "place" "[I", .code yX12_floorOf cX12_floorOf 2 (some .int), .methodLink RX12 441 yX12_floorOf, .static yX12_floorOf, .initialized RX12, .methodLink RX12 476 yX12_feetX, .instanceMethod yX12_feetX, .selects RX12 yX12_feetX yX12_feetX, .code yX12_feetY cX12_feetY 2 (some .int), .fieldLink RX12 31 "GhostPaneModel" "cy" "I", .fieldLink RX12 46 "GhostPaneModel" "deep" "I", .fieldLink RX12 37 "GhostPaneModel" "dy" "I", .methodLink RX12 479 yX12_feetY, .instanceMethod yX12_feetY, .selects RX12 yX12_feetY yX12_feetY, .code yX12_mirroredY cX12_mirroredY 5 (some .long), .code yX12_length cX12_length 1 (some .long), .fieldLink RX12 22 "GhostPaneModel" "bx" "I", .fieldLink RX12 25 "GhostPaneModel" "by" "I", .code yX12_along cX12_along 5 (some .long), .fieldLink RX12 15 "GhostPaneModel" "ax" "I", .fieldLink RX12 19 "GhostPaneModel" "ay" "I", .methodLink RX12 100 yX12_along, .instanceMethod yX12_along, .selects RX12 yX12_along yX12_along, .methodLink RX12 104 yX12_length, .instanceMethod yX12_length, .selects RX12 yX12_length yX12_length, .constantLong RX12 108 2, .code yX12_off cX12_off 5 (some .long), .methodLink RX12 110 yX12_off, .instanceMethod yX12_off, .selects RX12 yX12_off yX12_off, .methodLink RX12 121 yX12_mirroredY, .instanceMethod yX12_mirroredY, .selects RX12 yX12_mirroredY yX12_mirroredY, .fieldLink RX12 40 "GhostPaneModel" "floor" "I", .fieldLink RX12 43 "GhostPaneModel" "hand" "I"]) [29, 13, 14, 15, 10, 16, 17, 18, 6, 19, 20, 21, 22, 23, 24, 25, 26, 27, 28, 30, 31, 32, 33, 34, 35, 36, 37, 38, 39, 40, 41, 42, 43, 44, 45, 46, 47, 48, 49, 50, 51, 52] rfl (by decide +kernel)) (goodIn_sub (fun _ h => List.mem_cons_of_mem _ (List.mem_append_right _ h)) gwX12)
set_option maxRecDepth 20000 in
theorem g_kX12_count_kX12_isHeld_3 : GoodIn v_kX12_count (wsV RX12 485 RX12 yX12_isHeld v_kX12_isHeld) := goodIn_app (goodIn_r [.methodLink RX12 485 yX12_isHeld, .instanceMethod yX12_isHeld, .selects RX12 yX12_isHeld yX12_isHeld, .initialized RX12] [53, 54, 55, 6] rfl (by decide +kernel)) gg_kX12_count_kX12_isHeld
set_option maxRecDepth 20000 in
theorem gg_kX12_count_kX12_clashes : GoodIn v_kX12_count v_kX12_clashes := goodIn_ca (goodIn_r (.code yX12_clashes cX12_clashes 10 (some .int) :: [.code yX12_feetX cX12_feetX 2 (some .int), .fieldLink RX12 28 "GhostPaneModel" "cx" "I", .fieldLink RX12 34 "GhostPaneModel" "dx" "I", .fieldLink RX12 381 "GhostPaneModel" "place" "[I", .code yX12_floorOf cX12_floorOf 2 (some .int), .methodLink RX12 441 yX12_floorOf, .static yX12_floorOf, .initialized RX12, .methodLink RX12 476 yX12_feetX, .instanceMethod yX12_feetX, .selects RX12 yX12_feetX yX12_feetX, .code yX12_feetY cX12_feetY 2 (some .int), .fieldLink RX12 31 "GhostPaneModel" "cy" "I", .fieldLink RX12 46 "GhostPaneModel" "deep" "I", .fieldLink RX12 37 "GhostPaneModel" "dy" "I", .methodLink RX12 479 yX12_feetY, .instanceMethod yX12_feetY, .selects RX12 yX12_feetY yX12_feetY, .fieldLink RX12 384 "GhostPaneModel" "height" "[I", .code yX12_mirroredX cX12_mirroredX 5 (some .long), .code yX12_length cX12_length 1 (some .long), .fieldLink RX12 22 "GhostPaneModel" "bx" "I", .fieldLink RX12 25 "GhostPaneModel" "by" "I", .code yX12_along cX12_along 5 (some .long), .fieldLink RX12 15 "GhostPaneModel" "ax" "I", .fieldLink RX12 19 "GhostPaneModel" "ay" "I", .methodLink RX12 100 yX12_along, .instanceMethod yX12_along, .selects RX12 yX12_along yX12_along, .methodLink RX12 104 yX12_length, .instanceMethod yX12_length, .selects RX12 yX12_length yX12_length, .constantLong RX12 108 2, .code yX12_off cX12_off 5 (some .long), .methodLink RX12 110 yX12_off, .instanceMethod yX12_off, .selects RX12 yX12_off yX12_off, .methodLink RX12 118 yX12_mirroredX, .instanceMethod yX12_mirroredX, .selects RX12 yX12_mirroredX yX12_mirroredX, .code yX12_mirroredY cX12_mirroredY 5 (some .long), .methodLink RX12 121 yX12_mirroredY, .instanceMethod yX12_mirroredY, .selects RX12 yX12_mirroredY yX12_mirroredY, .fieldLink RX12 78 "GhostPaneModel" "isThing" "[Z"]) [56, 13, 14, 15, 10, 16, 17, 18, 6, 19, 20, 21, 22, 23, 24, 25, 26, 27, 28, 11, 57, 31, 32, 33, 34, 35, 36, 37, 38, 39, 40, 41, 42, 43, 44, 45, 46, 47, 58, 59, 60, 30, 48, 49, 50, 61] rfl (by decide +kernel)) (goodIn_sub (fun _ h => List.mem_cons_of_mem _ (List.mem_append_right _ h)) gwX12)
set_option maxRecDepth 20000 in
theorem g_kX12_count_kX12_clashes_4 : GoodIn v_kX12_count (wsV RX12 488 RX12 yX12_clashes v_kX12_clashes) := goodIn_app (goodIn_r [.methodLink RX12 488 yX12_clashes, .instanceMethod yX12_clashes, .selects RX12 yX12_clashes yX12_clashes, .initialized RX12] [62, 63, 64, 6] rfl (by decide +kernel)) gg_kX12_count_kX12_clashes
set_option maxHeartbeats 4000000 in
set_option maxRecDepth 100000 in
theorem kX12_count (l : Launch) (D : va_G) (cy : Nat → ClassId) (sz : Nat) (ma : Nat → Nat) (n : Int32) (w : Int32) : Met l yX12_count v_kX12_count ({ frames := 4, cells := 0, slots := 0, locals := 97 } : Room) (va_Pc [.ref (ma 200), .int n, .int w] (gp_B D cy sz [((ma 200), mo_0 ma), ((ma 20), .inl (cy 3, 8, .inl (fun _ => 0))), ((ma 73), .inl (cy 1, 241, .inl (fun _ => 0))), ((ma 74), .inl (cy 1, 241, .inl (fun _ => 0))), ((ma 75), .inl (cy 1, 241, .inl (upd (fun _ => 0) 0 1)))])) (va_Qi (fun (r : Int32) (u : Unit) => r = (if sp_in n 0 0 then sp_cnt w else (-1000))) (fun u => gp_E D (va_A [((ma 200), mo_0 ma), ((ma 20), .inl (cy 3, 8, .inl (fun _ => 0))), ((ma 73), .inl (cy 1, 241, .inl (fun _ => 0))), ((ma 74), .inl (cy 1, 241, .inl (fun _ => 0))), ((ma 75), .inl (cy 1, 241, .inl (upd (fun _ => 0) 0 1)))] sz) []) (va_A [((ma 200), mo_0 ma), ((ma 20), .inl (cy 3, 8, .inl (fun _ => 0))), ((ma 73), .inl (cy 1, 241, .inl (fun _ => 0))), ((ma 74), .inl (cy 1, 241, .inl (fun _ => 0))), ((ma 75), .inl (cy 1, 241, .inl (upd (fun _ => 0) 0 1)))] sz)) 0 0 (va_A [((ma 200), mo_0 ma), ((ma 20), .inl (cy 3, 8, .inl (fun _ => 0))), ((ma 73), .inl (cy 1, 241, .inl (fun _ => 0))), ((ma 74), .inl (cy 1, 241, .inl (fun _ => 0))), ((ma 75), .inl (cy 1, 241, .inl (upd (fun _ => 0) 0 1)))] sz) := by
  refine gp_met (Qc := fun A => va_Qi (fun (r : Int32) (u : Unit) => r = (if sp_in n 0 0 then sp_cnt w else (-1000))) (fun u => gp_E D A []) A) (cc := cX12_count) (maxL := 3) (ret := (some .int)) (by decide) rfl (Nat.le_of_ble_eq_true rfl) ?_
  intro p e s m below meth c A ls H hx hb hml hr hlocks hts hown hin hK hN hS hP hD hA hl
  have hown : s.vm.findClass RX12 = some m.cls := hown
  have hl : lv_has ls 3 [(0, .ref (ma 200)), (1, .int n), (2, .int w)] := hl
  have hiX12 : ∀ w ∈ u_ws RX12 TX12 104, w ∈ v_kX12_count := fun _ h => List.mem_cons_of_mem _ (List.mem_append_right _ h)
  refine lv_aload_n hx hb dX12_count_0 rfl (lv_at hl 0 rfl) ?_
  refine lv_iload_n hx hb dX12_count_1 rfl (lv_at hl 1 rfl) ?_
  have hPc := hP.sub (ws' := [((ma 200), mo_0 ma)]) [0] rfl
  have hDc := hD.sub (ws' := [((ma 200), mo_0 ma)]) [0] (by decide) rfl
  have hFc := va_free (wc := [((ma 200), mo_0 ma)]) hD hS hA [0] rfl
  refine va_calli (va_runV (As := [.int n]) (rest := []) ⟨hx, hb, hml, hown, hts⟩ (kX12_isCount l D cy H.size ma n) (cwV 1 hts g_kX12_count_kX12_isCount_0 rfl rfl rfl (by decide +kernel) ⟨Nat.le_of_ble_eq_true rfl, Nat.le_of_ble_eq_true rfl⟩) (gp_preV (RX12, TX12, 104) 12 0 hPc hDc hK hN rfl rfl) rfl rfl hl.1 rfl (lv_room (Nat.le_of_ble_eq_true rfl)) dX12_count_2 ⟨Nat.le_of_ble_eq_true rfl, Nat.le_of_ble_eq_true rfl⟩) hS (fun q _ h => hFc q h) hFc (fun r_1 u t H locs ht hvm hw hB hz1 hk1 hS => ?_)
  obtain ⟨hP, hD⟩ := gp_join (wr := [((ma 20), .inl (cy 3, 8, .inl (fun _ => 0))), ((ma 73), .inl (cy 1, 241, .inl (fun _ => 0))), ((ma 74), .inl (cy 1, 241, .inl (fun _ => 0))), ((ma 75), .inl (cy 1, 241, .inl (upd (fun _ => 0) 0 1)))]) (w1 := [((ma 200), mo_0 ma)]) hP hD [0] [1, 2, 3, 4] rfl rfl (by decide) (by decide) hk1 hFc ht hB
  have hP : va_P D vwCl [((ma 20), .inl (cy 3, 8, .inl (fun _ => 0))), ((ma 73), .inl (cy 1, 241, .inl (fun _ => 0))), ((ma 74), .inl (cy 1, 241, .inl (fun _ => 0))), ((ma 75), .inl (cy 1, 241, .inl (upd (fun _ => 0) 0 1))), ((ma 200), mo_0 ma)] H := hP
  have hD : va_D A [((ma 20), .inl (cy 3, 8, .inl (fun _ => 0))), ((ma 73), .inl (cy 1, 241, .inl (fun _ => 0))), ((ma 74), .inl (cy 1, 241, .inl (fun _ => 0))), ((ma 75), .inl (cy 1, 241, .inl (upd (fun _ => 0) 0 1))), ((ma 200), mo_0 ma)] := hD
  rcases hw with ⟨rfl, p_2⟩ | ⟨rfl, p_2⟩
  · refine lv_if_ne (tgt := 12) hx hb dX12_count_5 (by decide) (fun c_3 => ?_) (fun c_3 => absurd c_3 (by decide))
    have hc0 : n = 0 := (lf_kX12_count_1 ma n w p_2)
    refine lv_iload_n hx hb dX12_count_12 rfl (lv_at hl 2 rfl) ?_
    by_cases k_4 : w = 0
    · refine lv_tableIn (off := 43) (tgt := 56) hx hb dX12_count_13 (by rw [k_4]; decide) (by rw [k_4]; decide) (by rw [k_4]; decide +kernel) (by decide) ?_
      refine lv_aload_n hx hb dX12_count_56 rfl (lv_at hl 0 rfl) ?_
      refine va_get (D := D) (ci := 12) (v := .ref (ma 73)) (C := RX12) (T := TX12) (N := 104) hx hb hts hiX12 hown hK hP 4 rfl rfl 73 (by decide) (hts (.fieldLink RX12 381 "GhostPaneModel" "place" "[I") (List.mem_of_getElem? (i := 10) rfl)) (fun _ h9 => h9) rfl dX12_count_57 ?_
      refine lv_iload_n hx hb dX12_count_60 rfl (lv_at hl 1 rfl) ?_
      refine gp_ni 0 hc0 ?_
      refine va_iald hx hb hK hP 1 1 rfl rfl (by unfold vp_in; decide) dX12_count_61 ?_
      refine gp_ni 0 rfl ?_
      exact W.iret (v := 0) hx hb hr (fun t ht hW => ⟨⟨0, (), rfl, (lf_kX12_count_2 ma n w p_2 k_4), gp_end ht (hP.sub (ws' := []) [] rfl) (hD.sub (ws' := []) [] (by decide) rfl)⟩, hS.F ht⟩) hS.2.2 dX12_count_62
    by_cases k_5 : w = 1
    · refine lv_tableIn (off := 50) (tgt := 63) hx hb dX12_count_13 (by rw [k_5]; decide) (by rw [k_5]; decide) (by rw [k_5]; decide +kernel) (by decide) ?_
      refine lv_aload_n hx hb dX12_count_63 rfl (lv_at hl 0 rfl) ?_
      refine va_get (D := D) (ci := 12) (v := .ref (ma 74)) (C := RX12) (T := TX12) (N := 104) hx hb hts hiX12 hown hK hP 4 rfl rfl 74 (by decide) (hts (.fieldLink RX12 384 "GhostPaneModel" "height" "[I") (List.mem_of_getElem? (i := 11) rfl)) (fun _ h9 => h9) rfl dX12_count_64 ?_
      refine lv_iload_n hx hb dX12_count_67 rfl (lv_at hl 1 rfl) ?_
      refine gp_ni 0 hc0 ?_
      refine va_iald hx hb hK hP 2 1 rfl rfl (by unfold vp_in; decide) dX12_count_68 ?_
      refine gp_ni 0 rfl ?_
      exact W.iret (v := 0) hx hb hr (fun t ht hW => ⟨⟨0, (), rfl, (lf_kX12_count_3 ma n w p_2 k_4 k_5), gp_end ht (hP.sub (ws' := []) [] rfl) (hD.sub (ws' := []) [] (by decide) rfl)⟩, hS.F ht⟩) hS.2.2 dX12_count_69
    by_cases k_6 : w = 2
    · refine lv_tableIn (off := 57) (tgt := 70) hx hb dX12_count_13 (by rw [k_6]; decide) (by rw [k_6]; decide) (by rw [k_6]; decide +kernel) (by decide) ?_
      refine lv_aload_n hx hb dX12_count_70 rfl (lv_at hl 0 rfl) ?_
      refine va_get (D := D) (ci := 12) (v := .ref (ma 75)) (C := RX12) (T := TX12) (N := 104) hx hb hts hiX12 hown hK hP 4 rfl rfl 75 (by decide) (hts (.fieldLink RX12 387 "GhostPaneModel" "light" "[I") (List.mem_of_getElem? (i := 12) rfl)) (fun _ h9 => h9) rfl dX12_count_71 ?_
      refine lv_iload_n hx hb dX12_count_74 rfl (lv_at hl 1 rfl) ?_
      refine gp_ni 0 hc0 ?_
      refine va_iald hx hb hK hP 3 1 rfl rfl (by unfold vp_in; decide) dX12_count_75 ?_
      refine gp_ni 1 rfl ?_
      exact W.iret (v := 1) hx hb hr (fun t ht hW => ⟨⟨1, (), rfl, (lf_kX12_count_4 ma n w p_2 k_4 k_5 k_6), gp_end ht (hP.sub (ws' := []) [] rfl) (hD.sub (ws' := []) [] (by decide) rfl)⟩, hS.F ht⟩) hS.2.2 dX12_count_76
    by_cases k_7 : w = 3
    · refine lv_tableIn (off := 64) (tgt := 77) hx hb dX12_count_13 (by rw [k_7]; decide) (by rw [k_7]; decide) (by rw [k_7]; decide +kernel) (by decide) ?_
      refine lv_aload_n hx hb dX12_count_77 rfl (lv_at hl 0 rfl) ?_
      refine lv_iload_n hx hb dX12_count_78 rfl (lv_at hl 1 rfl) ?_
      refine gp_ni 0 hc0 ?_
      have hPc := hP.sub (ws' := [((ma 200), mo_0 ma), ((ma 73), .inl (cy 1, 241, .inl (fun _ => 0)))]) [4, 1] rfl
      have hDc := hD.sub (ws' := [((ma 200), mo_0 ma), ((ma 73), .inl (cy 1, 241, .inl (fun _ => 0)))]) [4, 1] (by decide) rfl
      have hFc := va_free (wc := [((ma 200), mo_0 ma), ((ma 73), .inl (cy 1, 241, .inl (fun _ => 0)))]) hD hS hA [4, 1] rfl
      refine va_calli (va_runV (As := [.int 0]) (rest := []) ⟨hx, hb, hml, hown, hts⟩ (kX12_feetX l D cy H.size ma) (cwV 1 hts g_kX12_count_kX12_feetX_1 rfl rfl rfl (by decide +kernel) ⟨Nat.le_of_ble_eq_true rfl, Nat.le_of_ble_eq_true rfl⟩) (gp_preV (RX12, TX12, 104) 12 0 hPc hDc hK hN rfl rfl) rfl rfl hl.1 rfl (lv_room (Nat.le_of_ble_eq_true rfl)) dX12_count_79 ⟨Nat.le_of_ble_eq_true rfl, Nat.le_of_ble_eq_true rfl⟩) hS (fun q _ h => hFc q h) hFc (fun r_8 u t H locs ht hvm hw hB hz1 hk1 hS => ?_)
      obtain ⟨hP, hD⟩ := gp_join (wr := [((ma 20), .inl (cy 3, 8, .inl (fun _ => 0))), ((ma 74), .inl (cy 1, 241, .inl (fun _ => 0))), ((ma 75), .inl (cy 1, 241, .inl (upd (fun _ => 0) 0 1)))]) (w1 := [((ma 200), mo_0 ma), ((ma 73), .inl (cy 1, 241, .inl (fun _ => 0)))]) hP hD [4, 1] [0, 2, 3] rfl rfl (by decide) (by decide) hk1 hFc ht hB
      have hP : va_P D vwCl [((ma 20), .inl (cy 3, 8, .inl (fun _ => 0))), ((ma 74), .inl (cy 1, 241, .inl (fun _ => 0))), ((ma 75), .inl (cy 1, 241, .inl (upd (fun _ => 0) 0 1))), ((ma 200), mo_0 ma), ((ma 73), .inl (cy 1, 241, .inl (fun _ => 0)))] H := hP
      have hD : va_D A [((ma 20), .inl (cy 3, 8, .inl (fun _ => 0))), ((ma 74), .inl (cy 1, 241, .inl (fun _ => 0))), ((ma 75), .inl (cy 1, 241, .inl (upd (fun _ => 0) 0 1))), ((ma 200), mo_0 ma), ((ma 73), .inl (cy 1, 241, .inl (fun _ => 0)))] := hD
      obtain rfl : r_8 = (-60) := hw
      exact W.iret (v := (-60)) hx hb hr (fun t ht hW => ⟨⟨(-60), (), rfl, (lf_kX12_count_5 ma n w p_2 k_4 k_5 k_6 k_7), gp_end ht (hP.sub (ws' := []) [] rfl) (hD.sub (ws' := []) [] (by decide) rfl)⟩, hS.F ht⟩) hS.2.2 dX12_count_82
    by_cases k_9 : w = 4
    · refine lv_tableIn (off := 70) (tgt := 83) hx hb dX12_count_13 (by rw [k_9]; decide) (by rw [k_9]; decide) (by rw [k_9]; decide +kernel) (by decide) ?_
      refine lv_aload_n hx hb dX12_count_83 rfl (lv_at hl 0 rfl) ?_
      refine lv_iload_n hx hb dX12_count_84 rfl (lv_at hl 1 rfl) ?_
      refine gp_ni 0 hc0 ?_
      have hPc := hP.sub (ws' := [((ma 200), mo_0 ma), ((ma 73), .inl (cy 1, 241, .inl (fun _ => 0)))]) [4, 1] rfl
      have hDc := hD.sub (ws' := [((ma 200), mo_0 ma), ((ma 73), .inl (cy 1, 241, .inl (fun _ => 0)))]) [4, 1] (by decide) rfl
      have hFc := va_free (wc := [((ma 200), mo_0 ma), ((ma 73), .inl (cy 1, 241, .inl (fun _ => 0)))]) hD hS hA [4, 1] rfl
      refine va_calli (va_runV (As := [.int 0]) (rest := []) ⟨hx, hb, hml, hown, hts⟩ (kX12_feetY l D cy H.size ma) (cwV 1 hts g_kX12_count_kX12_feetY_2 rfl rfl rfl (by decide +kernel) ⟨Nat.le_of_ble_eq_true rfl, Nat.le_of_ble_eq_true rfl⟩) (gp_preV (RX12, TX12, 104) 12 0 hPc hDc hK hN rfl rfl) rfl rfl hl.1 rfl (lv_room (Nat.le_of_ble_eq_true rfl)) dX12_count_85 ⟨Nat.le_of_ble_eq_true rfl, Nat.le_of_ble_eq_true rfl⟩) hS (fun q _ h => hFc q h) hFc (fun r_10 u t H locs ht hvm hw hB hz1 hk1 hS => ?_)
      obtain ⟨hP, hD⟩ := gp_join (wr := [((ma 20), .inl (cy 3, 8, .inl (fun _ => 0))), ((ma 74), .inl (cy 1, 241, .inl (fun _ => 0))), ((ma 75), .inl (cy 1, 241, .inl (upd (fun _ => 0) 0 1)))]) (w1 := [((ma 200), mo_0 ma), ((ma 73), .inl (cy 1, 241, .inl (fun _ => 0)))]) hP hD [4, 1] [0, 2, 3] rfl rfl (by decide) (by decide) hk1 hFc ht hB
      have hP : va_P D vwCl [((ma 20), .inl (cy 3, 8, .inl (fun _ => 0))), ((ma 74), .inl (cy 1, 241, .inl (fun _ => 0))), ((ma 75), .inl (cy 1, 241, .inl (upd (fun _ => 0) 0 1))), ((ma 200), mo_0 ma), ((ma 73), .inl (cy 1, 241, .inl (fun _ => 0)))] H := hP
      have hD : va_D A [((ma 20), .inl (cy 3, 8, .inl (fun _ => 0))), ((ma 74), .inl (cy 1, 241, .inl (fun _ => 0))), ((ma 75), .inl (cy 1, 241, .inl (upd (fun _ => 0) 0 1))), ((ma 200), mo_0 ma), ((ma 73), .inl (cy 1, 241, .inl (fun _ => 0)))] := hD
      obtain rfl : r_10 = (-40) := hw
      refine lv_aload_n hx hb dX12_count_88 rfl (lv_at hl 0 rfl) ?_
      refine va_get (D := D) (ci := 12) (v := .ref (ma 74)) (C := RX12) (T := TX12) (N := 104) hx hb hts hiX12 hown hK hP 3 rfl rfl 74 (by decide) (hts (.fieldLink RX12 384 "GhostPaneModel" "height" "[I") (List.mem_of_getElem? (i := 11) rfl)) (fun _ h9 => h9) rfl dX12_count_89 ?_
      refine lv_iload_n hx hb dX12_count_92 rfl (lv_at hl 1 rfl) ?_
      refine gp_ni 0 hc0 ?_
      refine va_iald hx hb hK hP 1 1 rfl rfl (by unfold vp_in; decide) dX12_count_93 ?_
      refine gp_ni 0 rfl ?_
      refine lv_iadd hx hb dX12_count_94 ?_
      refine gp_ni (-40) (by decide) ?_
      exact W.iret (v := (-40)) hx hb hr (fun t ht hW => ⟨⟨(-40), (), rfl, (lf_kX12_count_6 ma n w p_2 k_4 k_5 k_6 k_7 k_9), gp_end ht (hP.sub (ws' := []) [] rfl) (hD.sub (ws' := []) [] (by decide) rfl)⟩, hS.F ht⟩) hS.2.2 dX12_count_95
    by_cases k_11 : w = 5
    · refine lv_tableIn (off := 83) (tgt := 96) hx hb dX12_count_13 (by rw [k_11]; decide) (by rw [k_11]; decide) (by rw [k_11]; decide +kernel) (by decide) ?_
      refine lv_aload_n hx hb dX12_count_96 rfl (lv_at hl 0 rfl) ?_
      refine lv_iload_n hx hb dX12_count_97 rfl (lv_at hl 1 rfl) ?_
      refine gp_ni 0 hc0 ?_
      have hPc := hP.sub (ws' := [((ma 200), mo_0 ma), ((ma 73), .inl (cy 1, 241, .inl (fun _ => 0)))]) [4, 1] rfl
      have hDc := hD.sub (ws' := [((ma 200), mo_0 ma), ((ma 73), .inl (cy 1, 241, .inl (fun _ => 0)))]) [4, 1] (by decide) rfl
      have hFc := va_free (wc := [((ma 200), mo_0 ma), ((ma 73), .inl (cy 1, 241, .inl (fun _ => 0)))]) hD hS hA [4, 1] rfl
      refine va_calli (va_runV (As := [.int 0]) (rest := []) ⟨hx, hb, hml, hown, hts⟩ (kX12_isHeld l D cy H.size ma) (cwV 1 hts g_kX12_count_kX12_isHeld_3 rfl rfl rfl (by decide +kernel) ⟨Nat.le_of_ble_eq_true rfl, Nat.le_of_ble_eq_true rfl⟩) (gp_preV (RX12, TX12, 104) 12 0 hPc hDc hK hN rfl rfl) rfl rfl hl.1 rfl (lv_room (Nat.le_of_ble_eq_true rfl)) dX12_count_98 ⟨Nat.le_of_ble_eq_true rfl, Nat.le_of_ble_eq_true rfl⟩) hS (fun q _ h => hFc q h) hFc (fun r_12 u t H locs ht hvm hw hB hz1 hk1 hS => ?_)
      obtain ⟨hP, hD⟩ := gp_join (wr := [((ma 20), .inl (cy 3, 8, .inl (fun _ => 0))), ((ma 74), .inl (cy 1, 241, .inl (fun _ => 0))), ((ma 75), .inl (cy 1, 241, .inl (upd (fun _ => 0) 0 1)))]) (w1 := [((ma 200), mo_0 ma), ((ma 73), .inl (cy 1, 241, .inl (fun _ => 0)))]) hP hD [4, 1] [0, 2, 3] rfl rfl (by decide) (by decide) hk1 hFc ht hB
      have hP : va_P D vwCl [((ma 20), .inl (cy 3, 8, .inl (fun _ => 0))), ((ma 74), .inl (cy 1, 241, .inl (fun _ => 0))), ((ma 75), .inl (cy 1, 241, .inl (upd (fun _ => 0) 0 1))), ((ma 200), mo_0 ma), ((ma 73), .inl (cy 1, 241, .inl (fun _ => 0)))] H := hP
      have hD : va_D A [((ma 20), .inl (cy 3, 8, .inl (fun _ => 0))), ((ma 74), .inl (cy 1, 241, .inl (fun _ => 0))), ((ma 75), .inl (cy 1, 241, .inl (upd (fun _ => 0) 0 1))), ((ma 200), mo_0 ma), ((ma 73), .inl (cy 1, 241, .inl (fun _ => 0)))] := hD
      obtain rfl : r_12 = 1 := hw
      refine lv_if_eq (tgt := 108) hx hb dX12_count_101 (by decide) (fun c_13 => absurd c_13 (by decide)) (fun c_13 => ?_)
      refine lv_iconst (v := 1) hx hb dX12_count_104 (by decide) ?_
      refine lv_goto (tgt := 109) hx hb dX12_count_105 (by decide) ?_
      exact W.iret (v := 1) hx hb hr (fun t ht hW => ⟨⟨1, (), rfl, (lf_kX12_count_7 ma n w p_2 k_4 k_5 k_6 k_7 k_9 k_11), gp_end ht (hP.sub (ws' := []) [] rfl) (hD.sub (ws' := []) [] (by decide) rfl)⟩, hS.F ht⟩) hS.2.2 dX12_count_109
    by_cases k_14 : w = 6
    · refine lv_tableIn (off := 97) (tgt := 110) hx hb dX12_count_13 (by rw [k_14]; decide) (by rw [k_14]; decide) (by rw [k_14]; decide +kernel) (by decide) ?_
      refine lv_aload_n hx hb dX12_count_110 rfl (lv_at hl 0 rfl) ?_
      refine lv_iload_n hx hb dX12_count_111 rfl (lv_at hl 1 rfl) ?_
      refine gp_ni 0 hc0 ?_
      have hPc := hP.sub (ws' := [((ma 200), mo_0 ma), ((ma 20), .inl (cy 3, 8, .inl (fun _ => 0))), ((ma 73), .inl (cy 1, 241, .inl (fun _ => 0))), ((ma 74), .inl (cy 1, 241, .inl (fun _ => 0)))]) [4, 0, 1, 2] rfl
      have hDc := hD.sub (ws' := [((ma 200), mo_0 ma), ((ma 20), .inl (cy 3, 8, .inl (fun _ => 0))), ((ma 73), .inl (cy 1, 241, .inl (fun _ => 0))), ((ma 74), .inl (cy 1, 241, .inl (fun _ => 0)))]) [4, 0, 1, 2] (by decide) rfl
      have hFc := va_free (wc := [((ma 200), mo_0 ma), ((ma 20), .inl (cy 3, 8, .inl (fun _ => 0))), ((ma 73), .inl (cy 1, 241, .inl (fun _ => 0))), ((ma 74), .inl (cy 1, 241, .inl (fun _ => 0)))]) hD hS hA [4, 0, 1, 2] rfl
      refine va_calli (va_runV (As := [.int 0]) (rest := []) ⟨hx, hb, hml, hown, hts⟩ (kX12_clashes l D cy H.size ma) (cwV 1 hts g_kX12_count_kX12_clashes_4 rfl rfl rfl (by decide +kernel) ⟨Nat.le_of_ble_eq_true rfl, Nat.le_of_ble_eq_true rfl⟩) (gp_preV (RX12, TX12, 104) 12 0 hPc hDc hK hN rfl rfl) rfl rfl hl.1 rfl (lv_room (Nat.le_of_ble_eq_true rfl)) dX12_count_112 ⟨Nat.le_of_ble_eq_true rfl, Nat.le_of_ble_eq_true rfl⟩) hS (fun q _ h => hFc q h) hFc (fun r_15 u t H locs ht hvm hw hB hz1 hk1 hS => ?_)
      obtain ⟨hP, hD⟩ := gp_join (wr := [((ma 75), .inl (cy 1, 241, .inl (upd (fun _ => 0) 0 1)))]) (w1 := [((ma 200), mo_0 ma), ((ma 20), .inl (cy 3, 8, .inl (fun _ => 0))), ((ma 73), .inl (cy 1, 241, .inl (fun _ => 0))), ((ma 74), .inl (cy 1, 241, .inl (fun _ => 0)))]) hP hD [4, 0, 1, 2] [3] rfl rfl (by decide) (by decide) hk1 hFc ht hB
      have hP : va_P D vwCl [((ma 75), .inl (cy 1, 241, .inl (upd (fun _ => 0) 0 1))), ((ma 200), mo_0 ma), ((ma 20), .inl (cy 3, 8, .inl (fun _ => 0))), ((ma 73), .inl (cy 1, 241, .inl (fun _ => 0))), ((ma 74), .inl (cy 1, 241, .inl (fun _ => 0)))] H := hP
      have hD : va_D A [((ma 75), .inl (cy 1, 241, .inl (upd (fun _ => 0) 0 1))), ((ma 200), mo_0 ma), ((ma 20), .inl (cy 3, 8, .inl (fun _ => 0))), ((ma 73), .inl (cy 1, 241, .inl (fun _ => 0))), ((ma 74), .inl (cy 1, 241, .inl (fun _ => 0)))] := hD
      obtain rfl : r_15 = 0 := hw
      exact W.iret (v := 0) hx hb hr (fun t ht hW => ⟨⟨0, (), rfl, (lf_kX12_count_8 ma n w p_2 k_4 k_5 k_6 k_7 k_9 k_11 k_14), gp_end ht (hP.sub (ws' := []) [] rfl) (hD.sub (ws' := []) [] (by decide) rfl)⟩, hS.F ht⟩) hS.2.2 dX12_count_115
    have ho_13 : (w).toInt < 0 ∨ 6 < (w).toInt := gp_sw0_6 k_4 k_5 k_6 k_7 k_9 k_11 k_14
    refine lv_tableOut (tgt := 116) hx hb dX12_count_13 ho_13 (by decide) ?_
    refine lv_sipush (v := (-1000)) hx hb dX12_count_116 (by decide) ?_
    exact W.iret (v := (-1000)) hx hb hr (fun t ht hW => ⟨⟨(-1000), (), rfl, (lf_kX12_count_9 ma n w p_2 k_4 k_5 k_6 k_7 k_9 k_11 k_14), gp_end ht (hP.sub (ws' := []) [] rfl) (hD.sub (ws' := []) [] (by decide) rfl)⟩, hS.F ht⟩) hS.2.2 dX12_count_119
  · refine lv_if_ne (tgt := 12) hx hb dX12_count_5 (by decide) (fun c_16 => absurd (by decide) c_16) (fun c_16 => ?_)
    refine lv_sipush (v := (-1000)) hx hb dX12_count_8 (by decide) ?_
    exact W.iret (v := (-1000)) hx hb hr (fun t ht hW => ⟨⟨(-1000), (), rfl, (lf_kX12_count_10 ma n w p_2), gp_end ht (hP.sub (ws' := []) [] rfl) (hD.sub (ws' := []) [] (by decide) rfl)⟩, hS.F ht⟩) hS.2.2 dX12_count_11
