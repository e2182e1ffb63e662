theorem gp_z0 {a b : Nat} (ha : a ≤ 1000) (hb : b ≤ 100) : ((nI a - nI b) + 1).toInt = (a : Int) - b + 1 := by
  rw [Int32.toInt_add, Int32.toInt_sub, nI_toInt (by omega), nI_toInt (by omega)]
  have e : (1 : Int32).toInt = 1 := by decide
  rw [e, gp_bm2 (z := (a : Int) - b) (by omega) (by omega)]
  exact gp_bm2 (by omega) (by omega)
theorem gp_z1 {z : Int32} {a b : Nat} (ha : a ≤ 1000) (hb : b ≤ 100) (h0 : (a : Int) - b + 1 ≤ z.toInt) (h : z.toInt < (a : Int) + b) : (z + 1).toInt = z.toInt + 1 := by
  rw [Int32.toInt_add]
  have e : (1 : Int32).toInt = 1 := by decide
  rw [e]
  exact gp_bm2 (by omega) (by omega)
theorem gp_z2 {z : Int32} {a b : Nat} (ha : a ≤ 1000) (hb : b ≤ 100) (h : ¬ nI (a + b) ≤ z) : z.toInt < (a : Int) + b := by
  rw [Int32.le_iff_toInt_le, nI_toInt (by omega)] at h
  omega
abbrev mo_j (ma : Nat → Nat) (k : Nat) : va_E := .inr (12, [.int (-50), .int 0, .int 50, .int 80, .int (-60), .int (-40), .int 60, .int (-40), .int 0, .int 4, .int 0, .ref (ma 11), .ref (ma 12), .ref (ma 13), .ref (ma 14), .ref (ma 15), .ref (ma 16), .ref (ma 17), .ref (ma 18), .ref (ma 19), .ref (ma 20), .ref (ma 21), .ref (ma 22), .ref (ma 23), .ref (ma 24), .long 0, .long 0, .long 0, .long 0, .long 0, .long 0, .long 0, .long 0, .ref (ma 33), .int 0, .int 0, .int 0, .int 0, .int 0, .int 0, .int 0, .int (-1), .int 0, .ref (ma 43), .ref (ma 44), .ref (ma 45), .ref (ma 46), .ref (ma 47), .ref (ma 48), .ref (ma 49), .ref (ma 50), .ref (ma 51), .ref (ma 52), .ref (ma 53), .ref (ma 54), .int 0, .ref (ma 56), .ref (ma 57), .ref (ma 58), .ref (ma 59), .ref (ma 60), .ref (ma 61), .ref (ma 62), .int 0, .ref (ma 64), .ref (ma 65), .int 0, .ref (ma 67), .ref (ma 68), .ref (ma 69), .ref (ma 70), .ref (ma 71), .int 0, .ref (ma 73), .ref (ma 74), .ref (ma 75), .int 0, .int 0, .ref (ma 78), .ref (ma 79), .ref (ma 80), .ref (ma 81), .int 0, .int 0, .int 0, .int 0, .int 0, .int 0, .int 0, .int 0, .int 0, .int 0, .int (nI k), .ref (ma 93), .ref (ma 94), .ref (ma 95), .int 0, .ref (ma 97), .ref (ma 98), .ref (ma 99), .ref (ma 100), .ref (ma 101), .ref (ma 102), .ref (ma 103)])
def v_kX12_notesFaces : List Cond := .code yX12_notesFaces cX12_notesFaces 3 none :: ([.fieldLink RX12 464 "GhostPaneModel" "last" "I", .fieldLink RX12 49 "GhostPaneModel" "isSeat" "[Z", .fieldLink RX12 405 "GhostPaneModel" "isSeen" "[Z"] ++ wsX120)
set_option maxHeartbeats 4000000 in
set_option maxRecDepth 100000 in
theorem kX12_notesFaces (l : Launch) (D : va_G) (cy : Nat → ClassId) (sz : Nat) (ma : Nat → Nat) : Met l yX12_notesFaces v_kX12_notesFaces ({ frames := 0, cells := 0, slots := 0, locals := 0 } : Room) (va_Pc [.ref (ma 200)] (gp_B D cy sz [((ma 200), mo_0 ma), ((ma 11), .inl (cy 3, 8, .inl (fun _ => 0))), ((ma 75), .inl (cy 1, 241, .inl (upd (fun _ => 0) 0 1))), ((ma 94), .inl (cy 3, 1001, .inl (fun _ => 0)))])) (va_Qv (fun (u : Unit) => True) (fun u => gp_E D (va_A [((ma 200), mo_0 ma), ((ma 11), .inl (cy 3, 8, .inl (fun _ => 0))), ((ma 75), .inl (cy 1, 241, .inl (upd (fun _ => 0) 0 1))), ((ma 94), .inl (cy 3, 1001, .inl (fun _ => 0)))] sz) [((ma 200), mo_0 ma), ((ma 11), .inl (cy 3, 8, .inl (fun _ => 0))), ((ma 75), .inl (cy 1, 241, .inl (upd (fun _ => 0) 0 1))), ((ma 94), .inl (cy 3, 1001, .inl (fun _ => 0)))]) (va_A [((ma 200), mo_0 ma), ((ma 11), .inl (cy 3, 8, .inl (fun _ => 0))), ((ma 75), .inl (cy 1, 241, .inl (upd (fun _ => 0) 0 1))), ((ma 94), .inl (cy 3, 1001, .inl (fun _ => 0)))] sz)) 0 0 (va_A [((ma 200), mo_0 ma), ((ma 11), .inl (cy 3, 8, .inl (fun _ => 0))), ((ma 75), .inl (cy 1, 241, .inl (upd (fun _ => 0) 0 1))), ((ma 94), .inl (cy 3, 1001, .inl (fun _ => 0)))] sz) := by
  refine gp_met (Qc := fun A => va_Qv (fun (u : Unit) => True) (fun u => gp_E D A [((ma 200), mo_0 ma), ((ma 11), .inl (cy 3, 8, .inl (fun _ => 0))), ((ma 75), .inl (cy 1, 241, .inl (upd (fun _ => 0) 0 1))), ((ma 94), .inl (cy 3, 1001, .inl (fun _ => 0)))]) A) (cc := cX12_notesFaces) (maxL := 3) (ret := none) (by decide) rfl (Nat.le_of_ble_eq_true rfl) ?_
  intro p e s m below meth c A ls H hx hb hml hr hlocks hts hown hin hK hN hS hP hD hA hl
  have hown : s.vm.findClass RX12 = some m.cls := hown
  have hl : lv_has ls 3 [(0, .ref (ma 200))] := hl
  have hiX12 : ∀ w ∈ u_ws RX12 TX12 104, w ∈ v_kX12_notesFaces := fun _ h => List.mem_cons_of_mem _ (List.mem_append_right _ h)
  refine lv_iconst (v := 0) hx hb dX12_notesFaces_0 (by decide) ?_
  refine lv_istore_n (lv' := [(1, .int 0), (0, .ref (ma 200))]) hx hb dX12_notesFaces_1 rfl hl (by decide) rfl (fun ls hl => ?_)
  have key2 : ∀ (fu : Nat) (i : Nat) (H : Heap) (locs : List Loc) (ls : Array Slot), (hi : i ≤ 1001) → 1001 - i < fu → va_P D vwCl [((ma 200), mo_0 ma), ((ma 11), .inl (cy 3, 8, .inl (fun _ => 0))), ((ma 75), .inl (cy 1, 241, .inl (upd (fun _ => 0) 0 1))), ((ma 94), .inl (cy 3, 1001, .inl (fun _ => 0)))] H → va_D A [((ma 200), mo_0 ma), ((ma 11), .inl (cy 3, 8, .inl (fun _ => 0))), ((ma 75), .inl (cy 1, 241, .inl (upd (fun _ => 0) 0 1))), ((ma 94), .inl (cy 3, 1001, .inl (fun _ => 0)))] → va_S A s.heap H locs → lv_has ls 3 [(1, .int (nI i)), (0, .ref (ma 200))] → W p l e (headSpec v_kX12_notesFaces (({ frames := 0, cells := 0, slots := 0, locals := 0 } : Room))).room s m [.ref (ma 200)].toArray below meth c H locs 0 0 (MQ below (va_Qv (fun (u : Unit) => True) (fun u => gp_E D A [((ma 200), mo_0 ma), ((ma 11), .inl (cy 3, 8, .inl (fun _ => 0))), ((ma 75), .inl (cy 1, 241, .inl (upd (fun _ => 0) 0 1))), ((ma 94), .inl (cy 3, 1001, .inl (fun _ => 0)))]) A) [.ref (ma 200)].toArray s 0 0 A) (F0 m 2 ls []) := by
    intro fu
    induction fu with
    | zero => intro i H locs ls hi hfu; exact absurd hfu (Nat.not_lt_zero _)
    | succ fu ih =>
      intro i H locs ls hi hfu hP hD hS hl
      refine lv_iload_n hx hb dX12_notesFaces_2 rfl (lv_at hl 0 rfl) ?_
      refine lv_sipush (v := 1000) hx hb dX12_notesFaces_3 (by decide) ?_
      refine lv_icmp_gt (tgt := 22) hx hb dX12_notesFaces_6 (by decide) (fun c_1 => ?_) (fun c_1 => ?_)
      · refine lv_iconst (v := 0) hx hb dX12_notesFaces_22 (by decide) ?_
        refine lv_istore_n (lv' := [(1, .int 0), (0, .ref (ma 200))]) hx hb dX12_notesFaces_23 rfl hl (by decide) rfl (fun ls hl => ?_)
        refine lv_iload_n hx hb dX12_notesFaces_24 rfl (lv_at hl 0 rfl) ?_
        refine lv_bipush (v := 8) hx hb dX12_notesFaces_25 (by decide) ?_
        refine lv_icmp_ge (tgt := 90) hx hb dX12_notesFaces_27 (by decide) (fun c_2 => absurd c_2 (by decide)) (fun c_2 => ?_)
        refine lv_iconst (v := 0) hx hb dX12_notesFaces_30 (by decide) ?_
        refine lv_istore_n (lv' := [(2, .int 0), (1, .int 0), (0, .ref (ma 200))]) hx hb dX12_notesFaces_31 rfl hl (by decide) rfl (fun ls hl => ?_)
        refine lv_iload_n hx hb dX12_notesFaces_32 rfl (lv_at hl 0 rfl) ?_
        refine lv_aload_n hx hb dX12_notesFaces_33 rfl (lv_at hl 2 rfl) ?_
        refine va_get (D := D) (ci := 12) (v := .int 0) (C := RX12) (T := TX12) (N := 104) hx hb hts hiX12 hown hK hP 0 rfl rfl 72 (by decide) (hts (.fieldLink RX12 464 "GhostPaneModel" "last" "I") (List.mem_of_getElem? (i := 1) rfl)) (fun _ h9 => h9) rfl dX12_notesFaces_34 ?_
        refine lv_icmp_gt (tgt := 84) hx hb dX12_notesFaces_37 (by decide) (fun c_3 => absurd c_3 (by decide)) (fun c_3 => ?_)
        refine lv_aload_n hx hb dX12_notesFaces_40 rfl (lv_at hl 2 rfl) ?_
        refine va_get (D := D) (ci := 12) (v := .ref (ma 11)) (C := RX12) (T := TX12) (N := 104) hx hb hts hiX12 hown hK hP 0 rfl rfl 11 (by decide) (hts (.fieldLink RX12 49 "GhostPaneModel" "isSeat" "[Z") (List.mem_of_getElem? (i := 2) rfl)) (fun _ h9 => h9) rfl dX12_notesFaces_41 ?_
        refine lv_iload_n hx hb dX12_notesFaces_44 rfl (lv_at hl 1 rfl) ?_
        refine va_zald hx hb hK hP 1 3 rfl rfl (by unfold vp_in; decide) dX12_notesFaces_45 ?_
        refine gp_ni 0 rfl ?_
        refine lv_if_eq (tgt := 78) hx hb dX12_notesFaces_46 (by decide) (fun c_4 => ?_) (fun c_4 => absurd (by decide) c_4)
        refine lv_iinc (v := 1) (lv' := [(2, .int 1), (1, .int 0), (0, .ref (ma 200))]) hx hb dX12_notesFaces_78 hl (k := 0) rfl (by decide) (by decide) rfl (fun ls hl => ?_)
        refine lv_goto (tgt := 32) hx hb dX12_notesFaces_81 (by decide) ?_
        refine lv_iload_n hx hb dX12_notesFaces_32 rfl (lv_at hl 0 rfl) ?_
        refine lv_aload_n hx hb dX12_notesFaces_33 rfl (lv_at hl 2 rfl) ?_
        refine va_get (D := D) (ci := 12) (v := .int 0) (C := RX12) (T := TX12) (N := 104) hx hb hts hiX12 hown hK hP 0 rfl rfl 72 (by decide) (hts (.fieldLink RX12 464 "GhostPaneModel" "last" "I") (List.mem_of_getElem? (i := 1) rfl)) (fun _ h9 => h9) rfl dX12_notesFaces_34 ?_
        refine lv_icmp_gt (tgt := 84) hx hb dX12_notesFaces_37 (by decide) (fun c_5 => ?_) (fun c_5 => absurd (by decide) c_5)
        refine lv_iinc (v := 1) (lv' := [(1, .int 1), (2, .int 1), (0, .ref (ma 200))]) hx hb dX12_notesFaces_84 hl (k := 1) rfl (by decide) (by decide) rfl (fun ls hl => ?_)
        refine lv_goto (tgt := 24) hx hb dX12_notesFaces_87 (by decide) ?_
        refine lv_iload_n hx hb dX12_notesFaces_24 rfl (lv_at hl 0 rfl) ?_
        refine lv_bipush (v := 8) hx hb dX12_notesFaces_25 (by decide) ?_
        refine lv_icmp_ge (tgt := 90) hx hb dX12_notesFaces_27 (by decide) (fun c_6 => absurd c_6 (by decide)) (fun c_6 => ?_)
        refine lv_iconst (v := 0) hx hb dX12_notesFaces_30 (by decide) ?_
        refine lv_istore_n (lv' := [(2, .int 0), (1, .int 1), (0, .ref (ma 200))]) hx hb dX12_notesFaces_31 rfl hl (by decide) rfl (fun ls hl => ?_)
        refine lv_iload_n hx hb dX12_notesFaces_32 rfl (lv_at hl 0 rfl) ?_
        refine lv_aload_n hx hb dX12_notesFaces_33 rfl (lv_at hl 2 rfl) ?_
        refine va_get (D := D) (ci := 12) (v := .int 0) (C := RX12) (T := TX12) (N := 104) hx hb hts hiX12 hown hK hP 0 rfl rfl 72 (by decide) (hts (.fieldLink RX12 464 "GhostPaneModel" "last" "I") (List.mem_of_getElem? (i := 1) rfl)) (fun _ h9 => h9) rfl dX12_notesFaces_34 ?_
        refine lv_icmp_gt (tgt := 84) hx hb dX12_notesFaces_37 (by decide) (fun c_7 => absurd c_7 (by decide)) (fun c_7 => ?_)
        refine lv_aload_n hx hb dX12_notesFaces_40 rfl (lv_at hl 2 rfl) ?_
        refine va_get (D := D) (ci := 12) (v := .ref (ma 11)) (C := RX12) (T := TX12) (N := 104) hx hb hts hiX12 hown hK hP 0 rfl rfl 11 (by decide) (hts (.fieldLink RX12 49 "GhostPaneModel" "isSeat" "[Z") (List.mem_of_getElem? (i := 2) rfl)) (fun _ h9 => h9) rfl dX12_notesFaces_41 ?_
        refine lv_iload_n hx hb dX12_notesFaces_44 rfl (lv_at hl 1 rfl) ?_
        refine va_zald hx hb hK hP 1 3 rfl rfl (by unfold vp_in; decide) dX12_notesFaces_45 ?_
        refine gp_ni 0 rfl ?_
        refine lv_if_eq (tgt := 78) hx hb dX12_notesFaces_46 (by decide) (fun c_8 => ?_) (fun c_8 => absurd (by decide) c_8)
        refine lv_iinc (v := 1) (lv' := [(2, .int 1), (1, .int 1), (0, .ref (ma 200))]) hx hb dX12_notesFaces_78 hl (k := 0) rfl (by decide) (by decide) rfl (fun ls hl => ?_)
        refine lv_goto (tgt := 32) hx hb dX12_notesFaces_81 (by decide) ?_
        refine lv_iload_n hx hb dX12_notesFaces_32 rfl (lv_at hl 0 rfl) ?_
        refine lv_aload_n hx hb dX12_notesFaces_33 rfl (lv_at hl 2 rfl) ?_
        refine va_get (D := D) (ci := 12) (v := .int 0) (C := RX12) (T := TX12) (N := 104) hx hb hts hiX12 hown hK hP 0 rfl rfl 72 (by decide) (hts (.fieldLink RX12 464 "GhostPaneModel" "last" "I") (List.mem_of_getElem? (i := 1) rfl)) (fun _ h9 => h9) rfl dX12_notesFaces_34 ?_
        refine lv_icmp_gt (tgt := 84) hx hb dX12_notesFaces_37 (by decide) (fun c_9 => ?_) (fun c_9 => absurd (by decide) c_9)
        refine lv_iinc (v := 2) (lv' := [(1, .int 2), (2, .int 1), (0, .ref (ma 200))]) hx hb dX12_notesFaces_84 hl (k := 1) rfl (by decide) (by decide) rfl (fun ls hl => ?_)
        refine lv_goto (tgt := 24) hx hb dX12_notesFaces_87 (by decide) ?_
        refine lv_iload_n hx hb dX12_notesFaces_24 rfl (lv_at hl 0 rfl) ?_
        refine lv_bipush (v := 8) hx hb dX12_notesFaces_25 (by decide) ?_
        refine lv_icmp_ge (tgt := 90) hx hb dX12_notesFaces_27 (by decide) (fun c_10 => absurd c_10 (by decide)) (fun c_10 => ?_)
        refine lv_iconst (v := 0) hx hb dX12_notesFaces_30 (by decide) ?_
        refine lv_istore_n (lv' := [(2, .int 0), (1, .int 2), (0, .ref (ma 200))]) hx hb dX12_notesFaces_31 rfl hl (by decide) rfl (fun ls hl => ?_)
        refine lv_iload_n hx hb dX12_notesFaces_32 rfl (lv_at hl 0 rfl) ?_
        refine lv_aload_n hx hb dX12_notesFaces_33 rfl (lv_at hl 2 rfl) ?_
        refine va_get (D := D) (ci := 12) (v := .int 0) (C := RX12) (T := TX12) (N := 104) hx hb hts hiX12 hown hK hP 0 rfl rfl 72 (by decide) (hts (.fieldLink RX12 464 "GhostPaneModel" "last" "I") (List.mem_of_getElem? (i := 1) rfl)) (fun _ h9 => h9) rfl dX12_notesFaces_34 ?_
        refine lv_icmp_gt (tgt := 84) hx hb dX12_notesFaces_37 (by decide) (fun c_11 => absurd c_11 (by decide)) (fun c_11 => ?_)
        refine lv_aload_n hx hb dX12_notesFaces_40 rfl (lv_at hl 2 rfl) ?_
        refine va_get (D := D) (ci := 12) (v := .ref (ma 11)) (C := RX12) (T := TX12) (N := 104) hx hb hts hiX12 hown hK hP 0 rfl rfl 11 (by decide) (hts (.fieldLink RX12 49 "GhostPaneModel" "isSeat" "[Z") (List.mem_of_getElem? (i := 2) rfl)) (fun _ h9 => h9) rfl dX12_notesFaces_41 ?_
        refine lv_iload_n hx hb dX12_notesFaces_44 rfl (lv_at hl 1 rfl) ?_
        refine va_zald hx hb hK hP 1 3 rfl rfl (by unfold vp_in; decide) dX12_notesFaces_45 ?_
        refine gp_ni 0 rfl ?_
        refine lv_if_eq (tgt := 78) hx hb dX12_notesFaces_46 (by decide) (fun c_12 => ?_) (fun c_12 => absurd (by decide) c_12)
        refine lv_iinc (v := 1) (lv' := [(2, .int 1), (1, .int 2), (0, .ref (ma 200))]) hx hb dX12_notesFaces_78 hl (k := 0) rfl (by decide) (by decide) rfl (fun ls hl => ?_)
        refine lv_goto (tgt := 32) hx hb dX12_notesFaces_81 (by decide) ?_
        refine lv_iload_n hx hb dX12_notesFaces_32 rfl (lv_at hl 0 rfl) ?_
        refine lv_aload_n hx hb dX12_notesFaces_33 rfl (lv_at hl 2 rfl) ?_
        refine va_get (D := D) (ci := 12) (v := .int 0) (C := RX12) (T := TX12) (N := 104) hx hb hts hiX12 hown hK hP 0 rfl rfl 72 (by decide) (hts (.fieldLink RX12 464 "GhostPaneModel" "last" "I") (List.mem_of_getElem? (i := 1) rfl)) (fun _ h9 => h9) rfl dX12_notesFaces_34 ?_
        refine lv_icmp_gt (tgt := 84) hx hb dX12_notesFaces_37 (by decide) (fun c_13 => ?_) (fun c_13 => absurd (by decide) c_13)
        refine lv_iinc (v := 3) (lv' := [(1, .int 3), (2, .int 1), (0, .ref (ma 200))]) hx hb dX12_notesFaces_84 hl (k := 1) rfl (by decide) (by decide) rfl (fun ls hl => ?_)
        refine lv_goto (tgt := 24) hx hb dX12_notesFaces_87 (by decide) ?_
        refine lv_iload_n hx hb dX12_notesFaces_24 rfl (lv_at hl 0 rfl) ?_
        refine lv_bipush (v := 8) hx hb dX12_notesFaces_25 (by decide) ?_
        refine lv_icmp_ge (tgt := 90) hx hb dX12_notesFaces_27 (by decide) (fun c_14 => absurd c_14 (by decide)) (fun c_14 => ?_)
        refine lv_iconst (v := 0) hx hb dX12_notesFaces_30 (by decide) ?_
        refine lv_istore_n (lv' := [(2, .int 0), (1, .int 3), (0, .ref (ma 200))]) hx hb dX12_notesFaces_31 rfl hl (by decide) rfl (fun ls hl => ?_)
        refine lv_iload_n hx hb dX12_notesFaces_32 rfl (lv_at hl 0 rfl) ?_
        refine lv_aload_n hx hb dX12_notesFaces_33 rfl (lv_at hl 2 rfl) ?_
        refine va_get (D := D) (ci := 12) (v := .int 0) (C := RX12) (T := TX12) (N := 104) hx hb hts hiX12 hown hK hP 0 rfl rfl 72 (by decide) (hts (.fieldLink RX12 464 "GhostPaneModel" "last" "I") (List.mem_of_getElem? (i := 1) rfl)) (fun _ h9 => h9) rfl dX12_notesFaces_34 ?_
        refine lv_icmp_gt (tgt := 84) hx hb dX12_notesFaces_37 (by decide) (fun c_15 => absurd c_15 (by decide)) (fun c_15 => ?_)
        refine lv_aload_n hx hb dX12_notesFaces_40 rfl (lv_at hl 2 rfl) ?_
        refine va_get (D := D) (ci := 12) (v := .ref (ma 11)) (C := RX12) (T := TX12) (N := 104) hx hb hts hiX12 hown hK hP 0 rfl rfl 11 (by decide) (hts (.fieldLink RX12 49 "GhostPaneModel" "isSeat" "[Z") (List.mem_of_getElem? (i := 2) rfl)) (fun _ h9 => h9) rfl dX12_notesFaces_41 ?_
        refine lv_iload_n hx hb dX12_notesFaces_44 rfl (lv_at hl 1 rfl) ?_
        refine va_zald hx hb hK hP 1 3 rfl rfl (by unfold vp_in; decide) dX12_notesFaces_45 ?_
        refine gp_ni 0 rfl ?_
        refine lv_if_eq (tgt := 78) hx hb dX12_notesFaces_46 (by decide) (fun c_16 => ?_) (fun c_16 => absurd (by decide) c_16)
        refine lv_iinc (v := 1) (lv' := [(2, .int 1), (1, .int 3), (0, .ref (ma 200))]) hx hb dX12_notesFaces_78 hl (k := 0) rfl (by decide) (by decide) rfl (fun ls hl => ?_)
        refine lv_goto (tgt := 32) hx hb dX12_notesFaces_81 (by decide) ?_
        refine lv_iload_n hx hb dX12_notesFaces_32 rfl (lv_at hl 0 rfl) ?_
        refine lv_aload_n hx hb dX12_notesFaces_33 rfl (lv_at hl 2 rfl) ?_
        refine va_get (D := D) (ci := 12) (v := .int 0) (C := RX12) (T := TX12) (N := 104) hx hb hts hiX12 hown hK hP 0 rfl rfl 72 (by decide) (hts (.fieldLink RX12 464 "GhostPaneModel" "last" "I") (List.mem_of_getElem? (i := 1) rfl)) (fun _ h9 => h9) rfl dX12_notesFaces_34 ?_
        refine lv_icmp_gt (tgt := 84) hx hb dX12_notesFaces_37 (by decide) (fun c_17 => ?_) (fun c_17 => absurd (by decide) c_17)
        refine lv_iinc (v := 4) (lv' := [(1, .int 4), (2, .int 1), (0, .ref (ma 200))]) hx hb dX12_notesFaces_84 hl (k := 1) rfl (by decide) (by decide) rfl (fun ls hl => ?_)
        refine lv_goto (tgt := 24) hx hb dX12_notesFaces_87 (by decide) ?_
        refine lv_iload_n hx hb dX12_notesFaces_24 rfl (lv_at hl 0 rfl) ?_
        refine lv_bipush (v := 8) hx hb dX12_notesFaces_25 (by decide) ?_
        refine lv_icmp_ge (tgt := 90) hx hb dX12_notesFaces_27 (by decide) (fun c_18 => absurd c_18 (by decide)) (fun c_18 => ?_)
        refine lv_iconst (v := 0) hx hb dX12_notesFaces_30 (by decide) ?_
        refine lv_istore_n (lv' := [(2, .int 0), (1, .int 4), (0, .ref (ma 200))]) hx hb dX12_notesFaces_31 rfl hl (by decide) rfl (fun ls hl => ?_)
        refine lv_iload_n hx hb dX12_notesFaces_32 rfl (lv_at hl 0 rfl) ?_
        refine lv_aload_n hx hb dX12_notesFaces_33 rfl (lv_at hl 2 rfl) ?_
        refine va_get (D := D) (ci := 12) (v := .int 0) (C := RX12) (T := TX12) (N := 104) hx hb hts hiX12 hown hK hP 0 rfl rfl 72 (by decide) (hts (.fieldLink RX12 464 "GhostPaneModel" "last" "I") (List.mem_of_getElem? (i := 1) rfl)) (fun _ h9 => h9) rfl dX12_notesFaces_34 ?_
        refine lv_icmp_gt (tgt := 84) hx hb dX12_notesFaces_37 (by decide) (fun c_19 => absurd c_19 (by decide)) (fun c_19 => ?_)
        refine lv_aload_n hx hb dX12_notesFaces_40 rfl (lv_at hl 2 rfl) ?_
        refine va_get (D := D) (ci := 12) (v := .ref (ma 11)) (C := RX12) (T := TX12) (N := 104) hx hb hts hiX12 hown hK hP 0 rfl rfl 11 (by decide) (hts (.fieldLink RX12 49 "GhostPaneModel" "isSeat" "[Z") (List.mem_of_getElem? (i := 2) rfl)) (fun _ h9 => h9) rfl dX12_notesFaces_41 ?_
        refine lv_iload_n hx hb dX12_notesFaces_44 rfl (lv_at hl 1 rfl) ?_
        refine va_zald hx hb hK hP 1 3 rfl rfl (by unfold vp_in; decide) dX12_notesFaces_45 ?_
        refine gp_ni 0 rfl ?_
        refine lv_if_eq (tgt := 78) hx hb dX12_notesFaces_46 (by decide) (fun c_20 => ?_) (fun c_20 => absurd (by decide) c_20)
        refine lv_iinc (v := 1) (lv' := [(2, .int 1), (1, .int 4), (0, .ref (ma 200))]) hx hb dX12_notesFaces_78 hl (k := 0) rfl (by decide) (by decide) rfl (fun ls hl => ?_)
        refine lv_goto (tgt := 32) hx hb dX12_notesFaces_81 (by decide) ?_
        refine lv_iload_n hx hb dX12_notesFaces_32 rfl (lv_at hl 0 rfl) ?_
        refine lv_aload_n hx hb dX12_notesFaces_33 rfl (lv_at hl 2 rfl) ?_
        refine va_get (D := D) (ci := 12) (v := .int 0) (C := RX12) (T := TX12) (N := 104) hx hb hts hiX12 hown hK hP 0 rfl rfl 72 (by decide) (hts (.fieldLink RX12 464 "GhostPaneModel" "last" "I") (List.mem_of_getElem? (i := 1) rfl)) (fun _ h9 => h9) rfl dX12_notesFaces_34 ?_
        refine lv_icmp_gt (tgt := 84) hx hb dX12_notesFaces_37 (by decide) (fun c_21 => ?_) (fun c_21 => absurd (by decide) c_21)
        refine lv_iinc (v := 5) (lv' := [(1, .int 5), (2, .int 1), (0, .ref (ma 200))]) hx hb dX12_notesFaces_84 hl (k := 1) rfl (by decide) (by decide) rfl (fun ls hl => ?_)
        refine lv_goto (tgt := 24) hx hb dX12_notesFaces_87 (by decide) ?_
        refine lv_iload_n hx hb dX12_notesFaces_24 rfl (lv_at hl 0 rfl) ?_
        refine lv_bipush (v := 8) hx hb dX12_notesFaces_25 (by decide) ?_
        refine lv_icmp_ge (tgt := 90) hx hb dX12_notesFaces_27 (by decide) (fun c_22 => absurd c_22 (by decide)) (fun c_22 => ?_)
        refine lv_iconst (v := 0) hx hb dX12_notesFaces_30 (by decide) ?_
        refine lv_istore_n (lv' := [(2, .int 0), (1, .int 5), (0, .ref (ma 200))]) hx hb dX12_notesFaces_31 rfl hl (by decide) rfl (fun ls hl => ?_)
        refine lv_iload_n hx hb dX12_notesFaces_32 rfl (lv_at hl 0 rfl) ?_
        refine lv_aload_n hx hb dX12_notesFaces_33 rfl (lv_at hl 2 rfl) ?_
        refine va_get (D := D) (ci := 12) (v := .int 0) (C := RX12) (T := TX12) (N := 104) hx hb hts hiX12 hown hK hP 0 rfl rfl 72 (by decide) (hts (.fieldLink RX12 464 "GhostPaneModel" "last" "I") (List.mem_of_getElem? (i := 1) rfl)) (fun _ h9 => h9) rfl dX12_notesFaces_34 ?_
        refine lv_icmp_gt (tgt := 84) hx hb dX12_notesFaces_37 (by decide) (fun c_23 => absurd c_23 (by decide)) (fun c_23 => ?_)
        refine lv_aload_n hx hb dX12_notesFaces_40 rfl (lv_at hl 2 rfl) ?_
        refine va_get (D := D) (ci := 12) (v := .ref (ma 11)) (C := RX12) (T := TX12) (N := 104) hx hb hts hiX12 hown hK hP 0 rfl rfl 11 (by decide) (hts (.fieldLink RX12 49 "GhostPaneModel" "isSeat" "[Z") (List.mem_of_getElem? (i := 2) rfl)) (fun _ h9 => h9) rfl dX12_notesFaces_41 ?_
        refine lv_iload_n hx hb dX12_notesFaces_44 rfl (lv_at hl 1 rfl) ?_
        refine va_zald hx hb hK hP 1 3 rfl rfl (by unfold vp_in; decide) dX12_notesFaces_45 ?_
        refine gp_ni 0 rfl ?_
        refine lv_if_eq (tgt := 78) hx hb dX12_notesFaces_46 (by decide) (fun c_24 => ?_) (fun c_24 => absurd (by decide) c_24)
        refine lv_iinc (v := 1) (lv' := [(2, .int 1), (1, .int 5), (0, .ref (ma 200))]) hx hb dX12_notesFaces_78 hl (k := 0) rfl (by decide) (by decide) rfl (fun ls hl => ?_)
        refine lv_goto (tgt := 32) hx hb dX12_notesFaces_81 (by decide) ?_
        refine lv_iload_n hx hb dX12_notesFaces_32 rfl (lv_at hl 0 rfl) ?_
        refine lv_aload_n hx hb dX12_notesFaces_33 rfl (lv_at hl 2 rfl) ?_
        refine va_get (D := D) (ci := 12) (v := .int 0) (C := RX12) (T := TX12) (N := 104) hx hb hts hiX12 hown hK hP 0 rfl rfl 72 (by decide) (hts (.fieldLink RX12 464 "GhostPaneModel" "last" "I") (List.mem_of_getElem? (i := 1) rfl)) (fun _ h9 => h9) rfl dX12_notesFaces_34 ?_
        refine lv_icmp_gt (tgt := 84) hx hb dX12_notesFaces_37 (by decide) (fun c_25 => ?_) (fun c_25 => absurd (by decide) c_25)
        refine lv_iinc (v := 6) (lv' := [(1, .int 6), (2, .int 1), (0, .ref (ma 200))]) hx hb dX12_notesFaces_84 hl (k := 1) rfl (by decide) (by decide) rfl (fun ls hl => ?_)
        refine lv_goto (tgt := 24) hx hb dX12_notesFaces_87 (by decide) ?_
        refine lv_iload_n hx hb dX12_notesFaces_24 rfl (lv_at hl 0 rfl) ?_
        refine lv_bipush (v := 8) hx hb dX12_notesFaces_25 (by decide) ?_
        refine lv_icmp_ge (tgt := 90) hx hb dX12_notesFaces_27 (by decide) (fun c_26 => absurd c_26 (by decide)) (fun c_26 => ?_)
        refine lv_iconst (v := 0) hx hb dX12_notesFaces_30 (by decide) ?_
        refine lv_istore_n (lv' := [(2, .int 0), (1, .int 6), (0, .ref (ma 200))]) hx hb dX12_notesFaces_31 rfl hl (by decide) rfl (fun ls hl => ?_)
        refine lv_iload_n hx hb dX12_notesFaces_32 rfl (lv_at hl 0 rfl) ?_
        refine lv_aload_n hx hb dX12_notesFaces_33 rfl (lv_at hl 2 rfl) ?_
        refine va_get (D := D) (ci := 12) (v := .int 0) (C := RX12) (T := TX12) (N := 104) hx hb hts hiX12 hown hK hP 0 rfl rfl 72 (by decide) (hts (.fieldLink RX12 464 "GhostPaneModel" "last" "I") (List.mem_of_getElem? (i := 1) rfl)) (fun _ h9 => h9) rfl dX12_notesFaces_34 ?_
        refine lv_icmp_gt (tgt := 84) hx hb dX12_notesFaces_37 (by decide) (fun c_27 => absurd c_27 (by decide)) (fun c_27 => ?_)
        refine lv_aload_n hx hb dX12_notesFaces_40 rfl (lv_at hl 2 rfl) ?_
        refine va_get (D := D) (ci := 12) (v := .ref (ma 11)) (C := RX12) (T := TX12) (N := 104) hx hb hts hiX12 hown hK hP 0 rfl rfl 11 (by decide) (hts (.fieldLink RX12 49 "GhostPaneModel" "isSeat" "[Z") (List.mem_of_getElem? (i := 2) rfl)) (fun _ h9 => h9) rfl dX12_notesFaces_41 ?_
        refine lv_iload_n hx hb dX12_notesFaces_44 rfl (lv_at hl 1 rfl) ?_
        refine va_zald hx hb hK hP 1 3 rfl rfl (by unfold vp_in; decide) dX12_notesFaces_45 ?_
        refine gp_ni 0 rfl ?_
        refine lv_if_eq (tgt := 78) hx hb dX12_notesFaces_46 (by decide) (fun c_28 => ?_) (fun c_28 => absurd (by decide) c_28)
        refine lv_iinc (v := 1) (lv' := [(2, .int 1), (1, .int 6), (0, .ref (ma 200))]) hx hb dX12_notesFaces_78 hl (k := 0) rfl (by decide) (by decide) rfl (fun ls hl => ?_)
        refine lv_goto (tgt := 32) hx hb dX12_notesFaces_81 (by decide) ?_
        refine lv_iload_n hx hb dX12_notesFaces_32 rfl (lv_at hl 0 rfl) ?_
        refine lv_aload_n hx hb dX12_notesFaces_33 rfl (lv_at hl 2 rfl) ?_
        refine va_get (D := D) (ci := 12) (v := .int 0) (C := RX12) (T := TX12) (N := 104) hx hb hts hiX12 hown hK hP 0 rfl rfl 72 (by decide) (hts (.fieldLink RX12 464 "GhostPaneModel" "last" "I") (List.mem_of_getElem? (i := 1) rfl)) (fun _ h9 => h9) rfl dX12_notesFaces_34 ?_
        refine lv_icmp_gt (tgt := 84) hx hb dX12_notesFaces_37 (by decide) (fun c_29 => ?_) (fun c_29 => absurd (by decide) c_29)
        refine lv_iinc (v := 7) (lv' := [(1, .int 7), (2, .int 1), (0, .ref (ma 200))]) hx hb dX12_notesFaces_84 hl (k := 1) rfl (by decide) (by decide) rfl (fun ls hl => ?_)
        refine lv_goto (tgt := 24) hx hb dX12_notesFaces_87 (by decide) ?_
        refine lv_iload_n hx hb dX12_notesFaces_24 rfl (lv_at hl 0 rfl) ?_
        refine lv_bipush (v := 8) hx hb dX12_notesFaces_25 (by decide) ?_
        refine lv_icmp_ge (tgt := 90) hx hb dX12_notesFaces_27 (by decide) (fun c_30 => absurd c_30 (by decide)) (fun c_30 => ?_)
        refine lv_iconst (v := 0) hx hb dX12_notesFaces_30 (by decide) ?_
        refine lv_istore_n (lv' := [(2, .int 0), (1, .int 7), (0, .ref (ma 200))]) hx hb dX12_notesFaces_31 rfl hl (by decide) rfl (fun ls hl => ?_)
        refine lv_iload_n hx hb dX12_notesFaces_32 rfl (lv_at hl 0 rfl) ?_
        refine lv_aload_n hx hb dX12_notesFaces_33 rfl (lv_at hl 2 rfl) ?_
        refine va_get (D := D) (ci := 12) (v := .int 0) (C := RX12) (T := TX12) (N := 104) hx hb hts hiX12 hown hK hP 0 rfl rfl 72 (by decide) (hts (.fieldLink RX12 464 "GhostPaneModel" "last" "I") (List.mem_of_getElem? (i := 1) rfl)) (fun _ h9 => h9) rfl dX12_notesFaces_34 ?_
        refine lv_icmp_gt (tgt := 84) hx hb dX12_notesFaces_37 (by decide) (fun c_31 => absurd c_31 (by decide)) (fun c_31 => ?_)
        refine lv_aload_n hx hb dX12_notesFaces_40 rfl (lv_at hl 2 rfl) ?_
        refine va_get (D := D) (ci := 12) (v := .ref (ma 11)) (C := RX12) (T := TX12) (N := 104) hx hb hts hiX12 hown hK hP 0 rfl rfl 11 (by decide) (hts (.fieldLink RX12 49 "GhostPaneModel" "isSeat" "[Z") (List.mem_of_getElem? (i := 2) rfl)) (fun _ h9 => h9) rfl dX12_notesFaces_41 ?_
        refine lv_iload_n hx hb dX12_notesFaces_44 rfl (lv_at hl 1 rfl) ?_
        refine va_zald hx hb hK hP 1 3 rfl rfl (by unfold vp_in; decide) dX12_notesFaces_45 ?_
        refine gp_ni 0 rfl ?_
        refine lv_if_eq (tgt := 78) hx hb dX12_notesFaces_46 (by decide) (fun c_32 => ?_) (fun c_32 => absurd (by decide) c_32)
        refine lv_iinc (v := 1) (lv' := [(2, .int 1), (1, .int 7), (0, .ref (ma 200))]) hx hb dX12_notesFaces_78 hl (k := 0) rfl (by decide) (by decide) rfl (fun ls hl => ?_)
        refine lv_goto (tgt := 32) hx hb dX12_notesFaces_81 (by decide) ?_
        refine lv_iload_n hx hb dX12_notesFaces_32 rfl (lv_at hl 0 rfl) ?_
        refine lv_aload_n hx hb dX12_notesFaces_33 rfl (lv_at hl 2 rfl) ?_
        refine va_get (D := D) (ci := 12) (v := .int 0) (C := RX12) (T := TX12) (N := 104) hx hb hts hiX12 hown hK hP 0 rfl rfl 72 (by decide) (hts (.fieldLink RX12 464 "GhostPaneModel" "last" "I") (List.mem_of_getElem? (i := 1) rfl)) (fun _ h9 => h9) rfl dX12_notesFaces_34 ?_
        refine lv_icmp_gt (tgt := 84) hx hb dX12_notesFaces_37 (by decide) (fun c_33 => ?_) (fun c_33 => absurd (by decide) c_33)
        refine lv_iinc (v := 8) (lv' := [(1, .int 8), (2, .int 1), (0, .ref (ma 200))]) hx hb dX12_notesFaces_84 hl (k := 1) rfl (by decide) (by decide) rfl (fun ls hl => ?_)
        refine lv_goto (tgt := 24) hx hb dX12_notesFaces_87 (by decide) ?_
        refine lv_iload_n hx hb dX12_notesFaces_24 rfl (lv_at hl 0 rfl) ?_
        refine lv_bipush (v := 8) hx hb dX12_notesFaces_25 (by decide) ?_
        refine lv_icmp_ge (tgt := 90) hx hb dX12_notesFaces_27 (by decide) (fun c_34 => ?_) (fun c_34 => absurd (by decide) c_34)
        exact W.vret hx hb hr (fun t ht hW => ⟨⟨(), rfl, trivial, gp_end ht (hP.sub (ws' := [((ma 200), mo_0 ma), ((ma 11), .inl (cy 3, 8, .inl (fun _ => 0))), ((ma 75), .inl (cy 1, 241, .inl (upd (fun _ => 0) 0 1))), ((ma 94), .inl (cy 3, 1001, .inl (fun _ => 0)))]) [0, 1, 2, 3] rfl) (hD.sub (ws' := [((ma 200), mo_0 ma), ((ma 11), .inl (cy 3, 8, .inl (fun _ => 0))), ((ma 75), .inl (cy 1, 241, .inl (upd (fun _ => 0) 0 1))), ((ma 94), .inl (cy 3, 1001, .inl (fun _ => 0)))]) [0, 1, 2, 3] (by decide) rfl)⟩, hS.F ht⟩) hS.2.2 dX12_notesFaces_90
      · have hlt : i ≤ 1000 := gp_nl2 (n := 1000) c_1 (by omega) (by decide)
        refine lv_aload_n hx hb dX12_notesFaces_9 rfl (lv_at hl 1 rfl) ?_
        refine va_get (D := D) (ci := 12) (v := .ref (ma 94)) (C := RX12) (T := TX12) (N := 104) hx hb hts hiX12 hown hK hP 0 rfl rfl 94 (by decide) (hts (.fieldLink RX12 405 "GhostPaneModel" "isSeen" "[Z") (List.mem_of_getElem? (i := 3) rfl)) (fun _ h9 => h9) rfl dX12_notesFaces_10 ?_
        refine lv_iload_n hx hb dX12_notesFaces_13 rfl (lv_at hl 0 rfl) ?_
        refine lv_iconst (v := 0) hx hb dX12_notesFaces_14 (by decide) ?_
        refine va_zast hx hb hK hP hD hS 3 3 rfl rfl (vp_in_nI (by omega) (by decide)) dX12_notesFaces_15 (fun H locs hP hD hS => ?_)
        have hP : va_P D vwCl [((ma 200), mo_0 ma), ((ma 11), .inl (cy 3, 8, .inl (fun _ => 0))), ((ma 75), .inl (cy 1, 241, .inl (upd (fun _ => 0) 0 1))), ((ma 94), .inl (cy 3, 1001, .inl (upd (fun _ => 0) ((nI i).toNatClampNeg) 0)))] H := hP
        have hD : va_D A [((ma 200), mo_0 ma), ((ma 11), .inl (cy 3, 8, .inl (fun _ => 0))), ((ma 75), .inl (cy 1, 241, .inl (upd (fun _ => 0) 0 1))), ((ma 94), .inl (cy 3, 1001, .inl (upd (fun _ => 0) ((nI i).toNatClampNeg) 0)))] := hD
        rw [gp_upd0] at hP hD
        refine lv_iinc (v := nI (i + 1)) (lv' := [(1, .int (nI (i + 1))), (0, .ref (ma 200))]) hx hb dX12_notesFaces_16 hl (k := 0) rfl (nI_1 i) (by decide) rfl (fun ls hl => ?_)
        refine lv_goto (tgt := 2) hx hb dX12_notesFaces_19 (by decide) ?_
        exact ih (i + 1) H locs ls (by omega) (by omega) (hP.sub (ws' := [((ma 200), mo_0 ma), ((ma 11), .inl (cy 3, 8, .inl (fun _ => 0))), ((ma 75), .inl (cy 1, 241, .inl (upd (fun _ => 0) 0 1))), ((ma 94), .inl (cy 3, 1001, .inl (fun _ => 0)))]) [0, 1, 2, 3] rfl) (hD.sub (ws' := [((ma 200), mo_0 ma), ((ma 11), .inl (cy 3, 8, .inl (fun _ => 0))), ((ma 75), .inl (cy 1, 241, .inl (upd (fun _ => 0) 0 1))), ((ma 94), .inl (cy 3, 1001, .inl (fun _ => 0)))]) [0, 1, 2, 3] (by decide) rfl) hS (lv_sub hl [0, 1] rfl)
  exact key2 (1001 - 0 + 1) 0 H [] ls (Nat.zero_le _) (Nat.lt_succ_self _) (hP.sub (ws' := [((ma 200), mo_0 ma), ((ma 11), .inl (cy 3, 8, .inl (fun _ => 0))), ((ma 75), .inl (cy 1, 241, .inl (upd (fun _ => 0) 0 1))), ((ma 94), .inl (cy 3, 1001, .inl (fun _ => 0)))]) [0, 1, 2, 3] rfl) (hD.sub (ws' := [((ma 200), mo_0 ma), ((ma 11), .inl (cy 3, 8, .inl (fun _ => 0))), ((ma 75), .inl (cy 1, 241, .inl (upd (fun _ => 0) 0 1))), ((ma 94), .inl (cy 3, 1001, .inl (fun _ => 0)))]) [0, 1, 2, 3] (by decide) rfl) hS (lv_sub hl [0, 1] rfl)

def v_kX12_mayJoin : List Cond := .code yX12_mayJoin cX12_mayJoin 4 (some .boolean) :: ([.fieldLink RX12 405 "GhostPaneModel" "isSeen" "[Z"] ++ wsX120)
set_option maxHeartbeats 4000000 in
set_option maxRecDepth 100000 in
theorem kX12_mayJoin (l : Launch) (D : va_G) (cy : Nat → ClassId) (sz : Nat) (ma : Nat → Nat) (a : Nat) (b : Nat) (ha : a ≤ 1000) (hb0 : b ≤ 100) : Met l yX12_mayJoin v_kX12_mayJoin ({ frames := 0, cells := 0, slots := 0, locals := 0 } : Room) (va_Pc [.ref (ma 200), .int (nI a), .int (nI b)] (gp_B D cy sz [((ma 200), mo_0 ma), ((ma 94), .inl (cy 3, 1001, .inl (fun _ => 0)))])) (va_Qi (fun (r : Int32) (u : Unit) => r = 1) (fun u => gp_E D (va_A [((ma 200), mo_0 ma), ((ma 94), .inl (cy 3, 1001, .inl (fun _ => 0)))] sz) [((ma 200), mo_0 ma), ((ma 94), .inl (cy 3, 1001, .inl (fun _ => 0)))]) (va_A [((ma 200), mo_0 ma), ((ma 94), .inl (cy 3, 1001, .inl (fun _ => 0)))] sz)) 0 0 (va_A [((ma 200), mo_0 ma), ((ma 94), .inl (cy 3, 1001, .inl (fun _ => 0)))] sz) := by
  refine gp_met (Qc := fun A => va_Qi (fun (r : Int32) (u : Unit) => r = 1) (fun u => gp_E D A [((ma 200), mo_0 ma), ((ma 94), .inl (cy 3, 1001, .inl (fun _ => 0)))]) A) (cc := cX12_mayJoin) (maxL := 4) (ret := (some .boolean)) (by decide) rfl (Nat.le_of_ble_eq_true rfl) ?_
  intro p e s m below meth c A ls H hx hb hml hr hlocks hts hown hin hK hN hS hP hD hA hl
  have hown : s.vm.findClass RX12 = some m.cls := hown
  have hl : lv_has ls 4 [(0, .ref (ma 200)), (1, .int (nI a)), (2, .int (nI b))] := hl
  have hiX12 : ∀ w ∈ u_ws RX12 TX12 104, w ∈ v_kX12_mayJoin := fun _ h => List.mem_cons_of_mem _ (List.mem_append_right _ h)
  refine lv_iload_n hx hb dX12_mayJoin_0 rfl (lv_at hl 1 rfl) ?_
  refine lv_iload_n hx hb dX12_mayJoin_1 rfl (lv_at hl 2 rfl) ?_
  refine lv_isub hx hb dX12_mayJoin_2 ?_
  refine lv_iconst (v := 1) hx hb dX12_mayJoin_3 (by decide) ?_
  refine lv_iadd hx hb dX12_mayJoin_4 ?_
  refine lv_istore_n (lv' := [(3, .int ((nI a - nI b) + 1)), (0, .ref (ma 200)), (1, .int (nI a)), (2, .int (nI b))]) hx hb dX12_mayJoin_5 rfl hl (by decide) rfl (fun ls hl => ?_)
  have key6 : ∀ (fu : Nat) (z : Int32) (H : Heap) (locs : List Loc) (ls : Array Slot), (hz1 : (a : Int) - b + 1 ≤ z.toInt) → ((a : Int) + b + 1 - z.toInt).toNat < fu → va_P D vwCl [((ma 200), mo_0 ma), ((ma 94), .inl (cy 3, 1001, .inl (fun _ => 0)))] H → va_D A [((ma 200), mo_0 ma), ((ma 94), .inl (cy 3, 1001, .inl (fun _ => 0)))] → va_S A s.heap H locs → lv_has ls 4 [(3, .int z), (0, .ref (ma 200)), (1, .int (nI a)), (2, .int (nI b))] → W p l e (headSpec v_kX12_mayJoin (({ frames := 0, cells := 0, slots := 0, locals := 0 } : Room))).room s m [.ref (ma 200), .int (nI a), .int (nI b)].toArray below meth c H locs 0 0 (MQ below (va_Qi (fun (r : Int32) (u : Unit) => r = 1) (fun u => gp_E D A [((ma 200), mo_0 ma), ((ma 94), .inl (cy 3, 1001, .inl (fun _ => 0)))]) A) [.ref (ma 200), .int (nI a), .int (nI b)].toArray s 0 0 A) (F0 m 6 ls []) := by
    intro fu
    induction fu with
    | zero => intro z H locs ls hz1 hfu; exact absurd hfu (Nat.not_lt_zero _)
    | succ fu ih =>
      intro z H locs ls hz1 hfu hP hD hS hl
      refine lv_iload_n hx hb dX12_mayJoin_6 rfl (lv_at hl 0 rfl) ?_
      refine lv_iload_n hx hb dX12_mayJoin_7 rfl (lv_at hl 2 rfl) ?_
      refine lv_iload_n hx hb dX12_mayJoin_8 rfl (lv_at hl 3 rfl) ?_
      refine lv_iadd hx hb dX12_mayJoin_9 ?_
      refine gp_ni (nI (a + b)) (nI_add a b) ?_
      refine lv_icmp_ge (tgt := 41) hx hb dX12_mayJoin_10 (by decide) (fun c_1 => ?_) (fun c_1 => ?_)
      · refine lv_iconst (v := 1) hx hb dX12_mayJoin_41 (by decide) ?_
        exact W.zret (v := 1) hx hb hr narrow_b1 (fun t ht hW => ⟨⟨1, (), rfl, rfl, gp_end ht (hP.sub (ws' := [((ma 200), mo_0 ma), ((ma 94), .inl (cy 3, 1001, .inl (fun _ => 0)))]) [0, 1] rfl) (hD.sub (ws' := [((ma 200), mo_0 ma), ((ma 94), .inl (cy 3, 1001, .inl (fun _ => 0)))]) [0, 1] (by decide) rfl)⟩, hS.F ht⟩) hS.2.2 dX12_mayJoin_42
      · have hz2 := gp_z2 ha hb0 c_1
        refine lv_iload_n hx hb dX12_mayJoin_13 rfl (lv_at hl 0 rfl) ?_
        refine lv_if_lt (tgt := 35) hx hb dX12_mayJoin_14 (by decide) (fun c_2 => ?_) (fun c_2 => ?_)
        · refine lv_iinc (v := (z + 1)) (lv' := [(3, .int (z + 1)), (0, .ref (ma 200)), (1, .int (nI a)), (2, .int (nI b))]) hx hb dX12_mayJoin_35 hl (k := 0) rfl rfl (by decide) rfl (fun ls hl => ?_)
          refine lv_goto (tgt := 6) hx hb dX12_mayJoin_38 (by decide) ?_
          have hz3 := gp_z1 ha hb0 hz1 hz2
          exact ih (z + 1) H locs ls (by rw [hz3]; omega) (by rw [hz3]; omega) (hP.sub (ws' := [((ma 200), mo_0 ma), ((ma 94), .inl (cy 3, 1001, .inl (fun _ => 0)))]) [0, 1] rfl) (hD.sub (ws' := [((ma 200), mo_0 ma), ((ma 94), .inl (cy 3, 1001, .inl (fun _ => 0)))]) [0, 1] (by decide) rfl) hS (lv_sub hl [0, 1, 2, 3] rfl)
        · refine lv_iload_n hx hb dX12_mayJoin_17 rfl (lv_at hl 0 rfl) ?_
          refine lv_sipush (v := 1000) hx hb dX12_mayJoin_18 (by decide) ?_
          refine lv_icmp_gt (tgt := 35) hx hb dX12_mayJoin_21 (by decide) (fun c_3 => ?_) (fun c_3 => ?_)
          · refine lv_iinc (v := (z + 1)) (lv' := [(3, .int (z + 1)), (0, .ref (ma 200)), (1, .int (nI a)), (2, .int (nI b))]) hx hb dX12_mayJoin_35 hl (k := 0) rfl rfl (by decide) rfl (fun ls hl => ?_)
            refine lv_goto (tgt := 6) hx hb dX12_mayJoin_38 (by decide) ?_
            have hz3 := gp_z1 ha hb0 hz1 hz2
            exact ih (z + 1) H locs ls (by rw [hz3]; omega) (by rw [hz3]; omega) (hP.sub (ws' := [((ma 200), mo_0 ma), ((ma 94), .inl (cy 3, 1001, .inl (fun _ => 0)))]) [0, 1] rfl) (hD.sub (ws' := [((ma 200), mo_0 ma), ((ma 94), .inl (cy 3, 1001, .inl (fun _ => 0)))]) [0, 1] (by decide) rfl) hS (lv_sub hl [0, 1, 2, 3] rfl)
          · refine lv_aload_n hx hb dX12_mayJoin_24 rfl (lv_at hl 1 rfl) ?_
            refine va_get (D := D) (ci := 12) (v := .ref (ma 94)) (C := RX12) (T := TX12) (N := 104) hx hb hts hiX12 hown hK hP 0 rfl rfl 94 (by decide) (hts (.fieldLink RX12 405 "GhostPaneModel" "isSeen" "[Z") (List.mem_of_getElem? (i := 1) rfl)) (fun _ h9 => h9) rfl dX12_mayJoin_25 ?_
            refine lv_iload_n hx hb dX12_mayJoin_28 rfl (lv_at hl 0 rfl) ?_
            refine va_zald hx hb hK hP 1 3 rfl rfl (gp_in3 (N := 1000) (by decide) c_2 c_3) dX12_mayJoin_29 ?_
            refine gp_ni 0 rfl ?_
            refine lv_if_eq (tgt := 35) hx hb dX12_mayJoin_30 (by decide) (fun c_4 => ?_) (fun c_4 => absurd (by decide) c_4)
            refine lv_iinc (v := (z + 1)) (lv' := [(3, .int (z + 1)), (0, .ref (ma 200)), (1, .int (nI a)), (2, .int (nI b))]) hx hb dX12_mayJoin_35 hl (k := 0) rfl rfl (by decide) rfl (fun ls hl => ?_)
            refine lv_goto (tgt := 6) hx hb dX12_mayJoin_38 (by decide) ?_
            have hz3 := gp_z1 ha hb0 hz1 hz2
            exact ih (z + 1) H locs ls (by rw [hz3]; omega) (by rw [hz3]; omega) (hP.sub (ws' := [((ma 200), mo_0 ma), ((ma 94), .inl (cy 3, 1001, .inl (fun _ => 0)))]) [0, 1] rfl) (hD.sub (ws' := [((ma 200), mo_0 ma), ((ma 94), .inl (cy 3, 1001, .inl (fun _ => 0)))]) [0, 1] (by decide) rfl) hS (lv_sub hl [0, 1, 2, 3] rfl)
  exact key6 (((a : Int) + b + 1 - ((nI a - nI b) + 1).toInt).toNat + 1) ((nI a - nI b) + 1) H [] ls (by rw [gp_z0 ha hb0]; omega) (Nat.lt_succ_self _) (hP.sub (ws' := [((ma 200), mo_0 ma), ((ma 94), .inl (cy 3, 1001, .inl (fun _ => 0)))]) [0, 1] rfl) (hD.sub (ws' := [((ma 200), mo_0 ma), ((ma 94), .inl (cy 3, 1001, .inl (fun _ => 0)))]) [0, 1] (by decide) rfl) hS (lv_sub hl [0, 1, 2, 3] rfl)

theorem lf_kX12_joins_1 (ma : Nat → Nat) (mm : Int32) (j : Int32) (p_2 : sp_in mm 1 1000) (p_5 : ¬ sp_in j 0 100) : sp_joins mm j (-1) := by
  right; refine ⟨?_, rfl⟩; intro h; first | exact absurd h.1 (by assumption) | exact absurd h.2 (by assumption)
theorem lf_kX12_joins_2 (ma : Nat → Nat) (mm : Int32) (j : Int32) (p_2 : ¬ sp_in mm 1 1000) : sp_joins mm j (-1) := by
  right; refine ⟨?_, rfl⟩; intro h; first | exact absurd h.1 (by assumption) | exact absurd h.2 (by assumption)
def v_kX12_joins : List Cond := .code yX12_joins cX12_joins 6 (some .int) :: ([.code yX12_isIn cX12_isIn 3 (some .boolean), .methodLink RX12 3 yX12_isIn, .static yX12_isIn, .initialized RX12, .code yX12_notesFaces cX12_notesFaces 3 none, .fieldLink RX12 464 "GhostPaneModel" "last" "I", .fieldLink RX12 49 "GhostPaneModel" "isSeat" "[Z", .fieldLink RX12 405 "GhostPaneModel" "isSeen" "[Z", .methodLink RX12 550 yX12_notesFaces, .instanceMethod yX12_notesFaces, .selects RX12 yX12_notesFaces yX12_notesFaces, .fieldLink RX12 556 "GhostPaneModel" "joinMany" "I", .fieldLink RX12 402 "GhostPaneModel" "joinAt" "[I", .fieldLink RX12 408 "GhostPaneModel" "newJoin" "[I", .code yX12_mayJoin cX12_mayJoin 4 (some .boolean), .methodLink RX12 553 yX12_mayJoin, .instanceMethod yX12_mayJoin, .selects RX12 yX12_mayJoin yX12_mayJoin] ++ wsX120)
set_option maxRecDepth 20000 in
theorem gg_kX12_joins_kX12_isIn : GoodIn v_kX12_joins v_kX12_isIn := goodIn_r (.code yX12_isIn cX12_isIn 3 (some .boolean) :: []) [1] (by first | rfl | decide +kernel) (by decide +kernel)
set_option maxRecDepth 20000 in
theorem g_kX12_joins_kX12_isIn_0 : GoodIn v_kX12_joins (va_wsS RX12 3 yX12_isIn v_kX12_isIn) := goodIn_app (goodIn_r [.methodLink RX12 3 yX12_isIn, .static yX12_isIn, .initialized RX12] [2, 3, 4] rfl (by decide +kernel)) gg_kX12_joins_kX12_isIn
set_option maxRecDepth 20000 in
theorem gg_kX12_joins_kX12_notesFaces : GoodIn v_kX12_joins v_kX12_notesFaces := goodIn_ca (goodIn_r (.code yX12_notesFaces cX12_notesFaces 3 none :: [.fieldLink RX12 464 "GhostPaneModel" "last" "I", .fieldLink RX12 49 "GhostPaneModel" "isSeat" "[Z", .fieldLink RX12 405 "GhostPaneModel" "isSeen" "[Z"]) [5, 6, 7, 8] (by first | rfl | decide +kernel) (by decide +kernel)) (goodIn_sub (fun _ h => List.mem_cons_of_mem _ (List.mem_append_right _ h)) gwX12)
set_option maxRecDepth 20000 in
theorem g_kX12_joins_kX12_notesFaces_1 : GoodIn v_kX12_joins (wsV RX12 550 RX12 yX12_notesFaces v_kX12_notesFaces) := goodIn_app (goodIn_r [.methodLink RX12 550 yX12_notesFaces, .instanceMethod yX12_notesFaces, .selects RX12 yX12_notesFaces yX12_notesFaces, .initialized RX12] [9, 10, 11, 4] rfl (by decide +kernel)) gg_kX12_joins_kX12_notesFaces
set_option maxRecDepth 20000 in
theorem gg_kX12_joins_kX12_mayJoin : GoodIn v_kX12_joins v_kX12_mayJoin := goodIn_ca (goodIn_r (.code yX12_mayJoin cX12_mayJoin 4 (some .boolean) :: [.fieldLink RX12 405 "GhostPaneModel" "isSeen" "[Z"]) [15, 8] (by first | rfl | decide +kernel) (by decide +kernel)) (goodIn_sub (fun _ h => List.mem_cons_of_mem _ (List.mem_append_right _ h)) gwX12)
set_option maxRecDepth 20000 in
theorem g_kX12_joins_kX12_mayJoin_2 : GoodIn v_kX12_joins (wsV RX12 553 RX12 yX12_mayJoin v_kX12_mayJoin) := goodIn_app (goodIn_r [.methodLink RX12 553 yX12_mayJoin, .instanceMethod yX12_mayJoin, .selects RX12 yX12_mayJoin yX12_mayJoin, .initialized RX12] [16, 17, 18, 4] rfl (by decide +kernel)) gg_kX12_joins_kX12_mayJoin
set_option maxHeartbeats 4000000 in
set_option maxRecDepth 100000 in
theorem kX12_joins (l : Launch) (D : va_G) (cy : Nat → ClassId) (sz : Nat) (ma : Nat → Nat) (mm : Int32) (j : Int32) : Met l yX12_joins v_kX12_joins ({ frames := 1, cells := 0, slots := 0, locals := 23 } : Room) (va_Pc [.ref (ma 200), .int mm, .int j] (gp_B D cy sz [((ma 200), mo_0 ma), ((ma 11), .inl (cy 3, 8, .inl (fun _ => 0))), ((ma 75), .inl (cy 1, 241, .inl (upd (fun _ => 0) 0 1))), ((ma 94), .inl (cy 3, 1001, .inl (fun _ => 0))), ((ma 95), .inl (cy 1, 1000, .inl (fun _ => 0))), ((ma 93), .inl (cy 1, 1000, .inl (fun _ => 0)))])) (va_Qi (fun (r : Int32) (u : Unit) => sp_joins mm j r) (fun u => gp_E D (va_A [((ma 200), mo_0 ma), ((ma 11), .inl (cy 3, 8, .inl (fun _ => 0))), ((ma 75), .inl (cy 1, 241, .inl (upd (fun _ => 0) 0 1))), ((ma 94), .inl (cy 3, 1001, .inl (fun _ => 0))), ((ma 95), .inl (cy 1, 1000, .inl (fun _ => 0))), ((ma 93), .inl (cy 1, 1000, .inl (fun _ => 0)))] sz) []) (va_A [((ma 200), mo_0 ma), ((ma 11), .inl (cy 3, 8, .inl (fun _ => 0))), ((ma 75), .inl (cy 1, 241, .inl (upd (fun _ => 0) 0 1))), ((ma 94), .inl (cy 3, 1001, .inl (fun _ => 0))), ((ma 95), .inl (cy 1, 1000, .inl (fun _ => 0))), ((ma 93), .inl (cy 1, 1000, .inl (fun _ => 0)))] sz)) 0 0 (va_A [((ma 200), mo_0 ma), ((ma 11), .inl (cy 3, 8, .inl (fun _ => 0))), ((ma 75), .inl (cy 1, 241, .inl (upd (fun _ => 0) 0 1))), ((ma 94), .inl (cy 3, 1001, .inl (fun _ => 0))), ((ma 95), .inl (cy 1, 1000, .inl (fun _ => 0))), ((ma 93), .inl (cy 1, 1000, .inl (fun _ => 0)))] sz) := by
  refine gp_met (Qc := fun A => va_Qi (fun (r : Int32) (u : Unit) => sp_joins mm j r) (fun u => gp_E D A []) A) (cc := cX12_joins) (maxL := 6) (ret := (some .int)) (by decide) rfl (Nat.le_of_ble_eq_true rfl) ?_
  intro p e s m below meth c A ls H hx hb hml hr hlocks hts hown hin hK hN hS hP hD hA hl
  have hown : s.vm.findClass RX12 = some m.cls := hown
  have hl : lv_has ls 6 [(0, .ref (ma 200)), (1, .int mm), (2, .int j)] := hl
  have hiX12 : ∀ w ∈ u_ws RX12 TX12 104, w ∈ v_kX12_joins := fun _ h => List.mem_cons_of_mem _ (List.mem_append_right _ h)
  refine lv_iload_n hx hb dX12_joins_0 rfl (lv_at hl 1 rfl) ?_
  refine lv_iconst (v := 1) hx hb dX12_joins_1 (by decide) ?_
  refine lv_sipush (v := 1000) hx hb dX12_joins_2 (by decide) ?_
  have hPc := hP.sub (ws' := []) [] rfl
  have hDc := hD.sub (ws' := []) [] (by decide) rfl
  have hFc := va_free (wc := []) hD hS hA [] rfl
  refine va_calli (va_runS (As := [.int mm, .int 1, .int 1000]) (rest := []) ⟨hx, hb, hml, hown, hts⟩ (kX12_isIn l D cy H.size mm 1 1000) (va_cwS 3 hts g_kX12_joins_kX12_isIn_0 rfl rfl rfl (by decide +kernel) ⟨Nat.le_of_ble_eq_true rfl, Nat.le_of_ble_eq_true rfl⟩) (gp_preS hPc hDc hK hN) rfl rfl hl.1 rfl (lv_room (Nat.le_of_ble_eq_true rfl)) dX12_joins_5 ⟨Nat.le_of_ble_eq_true rfl, Nat.le_of_ble_eq_true rfl⟩) hS (fun q _ h => hFc q h) hFc (fun r_1 u t H locs ht hvm hw hB hz1 hk1 hS => ?_)
  obtain ⟨hP, hD⟩ := gp_join (wr := [((ma 200), mo_0 ma), ((ma 11), .inl (cy 3, 8, .inl (fun _ => 0))), ((ma 75), .inl (cy 1, 241, .inl (upd (fun _ => 0) 0 1))), ((ma 94), .inl (cy 3, 1001, .inl (fun _ => 0))), ((ma 95), .inl (cy 1, 1000, .inl (fun _ => 0))), ((ma 93), .inl (cy 1, 1000, .inl (fun _ => 0)))]) (w1 := []) hP hD [] [0, 1, 2, 3, 4, 5] rfl rfl (by decide) (by decide) hk1 hFc ht hB
  have hP : va_P D vwCl [((ma 200), mo_0 ma), ((ma 11), .inl (cy 3, 8, .inl (fun _ => 0))), ((ma 75), .inl (cy 1, 241, .inl (upd (fun _ => 0) 0 1))), ((ma 94), .inl (cy 3, 1001, .inl (fun _ => 0))), ((ma 95), .inl (cy 1, 1000, .inl (fun _ => 0))), ((ma 93), .inl (cy 1, 1000, .inl (fun _ => 0)))] H := hP
  have hD : va_D A [((ma 200), mo_0 ma), ((ma 11), .inl (cy 3, 8, .inl (fun _ => 0))), ((ma 75), .inl (cy 1, 241, .inl (upd (fun _ => 0) 0 1))), ((ma 94), .inl (cy 3, 1001, .inl (fun _ => 0))), ((ma 95), .inl (cy 1, 1000, .inl (fun _ => 0))), ((ma 93), .inl (cy 1, 1000, .inl (fun _ => 0)))] := hD
  rcases hw with ⟨rfl, p_2⟩ | ⟨rfl, p_2⟩
  · refine lv_if_eq (tgt := 21) hx hb dX12_joins_8 (by decide) (fun c_3 => absurd c_3 (by decide)) (fun c_3 => ?_)
    refine lv_iload_n hx hb dX12_joins_11 rfl (lv_at hl 2 rfl) ?_
    refine lv_iconst (v := 0) hx hb dX12_joins_12 (by decide) ?_
    refine lv_bipush (v := 100) hx hb dX12_joins_13 (by decide) ?_
    have hPc := hP.sub (ws' := []) [] rfl
    have hDc := hD.sub (ws' := []) [] (by decide) rfl
    have hFc := va_free (wc := []) hD hS hA [] rfl
    refine va_calli (va_runS (As := [.int j, .int 0, .int 100]) (rest := []) ⟨hx, hb, hml, hown, hts⟩ (kX12_isIn l D cy H.size j 0 100) (va_cwS 3 hts g_kX12_joins_kX12_isIn_0 rfl rfl rfl (by decide +kernel) ⟨Nat.le_of_ble_eq_true rfl, Nat.le_of_ble_eq_true rfl⟩) (gp_preS hPc hDc hK hN) rfl rfl hl.1 rfl (lv_room (Nat.le_of_ble_eq_true rfl)) dX12_joins_15 ⟨Nat.le_of_ble_eq_true rfl, Nat.le_of_ble_eq_true rfl⟩) hS (fun q _ h => hFc q h) hFc (fun r_4 u t H locs ht hvm hw hB hz1 hk1 hS => ?_)
    obtain ⟨hP, hD⟩ := gp_join (wr := [((ma 200), mo_0 ma), ((ma 11), .inl (cy 3, 8, .inl (fun _ => 0))), ((ma 75), .inl (cy 1, 241, .inl (upd (fun _ => 0) 0 1))), ((ma 94), .inl (cy 3, 1001, .inl (fun _ => 0))), ((ma 95), .inl (cy 1, 1000, .inl (fun _ => 0))), ((ma 93), .inl (cy 1, 1000, .inl (fun _ => 0)))]) (w1 := []) hP hD [] [0, 1, 2, 3, 4, 5] rfl rfl (by decide) (by decide) hk1 hFc ht hB
    have hP : va_P D vwCl [((ma 200), mo_0 ma), ((ma 11), .inl (cy 3, 8, .inl (fun _ => 0))), ((ma 75), .inl (cy 1, 241, .inl (upd (fun _ => 0) 0 1))), ((ma 94), .inl (cy 3, 1001, .inl (fun _ => 0))), ((ma 95), .inl (cy 1, 1000, .inl (fun _ => 0))), ((ma 93), .inl (cy 1, 1000, .inl (fun _ => 0)))] H := hP
    have hD : va_D A [((ma 200), mo_0 ma), ((ma 11), .inl (cy 3, 8, .inl (fun _ => 0))), ((ma 75), .inl (cy 1, 241, .inl (upd (fun _ => 0) 0 1))), ((ma 94), .inl (cy 3, 1001, .inl (fun _ => 0))), ((ma 95), .inl (cy 1, 1000, .inl (fun _ => 0))), ((ma 93), .inl (cy 1, 1000, .inl (fun _ => 0)))] := hD
    rcases hw with ⟨rfl, p_5⟩ | ⟨rfl, p_5⟩
    · refine lv_if_ne (tgt := 23) hx hb dX12_joins_18 (by decide) (fun c_6 => ?_) (fun c_6 => absurd c_6 (by decide))
      obtain ⟨n, hn1, hn2, hmn⟩ := gp_nat1000 p_2
      obtain ⟨b, hb0, hjb⟩ := gp_nat100 p_5
      refine lv_aload_n hx hb dX12_joins_23 rfl (lv_at hl 0 rfl) ?_
      have hPc := hP.sub (ws' := [((ma 200), mo_0 ma), ((ma 11), .inl (cy 3, 8, .inl (fun _ => 0))), ((ma 75), .inl (cy 1, 241, .inl (upd (fun _ => 0) 0 1))), ((ma 94), .inl (cy 3, 1001, .inl (fun _ => 0)))]) [0, 1, 2, 3] rfl
      have hDc := hD.sub (ws' := [((ma 200), mo_0 ma), ((ma 11), .inl (cy 3, 8, .inl (fun _ => 0))), ((ma 75), .inl (cy 1, 241, .inl (upd (fun _ => 0) 0 1))), ((ma 94), .inl (cy 3, 1001, .inl (fun _ => 0)))]) [0, 1, 2, 3] (by decide) rfl
      have hFc := va_free (wc := [((ma 200), mo_0 ma), ((ma 11), .inl (cy 3, 8, .inl (fun _ => 0))), ((ma 75), .inl (cy 1, 241, .inl (upd (fun _ => 0) 0 1))), ((ma 94), .inl (cy 3, 1001, .inl (fun _ => 0)))]) hD hS hA [0, 1, 2, 3] rfl
      refine va_callv (va_runV (As := []) (rest := []) ⟨hx, hb, hml, hown, hts⟩ (kX12_notesFaces l D cy H.size ma) (cwV 0 hts g_kX12_joins_kX12_notesFaces_1 rfl rfl rfl (by decide +kernel) ⟨Nat.le_of_ble_eq_true rfl, Nat.le_of_ble_eq_true rfl⟩) (gp_preV (RX12, TX12, 104) 12 0 hPc hDc hK hN rfl rfl) rfl rfl hl.1 rfl (lv_room (Nat.le_of_ble_eq_true rfl)) dX12_joins_24 ⟨Nat.le_of_ble_eq_true rfl, Nat.le_of_ble_eq_true rfl⟩) hS (fun q _ h => hFc q h) hFc (fun u t H locs ht hvm hw hB hz1 hk1 hS => ?_)
      obtain ⟨hP, hD⟩ := gp_join (wr := [((ma 95), .inl (cy 1, 1000, .inl (fun _ => 0))), ((ma 93), .inl (cy 1, 1000, .inl (fun _ => 0)))]) (w1 := [((ma 200), mo_0 ma), ((ma 11), .inl (cy 3, 8, .inl (fun _ => 0))), ((ma 75), .inl (cy 1, 241, .inl (upd (fun _ => 0) 0 1))), ((ma 94), .inl (cy 3, 1001, .inl (fun _ => 0)))]) hP hD [0, 1, 2, 3] [4, 5] rfl rfl (by decide) (by decide) hk1 hFc ht hB
      have hP : va_P D vwCl [((ma 95), .inl (cy 1, 1000, .inl (fun _ => 0))), ((ma 93), .inl (cy 1, 1000, .inl (fun _ => 0))), ((ma 200), mo_0 ma), ((ma 11), .inl (cy 3, 8, .inl (fun _ => 0))), ((ma 75), .inl (cy 1, 241, .inl (upd (fun _ => 0) 0 1))), ((ma 94), .inl (cy 3, 1001, .inl (fun _ => 0)))] H := hP
      have hD : va_D A [((ma 95), .inl (cy 1, 1000, .inl (fun _ => 0))), ((ma 93), .inl (cy 1, 1000, .inl (fun _ => 0))), ((ma 200), mo_0 ma), ((ma 11), .inl (cy 3, 8, .inl (fun _ => 0))), ((ma 75), .inl (cy 1, 241, .inl (upd (fun _ => 0) 0 1))), ((ma 94), .inl (cy 3, 1001, .inl (fun _ => 0)))] := hD
      refine lv_iconst (v := 0) hx hb dX12_joins_27 (by decide) ?_
      refine lv_istore_n (lv' := [(3, .int 0), (0, .ref (ma 200)), (1, .int mm), (2, .int j)]) hx hb dX12_joins_28 rfl hl (by decide) rfl (fun ls hl => ?_)
      refine lv_iconst (v := 0) hx hb dX12_joins_29 (by decide) ?_
      refine lv_istore (lv' := [(4, .int 0), (3, .int 0), (0, .ref (ma 200)), (1, .int mm), (2, .int j)]) hx hb dX12_joins_30 hl (by decide) rfl (fun ls hl => ?_)
      have key32 : ∀ (fu : Nat) (k : Nat) (fN : Nat → Int32) (H : Heap) (locs : List Loc) (ls : Array Slot), (hk : n * k < 1000) → 1000 - n * k < fu → va_P D vwCl [((ma 200), mo_0 ma), ((ma 94), .inl (cy 3, 1001, .inl (fun _ => 0))), ((ma 95), .inl (cy 1, 1000, .inl fN)), ((ma 93), .inl (cy 1, 1000, .inl (fun _ => 0)))] H → va_D A [((ma 200), mo_0 ma), ((ma 94), .inl (cy 3, 1001, .inl (fun _ => 0))), ((ma 95), .inl (cy 1, 1000, .inl fN)), ((ma 93), .inl (cy 1, 1000, .inl (fun _ => 0)))] → va_S A s.heap H locs → lv_has ls 6 [(4, .int (nI (n * k))), (3, .int (nI k)), (0, .ref (ma 200)), (1, .int mm), (2, .int j)] → W p l e (headSpec v_kX12_joins (({ frames := 1, cells := 0, slots := 0, locals := 23 } : Room))).room s m [.ref (ma 200), .int mm, .int j].toArray below meth c H locs 0 0 (MQ below (va_Qi (fun (r : Int32) (u : Unit) => sp_joins mm j r) (fun u => gp_E D A []) A) [.ref (ma 200), .int mm, .int j].toArray s 0 0 A) (F0 m 32 ls []) := by
        intro fu
        induction fu with
        | zero => intro k fN H locs ls hk hfu; exact absurd hfu (Nat.not_lt_zero _)
        | succ fu ih =>
          intro k fN H locs ls hk hfu hP hD hS hl
          refine lv_iload hx hb dX12_joins_32 (lv_at hl 0 rfl) ?_
          refine lv_iload_n hx hb dX12_joins_34 rfl (lv_at hl 3 rfl) ?_
          refine gp_ni (nI n) hmn ?_
          refine lv_iadd hx hb dX12_joins_35 ?_
          refine gp_ni (nI (n * k + n)) (nI_add _ _) ?_
          refine lv_sipush (v := 1000) hx hb dX12_joins_36 (by decide) ?_
          refine lv_icmp_ge (tgt := 99) hx hb dX12_joins_39 (by decide) (fun c_8 => ?_) (fun c_8 => ?_)
          · have hge : 1000 ≤ n * k + n := gp_le (n := 1000) c_8 (by omega) (by decide)
            have hk3 : k < 1000 := gp_kn hn1 hk
            refine lv_aload_n hx hb dX12_joins_99 rfl (lv_at hl 2 rfl) ?_
            refine lv_iload_n hx hb dX12_joins_100 rfl (lv_at hl 1 rfl) ?_
            refine va_put (D := D) (ci := 12) (v := .int (nI k)) (ty := .int) (C := RX12) (T := TX12) (N := 104) hx hb hts hiX12 tyX12 tyX12_ok nmX12 hown hK hP hD hS 0 rfl rfl 92 (by decide) (hts (.fieldLink RX12 556 "GhostPaneModel" "joinMany" "I") (List.mem_of_getElem? (i := 12) rfl)) (fun _ h9 => h9) rfl (by decide +kernel) rfl rfl (Nat.le_of_ble_eq_true rfl) dX12_joins_101 (fun H locs hP hD hS => ?_)
            have hP : va_P D vwCl [((ma 200), mo_j ma k), ((ma 94), .inl (cy 3, 1001, .inl (fun _ => 0))), ((ma 95), .inl (cy 1, 1000, .inl fN)), ((ma 93), .inl (cy 1, 1000, .inl (fun _ => 0)))] H := hP
            have hD : va_D A [((ma 200), mo_j ma k), ((ma 94), .inl (cy 3, 1001, .inl (fun _ => 0))), ((ma 95), .inl (cy 1, 1000, .inl fN)), ((ma 93), .inl (cy 1, 1000, .inl (fun _ => 0)))] := hD
            refine lv_iconst (v := 0) hx hb dX12_joins_104 (by decide) ?_
            refine lv_istore (lv' := [(5, .int 0), (4, .int (nI (n * k))), (3, .int (nI k)), (0, .ref (ma 200)), (1, .int mm), (2, .int j)]) hx hb dX12_joins_105 hl (by decide) rfl (fun ls hl => ?_)
            have key107 : ∀ (fu : Nat) (i : Nat) (fA : Nat → Int32) (H : Heap) (locs : List Loc) (ls : Array Slot), (hi : i ≤ k) → k - i < fu → va_P D vwCl [((ma 200), mo_j ma k), ((ma 95), .inl (cy 1, 1000, .inl fN)), ((ma 93), .inl (cy 1, 1000, .inl fA))] H → va_D A [((ma 200), mo_j ma k), ((ma 95), .inl (cy 1, 1000, .inl fN)), ((ma 93), .inl (cy 1, 1000, .inl fA))] → va_S A s.heap H locs → lv_has ls 6 [(5, .int (nI i)), (0, .ref (ma 200)), (3, .int (nI k))] → W p l e (headSpec v_kX12_joins (({ frames := 1, cells := 0, slots := 0, locals := 23 } : Room))).room s m [.ref (ma 200), .int mm, .int j].toArray below meth c H locs 0 0 (MQ below (va_Qi (fun (r : Int32) (u : Unit) => sp_joins mm j r) (fun u => gp_E D A []) A) [.ref (ma 200), .int mm, .int j].toArray s 0 0 A) (F0 m 107 ls []) := by
              intro fu
              induction fu with
              | zero => intro i fA H locs ls hi hfu; exact absurd hfu (Nat.not_lt_zero _)
              | succ fu ih =>
                intro i fA H locs ls hi hfu hP hD hS hl
                refine lv_iload hx hb dX12_joins_107 (lv_at hl 0 rfl) ?_
                refine lv_iload_n hx hb dX12_joins_109 rfl (lv_at hl 2 rfl) ?_
                refine lv_icmp_ge (tgt := 133) hx hb dX12_joins_110 (by decide) (fun c_9 => ?_) (fun c_9 => ?_)
                · refine lv_iload_n hx hb dX12_joins_133 rfl (lv_at hl 2 rfl) ?_
                  exact W.iret (v := nI k) hx hb hr (fun t ht hW => ⟨⟨nI k, (), rfl, (Or.inl ⟨p_2, p_5, n, k, hmn, hn1, hn2, rfl, hk, hge⟩), gp_end ht (hP.sub (ws' := []) [] rfl) (hD.sub (ws' := []) [] (by decide) rfl)⟩, hS.F ht⟩) hS.2.2 dX12_joins_134
                · have hlt2 : i < k := gp_lt c_9 (by omega) (by omega)
                  refine lv_aload_n hx hb dX12_joins_113 rfl (lv_at hl 1 rfl) ?_
                  refine va_get (D := D) (ci := 12) (v := .ref (ma 93)) (C := RX12) (T := TX12) (N := 104) hx hb hts hiX12 hown hK hP 0 rfl rfl 93 (by decide) (hts (.fieldLink RX12 402 "GhostPaneModel" "joinAt" "[I") (List.mem_of_getElem? (i := 13) rfl)) (fun _ h9 => h9) rfl dX12_joins_114 ?_
                  refine lv_iload hx hb dX12_joins_117 (lv_at hl 0 rfl) ?_
                  refine lv_aload_n hx hb dX12_joins_119 rfl (lv_at hl 1 rfl) ?_
                  refine va_get (D := D) (ci := 12) (v := .ref (ma 95)) (C := RX12) (T := TX12) (N := 104) hx hb hts hiX12 hown hK hP 0 rfl rfl 95 (by decide) (hts (.fieldLink RX12 408 "GhostPaneModel" "newJoin" "[I") (List.mem_of_getElem? (i := 14) rfl)) (fun _ h9 => h9) rfl dX12_joins_120 ?_
                  refine lv_iload hx hb dX12_joins_123 (lv_at hl 0 rfl) ?_
                  refine va_iald hx hb hK hP 1 1 rfl rfl (vp_in_nI (by omega) (by decide)) dX12_joins_125 ?_
                  refine va_iast hx hb hK hP hD hS 2 1 rfl rfl (vp_in_nI (by omega) (by decide)) dX12_joins_126 (fun H locs hP hD hS => ?_)
                  have hP : va_P D vwCl [((ma 200), mo_j ma k), ((ma 95), .inl (cy 1, 1000, .inl fN)), ((ma 93), .inl (cy 1, 1000, .inl (upd fA ((nI i).toNatClampNeg) (fN (nI i).toNatClampNeg))))] H := hP
                  have hD : va_D A [((ma 200), mo_j ma k), ((ma 95), .inl (cy 1, 1000, .inl fN)), ((ma 93), .inl (cy 1, 1000, .inl (upd fA ((nI i).toNatClampNeg) (fN (nI i).toNatClampNeg))))] := hD
                  refine lv_iinc (v := nI (i + 1)) (lv' := [(5, .int (nI (i + 1))), (0, .ref (ma 200)), (3, .int (nI k))]) hx hb dX12_joins_127 hl (k := 0) rfl (nI_1 i) (by decide) rfl (fun ls hl => ?_)
                  refine lv_goto (tgt := 107) hx hb dX12_joins_130 (by decide) ?_
                  exact ih (i + 1) (upd fA ((nI i).toNatClampNeg) (fN (nI i).toNatClampNeg)) H locs ls (by omega) (by omega) (hP.sub (ws' := [((ma 200), mo_j ma k), ((ma 95), .inl (cy 1, 1000, .inl fN)), ((ma 93), .inl (cy 1, 1000, .inl (upd fA ((nI i).toNatClampNeg) (fN (nI i).toNatClampNeg))))]) [0, 1, 2] rfl) (hD.sub (ws' := [((ma 200), mo_j ma k), ((ma 95), .inl (cy 1, 1000, .inl fN)), ((ma 93), .inl (cy 1, 1000, .inl (upd fA ((nI i).toNatClampNeg) (fN (nI i).toNatClampNeg))))]) [0, 1, 2] (by decide) rfl) hS (lv_sub hl [0, 1, 2] rfl)
            exact key107 (k - 0 + 1) 0 (fun _ => 0) H locs ls (Nat.zero_le _) (Nat.lt_succ_self _) (hP.sub (ws' := [((ma 200), mo_j ma k), ((ma 95), .inl (cy 1, 1000, .inl fN)), ((ma 93), .inl (cy 1, 1000, .inl (fun _ => 0)))]) [0, 2, 3] rfl) (hD.sub (ws' := [((ma 200), mo_j ma k), ((ma 95), .inl (cy 1, 1000, .inl fN)), ((ma 93), .inl (cy 1, 1000, .inl (fun _ => 0)))]) [0, 2, 3] (by decide) rfl) hS (lv_sub hl [0, 3, 2] rfl)
          · have hlt : n * k + n < 1000 := gp_lt (n := 1000) c_8 (by omega) (by decide)
            have hk3 : k < 1000 := gp_kn hn1 hk
            refine lv_iload hx hb dX12_joins_42 (lv_at hl 0 rfl) ?_
            refine lv_iload_n hx hb dX12_joins_44 rfl (lv_at hl 3 rfl) ?_
            refine gp_ni (nI n) hmn ?_
            refine lv_iadd hx hb dX12_joins_45 ?_
            refine gp_ni (nI (n * k + n)) (nI_add _ _) ?_
            refine lv_istore (lv' := [(5, .int (nI (n * k + n))), (4, .int (nI (n * k))), (3, .int (nI k)), (0, .ref (ma 200)), (1, .int mm), (2, .int j)]) hx hb dX12_joins_46 hl (by decide) rfl (fun ls hl => ?_)
            refine lv_iload hx hb dX12_joins_48 (lv_at hl 0 rfl) ?_
            refine lv_iload hx hb dX12_joins_50 (lv_at hl 1 rfl) ?_
            refine lv_icmp_le (tgt := 71) hx hb dX12_joins_52 (by decide) (fun c_10 => absurd c_10 (nI_ge (by omega) (by omega))) (fun c_10 => ?_)
            refine lv_aload_n hx hb dX12_joins_55 rfl (lv_at hl 3 rfl) ?_
            refine lv_iload hx hb dX12_joins_56 (lv_at hl 0 rfl) ?_
            refine lv_iload_n hx hb dX12_joins_58 rfl (lv_at hl 5 rfl) ?_
            refine gp_ni (nI b) hjb ?_
            have hPc := hP.sub (ws' := [((ma 200), mo_0 ma), ((ma 94), .inl (cy 3, 1001, .inl (fun _ => 0)))]) [0, 1] rfl
            have hDc := hD.sub (ws' := [((ma 200), mo_0 ma), ((ma 94), .inl (cy 3, 1001, .inl (fun _ => 0)))]) [0, 1] (by decide) rfl
            have hFc := va_free (wc := [((ma 200), mo_0 ma), ((ma 94), .inl (cy 3, 1001, .inl (fun _ => 0)))]) hD hS hA [0, 1] rfl
            refine va_calli (va_runV (As := [.int (nI (n * k + n)), .int (nI b)]) (rest := []) ⟨hx, hb, hml, hown, hts⟩ (kX12_mayJoin l D cy H.size ma (n * k + n) b (by omega) hb0) (cwV 2 hts g_kX12_joins_kX12_mayJoin_2 rfl rfl rfl (by decide +kernel) ⟨Nat.le_of_ble_eq_true rfl, Nat.le_of_ble_eq_true rfl⟩) (gp_preV (RX12, TX12, 104) 12 0 hPc hDc hK hN rfl rfl) rfl rfl hl.1 rfl (lv_room (Nat.le_of_ble_eq_true rfl)) dX12_joins_59 ⟨Nat.le_of_ble_eq_true rfl, Nat.le_of_ble_eq_true rfl⟩) hS (fun q _ h => hFc q h) hFc (fun r_11 u t H locs ht hvm hw hB hz1 hk1 hS => ?_)
            obtain ⟨hP, hD⟩ := gp_join (wr := [((ma 95), .inl (cy 1, 1000, .inl fN)), ((ma 93), .inl (cy 1, 1000, .inl (fun _ => 0)))]) (w1 := [((ma 200), mo_0 ma), ((ma 94), .inl (cy 3, 1001, .inl (fun _ => 0)))]) hP hD [0, 1] [2, 3] rfl rfl (by decide) (by decide) hk1 hFc ht hB
            have hP : va_P D vwCl [((ma 95), .inl (cy 1, 1000, .inl fN)), ((ma 93), .inl (cy 1, 1000, .inl (fun _ => 0))), ((ma 200), mo_0 ma), ((ma 94), .inl (cy 3, 1001, .inl (fun _ => 0)))] H := hP
            have hD : va_D A [((ma 95), .inl (cy 1, 1000, .inl fN)), ((ma 93), .inl (cy 1, 1000, .inl (fun _ => 0))), ((ma 200), mo_0 ma), ((ma 94), .inl (cy 3, 1001, .inl (fun _ => 0)))] := hD
            obtain rfl : r_11 = 1 := hw
            refine lv_if_ne (tgt := 71) hx hb dX12_joins_62 (by decide) (fun c_12 => ?_) (fun c_12 => absurd c_12 (by decide))
            refine lv_iload hx hb dX12_joins_71 (lv_at hl 0 rfl) ?_
            refine lv_iload hx hb dX12_joins_73 (lv_at hl 1 rfl) ?_
            refine lv_icmp_ne (tgt := 81) hx hb dX12_joins_75 (by decide) (fun c_13 => ?_) (fun c_13 => absurd c_13 (fun h => absurd ((nI_eq (by omega) (by omega)).mp h) (by omega)))
            refine lv_aload_n hx hb dX12_joins_81 rfl (lv_at hl 3 rfl) ?_
            refine va_get (D := D) (ci := 12) (v := .ref (ma 95)) (C := RX12) (T := TX12) (N := 104) hx hb hts hiX12 hown hK hP 2 rfl rfl 95 (by decide) (hts (.fieldLink RX12 408 "GhostPaneModel" "newJoin" "[I") (List.mem_of_getElem? (i := 14) rfl)) (fun _ h9 => h9) rfl dX12_joins_82 ?_
            refine lv_iload_n hx hb dX12_joins_85 rfl (lv_at hl 2 rfl) ?_
            refine lv_iload hx hb dX12_joins_86 (lv_at hl 0 rfl) ?_
            refine va_iast hx hb hK hP hD hS 0 1 rfl rfl (vp_in_nI (by omega) (by decide)) dX12_joins_88 (fun H locs hP hD hS => ?_)
            have hP : va_P D vwCl [((ma 95), .inl (cy 1, 1000, .inl (upd fN ((nI k).toNatClampNeg) (nI (n * k + n))))), ((ma 93), .inl (cy 1, 1000, .inl (fun _ => 0))), ((ma 200), mo_0 ma), ((ma 94), .inl (cy 3, 1001, .inl (fun _ => 0)))] H := hP
            have hD : va_D A [((ma 95), .inl (cy 1, 1000, .inl (upd fN ((nI k).toNatClampNeg) (nI (n * k + n))))), ((ma 93), .inl (cy 1, 1000, .inl (fun _ => 0))), ((ma 200), mo_0 ma), ((ma 94), .inl (cy 3, 1001, .inl (fun _ => 0)))] := hD
            refine lv_iinc (v := nI (k + 1)) (lv' := [(3, .int (nI (k + 1))), (5, .int (nI (n * k + n))), (4, .int (nI (n * k))), (0, .ref (ma 200)), (1, .int mm), (2, .int j)]) hx hb dX12_joins_89 hl (k := 2) rfl (nI_1 k) (by decide) rfl (fun ls hl => ?_)
            refine lv_iload hx hb dX12_joins_92 (lv_at hl 1 rfl) ?_
            refine gp_ni (nI (n * (k + 1))) rfl ?_
            refine lv_istore (lv' := [(4, .int (nI (n * (k + 1)))), (3, .int (nI (k + 1))), (5, .int (nI (n * k + n))), (0, .ref (ma 200)), (1, .int mm), (2, .int j)]) hx hb dX12_joins_94 hl (by decide) rfl (fun ls hl => ?_)
            refine lv_goto (tgt := 32) hx hb dX12_joins_96 (by decide) ?_
            exact ih (k + 1) (upd fN ((nI k).toNatClampNeg) (nI (n * k + n))) H locs ls hlt (by show 1000 - (n * k + n) < _; omega) (hP.sub (ws' := [((ma 200), mo_0 ma), ((ma 94), .inl (cy 3, 1001, .inl (fun _ => 0))), ((ma 95), .inl (cy 1, 1000, .inl (upd fN ((nI k).toNatClampNeg) (nI (n * k + n))))), ((ma 93), .inl (cy 1, 1000, .inl (fun _ => 0)))]) [2, 3, 0, 1] rfl) (hD.sub (ws' := [((ma 200), mo_0 ma), ((ma 94), .inl (cy 3, 1001, .inl (fun _ => 0))), ((ma 95), .inl (cy 1, 1000, .inl (upd fN ((nI k).toNatClampNeg) (nI (n * k + n))))), ((ma 93), .inl (cy 1, 1000, .inl (fun _ => 0)))]) [2, 3, 0, 1] (by decide) rfl) hS (lv_sub hl [0, 1, 3, 4, 5] rfl)
      exact key32 (1000 - n * 0 + 1) 0 (fun _ => 0) H locs ls (by omega) (Nat.lt_succ_self _) (hP.sub (ws' := [((ma 200), mo_0 ma), ((ma 94), .inl (cy 3, 1001, .inl (fun _ => 0))), ((ma 95), .inl (cy 1, 1000, .inl (fun _ => 0))), ((ma 93), .inl (cy 1, 1000, .inl (fun _ => 0)))]) [2, 5, 0, 1] rfl) (hD.sub (ws' := [((ma 200), mo_0 ma), ((ma 94), .inl (cy 3, 1001, .inl (fun _ => 0))), ((ma 95), .inl (cy 1, 1000, .inl (fun _ => 0))), ((ma 93), .inl (cy 1, 1000, .inl (fun _ => 0)))]) [2, 5, 0, 1] (by decide) rfl) hS (lv_sub hl [0, 1, 2, 3, 4] rfl)
    · refine lv_if_ne (tgt := 23) hx hb dX12_joins_18 (by decide) (fun c_14 => absurd (by decide) c_14) (fun c_14 => ?_)
      refine lv_iconst (v := (-1)) hx hb dX12_joins_21 (by decide) ?_
      exact W.iret (v := (-1)) hx hb hr (fun t ht hW => ⟨⟨(-1), (), rfl, (lf_kX12_joins_1 ma mm j p_2 p_5), gp_end ht (hP.sub (ws' := []) [] rfl) (hD.sub (ws' := []) [] (by decide) rfl)⟩, hS.F ht⟩) hS.2.2 dX12_joins_22
  · refine lv_if_eq (tgt := 21) hx hb dX12_joins_8 (by decide) (fun c_15 => ?_) (fun c_15 => absurd (by decide) c_15)
    refine lv_iconst (v := (-1)) hx hb dX12_joins_21 (by decide) ?_
    exact W.iret (v := (-1)) hx hb hr (fun t ht hW => ⟨⟨(-1), (), rfl, (lf_kX12_joins_2 ma mm j p_2), gp_end ht (hP.sub (ws' := []) [] rfl) (hD.sub (ws' := []) [] (by decide) rfl)⟩, hS.F ht⟩) hS.2.2 dX12_joins_22
