theorem lf_sX2_add_1 (code_size : Int32) (ckind : Nat → Int32) (cfirst : Nat → Int32) (what : Int32) (a : Int32) (f_code_size : sp_in code_size 0 128) (c_1 : 128 ≤ code_size) : (code_size < 128 ∧ code_size = code_size + 1 ∧ ckind = upd ckind code_size.toNatClampNeg what ∧ cfirst = upd cfirst code_size.toNatClampNeg a) ∨ (¬ code_size < 128 ∧ code_size = code_size ∧ ckind = ckind ∧ cfirst = cfirst) := by
  first | grind | (simp only [sp_in, sp_pl, sp_far, sp_two] at *; grind)
theorem lf_sX2_add_2 (code_size : Int32) (f_code_size : sp_in code_size 0 128) (c_1 : ¬ 128 ≤ code_size) : sp_in code_size 0 127 := by
  first | grind | (simp only [sp_in, sp_pl, sp_far, sp_two] at *; grind)
theorem lf_sX2_add_3 (code_size : Int32) (ckind : Nat → Int32) (what : Int32) (ckind_2 : Nat → Int32) (f_code_size : sp_in code_size 0 128) (c_1 : ¬ 128 ≤ code_size) (u_3 : ckind_2 = upd ckind code_size.toNatClampNeg what) : sp_in code_size 0 127 := by
  first | grind | (simp only [sp_in, sp_pl, sp_far, sp_two] at *; grind)
theorem lf_sX2_add_4 (code_size : Int32) (ckind : Nat → Int32) (cfirst : Nat → Int32) (what : Int32) (a : Int32) (ckind_2 : Nat → Int32) (cfirst_4 : Nat → Int32) (f_code_size : sp_in code_size 0 128) (c_1 : ¬ 128 ≤ code_size) (u_3 : ckind_2 = upd ckind code_size.toNatClampNeg what) (u_5 : cfirst_4 = upd cfirst code_size.toNatClampNeg a) : sp_in code_size 0 127 := by
  first | grind | (simp only [sp_in, sp_pl, sp_far, sp_two] at *; grind)
theorem lf_sX2_add_5 (code_size : Int32) (ckind : Nat → Int32) (cfirst : Nat → Int32) (what : Int32) (a : Int32) (ckind_2 : Nat → Int32) (cfirst_4 : Nat → Int32) (f_code_size : sp_in code_size 0 128) (c_1 : ¬ 128 ≤ code_size) (u_3 : ckind_2 = upd ckind code_size.toNatClampNeg what) (u_5 : cfirst_4 = upd cfirst code_size.toNatClampNeg a) : sp_in (code_size + 1) 0 128 := by
  first | grind | (simp only [sp_in, sp_pl, sp_far, sp_two] at *; grind)
theorem lf_sX2_add_6 (code_size : Int32) (ckind : Nat → Int32) (cfirst : Nat → Int32) (what : Int32) (a : Int32) (ckind_2 : Nat → Int32) (cfirst_4 : Nat → Int32) (f_code_size : sp_in code_size 0 128) (c_1 : ¬ 128 ≤ code_size) (u_3 : ckind_2 = upd ckind code_size.toNatClampNeg what) (u_5 : cfirst_4 = upd cfirst code_size.toNatClampNeg a) : (code_size < 128 ∧ (code_size + 1) = code_size + 1 ∧ ckind_2 = upd ckind code_size.toNatClampNeg what ∧ cfirst_4 = upd cfirst code_size.toNatClampNeg a) ∨ (¬ code_size < 128 ∧ (code_size + 1) = code_size ∧ ckind_2 = ckind ∧ cfirst_4 = cfirst) := by
  first | grind | (simp only [sp_in, sp_pl, sp_far, sp_two] at *; grind)
def v_sX2_add : List Cond := .code yX2_add cX2_add 4 none :: (([.fieldLink RX2 19 "GhostPane$Code" "size" "I", .fieldLink RX2 9 "GhostPane$Code" "kind" "[I", .fieldLink RX2 13 "GhostPane$Code" "first" "[I", .fieldLink RX2 16 "GhostPane$Code" "second" "[I"] : List Cond) ++ wsX20)
set_option maxHeartbeats 4000000 in
set_option maxRecDepth 100000 in
theorem sX2_add (l : Launch) (D : va_G) (cy : Nat → ClassId) (sz : Nat) (xa : Nat → Nat) (code_size : Int32) (ckind : Nat → Int32) (cfirst : Nat → Int32) (csecond : Nat → Int32) (what : Int32) (a : Int32) (b : Int32) (f_code_size : sp_in code_size 0 128) (f_csecond : ∀ i, sp_in (csecond i) (-1) 200) (q0 : sp_in b (-1) 200) : Met l yX2_add v_sX2_add ({ frames := 0, cells := 0, slots := 0, locals := 0 } : Room) (va_Pc [.ref (xa 4), .int what, .int a, .int b] (gp_B D cy sz [(o_code xa code_size), (aI (xa 39) (cy 1) 128 ckind), (aI (xa 40) (cy 1) 128 cfirst), (aI (xa 41) (cy 1) 128 csecond)])) (va_Qv (fun (u : (Int32) × (Nat → Int32) × (Nat → Int32) × (Nat → Int32)) => (sp_in u.1 0 128) ∧ (∀ i, sp_in (u.2.2.2 i) (-1) 200) ∧ ((code_size < 128 ∧ u.1 = code_size + 1 ∧ u.2.1 = upd ckind code_size.toNatClampNeg what ∧ u.2.2.1 = upd cfirst code_size.toNatClampNeg a) ∨ (¬ code_size < 128 ∧ u.1 = code_size ∧ u.2.1 = ckind ∧ u.2.2.1 = cfirst))) (fun u => gp_E D (va_A [(o_code xa code_size), (aI (xa 39) (cy 1) 128 ckind), (aI (xa 40) (cy 1) 128 cfirst), (aI (xa 41) (cy 1) 128 csecond)] sz) [(o_code xa u.1), (aI (xa 39) (cy 1) 128 u.2.1), (aI (xa 40) (cy 1) 128 u.2.2.1), (aI (xa 41) (cy 1) 128 u.2.2.2)]) (va_A [(o_code xa code_size), (aI (xa 39) (cy 1) 128 ckind), (aI (xa 40) (cy 1) 128 cfirst), (aI (xa 41) (cy 1) 128 csecond)] sz)) 0 0 (va_A [(o_code xa code_size), (aI (xa 39) (cy 1) 128 ckind), (aI (xa 40) (cy 1) 128 cfirst), (aI (xa 41) (cy 1) 128 csecond)] sz) := by
  refine gp_met (Qc := fun A => va_Qv (fun (u : (Int32) × (Nat → Int32) × (Nat → Int32) × (Nat → Int32)) => (sp_in u.1 0 128) ∧ (∀ i, sp_in (u.2.2.2 i) (-1) 200) ∧ ((code_size < 128 ∧ u.1 = code_size + 1 ∧ u.2.1 = upd ckind code_size.toNatClampNeg what ∧ u.2.2.1 = upd cfirst code_size.toNatClampNeg a) ∨ (¬ code_size < 128 ∧ u.1 = code_size ∧ u.2.1 = ckind ∧ u.2.2.1 = cfirst))) (fun u => gp_E D A [(o_code xa u.1), (aI (xa 39) (cy 1) 128 u.2.1), (aI (xa 40) (cy 1) 128 u.2.2.1), (aI (xa 41) (cy 1) 128 u.2.2.2)]) A) (cc := cX2_add) (maxL := 4) (ret := none) (by decide) rfl (Nat.le_of_ble_eq_true rfl) ?_
  intro p e s m below meth c A ls H hx hb hml hr hlocks hts hown hin hK hN hS hP hD hA hl
  have hown : s.vm.findClass RX2 = some m.cls := hown
  have hl : lv_has ls 4 [(0, .ref (xa 4)), (1, .int what), (2, .int a), (3, .int b)] := hl
  have hiX2 : ∀ w ∈ u_ws RX2 TX2 4, w ∈ v_sX2_add := fun _ h => List.mem_cons_of_mem _ (List.mem_append_right _ h)
  refine lv_aload_n hx hb dX2_add_0 rfl (lv_at hl 0 rfl) ?_
  refine va_get (D := D) (ci := 2) (v := .int code_size) (C := RX2) (T := TX2) (N := 4) hx hb hts hiX2 hown hK hP 0 rfl rfl 0 (by decide) (hts (.fieldLink RX2 19 "GhostPane$Code" "size" "I") (List.mem_of_getElem? (i := 1) rfl)) (fun _ h9 => h9) rfl dX2_add_1 ?_
  refine lv_sipush (v := 128) hx hb dX2_add_4 (by decide) ?_
  refine lv_icmp_ge (tgt := 50) hx hb dX2_add_7 (by decide) (fun c_1 => ?_) (fun c_1 => ?_)
  · exact W.vret hx hb hr (fun t ht hW => ⟨⟨⟨code_size, ckind, cfirst, csecond⟩, rfl, ⟨f_code_size, f_csecond, (lf_sX2_add_1 code_size ckind cfirst what a f_code_size c_1)⟩, gp_end ht hP hD⟩, hS.F ht⟩) hS.2.2 dX2_add_50
  · refine lv_aload_n hx hb dX2_add_10 rfl (lv_at hl 0 rfl) ?_
    refine va_get (D := D) (ci := 2) (v := .ref (xa 39)) (C := RX2) (T := TX2) (N := 4) hx hb hts hiX2 hown hK hP 0 rfl rfl 1 (by decide) (hts (.fieldLink RX2 9 "GhostPane$Code" "kind" "[I") (List.mem_of_getElem? (i := 2) rfl)) (fun _ h9 => h9) rfl dX2_add_11 ?_
    refine lv_aload_n hx hb dX2_add_14 rfl (lv_at hl 0 rfl) ?_
    refine va_get (D := D) (ci := 2) (v := .int code_size) (C := RX2) (T := TX2) (N := 4) hx hb hts hiX2 hown hK hP 0 rfl rfl 0 (by decide) (hts (.fieldLink RX2 19 "GhostPane$Code" "size" "I") (List.mem_of_getElem? (i := 1) rfl)) (fun _ h9 => h9) rfl dX2_add_15 ?_
    refine lv_iload_n hx hb dX2_add_18 rfl (lv_at hl 1 rfl) ?_
    refine va_iast hx hb hK hP hD hS 1 1 rfl rfl (gp_in (hi := 127) (lf_sX2_add_2 code_size f_code_size c_1) (by decide)) dX2_add_19 (fun H locs hP hD hS => ?_)
    obtain ⟨ckind_2, u_3, hP, hD⟩ : ∃ ckind_2 : Nat → Int32, ckind_2 = upd ckind code_size.toNatClampNeg what ∧ va_P D vwCl [(o_code xa code_size), (aI (xa 39) (cy 1) 128 ckind_2), (aI (xa 40) (cy 1) 128 cfirst), (aI (xa 41) (cy 1) 128 csecond)] H ∧ va_D A [(o_code xa code_size), (aI (xa 39) (cy 1) 128 ckind_2), (aI (xa 40) (cy 1) 128 cfirst), (aI (xa 41) (cy 1) 128 csecond)] := ⟨_, rfl, hP, hD⟩
    refine lv_aload_n hx hb dX2_add_20 rfl (lv_at hl 0 rfl) ?_
    refine va_get (D := D) (ci := 2) (v := .ref (xa 40)) (C := RX2) (T := TX2) (N := 4) hx hb hts hiX2 hown hK hP 0 rfl rfl 2 (by decide) (hts (.fieldLink RX2 13 "GhostPane$Code" "first" "[I") (List.mem_of_getElem? (i := 3) rfl)) (fun _ h9 => h9) rfl dX2_add_21 ?_
    refine lv_aload_n hx hb dX2_add_24 rfl (lv_at hl 0 rfl) ?_
    refine va_get (D := D) (ci := 2) (v := .int code_size) (C := RX2) (T := TX2) (N := 4) hx hb hts hiX2 hown hK hP 0 rfl rfl 0 (by decide) (hts (.fieldLink RX2 19 "GhostPane$Code" "size" "I") (List.mem_of_getElem? (i := 1) rfl)) (fun _ h9 => h9) rfl dX2_add_25 ?_
    refine lv_iload_n hx hb dX2_add_28 rfl (lv_at hl 2 rfl) ?_
    refine va_iast hx hb hK hP hD hS 2 1 rfl rfl (gp_in (hi := 127) (lf_sX2_add_3 code_size ckind what ckind_2 f_code_size c_1 u_3) (by decide)) dX2_add_29 (fun H locs hP hD hS => ?_)
    obtain ⟨cfirst_4, u_5, hP, hD⟩ : ∃ cfirst_4 : Nat → Int32, cfirst_4 = upd cfirst code_size.toNatClampNeg a ∧ va_P D vwCl [(o_code xa code_size), (aI (xa 39) (cy 1) 128 ckind_2), (aI (xa 40) (cy 1) 128 cfirst_4), (aI (xa 41) (cy 1) 128 csecond)] H ∧ va_D A [(o_code xa code_size), (aI (xa 39) (cy 1) 128 ckind_2), (aI (xa 40) (cy 1) 128 cfirst_4), (aI (xa 41) (cy 1) 128 csecond)] := ⟨_, rfl, hP, hD⟩
    refine lv_aload_n hx hb dX2_add_30 rfl (lv_at hl 0 rfl) ?_
    refine va_get (D := D) (ci := 2) (v := .ref (xa 41)) (C := RX2) (T := TX2) (N := 4) hx hb hts hiX2 hown hK hP 0 rfl rfl 3 (by decide) (hts (.fieldLink RX2 16 "GhostPane$Code" "second" "[I") (List.mem_of_getElem? (i := 4) rfl)) (fun _ h9 => h9) rfl dX2_add_31 ?_
    refine lv_aload_n hx hb dX2_add_34 rfl (lv_at hl 0 rfl) ?_
    refine va_get (D := D) (ci := 2) (v := .int code_size) (C := RX2) (T := TX2) (N := 4) hx hb hts hiX2 hown hK hP 0 rfl rfl 0 (by decide) (hts (.fieldLink RX2 19 "GhostPane$Code" "size" "I") (List.mem_of_getElem? (i := 1) rfl)) (fun _ h9 => h9) rfl dX2_add_35 ?_
    refine lv_iload_n hx hb dX2_add_38 rfl (lv_at hl 3 rfl) ?_
    refine va_iast hx hb hK hP hD hS 3 1 rfl rfl (gp_in (hi := 127) (lf_sX2_add_4 code_size ckind cfirst what a ckind_2 cfirst_4 f_code_size c_1 u_3 u_5) (by decide)) dX2_add_39 (fun H locs hP hD hS => ?_)
    obtain ⟨csecond_6, g_7, hP, hD⟩ : ∃ csecond_6 : Nat → Int32, (∀ i, sp_in (csecond_6 i) (-1) 200) ∧ va_P D vwCl [(o_code xa code_size), (aI (xa 39) (cy 1) 128 ckind_2), (aI (xa 40) (cy 1) 128 cfirst_4), (aI (xa 41) (cy 1) 128 csecond_6)] H ∧ va_D A [(o_code xa code_size), (aI (xa 39) (cy 1) 128 ckind_2), (aI (xa 40) (cy 1) 128 cfirst_4), (aI (xa 41) (cy 1) 128 csecond_6)] := ⟨_, gp_allU (P := fun z => sp_in z (-1) 200) f_csecond q0, hP, hD⟩
    refine lv_aload_n hx hb dX2_add_40 rfl (lv_at hl 0 rfl) ?_
    refine lv_dup hx hb dX2_add_41 rfl ?_
    refine va_get (D := D) (ci := 2) (v := .int code_size) (C := RX2) (T := TX2) (N := 4) hx hb hts hiX2 hown hK hP 0 rfl rfl 0 (by decide) (hts (.fieldLink RX2 19 "GhostPane$Code" "size" "I") (List.mem_of_getElem? (i := 1) rfl)) (fun _ h9 => h9) rfl dX2_add_42 ?_
    refine lv_iconst (v := 1) hx hb dX2_add_45 (by decide) ?_
    refine lv_iadd hx hb dX2_add_46 ?_
    refine va_put (D := D) (ci := 2) (v := .int (code_size + 1)) (ty := .int) (C := RX2) (T := TX2) (N := 4) hx hb hts hiX2 tyX2 tyX2_ok nmX2 hown hK hP hD hS 0 rfl rfl 0 (by decide) (hts (.fieldLink RX2 19 "GhostPane$Code" "size" "I") (List.mem_of_getElem? (i := 1) rfl)) (fun _ h9 => h9) rfl (by decide +kernel) rfl rfl (Nat.le_of_ble_eq_true rfl) dX2_add_47 (fun H locs hP hD hS => ?_)
    have hP : va_P D vwCl [(o_code xa (code_size + 1)), (aI (xa 39) (cy 1) 128 ckind_2), (aI (xa 40) (cy 1) 128 cfirst_4), (aI (xa 41) (cy 1) 128 csecond_6)] H := hP
    have hD := gp_sD hP hD
    exact W.vret hx hb hr (fun t ht hW => ⟨⟨⟨(code_size + 1), ckind_2, cfirst_4, csecond_6⟩, rfl, ⟨(lf_sX2_add_5 code_size ckind cfirst what a ckind_2 cfirst_4 f_code_size c_1 u_3 u_5), g_7, (lf_sX2_add_6 code_size ckind cfirst what a ckind_2 cfirst_4 f_code_size c_1 u_3 u_5)⟩, gp_end ht hP hD⟩, hS.F ht⟩) hS.2.2 dX2_add_50

theorem lf_sX2_pointPast_1 (code_size : Int32) (cfirst : Nat → Int32) (k : Int32) (f_code_size : sp_in code_size 0 128) (c_1 : k < 0) : (sp_in k 0 127 ∧ cfirst = upd cfirst k.toNatClampNeg code_size) ∨ (¬ sp_in k 0 127 ∧ cfirst = cfirst) := by
  first | grind | (simp only [sp_in, sp_pl, sp_far, sp_two] at *; grind)
theorem lf_sX2_pointPast_2 (code_size : Int32) (cfirst : Nat → Int32) (k : Int32) (f_code_size : sp_in code_size 0 128) (c_1 : ¬ k < 0) (c_2 : 128 ≤ k) : (sp_in k 0 127 ∧ cfirst = upd cfirst k.toNatClampNeg code_size) ∨ (¬ sp_in k 0 127 ∧ cfirst = cfirst) := by
  first | grind | (simp only [sp_in, sp_pl, sp_far, sp_two] at *; grind)
theorem lf_sX2_pointPast_3 (k : Int32) (c_1 : ¬ k < 0) (c_2 : ¬ 128 ≤ k) : sp_in k 0 127 := by
  first | grind | (simp only [sp_in, sp_pl, sp_far, sp_two] at *; grind)
theorem lf_sX2_pointPast_4 (code_size : Int32) (cfirst : Nat → Int32) (k : Int32) (cfirst_3 : Nat → Int32) (f_code_size : sp_in code_size 0 128) (c_1 : ¬ k < 0) (c_2 : ¬ 128 ≤ k) (u_4 : cfirst_3 = upd cfirst k.toNatClampNeg code_size) : (sp_in k 0 127 ∧ cfirst_3 = upd cfirst k.toNatClampNeg code_size) ∨ (¬ sp_in k 0 127 ∧ cfirst_3 = cfirst) := by
  first | grind | (simp only [sp_in, sp_pl, sp_far, sp_two] at *; grind)
def v_sX2_pointPast : List Cond := .code yX2_pointPast cX2_pointPast 2 none :: (([.fieldLink RX2 13 "GhostPane$Code" "first" "[I", .fieldLink RX2 19 "GhostPane$Code" "size" "I"] : List Cond) ++ wsX20)
set_option maxHeartbeats 4000000 in
set_option maxRecDepth 100000 in
theorem sX2_pointPast (l : Launch) (D : va_G) (cy : Nat → ClassId) (sz : Nat) (xa : Nat → Nat) (code_size : Int32) (cfirst : Nat → Int32) (k : Int32) (f_code_size : sp_in code_size 0 128) : Met l yX2_pointPast v_sX2_pointPast ({ frames := 0, cells := 0, slots := 0, locals := 0 } : Room) (va_Pc [.ref (xa 4), .int k] (gp_B D cy sz [(o_code xa code_size), (aI (xa 40) (cy 1) 128 cfirst)])) (va_Qv (fun (u : (Nat → Int32)) => ((sp_in k 0 127 ∧ u = upd cfirst k.toNatClampNeg code_size) ∨ (¬ sp_in k 0 127 ∧ u = cfirst))) (fun u => gp_E D (va_A [(o_code xa code_size), (aI (xa 40) (cy 1) 128 cfirst)] sz) [(o_code xa code_size), (aI (xa 40) (cy 1) 128 u)]) (va_A [(o_code xa code_size), (aI (xa 40) (cy 1) 128 cfirst)] sz)) 0 0 (va_A [(o_code xa code_size), (aI (xa 40) (cy 1) 128 cfirst)] sz) := by
  refine gp_met (Qc := fun A => va_Qv (fun (u : (Nat → Int32)) => ((sp_in k 0 127 ∧ u = upd cfirst k.toNatClampNeg code_size) ∨ (¬ sp_in k 0 127 ∧ u = cfirst))) (fun u => gp_E D A [(o_code xa code_size), (aI (xa 40) (cy 1) 128 u)]) A) (cc := cX2_pointPast) (maxL := 2) (ret := none) (by decide) rfl (Nat.le_of_ble_eq_true rfl) ?_
  intro p e s m below meth c A ls H hx hb hml hr hlocks hts hown hin hK hN hS hP hD hA hl
  have hown : s.vm.findClass RX2 = some m.cls := hown
  have hl : lv_has ls 2 [(0, .ref (xa 4)), (1, .int k)] := hl
  have hiX2 : ∀ w ∈ u_ws RX2 TX2 4, w ∈ v_sX2_pointPast := fun _ h => List.mem_cons_of_mem _ (List.mem_append_right _ h)
  refine lv_iload_n hx hb dX2_pointPast_0 rfl (lv_at hl 1 rfl) ?_
  refine lv_if_lt (tgt := 21) hx hb dX2_pointPast_1 (by decide) (fun c_1 => ?_) (fun c_1 => ?_)
  · exact W.vret hx hb hr (fun t ht hW => ⟨⟨cfirst, rfl, (lf_sX2_pointPast_1 code_size cfirst k f_code_size c_1), gp_end ht hP hD⟩, hS.F ht⟩) hS.2.2 dX2_pointPast_21
  · refine lv_iload_n hx hb dX2_pointPast_4 rfl (lv_at hl 1 rfl) ?_
    refine lv_sipush (v := 128) hx hb dX2_pointPast_5 (by decide) ?_
    refine lv_icmp_ge (tgt := 21) hx hb dX2_pointPast_8 (by decide) (fun c_2 => ?_) (fun c_2 => ?_)
    · exact W.vret hx hb hr (fun t ht hW => ⟨⟨cfirst, rfl, (lf_sX2_pointPast_2 code_size cfirst k f_code_size c_1 c_2), gp_end ht hP hD⟩, hS.F ht⟩) hS.2.2 dX2_pointPast_21
    · refine lv_aload_n hx hb dX2_pointPast_11 rfl (lv_at hl 0 rfl) ?_
      refine va_get (D := D) (ci := 2) (v := .ref (xa 40)) (C := RX2) (T := TX2) (N := 4) hx hb hts hiX2 hown hK hP 0 rfl rfl 2 (by decide) (hts (.fieldLink RX2 13 "GhostPane$Code" "first" "[I") (List.mem_of_getElem? (i := 1) rfl)) (fun _ h9 => h9) rfl dX2_pointPast_12 ?_
      refine lv_iload_n hx hb dX2_pointPast_15 rfl (lv_at hl 1 rfl) ?_
      refine lv_aload_n hx hb dX2_pointPast_16 rfl (lv_at hl 0 rfl) ?_
      refine va_get (D := D) (ci := 2) (v := .int code_size) (C := RX2) (T := TX2) (N := 4) hx hb hts hiX2 hown hK hP 0 rfl rfl 0 (by decide) (hts (.fieldLink RX2 19 "GhostPane$Code" "size" "I") (List.mem_of_getElem? (i := 2) rfl)) (fun _ h9 => h9) rfl dX2_pointPast_17 ?_
      refine va_iast hx hb hK hP hD hS 1 1 rfl rfl (gp_in (hi := 127) (lf_sX2_pointPast_3 k c_1 c_2) (by decide)) dX2_pointPast_20 (fun H locs hP hD hS => ?_)
      obtain ⟨cfirst_3, u_4, hP, hD⟩ : ∃ cfirst_3 : Nat → Int32, cfirst_3 = upd cfirst k.toNatClampNeg code_size ∧ va_P D vwCl [(o_code xa code_size), (aI (xa 40) (cy 1) 128 cfirst_3)] H ∧ va_D A [(o_code xa code_size), (aI (xa 40) (cy 1) 128 cfirst_3)] := ⟨_, rfl, hP, hD⟩
      exact W.vret hx hb hr (fun t ht hW => ⟨⟨cfirst_3, rfl, (lf_sX2_pointPast_4 code_size cfirst k cfirst_3 f_code_size c_1 c_2 u_4), gp_end ht hP hD⟩, hS.F ht⟩) hS.2.2 dX2_pointPast_21

theorem lf_sX10_hasCount_1 (walk_last : Int32) (cn : Int32) (f_walk_last : sp_in walk_last 0 240) (c_1 : cn < 0) : ((0 : Int32) = 1 ∧ sp_in cn 0 walk_last) ∨ ((0 : Int32) = 0 ∧ ¬ sp_in cn 0 walk_last) := by
  first | grind | (simp only [sp_in, sp_pl, sp_far, sp_two] at *; grind)
theorem lf_sX10_hasCount_2 (walk_last : Int32) (cn : Int32) (f_walk_last : sp_in walk_last 0 240) (c_1 : ¬ cn < 0) (c_2 : walk_last < cn) : ((0 : Int32) = 1 ∧ sp_in cn 0 walk_last) ∨ ((0 : Int32) = 0 ∧ ¬ sp_in cn 0 walk_last) := by
  first | grind | (simp only [sp_in, sp_pl, sp_far, sp_two] at *; grind)
theorem lf_sX10_hasCount_3 (walk_last : Int32) (cn : Int32) (f_walk_last : sp_in walk_last 0 240) (c_1 : ¬ cn < 0) (c_2 : ¬ walk_last < cn) : ((1 : Int32) = 1 ∧ sp_in cn 0 walk_last) ∨ ((1 : Int32) = 0 ∧ ¬ sp_in cn 0 walk_last) := by
  first | grind | (simp only [sp_in, sp_pl, sp_far, sp_two] at *; grind)
def v_sX10_hasCount : List Cond := .code yX10_hasCount cX10_hasCount 2 (some .boolean) :: (([.fieldLink RX10 28 "GhostPane$Walk" "last" "I"] : List Cond) ++ wsX100)
set_option maxHeartbeats 4000000 in
set_option maxRecDepth 100000 in
theorem sX10_hasCount (l : Launch) (D : va_G) (cy : Nat → ClassId) (sz : Nat) (xa : Nat → Nat) (walk_last : Int32) (walk_frames : Int32) (cn : Int32) (f_walk_last : sp_in walk_last 0 240) (f_walk_frames : sp_in walk_frames 0 80) : Met l yX10_hasCount v_sX10_hasCount ({ frames := 0, cells := 0, slots := 0, locals := 0 } : Room) (va_Pc [.ref (xa 7), .int cn] (gp_B D cy sz [(o_walk xa walk_last walk_frames)])) (va_Qi (fun (r : Int32) (u : Unit) => (r = 0 ∨ r = 1) ∧ ((r = 1 ∧ sp_in cn 0 walk_last) ∨ (r = 0 ∧ ¬ sp_in cn 0 walk_last))) (fun u => gp_E D (va_A [(o_walk xa walk_last walk_frames)] sz) [(o_walk xa walk_last walk_frames)]) (va_A [(o_walk xa walk_last walk_frames)] sz)) 0 0 (va_A [(o_walk xa walk_last walk_frames)] sz) := by
  refine gp_met (Qc := fun A => va_Qi (fun (r : Int32) (u : Unit) => (r = 0 ∨ r = 1) ∧ ((r = 1 ∧ sp_in cn 0 walk_last) ∨ (r = 0 ∧ ¬ sp_in cn 0 walk_last))) (fun u => gp_E D A [(o_walk xa walk_last walk_frames)]) A) (cc := cX10_hasCount) (maxL := 2) (ret := (some .boolean)) (by decide) rfl (Nat.le_of_ble_eq_true rfl) ?_
  intro p e s m below meth c A ls H hx hb hml hr hlocks hts hown hin hK hN hS hP hD hA hl
  have hown : s.vm.findClass RX10 = some m.cls := hown
  have hl : lv_has ls 2 [(0, .ref (xa 7)), (1, .int cn)] := hl
  have hiX10 : ∀ w ∈ u_ws RX10 TX10 7, w ∈ v_sX10_hasCount := fun _ h => List.mem_cons_of_mem _ (List.mem_append_right _ h)
  refine lv_iload_n hx hb dX10_hasCount_0 rfl (lv_at hl 1 rfl) ?_
  refine lv_if_lt (tgt := 16) hx hb dX10_hasCount_1 (by decide) (fun c_1 => ?_) (fun c_1 => ?_)
  · refine lv_iconst (v := 0) hx hb dX10_hasCount_16 (by decide) ?_
    exact W.zret (v := 0) hx hb hr narrow_b0 (fun t ht hW => ⟨⟨0, (), rfl, ⟨(show (0 : Int32) = 0 ∨ (0 : Int32) = 1 by decide), (lf_sX10_hasCount_1 walk_last cn f_walk_last c_1)⟩, gp_end ht hP hD⟩, hS.F ht⟩) hS.2.2 dX10_hasCount_17
  · refine lv_iload_n hx hb dX10_hasCount_4 rfl (lv_at hl 1 rfl) ?_
    refine lv_aload_n hx hb dX10_hasCount_5 rfl (lv_at hl 0 rfl) ?_
    refine va_get (D := D) (ci := 10) (v := .int walk_last) (C := RX10) (T := TX10) (N := 7) hx hb hts hiX10 hown hK hP 0 rfl rfl 0 (by decide) (hts (.fieldLink RX10 28 "GhostPane$Walk" "last" "I") (List.mem_of_getElem? (i := 1) rfl)) (fun _ h9 => h9) rfl dX10_hasCount_6 ?_
    refine lv_icmp_gt (tgt := 16) hx hb dX10_hasCount_9 (by decide) (fun c_2 => ?_) (fun c_2 => ?_)
    · refine lv_iconst (v := 0) hx hb dX10_hasCount_16 (by decide) ?_
      exact W.zret (v := 0) hx hb hr narrow_b0 (fun t ht hW => ⟨⟨0, (), rfl, ⟨(show (0 : Int32) = 0 ∨ (0 : Int32) = 1 by decide), (lf_sX10_hasCount_2 walk_last cn f_walk_last c_1 c_2)⟩, gp_end ht hP hD⟩, hS.F ht⟩) hS.2.2 dX10_hasCount_17
    · refine lv_iconst (v := 1) hx hb dX10_hasCount_12 (by decide) ?_
      refine lv_goto (tgt := 17) hx hb dX10_hasCount_13 (by decide) ?_
      exact W.zret (v := 1) hx hb hr narrow_b1 (fun t ht hW => ⟨⟨1, (), rfl, ⟨(show (1 : Int32) = 0 ∨ (1 : Int32) = 1 by decide), (lf_sX10_hasCount_3 walk_last cn f_walk_last c_1 c_2)⟩, gp_end ht hP hD⟩, hS.F ht⟩) hS.2.2 dX10_hasCount_17

theorem lf_sX10_isAsBefore_1 (walk_last : Int32) (cn : Int32) (f_walk_last : sp_in walk_last 0 240) (q0 : sp_in cn 0 walk_last) (c_1 : ¬ cn ≤ 0) : sp_in cn 0 240 := by
  first | grind | (simp only [sp_in, sp_pl, sp_far, sp_two] at *; grind)
theorem lf_sX10_isAsBefore_2 (walk_last : Int32) (cn : Int32) (f_walk_last : sp_in walk_last 0 240) (q0 : sp_in cn 0 walk_last) (c_1 : ¬ cn ≤ 0) : sp_in (cn - 1) 0 240 := by
  first | grind | (simp only [sp_in, sp_pl, sp_far, sp_two] at *; grind)
theorem lf_sX10_isAsBefore_3 (walk_last : Int32) (cn : Int32) (f_walk_last : sp_in walk_last 0 240) (q0 : sp_in cn 0 walk_last) (c_1 : ¬ cn ≤ 0) : sp_in cn 0 240 := by
  first | grind | (simp only [sp_in, sp_pl, sp_far, sp_two] at *; grind)
theorem lf_sX10_isAsBefore_4 (walk_last : Int32) (cn : Int32) (f_walk_last : sp_in walk_last 0 240) (q0 : sp_in cn 0 walk_last) (c_1 : ¬ cn ≤ 0) : sp_in (cn - 1) 0 240 := by
  first | grind | (simp only [sp_in, sp_pl, sp_far, sp_two] at *; grind)
theorem lf_sX10_isAsBefore_5 (walk_last : Int32) (cn : Int32) (f_walk_last : sp_in walk_last 0 240) (q0 : sp_in cn 0 walk_last) (c_1 : ¬ cn ≤ 0) : sp_in cn 0 240 := by
  first | grind | (simp only [sp_in, sp_pl, sp_far, sp_two] at *; grind)
theorem lf_sX10_isAsBefore_6 (walk_last : Int32) (cn : Int32) (f_walk_last : sp_in walk_last 0 240) (q0 : sp_in cn 0 walk_last) (c_1 : ¬ cn ≤ 0) : sp_in (cn - 1) 0 240 := by
  first | grind | (simp only [sp_in, sp_pl, sp_far, sp_two] at *; grind)
def v_sX10_isAsBefore : List Cond := .code yX10_isAsBefore cX10_isAsBefore 2 (some .boolean) :: (([.fieldLink RX10 9 "GhostPane$Walk" "spot" "[I", .fieldLink RX10 15 "GhostPane$Walk" "height" "[I", .fieldLink RX10 18 "GhostPane$Walk" "lit" "[Z"] : List Cond) ++ wsX100)
set_option maxHeartbeats 4000000 in
set_option maxRecDepth 100000 in
theorem sX10_isAsBefore (l : Launch) (D : va_G) (cy : Nat → ClassId) (sz : Nat) (xa : Nat → Nat) (walk_last : Int32) (walk_frames : Int32) (spot : Nat → Int32) (height : Nat → Int32) (lit : Nat → Int32) (cn : Int32) (f_walk_last : sp_in walk_last 0 240) (f_walk_frames : sp_in walk_frames 0 80) (q0 : sp_in cn 0 walk_last) : Met l yX10_isAsBefore v_sX10_isAsBefore ({ frames := 0, cells := 0, slots := 0, locals := 0 } : Room) (va_Pc [.ref (xa 7), .int cn] (gp_B D cy sz [(o_walk xa walk_last walk_frames), (aI (xa 8) (cy 1) 241 spot), (aI (xa 9) (cy 1) 241 height), (aI (xa 10) (cy 3) 241 lit)])) (va_Qi (fun (r : Int32) (u : Unit) => (r = 0 ∨ r = 1)) (fun u => gp_E D (va_A [(o_walk xa walk_last walk_frames), (aI (xa 8) (cy 1) 241 spot), (aI (xa 9) (cy 1) 241 height), (aI (xa 10) (cy 3) 241 lit)] sz) [(o_walk xa walk_last walk_frames), (aI (xa 8) (cy 1) 241 spot), (aI (xa 9) (cy 1) 241 height), (aI (xa 10) (cy 3) 241 lit)]) (va_A [(o_walk xa walk_last walk_frames), (aI (xa 8) (cy 1) 241 spot), (aI (xa 9) (cy 1) 241 height), (aI (xa 10) (cy 3) 241 lit)] sz)) 0 0 (va_A [(o_walk xa walk_last walk_frames), (aI (xa 8) (cy 1) 241 spot), (aI (xa 9) (cy 1) 241 height), (aI (xa 10) (cy 3) 241 lit)] sz) := by
  refine gp_met (Qc := fun A => va_Qi (fun (r : Int32) (u : Unit) => (r = 0 ∨ r = 1)) (fun u => gp_E D A [(o_walk xa walk_last walk_frames), (aI (xa 8) (cy 1) 241 spot), (aI (xa 9) (cy 1) 241 height), (aI (xa 10) (cy 3) 241 lit)]) A) (cc := cX10_isAsBefore) (maxL := 2) (ret := (some .boolean)) (by decide) rfl (Nat.le_of_ble_eq_true rfl) ?_
  intro p e s m below meth c A ls H hx hb hml hr hlocks hts hown hin hK hN hS hP hD hA hl
  have hown : s.vm.findClass RX10 = some m.cls := hown
  have hl : lv_has ls 2 [(0, .ref (xa 7)), (1, .int cn)] := hl
  have hiX10 : ∀ w ∈ u_ws RX10 TX10 7, w ∈ v_sX10_isAsBefore := fun _ h => List.mem_cons_of_mem _ (List.mem_append_right _ h)
  refine lv_iload_n hx hb dX10_isAsBefore_0 rfl (lv_at hl 1 rfl) ?_
  refine lv_if_le (tgt := 59) hx hb dX10_isAsBefore_1 (by decide) (fun c_1 => ?_) (fun c_1 => ?_)
  · refine lv_iconst (v := 0) hx hb dX10_isAsBefore_59 (by decide) ?_
    exact W.zret (v := 0) hx hb hr narrow_b0 (fun t ht hW => ⟨⟨0, (), rfl, (show (0 : Int32) = 0 ∨ (0 : Int32) = 1 by decide), gp_end ht hP hD⟩, hS.F ht⟩) hS.2.2 dX10_isAsBefore_60
  · refine lv_aload_n hx hb dX10_isAsBefore_4 rfl (lv_at hl 0 rfl) ?_
    refine va_get (D := D) (ci := 10) (v := .ref (xa 8)) (C := RX10) (T := TX10) (N := 7) hx hb hts hiX10 hown hK hP 0 rfl rfl 1 (by decide) (hts (.fieldLink RX10 9 "GhostPane$Walk" "spot" "[I") (List.mem_of_getElem? (i := 1) rfl)) (fun _ h9 => h9) rfl dX10_isAsBefore_5 ?_
    refine lv_iload_n hx hb dX10_isAsBefore_8 rfl (lv_at hl 1 rfl) ?_
    refine va_iald hx hb hK hP 1 1 rfl rfl (gp_in (hi := 240) (lf_sX10_isAsBefore_1 walk_last cn f_walk_last q0 c_1) (by decide)) dX10_isAsBefore_9 ?_
    refine gp_fi (fun y_2 => ?_)
    refine lv_aload_n hx hb dX10_isAsBefore_10 rfl (lv_at hl 0 rfl) ?_
    refine va_get (D := D) (ci := 10) (v := .ref (xa 8)) (C := RX10) (T := TX10) (N := 7) hx hb hts hiX10 hown hK hP 0 rfl rfl 1 (by decide) (hts (.fieldLink RX10 9 "GhostPane$Walk" "spot" "[I") (List.mem_of_getElem? (i := 1) rfl)) (fun _ h9 => h9) rfl dX10_isAsBefore_11 ?_
    refine lv_iload_n hx hb dX10_isAsBefore_14 rfl (lv_at hl 1 rfl) ?_
    refine lv_iconst (v := 1) hx hb dX10_isAsBefore_15 (by decide) ?_
    refine lv_isub hx hb dX10_isAsBefore_16 ?_
    refine va_iald hx hb hK hP 1 1 rfl rfl (gp_in (hi := 240) (lf_sX10_isAsBefore_2 walk_last cn f_walk_last q0 c_1) (by decide)) dX10_isAsBefore_17 ?_
    refine gp_fi (fun y_3 => ?_)
    refine lv_icmp_ne (tgt := 59) hx hb dX10_isAsBefore_18 (by decide) (fun c_4 => ?_) (fun c_4 => ?_)
    · refine lv_iconst (v := 0) hx hb dX10_isAsBefore_59 (by decide) ?_
      exact W.zret (v := 0) hx hb hr narrow_b0 (fun t ht hW => ⟨⟨0, (), rfl, (show (0 : Int32) = 0 ∨ (0 : Int32) = 1 by decide), gp_end ht hP hD⟩, hS.F ht⟩) hS.2.2 dX10_isAsBefore_60
    · refine lv_aload_n hx hb dX10_isAsBefore_21 rfl (lv_at hl 0 rfl) ?_
      refine va_get (D := D) (ci := 10) (v := .ref (xa 9)) (C := RX10) (T := TX10) (N := 7) hx hb hts hiX10 hown hK hP 0 rfl rfl 2 (by decide) (hts (.fieldLink RX10 15 "GhostPane$Walk" "height" "[I") (List.mem_of_getElem? (i := 2) rfl)) (fun _ h9 => h9) rfl dX10_isAsBefore_22 ?_
      refine lv_iload_n hx hb dX10_isAsBefore_25 rfl (lv_at hl 1 rfl) ?_
      refine va_iald hx hb hK hP 2 1 rfl rfl (gp_in (hi := 240) (lf_sX10_isAsBefore_3 walk_last cn f_walk_last q0 c_1) (by decide)) dX10_isAsBefore_26 ?_
      refine gp_fi (fun y_5 => ?_)
      refine lv_aload_n hx hb dX10_isAsBefore_27 rfl (lv_at hl 0 rfl) ?_
      refine va_get (D := D) (ci := 10) (v := .ref (xa 9)) (C := RX10) (T := TX10) (N := 7) hx hb hts hiX10 hown hK hP 0 rfl rfl 2 (by decide) (hts (.fieldLink RX10 15 "GhostPane$Walk" "height" "[I") (List.mem_of_getElem? (i := 2) rfl)) (fun _ h9 => h9) rfl dX10_isAsBefore_28 ?_
      refine lv_iload_n hx hb dX10_isAsBefore_31 rfl (lv_at hl 1 rfl) ?_
      refine lv_iconst (v := 1) hx hb dX10_isAsBefore_32 (by decide) ?_
      refine lv_isub hx hb dX10_isAsBefore_33 ?_
      refine va_iald hx hb hK hP 2 1 rfl rfl (gp_in (hi := 240) (lf_sX10_isAsBefore_4 walk_last cn f_walk_last q0 c_1) (by decide)) dX10_isAsBefore_34 ?_
      refine gp_fi (fun y_6 => ?_)
      refine lv_icmp_ne (tgt := 59) hx hb dX10_isAsBefore_35 (by decide) (fun c_7 => ?_) (fun c_7 => ?_)
      · refine lv_iconst (v := 0) hx hb dX10_isAsBefore_59 (by decide) ?_
        exact W.zret (v := 0) hx hb hr narrow_b0 (fun t ht hW => ⟨⟨0, (), rfl, (show (0 : Int32) = 0 ∨ (0 : Int32) = 1 by decide), gp_end ht hP hD⟩, hS.F ht⟩) hS.2.2 dX10_isAsBefore_60
      · refine lv_aload_n hx hb dX10_isAsBefore_38 rfl (lv_at hl 0 rfl) ?_
        refine va_get (D := D) (ci := 10) (v := .ref (xa 10)) (C := RX10) (T := TX10) (N := 7) hx hb hts hiX10 hown hK hP 0 rfl rfl 3 (by decide) (hts (.fieldLink RX10 18 "GhostPane$Walk" "lit" "[Z") (List.mem_of_getElem? (i := 3) rfl)) (fun _ h9 => h9) rfl dX10_isAsBefore_39 ?_
        refine lv_iload_n hx hb dX10_isAsBefore_42 rfl (lv_at hl 1 rfl) ?_
        refine va_zald hx hb hK hP 3 3 rfl rfl (gp_in (hi := 240) (lf_sX10_isAsBefore_5 walk_last cn f_walk_last q0 c_1) (by decide)) dX10_isAsBefore_43 ?_
        refine gp_fi (fun y_8 => ?_)
        refine lv_aload_n hx hb dX10_isAsBefore_44 rfl (lv_at hl 0 rfl) ?_
        refine va_get (D := D) (ci := 10) (v := .ref (xa 10)) (C := RX10) (T := TX10) (N := 7) hx hb hts hiX10 hown hK hP 0 rfl rfl 3 (by decide) (hts (.fieldLink RX10 18 "GhostPane$Walk" "lit" "[Z") (List.mem_of_getElem? (i := 3) rfl)) (fun _ h9 => h9) rfl dX10_isAsBefore_45 ?_
        refine lv_iload_n hx hb dX10_isAsBefore_48 rfl (lv_at hl 1 rfl) ?_
        refine lv_iconst (v := 1) hx hb dX10_isAsBefore_49 (by decide) ?_
        refine lv_isub hx hb dX10_isAsBefore_50 ?_
        refine va_zald hx hb hK hP 3 3 rfl rfl (gp_in (hi := 240) (lf_sX10_isAsBefore_6 walk_last cn f_walk_last q0 c_1) (by decide)) dX10_isAsBefore_51 ?_
        refine gp_fi (fun y_9 => ?_)
        refine lv_icmp_ne (tgt := 59) hx hb dX10_isAsBefore_52 (by decide) (fun c_10 => ?_) (fun c_10 => ?_)
        · refine lv_iconst (v := 0) hx hb dX10_isAsBefore_59 (by decide) ?_
          exact W.zret (v := 0) hx hb hr narrow_b0 (fun t ht hW => ⟨⟨0, (), rfl, (show (0 : Int32) = 0 ∨ (0 : Int32) = 1 by decide), gp_end ht hP hD⟩, hS.F ht⟩) hS.2.2 dX10_isAsBefore_60
        · refine lv_iconst (v := 1) hx hb dX10_isAsBefore_55 (by decide) ?_
          refine lv_goto (tgt := 60) hx hb dX10_isAsBefore_56 (by decide) ?_
          exact W.zret (v := 1) hx hb hr narrow_b1 (fun t ht hW => ⟨⟨1, (), rfl, (show (1 : Int32) = 0 ∨ (1 : Int32) = 1 by decide), gp_end ht hP hD⟩, hS.F ht⟩) hS.2.2 dX10_isAsBefore_60

def v_sX10_put : List Cond := .code yX10_put cX10_put 3 none :: (([.fieldLink RX10 18 "GhostPane$Walk" "lit" "[Z", .fieldLink RX10 28 "GhostPane$Walk" "last" "I", .fieldLink RX10 9 "GhostPane$Walk" "spot" "[I"] : List Cond) ++ wsX100)
set_option maxHeartbeats 4000000 in
set_option maxRecDepth 100000 in
theorem sX10_put (l : Launch) (D : va_G) (cy : Nat → ClassId) (sz : Nat) (xa : Nat → Nat) (walk_last : Int32) (walk_frames : Int32) (spot : Nat → Int32) (lit : Nat → Int32) (newSpot : Int32) (light : Int32) (f_walk_last : sp_in walk_last 0 240) (f_walk_frames : sp_in walk_frames 0 80) : Met l yX10_put v_sX10_put ({ frames := 0, cells := 0, slots := 0, locals := 0 } : Room) (va_Pc [.ref (xa 7), .int newSpot, .int light] (gp_B D cy sz [(o_walk xa walk_last walk_frames), (aI (xa 8) (cy 1) 241 spot), (aI (xa 10) (cy 3) 241 lit)])) (va_Qv (fun (u : (Nat → Int32) × (Nat → Int32)) => True) (fun u => gp_E D (va_A [(o_walk xa walk_last walk_frames), (aI (xa 8) (cy 1) 241 spot), (aI (xa 10) (cy 3) 241 lit)] sz) [(o_walk xa walk_last walk_frames), (aI (xa 8) (cy 1) 241 u.1), (aI (xa 10) (cy 3) 241 u.2)]) (va_A [(o_walk xa walk_last walk_frames), (aI (xa 8) (cy 1) 241 spot), (aI (xa 10) (cy 3) 241 lit)] sz)) 0 0 (va_A [(o_walk xa walk_last walk_frames), (aI (xa 8) (cy 1) 241 spot), (aI (xa 10) (cy 3) 241 lit)] sz) := by
  refine gp_met (Qc := fun A => va_Qv (fun (u : (Nat → Int32) × (Nat → Int32)) => True) (fun u => gp_E D A [(o_walk xa walk_last walk_frames), (aI (xa 8) (cy 1) 241 u.1), (aI (xa 10) (cy 3) 241 u.2)]) A) (cc := cX10_put) (maxL := 3) (ret := none) (by decide) rfl (Nat.le_of_ble_eq_true rfl) ?_
  intro p e s m below meth c A ls H hx hb hml hr hlocks hts hown hin hK hN hS hP hD hA hl
  have hown : s.vm.findClass RX10 = some m.cls := hown
  have hl : lv_has ls 3 [(0, .ref (xa 7)), (1, .int newSpot), (2, .int light)] := hl
  have hiX10 : ∀ w ∈ u_ws RX10 TX10 7, w ∈ v_sX10_put := fun _ h => List.mem_cons_of_mem _ (List.mem_append_right _ h)
  have cut15 : ∀ (sp : Nat → Int32) (H : Heap) (locs : List Loc) (ls : Array Slot), va_P D vwCl [(o_walk xa walk_last walk_frames), (aI (xa 8) (cy 1) 241 sp), (aI (xa 10) (cy 3) 241 lit)] H → va_D A [(o_walk xa walk_last walk_frames), (aI (xa 8) (cy 1) 241 sp), (aI (xa 10) (cy 3) 241 lit)] → va_S A s.heap H locs → lv_has ls 3 [(0, .ref (xa 7)), (1, .int newSpot), (2, .int light)] → W p l e (headSpec v_sX10_put (({ frames := 0, cells := 0, slots := 0, locals := 0 } : Room))).room s m [.ref (xa 7), .int newSpot, .int light].toArray below meth c H locs 0 0 (MQ below (va_Qv (fun (u : (Nat → Int32) × (Nat → Int32)) => True) (fun u => gp_E D A [(o_walk xa walk_last walk_frames), (aI (xa 8) (cy 1) 241 u.1), (aI (xa 10) (cy 3) 241 u.2)]) A) [.ref (xa 7), .int newSpot, .int light].toArray s 0 0 A) (F0 m 15 ls []) := by
    intro sp H locs ls  hP hD hS hl
    refine lv_iload_n hx hb dX10_put_15 rfl (lv_at hl 2 rfl) ?_
    refine lv_iconst (v := (-1)) hx hb dX10_put_16 (by decide) ?_
    refine lv_icmp_eq (tgt := 39) hx hb dX10_put_17 (by decide) (fun c_1 => ?_) (fun c_1 => ?_)
    · exact W.vret hx hb hr (fun t ht hW => ⟨⟨⟨sp, lit⟩, rfl, trivial, gp_end ht hP hD⟩, hS.F ht⟩) hS.2.2 dX10_put_39
    · refine lv_aload_n hx hb dX10_put_20 rfl (lv_at hl 0 rfl) ?_
      refine va_get (D := D) (ci := 10) (v := .ref (xa 10)) (C := RX10) (T := TX10) (N := 7) hx hb hts hiX10 hown hK hP 0 rfl rfl 3 (by decide) (hts (.fieldLink RX10 18 "GhostPane$Walk" "lit" "[Z") (List.mem_of_getElem? (i := 1) rfl)) (fun _ h9 => h9) rfl dX10_put_21 ?_
      refine lv_aload_n hx hb dX10_put_24 rfl (lv_at hl 0 rfl) ?_
      refine va_get (D := D) (ci := 10) (v := .int walk_last) (C := RX10) (T := TX10) (N := 7) hx hb hts hiX10 hown hK hP 0 rfl rfl 0 (by decide) (hts (.fieldLink RX10 28 "GhostPane$Walk" "last" "I") (List.mem_of_getElem? (i := 2) rfl)) (fun _ h9 => h9) rfl dX10_put_25 ?_
      refine lv_iload_n hx hb dX10_put_28 rfl (lv_at hl 2 rfl) ?_
      refine lv_iconst (v := 1) hx hb dX10_put_29 (by decide) ?_
      refine lv_icmp_ne (tgt := 37) hx hb dX10_put_30 (by decide) (fun c_2 => ?_) (fun c_2 => ?_)
      · refine lv_iconst (v := 0) hx hb dX10_put_37 (by decide) ?_
        refine va_zast hx hb hK hP hD hS 2 3 rfl rfl (gp_in (hi := 240) f_walk_last (by decide)) dX10_put_38 (fun H locs hP hD hS => ?_)
        obtain ⟨lit_3, hP, hD⟩ : ∃ lit_3 : Nat → Int32, va_P D vwCl [(o_walk xa walk_last walk_frames), (aI (xa 8) (cy 1) 241 sp), (aI (xa 10) (cy 3) 241 lit_3)] H ∧ va_D A [(o_walk xa walk_last walk_frames), (aI (xa 8) (cy 1) 241 sp), (aI (xa 10) (cy 3) 241 lit_3)] := ⟨_, hP, hD⟩
        exact W.vret hx hb hr (fun t ht hW => ⟨⟨⟨sp, lit_3⟩, rfl, trivial, gp_end ht hP hD⟩, hS.F ht⟩) hS.2.2 dX10_put_39
      · refine lv_iconst (v := 1) hx hb dX10_put_33 (by decide) ?_
        refine lv_goto (tgt := 38) hx hb dX10_put_34 (by decide) ?_
        refine va_zast hx hb hK hP hD hS 2 3 rfl rfl (gp_in (hi := 240) f_walk_last (by decide)) dX10_put_38 (fun H locs hP hD hS => ?_)
        obtain ⟨lit_4, hP, hD⟩ : ∃ lit_4 : Nat → Int32, va_P D vwCl [(o_walk xa walk_last walk_frames), (aI (xa 8) (cy 1) 241 sp), (aI (xa 10) (cy 3) 241 lit_4)] H ∧ va_D A [(o_walk xa walk_last walk_frames), (aI (xa 8) (cy 1) 241 sp), (aI (xa 10) (cy 3) 241 lit_4)] := ⟨_, hP, hD⟩
        exact W.vret hx hb hr (fun t ht hW => ⟨⟨⟨sp, lit_4⟩, rfl, trivial, gp_end ht hP hD⟩, hS.F ht⟩) hS.2.2 dX10_put_39
  refine lv_iload_n hx hb dX10_put_0 rfl (lv_at hl 1 rfl) ?_
  refine lv_iconst (v := (-1)) hx hb dX10_put_1 (by decide) ?_
  refine lv_icmp_eq (tgt := 15) hx hb dX10_put_2 (by decide) (fun c_5 => ?_) (fun c_5 => ?_)
  · exact cut15 spot H [] ls hP hD hS (lv_sub hl [0, 1, 2] rfl)
  · refine lv_aload_n hx hb dX10_put_5 rfl (lv_at hl 0 rfl) ?_
    refine va_get (D := D) (ci := 10) (v := .ref (xa 8)) (C := RX10) (T := TX10) (N := 7) hx hb hts hiX10 hown hK hP 0 rfl rfl 1 (by decide) (hts (.fieldLink RX10 9 "GhostPane$Walk" "spot" "[I") (List.mem_of_getElem? (i := 3) rfl)) (fun _ h9 => h9) rfl dX10_put_6 ?_
    refine lv_aload_n hx hb dX10_put_9 rfl (lv_at hl 0 rfl) ?_
    refine va_get (D := D) (ci := 10) (v := .int walk_last) (C := RX10) (T := TX10) (N := 7) hx hb hts hiX10 hown hK hP 0 rfl rfl 0 (by decide) (hts (.fieldLink RX10 28 "GhostPane$Walk" "last" "I") (List.mem_of_getElem? (i := 2) rfl)) (fun _ h9 => h9) rfl dX10_put_10 ?_
    refine lv_iload_n hx hb dX10_put_13 rfl (lv_at hl 1 rfl) ?_
    refine va_iast hx hb hK hP hD hS 1 1 rfl rfl (gp_in (hi := 240) f_walk_last (by decide)) dX10_put_14 (fun H locs hP hD hS => ?_)
    obtain ⟨spot_6, hP, hD⟩ : ∃ spot_6 : Nat → Int32, va_P D vwCl [(o_walk xa walk_last walk_frames), (aI (xa 8) (cy 1) 241 spot_6), (aI (xa 10) (cy 3) 241 lit)] H ∧ va_D A [(o_walk xa walk_last walk_frames), (aI (xa 8) (cy 1) 241 spot_6), (aI (xa 10) (cy 3) 241 lit)] := ⟨_, hP, hD⟩
    exact cut15 spot_6 H locs ls hP hD hS (lv_sub hl [0, 1, 2] rfl)

theorem lf_sX10_addCount_1 (walk_last : Int32) (f_walk_last : sp_in walk_last 0 240) (c_1 : ¬ 240 ≤ walk_last) : sp_in (walk_last + 1) 0 240 := by
  first | grind | (simp only [sp_in, sp_pl, sp_far, sp_two] at *; grind)
theorem lf_sX10_addCount_2 (walk_last : Int32) (f_walk_last : sp_in walk_last 0 240) (c_1 : ¬ 240 ≤ walk_last) : sp_in (walk_last + 1) 0 240 := by
  first | grind | (simp only [sp_in, sp_pl, sp_far, sp_two] at *; grind)
theorem lf_sX10_addCount_3 (walk_last : Int32) (f_walk_last : sp_in walk_last 0 240) (c_1 : ¬ 240 ≤ walk_last) : sp_in ((walk_last + 1) - 1) 0 240 := by
  first | grind | (simp only [sp_in, sp_pl, sp_far, sp_two] at *; grind)
theorem lf_sX10_addCount_4 (walk_last : Int32) (f_walk_last : sp_in walk_last 0 240) (c_1 : ¬ 240 ≤ walk_last) : sp_in (walk_last + 1) 0 240 := by
  first | grind | (simp only [sp_in, sp_pl, sp_far, sp_two] at *; grind)
theorem lf_sX10_addCount_5 (walk_last : Int32) (f_walk_last : sp_in walk_last 0 240) (c_1 : ¬ 240 ≤ walk_last) : sp_in (walk_last + 1) 0 240 := by
  first | grind | (simp only [sp_in, sp_pl, sp_far, sp_two] at *; grind)
def v_sX10_addCount : List Cond := .code yX10_addCount cX10_addCount 3 none :: (([.fieldLink RX10 28 "GhostPane$Walk" "last" "I", .fieldLink RX10 9 "GhostPane$Walk" "spot" "[I", .fieldLink RX10 15 "GhostPane$Walk" "height" "[I", .fieldLink RX10 18 "GhostPane$Walk" "lit" "[Z"] : List Cond) ++ wsX100)
set_option maxHeartbeats 4000000 in
set_option maxRecDepth 100000 in
theorem sX10_addCount (l : Launch) (D : va_G) (cy : Nat → ClassId) (sz : Nat) (xa : Nat → Nat) (walk_last : Int32) (walk_frames : Int32) (spot : Nat → Int32) (height : Nat → Int32) (lit : Nat → Int32) (newSpot : Int32) (newHeight : Int32) (f_walk_last : sp_in walk_last 0 240) (f_walk_frames : sp_in walk_frames 0 80) : Met l yX10_addCount v_sX10_addCount ({ frames := 0, cells := 0, slots := 0, locals := 0 } : Room) (va_Pc [.ref (xa 7), .int newSpot, .int newHeight] (gp_B D cy sz [(o_walk xa walk_last walk_frames), (aI (xa 8) (cy 1) 241 spot), (aI (xa 9) (cy 1) 241 height), (aI (xa 10) (cy 3) 241 lit)])) (va_Qv (fun (u : (Int32) × (Nat → Int32) × (Nat → Int32) × (Nat → Int32)) => (sp_in u.1 0 240)) (fun u => gp_E D (va_A [(o_walk xa walk_last walk_frames), (aI (xa 8) (cy 1) 241 spot), (aI (xa 9) (cy 1) 241 height), (aI (xa 10) (cy 3) 241 lit)] sz) [(o_walk xa u.1 walk_frames), (aI (xa 8) (cy 1) 241 u.2.1), (aI (xa 9) (cy 1) 241 u.2.2.1), (aI (xa 10) (cy 3) 241 u.2.2.2)]) (va_A [(o_walk xa walk_last walk_frames), (aI (xa 8) (cy 1) 241 spot), (aI (xa 9) (cy 1) 241 height), (aI (xa 10) (cy 3) 241 lit)] sz)) 0 0 (va_A [(o_walk xa walk_last walk_frames), (aI (xa 8) (cy 1) 241 spot), (aI (xa 9) (cy 1) 241 height), (aI (xa 10) (cy 3) 241 lit)] sz) := by
  refine gp_met (Qc := fun A => va_Qv (fun (u : (Int32) × (Nat → Int32) × (Nat → Int32) × (Nat → Int32)) => (sp_in u.1 0 240)) (fun u => gp_E D A [(o_walk xa u.1 walk_frames), (aI (xa 8) (cy 1) 241 u.2.1), (aI (xa 9) (cy 1) 241 u.2.2.1), (aI (xa 10) (cy 3) 241 u.2.2.2)]) A) (cc := cX10_addCount) (maxL := 3) (ret := none) (by decide) rfl (Nat.le_of_ble_eq_true rfl) ?_
  intro p e s m below meth c A ls H hx hb hml hr hlocks hts hown hin hK hN hS hP hD hA hl
  have hown : s.vm.findClass RX10 = some m.cls := hown
  have hl : lv_has ls 3 [(0, .ref (xa 7)), (1, .int newSpot), (2, .int newHeight)] := hl
  have hiX10 : ∀ w ∈ u_ws RX10 TX10 7, w ∈ v_sX10_addCount := fun _ h => List.mem_cons_of_mem _ (List.mem_append_right _ h)
  refine lv_aload_n hx hb dX10_addCount_0 rfl (lv_at hl 0 rfl) ?_
  refine va_get (D := D) (ci := 10) (v := .int walk_last) (C := RX10) (T := TX10) (N := 7) hx hb hts hiX10 hown hK hP 0 rfl rfl 0 (by decide) (hts (.fieldLink RX10 28 "GhostPane$Walk" "last" "I") (List.mem_of_getElem? (i := 1) rfl)) (fun _ h9 => h9) rfl dX10_addCount_1 ?_
  refine lv_sipush (v := 240) hx hb dX10_addCount_4 (by decide) ?_
  refine lv_icmp_ge (tgt := 60) hx hb dX10_addCount_7 (by decide) (fun c_1 => ?_) (fun c_1 => ?_)
  · exact W.vret hx hb hr (fun t ht hW => ⟨⟨⟨walk_last, spot, height, lit⟩, rfl, f_walk_last, gp_end ht hP hD⟩, hS.F ht⟩) hS.2.2 dX10_addCount_60
  · refine lv_aload_n hx hb dX10_addCount_10 rfl (lv_at hl 0 rfl) ?_
    refine lv_dup hx hb dX10_addCount_11 rfl ?_
    refine va_get (D := D) (ci := 10) (v := .int walk_last) (C := RX10) (T := TX10) (N := 7) hx hb hts hiX10 hown hK hP 0 rfl rfl 0 (by decide) (hts (.fieldLink RX10 28 "GhostPane$Walk" "last" "I") (List.mem_of_getElem? (i := 1) rfl)) (fun _ h9 => h9) rfl dX10_addCount_12 ?_
    refine lv_iconst (v := 1) hx hb dX10_addCount_15 (by decide) ?_
    refine lv_iadd hx hb dX10_addCount_16 ?_
    refine va_put (D := D) (ci := 10) (v := .int (walk_last + 1)) (ty := .int) (C := RX10) (T := TX10) (N := 7) hx hb hts hiX10 tyX10 tyX10_ok nmX10 hown hK hP hD hS 0 rfl rfl 0 (by decide) (hts (.fieldLink RX10 28 "GhostPane$Walk" "last" "I") (List.mem_of_getElem? (i := 1) rfl)) (fun _ h9 => h9) rfl (by decide +kernel) rfl rfl (Nat.le_of_ble_eq_true rfl) dX10_addCount_17 (fun H locs hP hD hS => ?_)
    have hP : va_P D vwCl [(o_walk xa (walk_last + 1) walk_frames), (aI (xa 8) (cy 1) 241 spot), (aI (xa 9) (cy 1) 241 height), (aI (xa 10) (cy 3) 241 lit)] H := hP
    have hD := gp_sD hP hD
    refine lv_aload_n hx hb dX10_addCount_20 rfl (lv_at hl 0 rfl) ?_
    refine va_get (D := D) (ci := 10) (v := .ref (xa 8)) (C := RX10) (T := TX10) (N := 7) hx hb hts hiX10 hown hK hP 0 rfl rfl 1 (by decide) (hts (.fieldLink RX10 9 "GhostPane$Walk" "spot" "[I") (List.mem_of_getElem? (i := 2) rfl)) (fun _ h9 => h9) rfl dX10_addCount_21 ?_
    refine lv_aload_n hx hb dX10_addCount_24 rfl (lv_at hl 0 rfl) ?_
    refine va_get (D := D) (ci := 10) (v := .int (walk_last + 1)) (C := RX10) (T := TX10) (N := 7) hx hb hts hiX10 hown hK hP 0 rfl rfl 0 (by decide) (hts (.fieldLink RX10 28 "GhostPane$Walk" "last" "I") (List.mem_of_getElem? (i := 1) rfl)) (fun _ h9 => h9) rfl dX10_addCount_25 ?_
    refine lv_iload_n hx hb dX10_addCount_28 rfl (lv_at hl 1 rfl) ?_
    refine va_iast hx hb hK hP hD hS 1 1 rfl rfl (gp_in (hi := 240) (lf_sX10_addCount_1 walk_last f_walk_last c_1) (by decide)) dX10_addCount_29 (fun H locs hP hD hS => ?_)
    obtain ⟨spot_2, hP, hD⟩ : ∃ spot_2 : Nat → Int32, va_P D vwCl [(o_walk xa (walk_last + 1) walk_frames), (aI (xa 8) (cy 1) 241 spot_2), (aI (xa 9) (cy 1) 241 height), (aI (xa 10) (cy 3) 241 lit)] H ∧ va_D A [(o_walk xa (walk_last + 1) walk_frames), (aI (xa 8) (cy 1) 241 spot_2), (aI (xa 9) (cy 1) 241 height), (aI (xa 10) (cy 3) 241 lit)] := ⟨_, hP, hD⟩
    refine lv_aload_n hx hb dX10_addCount_30 rfl (lv_at hl 0 rfl) ?_
    refine va_get (D := D) (ci := 10) (v := .ref (xa 9)) (C := RX10) (T := TX10) (N := 7) hx hb hts hiX10 hown hK hP 0 rfl rfl 2 (by decide) (hts (.fieldLink RX10 15 "GhostPane$Walk" "height" "[I") (List.mem_of_getElem? (i := 3) rfl)) (fun _ h9 => h9) rfl dX10_addCount_31 ?_
    refine lv_aload_n hx hb dX10_addCount_34 rfl (lv_at hl 0 rfl) ?_
    refine va_get (D := D) (ci := 10) (v := .int (walk_last + 1)) (C := RX10) (T := TX10) (N := 7) hx hb hts hiX10 hown hK hP 0 rfl rfl 0 (by decide) (hts (.fieldLink RX10 28 "GhostPane$Walk" "last" "I") (List.mem_of_getElem? (i := 1) rfl)) (fun _ h9 => h9) rfl dX10_addCount_35 ?_
    refine lv_iload_n hx hb dX10_addCount_38 rfl (lv_at hl 2 rfl) ?_
    refine va_iast hx hb hK hP hD hS 2 1 rfl rfl (gp_in (hi := 240) (lf_sX10_addCount_2 walk_last f_walk_last c_1) (by decide)) dX10_addCount_39 (fun H locs hP hD hS => ?_)
    obtain ⟨height_3, hP, hD⟩ : ∃ height_3 : Nat → Int32, va_P D vwCl [(o_walk xa (walk_last + 1) walk_frames), (aI (xa 8) (cy 1) 241 spot_2), (aI (xa 9) (cy 1) 241 height_3), (aI (xa 10) (cy 3) 241 lit)] H ∧ va_D A [(o_walk xa (walk_last + 1) walk_frames), (aI (xa 8) (cy 1) 241 spot_2), (aI (xa 9) (cy 1) 241 height_3), (aI (xa 10) (cy 3) 241 lit)] := ⟨_, hP, hD⟩
    refine lv_aload_n hx hb dX10_addCount_40 rfl (lv_at hl 0 rfl) ?_
    refine va_get (D := D) (ci := 10) (v := .ref (xa 10)) (C := RX10) (T := TX10) (N := 7) hx hb hts hiX10 hown hK hP 0 rfl rfl 3 (by decide) (hts (.fieldLink RX10 18 "GhostPane$Walk" "lit" "[Z") (List.mem_of_getElem? (i := 4) rfl)) (fun _ h9 => h9) rfl dX10_addCount_41 ?_
    refine lv_aload_n hx hb dX10_addCount_44 rfl (lv_at hl 0 rfl) ?_
    refine va_get (D := D) (ci := 10) (v := .int (walk_last + 1)) (C := RX10) (T := TX10) (N := 7) hx hb hts hiX10 hown hK hP 0 rfl rfl 0 (by decide) (hts (.fieldLink RX10 28 "GhostPane$Walk" "last" "I") (List.mem_of_getElem? (i := 1) rfl)) (fun _ h9 => h9) rfl dX10_addCount_45 ?_
    refine lv_aload_n hx hb dX10_addCount_48 rfl (lv_at hl 0 rfl) ?_
    refine va_get (D := D) (ci := 10) (v := .ref (xa 10)) (C := RX10) (T := TX10) (N := 7) hx hb hts hiX10 hown hK hP 0 rfl rfl 3 (by decide) (hts (.fieldLink RX10 18 "GhostPane$Walk" "lit" "[Z") (List.mem_of_getElem? (i := 4) rfl)) (fun _ h9 => h9) rfl dX10_addCount_49 ?_
    refine lv_aload_n hx hb dX10_addCount_52 rfl (lv_at hl 0 rfl) ?_
    refine va_get (D := D) (ci := 10) (v := .int (walk_last + 1)) (C := RX10) (T := TX10) (N := 7) hx hb hts hiX10 hown hK hP 0 rfl rfl 0 (by decide) (hts (.fieldLink RX10 28 "GhostPane$Walk" "last" "I") (List.mem_of_getElem? (i := 1) rfl)) (fun _ h9 => h9) rfl dX10_addCount_53 ?_
    refine lv_iconst (v := 1) hx hb dX10_addCount_56 (by decide) ?_
    refine lv_isub hx hb dX10_addCount_57 ?_
    refine va_zald hx hb hK hP 3 3 rfl rfl (gp_in (hi := 240) (lf_sX10_addCount_3 walk_last f_walk_last c_1) (by decide)) dX10_addCount_58 ?_
    refine gp_fi (fun y_4 => ?_)
    refine va_zast hx hb hK hP hD hS 3 3 rfl rfl (gp_in (hi := 240) (lf_sX10_addCount_4 walk_last f_walk_last c_1) (by decide)) dX10_addCount_59 (fun H locs hP hD hS => ?_)
    obtain ⟨lit_5, hP, hD⟩ : ∃ lit_5 : Nat → Int32, va_P D vwCl [(o_walk xa (walk_last + 1) walk_frames), (aI (xa 8) (cy 1) 241 spot_2), (aI (xa 9) (cy 1) 241 height_3), (aI (xa 10) (cy 3) 241 lit_5)] H ∧ va_D A [(o_walk xa (walk_last + 1) walk_frames), (aI (xa 8) (cy 1) 241 spot_2), (aI (xa 9) (cy 1) 241 height_3), (aI (xa 10) (cy 3) 241 lit_5)] := ⟨_, hP, hD⟩
    exact W.vret hx hb hr (fun t ht hW => ⟨⟨⟨(walk_last + 1), spot_2, height_3, lit_5⟩, rfl, (lf_sX10_addCount_5 walk_last f_walk_last c_1), gp_end ht hP hD⟩, hS.F ht⟩) hS.2.2 dX10_addCount_60

theorem lf_sX10_rise_1 (counts : Int32) (k : Int32) (q0 : sp_in counts (-1) 200) (h2 : sp_in k 1 300) (c_2 : ¬ counts < k) (c_3 : ¬ counts ≤ 0) : 0 < counts := by
  first | grind | (simp only [sp_in, sp_pl, sp_far, sp_two] at *; grind)
theorem lf_sX10_rise_2 (counts : Int32) (k : Int32) (q0 : sp_in counts (-1) 200) (h2 : sp_in k 1 300) (c_2 : ¬ counts < k) (c_3 : ¬ counts ≤ 0) : counts ≤ 200 := by
  first | grind | (simp only [sp_in, sp_pl, sp_far, sp_two] at *; grind)
theorem lf_sX10_rise_3 (counts : Int32) (k : Int32) (q0 : sp_in counts (-1) 200) (h2 : sp_in k 1 300) (c_2 : ¬ counts < k) (c_3 : ¬ counts ≤ 0) : sp_in (k + 1) 1 300 := by
  first | grind | (simp only [sp_in, sp_pl, sp_far, sp_two] at *; grind)
theorem lf_sX10_rise_4 (counts : Int32) (k : Int32) (q0 : sp_in counts (-1) 200) (h2 : sp_in k 1 300) (c_2 : ¬ counts < k) (c_3 : ¬ counts ≤ 0) : k < 300 := by
  first | grind | (simp only [sp_in, sp_pl, sp_far, sp_two] at *; grind)
def v_sX10_rise : List Cond := .code yX10_rise cX10_rise 5 none :: (([.fieldLink RX10 9 "GhostPane$Walk" "spot" "[I", .fieldLink RX10 28 "GhostPane$Walk" "last" "I", .code yX10_addCount cX10_addCount 3 none, .fieldLink RX10 15 "GhostPane$Walk" "height" "[I", .fieldLink RX10 18 "GhostPane$Walk" "lit" "[Z", .methodLink RX10 77 yX10_addCount, .instanceMethod yX10_addCount, .selects RX10 yX10_addCount yX10_addCount, .initialized RX10] : List Cond) ++ wsX100)
set_option maxRecDepth 20000 in
theorem gg_sX10_rise_sX10_addCount : GoodIn v_sX10_rise v_sX10_addCount := goodIn_ca (goodIn_r (.code yX10_addCount cX10_addCount 3 none :: [.fieldLink RX10 28 "GhostPane$Walk" "last" "I", .fieldLink RX10 9 "GhostPane$Walk" "spot" "[I", .fieldLink RX10 15 "GhostPane$Walk" "height" "[I", .fieldLink RX10 18 "GhostPane$Walk" "lit" "[Z"]) [3, 2, 1, 4, 5] (by first | rfl | decide +kernel) (by decide +kernel)) (goodIn_sub (fun _ h => List.mem_cons_of_mem _ (List.mem_append_right _ h)) gwX10)
set_option maxRecDepth 20000 in
theorem g_sX10_rise_sX10_addCount_0 : GoodIn v_sX10_rise (wsV RX10 77 RX10 yX10_addCount v_sX10_addCount) := goodIn_app (goodIn_r [.methodLink RX10 77 yX10_addCount, .instanceMethod yX10_addCount, .selects RX10 yX10_addCount yX10_addCount, .initialized RX10] [6, 7, 8, 9] rfl (by decide +kernel)) gg_sX10_rise_sX10_addCount
set_option maxHeartbeats 4000000 in
set_option maxRecDepth 100000 in
theorem sX10_rise (l : Launch) (D : va_G) (cy : Nat → ClassId) (sz : Nat) (xa : Nat → Nat) (walk_last : Int32) (walk_frames : Int32) (spot : Nat → Int32) (height : Nat → Int32) (lit : Nat → Int32) (top : Int32) (counts : Int32) (f_walk_last : sp_in walk_last 0 240) (f_walk_frames : sp_in walk_frames 0 80) (q0 : sp_in counts (-1) 200) : Met l yX10_rise v_sX10_rise ({ frames := 1, cells := 0, slots := 0, locals := 22 } : Room) (va_Pc [.ref (xa 7), .int top, .int counts] (gp_B D cy sz [(o_walk xa walk_last walk_frames), (aI (xa 8) (cy 1) 241 spot), (aI (xa 9) (cy 1) 241 height), (aI (xa 10) (cy 3) 241 lit)])) (va_Qv (fun (u : (Int32) × (Nat → Int32) × (Nat → Int32) × (Nat → Int32)) => (sp_in u.1 0 240)) (fun u => gp_E D (va_A [(o_walk xa walk_last walk_frames), (aI (xa 8) (cy 1) 241 spot), (aI (xa 9) (cy 1) 241 height), (aI (xa 10) (cy 3) 241 lit)] sz) [(o_walk xa u.1 walk_frames), (aI (xa 8) (cy 1) 241 u.2.1), (aI (xa 9) (cy 1) 241 u.2.2.1), (aI (xa 10) (cy 3) 241 u.2.2.2)]) (va_A [(o_walk xa walk_last walk_frames), (aI (xa 8) (cy 1) 241 spot), (aI (xa 9) (cy 1) 241 height), (aI (xa 10) (cy 3) 241 lit)] sz)) 0 0 (va_A [(o_walk xa walk_last walk_frames), (aI (xa 8) (cy 1) 241 spot), (aI (xa 9) (cy 1) 241 height), (aI (xa 10) (cy 3) 241 lit)] sz) := by
  refine gp_met (Qc := fun A => va_Qv (fun (u : (Int32) × (Nat → Int32) × (Nat → Int32) × (Nat → Int32)) => (sp_in u.1 0 240)) (fun u => gp_E D A [(o_walk xa u.1 walk_frames), (aI (xa 8) (cy 1) 241 u.2.1), (aI (xa 9) (cy 1) 241 u.2.2.1), (aI (xa 10) (cy 3) 241 u.2.2.2)]) A) (cc := cX10_rise) (maxL := 5) (ret := none) (by decide) rfl (Nat.le_of_ble_eq_true rfl) ?_
  intro p e s m below meth c A ls H hx hb hml hr hlocks hts hown hin hK hN hS hP hD hA hl
  have hown : s.vm.findClass RX10 = some m.cls := hown
  have hl : lv_has ls 5 [(0, .ref (xa 7)), (1, .int top), (2, .int counts)] := hl
  have hiX10 : ∀ w ∈ u_ws RX10 TX10 7, w ∈ v_sX10_rise := fun _ h => List.mem_cons_of_mem _ (List.mem_append_right _ h)
  refine lv_aload_n hx hb dX10_rise_0 rfl (lv_at hl 0 rfl) ?_
  refine va_get (D := D) (ci := 10) (v := .ref (xa 8)) (C := RX10) (T := TX10) (N := 7) hx hb hts hiX10 hown hK hP 0 rfl rfl 1 (by decide) (hts (.fieldLink RX10 9 "GhostPane$Walk" "spot" "[I") (List.mem_of_getElem? (i := 1) rfl)) (fun _ h9 => h9) rfl dX10_rise_1 ?_
  refine lv_aload_n hx hb dX10_rise_4 rfl (lv_at hl 0 rfl) ?_
  refine va_get (D := D) (ci := 10) (v := .int walk_last) (C := RX10) (T := TX10) (N := 7) hx hb hts hiX10 hown hK hP 0 rfl rfl 0 (by decide) (hts (.fieldLink RX10 28 "GhostPane$Walk" "last" "I") (List.mem_of_getElem? (i := 2) rfl)) (fun _ h9 => h9) rfl dX10_rise_5 ?_
  refine va_iald hx hb hK hP 1 1 rfl rfl (gp_in (hi := 240) f_walk_last (by decide)) dX10_rise_8 ?_
  refine gp_fi (fun y_1 => ?_)
  refine lv_istore_n (lv' := [(3, .int y_1), (0, .ref (xa 7)), (1, .int top), (2, .int counts)]) hx hb dX10_rise_9 rfl hl (by decide) rfl (fun ls hl => ?_)
  refine lv_iconst (v := 1) hx hb dX10_rise_10 (by decide) ?_
  refine lv_istore (lv' := [(4, .int 1), (3, .int y_1), (0, .ref (xa 7)), (1, .int top), (2, .int counts)]) hx hb dX10_rise_11 hl (by decide) rfl (fun ls hl => ?_)
  have key13 : ∀ (fu : Nat) (k : Int32) (wl : Int32) (sp : Nat → Int32) (he : Nat → Int32) (li : Nat → Int32) (H : Heap) (locs : List Loc) (ls : Array Slot), (h1 : sp_in wl 0 240) → (h2 : sp_in k 1 300) → (300 - k.toInt).toNat < fu → va_P D vwCl [(o_walk xa wl walk_frames), (aI (xa 8) (cy 1) 241 sp), (aI (xa 9) (cy 1) 241 he), (aI (xa 10) (cy 3) 241 li)] H → va_D A [(o_walk xa wl walk_frames), (aI (xa 8) (cy 1) 241 sp), (aI (xa 9) (cy 1) 241 he), (aI (xa 10) (cy 3) 241 li)] → va_S A s.heap H locs → lv_has ls 5 [(4, .int k), (3, .int y_1), (0, .ref (xa 7)), (1, .int top), (2, .int counts)] → W p l e (headSpec v_sX10_rise (({ frames := 1, cells := 0, slots := 0, locals := 22 } : Room))).room s m [.ref (xa 7), .int top, .int counts].toArray below meth c H locs 0 0 (MQ below (va_Qv (fun (u : (Int32) × (Nat → Int32) × (Nat → Int32) × (Nat → Int32)) => (sp_in u.1 0 240)) (fun u => gp_E D A [(o_walk xa u.1 walk_frames), (aI (xa 8) (cy 1) 241 u.2.1), (aI (xa 9) (cy 1) 241 u.2.2.1), (aI (xa 10) (cy 3) 241 u.2.2.2)]) A) [.ref (xa 7), .int top, .int counts].toArray s 0 0 A) (F0 m 13 ls []) := by
    intro fu
    induction fu with
    | zero => intro k wl sp he li H locs ls h1 h2 hfu; exact absurd hfu (Nat.not_lt_zero _)
    | succ fu ih =>
      intro k wl sp he li H locs ls h1 h2 hfu hP hD hS hl
      refine lv_iload hx hb dX10_rise_13 (lv_at hl 0 rfl) ?_
      refine lv_iload_n hx hb dX10_rise_15 rfl (lv_at hl 4 rfl) ?_
      refine lv_icmp_gt (tgt := 49) hx hb dX10_rise_16 (by decide) (fun c_2 => ?_) (fun c_2 => ?_)
      · exact W.vret hx hb hr (fun t ht hW => ⟨⟨⟨wl, sp, he, li⟩, rfl, h1, gp_end ht hP hD⟩, hS.F ht⟩) hS.2.2 dX10_rise_49
      · refine lv_iload_n hx hb dX10_rise_19 rfl (lv_at hl 4 rfl) ?_
        refine lv_if_le (tgt := 49) hx hb dX10_rise_20 (by decide) (fun c_3 => ?_) (fun c_3 => ?_)
        · exact W.vret hx hb hr (fun t ht hW => ⟨⟨⟨wl, sp, he, li⟩, rfl, h1, gp_end ht hP hD⟩, hS.F ht⟩) hS.2.2 dX10_rise_49
        · refine lv_aload_n hx hb dX10_rise_23 rfl (lv_at hl 2 rfl) ?_
          refine lv_iload_n hx hb dX10_rise_24 rfl (lv_at hl 1 rfl) ?_
          refine lv_iconst (v := 4) hx hb dX10_rise_25 (by decide) ?_
          refine lv_iload_n hx hb dX10_rise_26 rfl (lv_at hl 3 rfl) ?_
          refine lv_imul hx hb dX10_rise_27 ?_
          refine gp_fi (fun y_4 => ?_)
          refine lv_iload hx hb dX10_rise_28 (lv_at hl 0 rfl) ?_
          refine lv_imul hx hb dX10_rise_30 ?_
          refine gp_fi (fun y_5 => ?_)
          refine lv_iload_n hx hb dX10_rise_31 rfl (lv_at hl 4 rfl) ?_
          refine lv_iload hx hb dX10_rise_32 (lv_at hl 0 rfl) ?_
          refine lv_isub hx hb dX10_rise_34 ?_
          refine gp_fi (fun y_6 => ?_)
          refine lv_imul hx hb dX10_rise_35 ?_
          refine gp_fi (fun y_7 => ?_)
          refine lv_iload_n hx hb dX10_rise_36 rfl (lv_at hl 4 rfl) ?_
          refine lv_iload_n hx hb dX10_rise_37 rfl (lv_at hl 4 rfl) ?_
          refine lv_imul hx hb dX10_rise_38 ?_
          refine lv_idiv hx hb dX10_rise_39 (gp_sq (lf_sX10_rise_1 counts k q0 h2 c_2 c_3) (lf_sX10_rise_2 counts k q0 h2 c_2 c_3)) ?_
          refine gp_fi (fun y_8 => ?_)
          have hPc := hP.sub (ws' := [(o_walk xa wl walk_frames), (aI (xa 8) (cy 1) 241 sp), (aI (xa 9) (cy 1) 241 he), (aI (xa 10) (cy 3) 241 li)]) [0, 1, 2, 3] rfl
          have hDc := hD.sub (ws' := [(o_walk xa wl walk_frames), (aI (xa 8) (cy 1) 241 sp), (aI (xa 9) (cy 1) 241 he), (aI (xa 10) (cy 3) 241 li)]) [0, 1, 2, 3] (by decide) rfl
          have hFc := va_free (wc := [(o_walk xa wl walk_frames), (aI (xa 8) (cy 1) 241 sp), (aI (xa 9) (cy 1) 241 he), (aI (xa 10) (cy 3) 241 li)]) hD hS hA [0, 1, 2, 3] rfl
          refine va_callv (va_runV (As := [.int y_1, .int y_8]) (rest := []) ⟨hx, hb, hml, hown, hts⟩ (sX10_addCount l D cy H.size xa wl walk_frames sp he li y_1 y_8 h1 f_walk_frames) (cwV 2 hts g_sX10_rise_sX10_addCount_0 rfl rfl rfl (by decide +kernel) ⟨Nat.le_of_ble_eq_true rfl, Nat.le_of_ble_eq_true rfl⟩) (gp_preV (RX10, TX10, 7) 10 0 hPc hDc hK hN rfl rfl) rfl rfl hl.1 rfl (lv_room (Nat.le_of_ble_eq_true rfl)) dX10_rise_40 ⟨Nat.le_of_ble_eq_true rfl, Nat.le_of_ble_eq_true rfl⟩) hS (fun q _ h => hFc q h) hFc (fun u t H locs ht hvm hw hB hz1 hk1 hS => ?_)
          obtain ⟨wl_9, sp_10, he_11, li_12⟩ := u
          obtain ⟨hP, hD⟩ := gp_joinM (wc := [(o_walk xa wl walk_frames), (aI (xa 8) (cy 1) 241 sp), (aI (xa 9) (cy 1) 241 he), (aI (xa 10) (cy 3) 241 li)]) (w1 := [(o_walk xa wl_9 walk_frames), (aI (xa 8) (cy 1) 241 sp_10), (aI (xa 9) (cy 1) 241 he_11), (aI (xa 10) (cy 3) 241 li_12)]) (wr := []) (nws := [(o_walk xa wl_9 walk_frames), (aI (xa 8) (cy 1) 241 sp_10), (aI (xa 9) (cy 1) 241 he_11), (aI (xa 10) (cy 3) 241 li_12)]) hP hD [0, 1, 2, 3] ([] : List Nat) 4 rfl rfl hk1 ht hB rfl rfl rfl rfl (by decide)
          have w_13 := hw
          refine lv_iinc (v := (k + 1)) (lv' := [(4, .int (k + 1)), (3, .int y_1), (0, .ref (xa 7)), (1, .int top), (2, .int counts)]) hx hb dX10_rise_43 hl (k := 0) rfl rfl (by decide) rfl (fun ls hl => ?_)
          refine lv_goto (tgt := 13) hx hb dX10_rise_46 (by decide) ?_
          exact ih (k + 1) wl_9 sp_10 he_11 li_12 H locs ls w_13 (lf_sX10_rise_3 counts k q0 h2 c_2 c_3) (Nat.lt_of_lt_of_le (gp_mdec (b := 300) (lf_sX10_rise_4 counts k q0 h2 c_2 c_3)) (Nat.le_of_lt_succ hfu)) hP hD hS (lv_sub hl [0, 1, 2, 3, 4] rfl)
  exact key13 ((300 - (1 : Int32).toInt).toNat + 1) 1 walk_last spot height lit H [] ls f_walk_last (show sp_in 1 1 300 by decide) (Nat.lt_succ_self _) hP hD hS (lv_sub hl [0, 1, 2, 3, 4] rfl)

theorem lf_sX10_enter_1 (walk_frames : Int32) (f_walk_frames : sp_in walk_frames 0 80) (c_1 : ¬ 80 ≤ walk_frames) : sp_in walk_frames 0 79 := by
  first | grind | (simp only [sp_in, sp_pl, sp_far, sp_two] at *; grind)
theorem lf_sX10_enter_2 (walk_frames : Int32) (f_walk_frames : sp_in walk_frames 0 80) (c_1 : ¬ 80 ≤ walk_frames) : sp_in walk_frames 0 79 := by
  first | grind | (simp only [sp_in, sp_pl, sp_far, sp_two] at *; grind)
theorem lf_sX10_enter_3 (walk_frames : Int32) (f_walk_frames : sp_in walk_frames 0 80) (c_1 : ¬ 80 ≤ walk_frames) : sp_in (walk_frames + 1) 0 80 := by
  first | grind | (simp only [sp_in, sp_pl, sp_far, sp_two] at *; grind)
def v_sX10_enter : List Cond := .code yX10_enter cX10_enter 3 none :: (([.fieldLink RX10 32 "GhostPane$Walk" "frames" "I", .fieldLink RX10 22 "GhostPane$Walk" "backTo" "[I", .fieldLink RX10 25 "GhostPane$Walk" "timesLeft" "[I"] : List Cond) ++ wsX100)
set_option maxHeartbeats 4000000 in
set_option maxRecDepth 100000 in
theorem sX10_enter (l : Launch) (D : va_G) (cy : Nat → ClassId) (sz : Nat) (xa : Nat → Nat) (walk_last : Int32) (walk_frames : Int32) (backTo : Nat → Int32) (timesLeft : Nat → Int32) (back : Int32) (times : Int32) (f_walk_last : sp_in walk_last 0 240) (f_walk_frames : sp_in walk_frames 0 80) (f_backTo : ∀ i, 0 ≤ (backTo i)) (q0 : 0 ≤ back) : Met l yX10_enter v_sX10_enter ({ frames := 0, cells := 0, slots := 0, locals := 0 } : Room) (va_Pc [.ref (xa 7), .int back, .int times] (gp_B D cy sz [(o_walk xa walk_last walk_frames), (aI (xa 42) (cy 1) 80 backTo), (aI (xa 43) (cy 1) 80 timesLeft)])) (va_Qv (fun (u : (Int32) × (Nat → Int32) × (Nat → Int32)) => (sp_in u.1 0 80) ∧ (∀ i, 0 ≤ (u.2.1 i))) (fun u => gp_E D (va_A [(o_walk xa walk_last walk_frames), (aI (xa 42) (cy 1) 80 backTo), (aI (xa 43) (cy 1) 80 timesLeft)] sz) [(o_walk xa walk_last u.1), (aI (xa 42) (cy 1) 80 u.2.1), (aI (xa 43) (cy 1) 80 u.2.2)]) (va_A [(o_walk xa walk_last walk_frames), (aI (xa 42) (cy 1) 80 backTo), (aI (xa 43) (cy 1) 80 timesLeft)] sz)) 0 0 (va_A [(o_walk xa walk_last walk_frames), (aI (xa 42) (cy 1) 80 backTo), (aI (xa 43) (cy 1) 80 timesLeft)] sz) := by
  refine gp_met (Qc := fun A => va_Qv (fun (u : (Int32) × (Nat → Int32) × (Nat → Int32)) => (sp_in u.1 0 80) ∧ (∀ i, 0 ≤ (u.2.1 i))) (fun u => gp_E D A [(o_walk xa walk_last u.1), (aI (xa 42) (cy 1) 80 u.2.1), (aI (xa 43) (cy 1) 80 u.2.2)]) A) (cc := cX10_enter) (maxL := 3) (ret := none) (by decide) rfl (Nat.le_of_ble_eq_true rfl) ?_
  intro p e s m below meth c A ls H hx hb hml hr hlocks hts hown hin hK hN hS hP hD hA hl
  have hown : s.vm.findClass RX10 = some m.cls := hown
  have hl : lv_has ls 3 [(0, .ref (xa 7)), (1, .int back), (2, .int times)] := hl
  have hiX10 : ∀ w ∈ u_ws RX10 TX10 7, w ∈ v_sX10_enter := fun _ h => List.mem_cons_of_mem _ (List.mem_append_right _ h)
  refine lv_aload_n hx hb dX10_enter_0 rfl (lv_at hl 0 rfl) ?_
  refine va_get (D := D) (ci := 10) (v := .int walk_frames) (C := RX10) (T := TX10) (N := 7) hx hb hts hiX10 hown hK hP 0 rfl rfl 6 (by decide) (hts (.fieldLink RX10 32 "GhostPane$Walk" "frames" "I") (List.mem_of_getElem? (i := 1) rfl)) (fun _ h9 => h9) rfl dX10_enter_1 ?_
  refine lv_bipush (v := 80) hx hb dX10_enter_4 (by decide) ?_
  refine lv_icmp_ge (tgt := 39) hx hb dX10_enter_6 (by decide) (fun c_1 => ?_) (fun c_1 => ?_)
  · exact W.vret hx hb hr (fun t ht hW => ⟨⟨⟨walk_frames, backTo, timesLeft⟩, rfl, ⟨f_walk_frames, f_backTo⟩, gp_end ht hP hD⟩, hS.F ht⟩) hS.2.2 dX10_enter_39
  · refine lv_aload_n hx hb dX10_enter_9 rfl (lv_at hl 0 rfl) ?_
    refine va_get (D := D) (ci := 10) (v := .ref (xa 42)) (C := RX10) (T := TX10) (N := 7) hx hb hts hiX10 hown hK hP 0 rfl rfl 4 (by decide) (hts (.fieldLink RX10 22 "GhostPane$Walk" "backTo" "[I") (List.mem_of_getElem? (i := 2) rfl)) (fun _ h9 => h9) rfl dX10_enter_10 ?_
    refine lv_aload_n hx hb dX10_enter_13 rfl (lv_at hl 0 rfl) ?_
    refine va_get (D := D) (ci := 10) (v := .int walk_frames) (C := RX10) (T := TX10) (N := 7) hx hb hts hiX10 hown hK hP 0 rfl rfl 6 (by decide) (hts (.fieldLink RX10 32 "GhostPane$Walk" "frames" "I") (List.mem_of_getElem? (i := 1) rfl)) (fun _ h9 => h9) rfl dX10_enter_14 ?_
    refine lv_iload_n hx hb dX10_enter_17 rfl (lv_at hl 1 rfl) ?_
    refine va_iast hx hb hK hP hD hS 1 1 rfl rfl (gp_in (hi := 79) (lf_sX10_enter_1 walk_frames f_walk_frames c_1) (by decide)) dX10_enter_18 (fun H locs hP hD hS => ?_)
    obtain ⟨backTo_2, g_3, hP, hD⟩ : ∃ backTo_2 : Nat → Int32, (∀ i, 0 ≤ (backTo_2 i)) ∧ va_P D vwCl [(o_walk xa walk_last walk_frames), (aI (xa 42) (cy 1) 80 backTo_2), (aI (xa 43) (cy 1) 80 timesLeft)] H ∧ va_D A [(o_walk xa walk_last walk_frames), (aI (xa 42) (cy 1) 80 backTo_2), (aI (xa 43) (cy 1) 80 timesLeft)] := ⟨_, gp_allU (P := fun z => 0 ≤ z) f_backTo q0, hP, hD⟩
    refine lv_aload_n hx hb dX10_enter_19 rfl (lv_at hl 0 rfl) ?_
    refine va_get (D := D) (ci := 10) (v := .ref (xa 43)) (C := RX10) (T := TX10) (N := 7) hx hb hts hiX10 hown hK hP 0 rfl rfl 5 (by decide) (hts (.fieldLink RX10 25 "GhostPane$Walk" "timesLeft" "[I") (List.mem_of_getElem? (i := 3) rfl)) (fun _ h9 => h9) rfl dX10_enter_20 ?_
    refine lv_aload_n hx hb dX10_enter_23 rfl (lv_at hl 0 rfl) ?_
    refine va_get (D := D) (ci := 10) (v := .int walk_frames) (C := RX10) (T := TX10) (N := 7) hx hb hts hiX10 hown hK hP 0 rfl rfl 6 (by decide) (hts (.fieldLink RX10 32 "GhostPane$Walk" "frames" "I") (List.mem_of_getElem? (i := 1) rfl)) (fun _ h9 => h9) rfl dX10_enter_24 ?_
    refine lv_iload_n hx hb dX10_enter_27 rfl (lv_at hl 2 rfl) ?_
    refine va_iast hx hb hK hP hD hS 2 1 rfl rfl (gp_in (hi := 79) (lf_sX10_enter_2 walk_frames f_walk_frames c_1) (by decide)) dX10_enter_28 (fun H locs hP hD hS => ?_)
    obtain ⟨timesLeft_4, hP, hD⟩ : ∃ timesLeft_4 : Nat → Int32, va_P D vwCl [(o_walk xa walk_last walk_frames), (aI (xa 42) (cy 1) 80 backTo_2), (aI (xa 43) (cy 1) 80 timesLeft_4)] H ∧ va_D A [(o_walk xa walk_last walk_frames), (aI (xa 42) (cy 1) 80 backTo_2), (aI (xa 43) (cy 1) 80 timesLeft_4)] := ⟨_, hP, hD⟩
    refine lv_aload_n hx hb dX10_enter_29 rfl (lv_at hl 0 rfl) ?_
    refine lv_dup hx hb dX10_enter_30 rfl ?_
    refine va_get (D := D) (ci := 10) (v := .int walk_frames) (C := RX10) (T := TX10) (N := 7) hx hb hts hiX10 hown hK hP 0 rfl rfl 6 (by decide) (hts (.fieldLink RX10 32 "GhostPane$Walk" "frames" "I") (List.mem_of_getElem? (i := 1) rfl)) (fun _ h9 => h9) rfl dX10_enter_31 ?_
    refine lv_iconst (v := 1) hx hb dX10_enter_34 (by decide) ?_
    refine lv_iadd hx hb dX10_enter_35 ?_
    refine va_put (D := D) (ci := 10) (v := .int (walk_frames + 1)) (ty := .int) (C := RX10) (T := TX10) (N := 7) hx hb hts hiX10 tyX10 tyX10_ok nmX10 hown hK hP hD hS 0 rfl rfl 6 (by decide) (hts (.fieldLink RX10 32 "GhostPane$Walk" "frames" "I") (List.mem_of_getElem? (i := 1) rfl)) (fun _ h9 => h9) rfl (by decide +kernel) rfl rfl (Nat.le_of_ble_eq_true rfl) dX10_enter_36 (fun H locs hP hD hS => ?_)
    have hP : va_P D vwCl [(o_walk xa walk_last (walk_frames + 1)), (aI (xa 42) (cy 1) 80 backTo_2), (aI (xa 43) (cy 1) 80 timesLeft_4)] H := hP
    have hD := gp_sD hP hD
    exact W.vret hx hb hr (fun t ht hW => ⟨⟨⟨(walk_frames + 1), backTo_2, timesLeft_4⟩, rfl, ⟨(lf_sX10_enter_3 walk_frames f_walk_frames c_1), g_3⟩, gp_end ht hP hD⟩, hS.F ht⟩) hS.2.2 dX10_enter_39

theorem lf_sX10_comeBack_1 (walk_frames : Int32) (f_walk_frames : sp_in walk_frames 0 80) (c_1 : 1 ≤ walk_frames) : sp_in (walk_frames - 1) 0 79 := by
  first | grind | (simp only [sp_in, sp_pl, sp_far, sp_two] at *; grind)
theorem lf_sX10_comeBack_2 (walk_frames : Int32) (f_walk_frames : sp_in walk_frames 0 80) (c_1 : 1 ≤ walk_frames) : sp_in (walk_frames - 1) 0 79 := by
  first | grind | (simp only [sp_in, sp_pl, sp_far, sp_two] at *; grind)
theorem lf_sX10_comeBack_3 (walk_frames : Int32) (f_walk_frames : sp_in walk_frames 0 80) (c_1 : 1 ≤ walk_frames) : sp_in (walk_frames - 1) 0 80 := by
  first | grind | (simp only [sp_in, sp_pl, sp_far, sp_two] at *; grind)
theorem lf_sX10_comeBack_4 (pl : Int32) (q0 : sp_in pl 0 127) : 0 ≤ (pl + 1) := by
  first | grind | (simp only [sp_in, sp_pl, sp_far, sp_two] at *; grind)
theorem lf_sX10_comeBack_5 (walk_frames : Int32) (f_walk_frames : sp_in walk_frames 0 80) (c_1 : 1 ≤ walk_frames) : sp_in (walk_frames - 1) 0 79 := by
  first | grind | (simp only [sp_in, sp_pl, sp_far, sp_two] at *; grind)
theorem lf_sX10_comeBack_6 (walk_frames : Int32) (f_walk_frames : sp_in walk_frames 0 80) (c_1 : 1 ≤ walk_frames) : sp_in (walk_frames - 1) 0 80 := by
  first | grind | (simp only [sp_in, sp_pl, sp_far, sp_two] at *; grind)
theorem lf_sX10_comeBack_7 (walk_frames : Int32) (f_walk_frames : sp_in walk_frames 0 80) (c_1 : 1 ≤ walk_frames) : sp_in (walk_frames - 1) 0 79 := by
  first | grind | (simp only [sp_in, sp_pl, sp_far, sp_two] at *; grind)
theorem lf_sX10_comeBack_8 (walk_frames : Int32) (f_walk_frames : sp_in walk_frames 0 80) (c_1 : 1 ≤ walk_frames) : sp_in (walk_frames - 1) 0 79 := by
  first | grind | (simp only [sp_in, sp_pl, sp_far, sp_two] at *; grind)
theorem lf_sX10_comeBack_9 (walk_frames : Int32) (f_walk_frames : sp_in walk_frames 0 80) (c_1 : 1 ≤ walk_frames) : sp_in (walk_frames - 1) 0 79 := by
  first | grind | (simp only [sp_in, sp_pl, sp_far, sp_two] at *; grind)
theorem lf_sX10_comeBack_10 (pl : Int32) (q0 : sp_in pl 0 127) : 0 ≤ (pl + 1) := by
  first | grind | (simp only [sp_in, sp_pl, sp_far, sp_two] at *; grind)
def v_sX10_comeBack : List Cond := .code yX10_comeBack cX10_comeBack 3 (some .int) :: (([.fieldLink RX10 32 "GhostPane$Walk" "frames" "I", .fieldLink RX10 25 "GhostPane$Walk" "timesLeft" "[I", .fieldLink RX10 22 "GhostPane$Walk" "backTo" "[I"] : List Cond) ++ wsX100)
set_option maxHeartbeats 4000000 in
set_option maxRecDepth 100000 in
theorem sX10_comeBack (l : Launch) (D : va_G) (cy : Nat → ClassId) (sz : Nat) (xa : Nat → Nat) (walk_last : Int32) (walk_frames : Int32) (backTo : Nat → Int32) (timesLeft : Nat → Int32) (pl : Int32) (f_walk_last : sp_in walk_last 0 240) (f_walk_frames : sp_in walk_frames 0 80) (f_backTo : ∀ i, 0 ≤ (backTo i)) (q0 : sp_in pl 0 127) : Met l yX10_comeBack v_sX10_comeBack ({ frames := 0, cells := 0, slots := 0, locals := 0 } : Room) (va_Pc [.ref (xa 7), .int pl] (gp_B D cy sz [(o_walk xa walk_last walk_frames), (aI (xa 42) (cy 1) 80 backTo), (aI (xa 43) (cy 1) 80 timesLeft)])) (va_Qi (fun (r : Int32) (u : (Int32) × (Nat → Int32)) => (sp_in u.1 0 80) ∧ (0 ≤ r)) (fun u => gp_E D (va_A [(o_walk xa walk_last walk_frames), (aI (xa 42) (cy 1) 80 backTo), (aI (xa 43) (cy 1) 80 timesLeft)] sz) [(o_walk xa walk_last u.1), (aI (xa 42) (cy 1) 80 backTo), (aI (xa 43) (cy 1) 80 u.2)]) (va_A [(o_walk xa walk_last walk_frames), (aI (xa 42) (cy 1) 80 backTo), (aI (xa 43) (cy 1) 80 timesLeft)] sz)) 0 0 (va_A [(o_walk xa walk_last walk_frames), (aI (xa 42) (cy 1) 80 backTo), (aI (xa 43) (cy 1) 80 timesLeft)] sz) := by
  refine gp_met (Qc := fun A => va_Qi (fun (r : Int32) (u : (Int32) × (Nat → Int32)) => (sp_in u.1 0 80) ∧ (0 ≤ r)) (fun u => gp_E D A [(o_walk xa walk_last u.1), (aI (xa 42) (cy 1) 80 backTo), (aI (xa 43) (cy 1) 80 u.2)]) A) (cc := cX10_comeBack) (maxL := 3) (ret := (some .int)) (by decide) rfl (Nat.le_of_ble_eq_true rfl) ?_
  intro p e s m below meth c A ls H hx hb hml hr hlocks hts hown hin hK hN hS hP hD hA hl
  have hown : s.vm.findClass RX10 = some m.cls := hown
  have hl : lv_has ls 3 [(0, .ref (xa 7)), (1, .int pl)] := hl
  have hiX10 : ∀ w ∈ u_ws RX10 TX10 7, w ∈ v_sX10_comeBack := fun _ h => List.mem_cons_of_mem _ (List.mem_append_right _ h)
  refine lv_aload_n hx hb dX10_comeBack_0 rfl (lv_at hl 0 rfl) ?_
  refine va_get (D := D) (ci := 10) (v := .int walk_frames) (C := RX10) (T := TX10) (N := 7) hx hb hts hiX10 hown hK hP 0 rfl rfl 6 (by decide) (hts (.fieldLink RX10 32 "GhostPane$Walk" "frames" "I") (List.mem_of_getElem? (i := 1) rfl)) (fun _ h9 => h9) rfl dX10_comeBack_1 ?_
  refine lv_iconst (v := 1) hx hb dX10_comeBack_4 (by decide) ?_
  refine lv_icmp_ge (tgt := 12) hx hb dX10_comeBack_5 (by decide) (fun c_1 => ?_) (fun c_1 => ?_)
  · refine lv_aload_n hx hb dX10_comeBack_12 rfl (lv_at hl 0 rfl) ?_
    refine va_get (D := D) (ci := 10) (v := .int walk_frames) (C := RX10) (T := TX10) (N := 7) hx hb hts hiX10 hown hK hP 0 rfl rfl 6 (by decide) (hts (.fieldLink RX10 32 "GhostPane$Walk" "frames" "I") (List.mem_of_getElem? (i := 1) rfl)) (fun _ h9 => h9) rfl dX10_comeBack_13 ?_
    refine lv_iconst (v := 1) hx hb dX10_comeBack_16 (by decide) ?_
    refine lv_isub hx hb dX10_comeBack_17 ?_
    refine lv_istore_n (lv' := [(2, .int (walk_frames - 1)), (0, .ref (xa 7)), (1, .int pl)]) hx hb dX10_comeBack_18 rfl hl (by decide) rfl (fun ls hl => ?_)
    refine lv_aload_n hx hb dX10_comeBack_19 rfl (lv_at hl 1 rfl) ?_
    refine va_get (D := D) (ci := 10) (v := .ref (xa 43)) (C := RX10) (T := TX10) (N := 7) hx hb hts hiX10 hown hK hP 0 rfl rfl 5 (by decide) (hts (.fieldLink RX10 25 "GhostPane$Walk" "timesLeft" "[I") (List.mem_of_getElem? (i := 2) rfl)) (fun _ h9 => h9) rfl dX10_comeBack_20 ?_
    refine lv_iload_n hx hb dX10_comeBack_23 rfl (lv_at hl 0 rfl) ?_
    refine va_iald hx hb hK hP 2 1 rfl rfl (gp_in (hi := 79) (lf_sX10_comeBack_1 walk_frames f_walk_frames c_1) (by decide)) dX10_comeBack_24 ?_
    refine gp_fi (fun y_2 => ?_)
    refine lv_if_le (tgt := 45) hx hb dX10_comeBack_25 (by decide) (fun c_3 => ?_) (fun c_3 => ?_)
    · refine lv_aload_n hx hb dX10_comeBack_45 rfl (lv_at hl 1 rfl) ?_
      refine lv_iload_n hx hb dX10_comeBack_46 rfl (lv_at hl 0 rfl) ?_
      refine va_put (D := D) (ci := 10) (v := .int (walk_frames - 1)) (ty := .int) (C := RX10) (T := TX10) (N := 7) hx hb hts hiX10 tyX10 tyX10_ok nmX10 hown hK hP hD hS 0 rfl rfl 6 (by decide) (hts (.fieldLink RX10 32 "GhostPane$Walk" "frames" "I") (List.mem_of_getElem? (i := 1) rfl)) (fun _ h9 => h9) rfl (by decide +kernel) rfl rfl (Nat.le_of_ble_eq_true rfl) dX10_comeBack_47 (fun H locs hP hD hS => ?_)
      have hP : va_P D vwCl [(o_walk xa walk_last (walk_frames - 1)), (aI (xa 42) (cy 1) 80 backTo), (aI (xa 43) (cy 1) 80 timesLeft)] H := hP
      have hD := gp_sD hP hD
      refine lv_aload_n hx hb dX10_comeBack_50 rfl (lv_at hl 1 rfl) ?_
      refine va_get (D := D) (ci := 10) (v := .ref (xa 43)) (C := RX10) (T := TX10) (N := 7) hx hb hts hiX10 hown hK hP 0 rfl rfl 5 (by decide) (hts (.fieldLink RX10 25 "GhostPane$Walk" "timesLeft" "[I") (List.mem_of_getElem? (i := 2) rfl)) (fun _ h9 => h9) rfl dX10_comeBack_51 ?_
      refine lv_iload_n hx hb dX10_comeBack_54 rfl (lv_at hl 0 rfl) ?_
      refine va_iald hx hb hK hP 2 1 rfl rfl (gp_in (hi := 79) (lf_sX10_comeBack_2 walk_frames f_walk_frames c_1) (by decide)) dX10_comeBack_55 ?_
      refine gp_fi (fun y_4 => ?_)
      refine lv_iconst (v := (-1)) hx hb dX10_comeBack_56 (by decide) ?_
      refine lv_icmp_ne (tgt := 69) hx hb dX10_comeBack_57 (by decide) (fun c_5 => ?_) (fun c_5 => ?_)
      · refine lv_iload_n hx hb dX10_comeBack_69 rfl (lv_at hl 2 rfl) ?_
        refine lv_iconst (v := 1) hx hb dX10_comeBack_70 (by decide) ?_
        refine lv_iadd hx hb dX10_comeBack_71 ?_
        exact W.iret (v := (pl + 1)) hx hb hr (fun t ht hW => ⟨⟨(pl + 1), ⟨(walk_frames - 1), timesLeft⟩, rfl, ⟨(lf_sX10_comeBack_3 walk_frames f_walk_frames c_1), (lf_sX10_comeBack_4 pl q0)⟩, gp_end ht hP hD⟩, hS.F ht⟩) hS.2.2 dX10_comeBack_72
      · refine lv_aload_n hx hb dX10_comeBack_60 rfl (lv_at hl 1 rfl) ?_
        refine va_get (D := D) (ci := 10) (v := .ref (xa 42)) (C := RX10) (T := TX10) (N := 7) hx hb hts hiX10 hown hK hP 0 rfl rfl 4 (by decide) (hts (.fieldLink RX10 22 "GhostPane$Walk" "backTo" "[I") (List.mem_of_getElem? (i := 3) rfl)) (fun _ h9 => h9) rfl dX10_comeBack_61 ?_
        refine lv_iload_n hx hb dX10_comeBack_64 rfl (lv_at hl 0 rfl) ?_
        refine va_iald hx hb hK hP 1 1 rfl rfl (gp_in (hi := 79) (lf_sX10_comeBack_5 walk_frames f_walk_frames c_1) (by decide)) dX10_comeBack_65 ?_
        refine gp_fiP (fun z => 0 ≤ z) (f_backTo ((walk_frames - 1).toNatClampNeg)) (fun y_6 g_7 => ?_)
        refine lv_goto (tgt := 72) hx hb dX10_comeBack_66 (by decide) ?_
        exact W.iret (v := y_6) hx hb hr (fun t ht hW => ⟨⟨y_6, ⟨(walk_frames - 1), timesLeft⟩, rfl, ⟨(lf_sX10_comeBack_6 walk_frames f_walk_frames c_1), g_7⟩, gp_end ht hP hD⟩, hS.F ht⟩) hS.2.2 dX10_comeBack_72
    · refine lv_aload_n hx hb dX10_comeBack_28 rfl (lv_at hl 1 rfl) ?_
      refine va_get (D := D) (ci := 10) (v := .ref (xa 43)) (C := RX10) (T := TX10) (N := 7) hx hb hts hiX10 hown hK hP 0 rfl rfl 5 (by decide) (hts (.fieldLink RX10 25 "GhostPane$Walk" "timesLeft" "[I") (List.mem_of_getElem? (i := 2) rfl)) (fun _ h9 => h9) rfl dX10_comeBack_29 ?_
      refine lv_iload_n hx hb dX10_comeBack_32 rfl (lv_at hl 0 rfl) ?_
      refine lv_dup2_11 hx hb dX10_comeBack_33 rfl rfl ?_
      refine va_iald hx hb hK hP 2 1 rfl rfl (gp_in (hi := 79) (lf_sX10_comeBack_7 walk_frames f_walk_frames c_1) (by decide)) dX10_comeBack_34 ?_
      refine gp_fi (fun y_8 => ?_)
      refine lv_iconst (v := 1) hx hb dX10_comeBack_35 (by decide) ?_
      refine lv_isub hx hb dX10_comeBack_36 ?_
      refine va_iast hx hb hK hP hD hS 2 1 rfl rfl (gp_in (hi := 79) (lf_sX10_comeBack_8 walk_frames f_walk_frames c_1) (by decide)) dX10_comeBack_37 (fun H locs hP hD hS => ?_)
      obtain ⟨timesLeft_9, hP, hD⟩ : ∃ timesLeft_9 : Nat → Int32, va_P D vwCl [(o_walk xa walk_last walk_frames), (aI (xa 42) (cy 1) 80 backTo), (aI (xa 43) (cy 1) 80 timesLeft_9)] H ∧ va_D A [(o_walk xa walk_last walk_frames), (aI (xa 42) (cy 1) 80 backTo), (aI (xa 43) (cy 1) 80 timesLeft_9)] := ⟨_, hP, hD⟩
      refine lv_aload_n hx hb dX10_comeBack_38 rfl (lv_at hl 1 rfl) ?_
      refine va_get (D := D) (ci := 10) (v := .ref (xa 42)) (C := RX10) (T := TX10) (N := 7) hx hb hts hiX10 hown hK hP 0 rfl rfl 4 (by decide) (hts (.fieldLink RX10 22 "GhostPane$Walk" "backTo" "[I") (List.mem_of_getElem? (i := 3) rfl)) (fun _ h9 => h9) rfl dX10_comeBack_39 ?_
      refine lv_iload_n hx hb dX10_comeBack_42 rfl (lv_at hl 0 rfl) ?_
      refine va_iald hx hb hK hP 1 1 rfl rfl (gp_in (hi := 79) (lf_sX10_comeBack_9 walk_frames f_walk_frames c_1) (by decide)) dX10_comeBack_43 ?_
      refine gp_fiP (fun z => 0 ≤ z) (f_backTo ((walk_frames - 1).toNatClampNeg)) (fun y_10 g_11 => ?_)
      exact W.iret (v := y_10) hx hb hr (fun t ht hW => ⟨⟨y_10, ⟨walk_frames, timesLeft_9⟩, rfl, ⟨f_walk_frames, g_11⟩, gp_end ht hP hD⟩, hS.F ht⟩) hS.2.2 dX10_comeBack_44
  · refine lv_iload_n hx hb dX10_comeBack_8 rfl (lv_at hl 1 rfl) ?_
    refine lv_iconst (v := 1) hx hb dX10_comeBack_9 (by decide) ?_
    refine lv_iadd hx hb dX10_comeBack_10 ?_
    exact W.iret (v := (pl + 1)) hx hb hr (fun t ht hW => ⟨⟨(pl + 1), ⟨walk_frames, timesLeft⟩, rfl, ⟨f_walk_frames, (lf_sX10_comeBack_10 pl q0)⟩, gp_end ht hP hD⟩, hS.F ht⟩) hS.2.2 dX10_comeBack_11

theorem lf_sX7_hasSeat_1 (seatThere : Nat → Int32) (sx : Int32) (c_1 : sx < 0) : ((0 : Int32) = 1 ∧ sp_in sx 0 7 ∧ ¬ (seatThere sx.toNatClampNeg) = 0) ∨ ((0 : Int32) = 0 ∧ ¬ (sp_in sx 0 7 ∧ ¬ (seatThere sx.toNatClampNeg) = 0)) := by
  first | grind | (simp only [sp_in, sp_pl, sp_far, sp_two] at *; grind)
theorem lf_sX7_hasSeat_2 (seatThere : Nat → Int32) (sx : Int32) (c_1 : ¬ sx < 0) (c_2 : 8 ≤ sx) : ((0 : Int32) = 1 ∧ sp_in sx 0 7 ∧ ¬ (seatThere sx.toNatClampNeg) = 0) ∨ ((0 : Int32) = 0 ∧ ¬ (sp_in sx 0 7 ∧ ¬ (seatThere sx.toNatClampNeg) = 0)) := by
  first | grind | (simp only [sp_in, sp_pl, sp_far, sp_two] at *; grind)
theorem lf_sX7_hasSeat_3 (sx : Int32) (c_1 : ¬ sx < 0) (c_2 : ¬ 8 ≤ sx) : sp_in sx 0 7 := by
  first | grind | (simp only [sp_in, sp_pl, sp_far, sp_two] at *; grind)
theorem lf_sX7_hasSeat_4 (seatThere : Nat → Int32) (sx : Int32) (c_1 : ¬ sx < 0) (c_2 : ¬ 8 ≤ sx) (c_3 : (seatThere sx.toNatClampNeg) = 0) : ((0 : Int32) = 1 ∧ sp_in sx 0 7 ∧ ¬ (seatThere sx.toNatClampNeg) = 0) ∨ ((0 : Int32) = 0 ∧ ¬ (sp_in sx 0 7 ∧ ¬ (seatThere sx.toNatClampNeg) = 0)) := by
  first | grind | (simp only [sp_in, sp_pl, sp_far, sp_two] at *; grind)
theorem lf_sX7_hasSeat_5 (seatThere : Nat → Int32) (sx : Int32) (c_1 : ¬ sx < 0) (c_2 : ¬ 8 ≤ sx) (c_3 : ¬ (seatThere sx.toNatClampNeg) = 0) : ((1 : Int32) = 1 ∧ sp_in sx 0 7 ∧ ¬ (seatThere sx.toNatClampNeg) = 0) ∨ ((1 : Int32) = 0 ∧ ¬ (sp_in sx 0 7 ∧ ¬ (seatThere sx.toNatClampNeg) = 0)) := by
  first | grind | (simp only [sp_in, sp_pl, sp_far, sp_two] at *; grind)
def v_sX7_hasSeat : List Cond := .code yX7_hasSeat cX7_hasSeat 2 (some .boolean) :: (([.fieldLink RX7 45 "GhostPane$Room" "seatThere" "[Z"] : List Cond) ++ wsX70)
set_option maxHeartbeats 4000000 in
set_option maxRecDepth 100000 in
theorem sX7_hasSeat (l : Launch) (D : va_G) (cy : Nat → ClassId) (sz : Nat) (xa : Nat → Nat) (room_ax : Int32) (room_ay : Int32) (room_bx : Int32) (room_by : Int32) (room_cx : Int32) (room_cy : Int32) (room_dx : Int32) (room_dy : Int32) (room_floor : Int32) (room_hand : Int32) (room_deep : Int32) (seatThere : Nat → Int32) (sx : Int32) : Met l yX7_hasSeat v_sX7_hasSeat ({ frames := 0, cells := 0, slots := 0, locals := 0 } : Room) (va_Pc [.ref (xa 11), .int sx] (gp_B D cy sz [(o_room xa room_ax room_ay room_bx room_by room_cx room_cy room_dx room_dy room_floor room_hand room_deep), (aI (xa 12) (cy 3) 8 seatThere)])) (va_Qi (fun (r : Int32) (u : Unit) => (r = 0 ∨ r = 1) ∧ ((r = 1 ∧ sp_in sx 0 7 ∧ ¬ (seatThere sx.toNatClampNeg) = 0) ∨ (r = 0 ∧ ¬ (sp_in sx 0 7 ∧ ¬ (seatThere sx.toNatClampNeg) = 0)))) (fun u => gp_E D (va_A [(o_room xa room_ax room_ay room_bx room_by room_cx room_cy room_dx room_dy room_floor room_hand room_deep), (aI (xa 12) (cy 3) 8 seatThere)] sz) [(o_room xa room_ax room_ay room_bx room_by room_cx room_cy room_dx room_dy room_floor room_hand room_deep), (aI (xa 12) (cy 3) 8 seatThere)]) (va_A [(o_room xa room_ax room_ay room_bx room_by room_cx room_cy room_dx room_dy room_floor room_hand room_deep), (aI (xa 12) (cy 3) 8 seatThere)] sz)) 0 0 (va_A [(o_room xa room_ax room_ay room_bx room_by room_cx room_cy room_dx room_dy room_floor room_hand room_deep), (aI (xa 12) (cy 3) 8 seatThere)] sz) := by
  refine gp_met (Qc := fun A => va_Qi (fun (r : Int32) (u : Unit) => (r = 0 ∨ r = 1) ∧ ((r = 1 ∧ sp_in sx 0 7 ∧ ¬ (seatThere sx.toNatClampNeg) = 0) ∨ (r = 0 ∧ ¬ (sp_in sx 0 7 ∧ ¬ (seatThere sx.toNatClampNeg) = 0)))) (fun u => gp_E D A [(o_room xa room_ax room_ay room_bx room_by room_cx room_cy room_dx room_dy room_floor room_hand room_deep), (aI (xa 12) (cy 3) 8 seatThere)]) A) (cc := cX7_hasSeat) (maxL := 2) (ret := (some .boolean)) (by decide) rfl (Nat.le_of_ble_eq_true rfl) ?_
  intro p e s m below meth c A ls H hx hb hml hr hlocks hts hown hin hK hN hS hP hD hA hl
  have hown : s.vm.findClass RX7 = some m.cls := hown
  have hl : lv_has ls 2 [(0, .ref (xa 11)), (1, .int sx)] := hl
  have hiX7 : ∀ w ∈ u_ws RX7 TX7 19, w ∈ v_sX7_hasSeat := fun _ h => List.mem_cons_of_mem _ (List.mem_append_right _ h)
  refine lv_iload_n hx hb dX7_hasSeat_0 rfl (lv_at hl 1 rfl) ?_
  refine lv_if_lt (tgt := 23) hx hb dX7_hasSeat_1 (by decide) (fun c_1 => ?_) (fun c_1 => ?_)
  · refine lv_iconst (v := 0) hx hb dX7_hasSeat_23 (by decide) ?_
    exact W.zret (v := 0) hx hb hr narrow_b0 (fun t ht hW => ⟨⟨0, (), rfl, ⟨(show (0 : Int32) = 0 ∨ (0 : Int32) = 1 by decide), (lf_sX7_hasSeat_1 seatThere sx c_1)⟩, gp_end ht hP hD⟩, hS.F ht⟩) hS.2.2 dX7_hasSeat_24
  · refine lv_iload_n hx hb dX7_hasSeat_4 rfl (lv_at hl 1 rfl) ?_
    refine lv_bipush (v := 8) hx hb dX7_hasSeat_5 (by decide) ?_
    refine lv_icmp_ge (tgt := 23) hx hb dX7_hasSeat_7 (by decide) (fun c_2 => ?_) (fun c_2 => ?_)
    · refine lv_iconst (v := 0) hx hb dX7_hasSeat_23 (by decide) ?_
      exact W.zret (v := 0) hx hb hr narrow_b0 (fun t ht hW => ⟨⟨0, (), rfl, ⟨(show (0 : Int32) = 0 ∨ (0 : Int32) = 1 by decide), (lf_sX7_hasSeat_2 seatThere sx c_1 c_2)⟩, gp_end ht hP hD⟩, hS.F ht⟩) hS.2.2 dX7_hasSeat_24
    · refine lv_aload_n hx hb dX7_hasSeat_10 rfl (lv_at hl 0 rfl) ?_
      refine va_get (D := D) (ci := 7) (v := .ref (xa 12)) (C := RX7) (T := TX7) (N := 19) hx hb hts hiX7 hown hK hP 0 rfl rfl 11 (by decide) (hts (.fieldLink RX7 45 "GhostPane$Room" "seatThere" "[Z") (List.mem_of_getElem? (i := 1) rfl)) (fun _ h9 => h9) rfl dX7_hasSeat_11 ?_
      refine lv_iload_n hx hb dX7_hasSeat_14 rfl (lv_at hl 1 rfl) ?_
      refine va_zald hx hb hK hP 1 3 rfl rfl (gp_in (hi := 7) (lf_sX7_hasSeat_3 sx c_1 c_2) (by decide)) dX7_hasSeat_15 ?_
      refine lv_if_eq (tgt := 23) hx hb dX7_hasSeat_16 (by decide) (fun c_3 => ?_) (fun c_3 => ?_)
      · refine lv_iconst (v := 0) hx hb dX7_hasSeat_23 (by decide) ?_
        exact W.zret (v := 0) hx hb hr narrow_b0 (fun t ht hW => ⟨⟨0, (), rfl, ⟨(show (0 : Int32) = 0 ∨ (0 : Int32) = 1 by decide), (lf_sX7_hasSeat_4 seatThere sx c_1 c_2 c_3)⟩, gp_end ht hP hD⟩, hS.F ht⟩) hS.2.2 dX7_hasSeat_24
      · refine lv_iconst (v := 1) hx hb dX7_hasSeat_19 (by decide) ?_
        refine lv_goto (tgt := 24) hx hb dX7_hasSeat_20 (by decide) ?_
        exact W.zret (v := 1) hx hb hr narrow_b1 (fun t ht hW => ⟨⟨1, (), rfl, ⟨(show (1 : Int32) = 0 ∨ (1 : Int32) = 1 by decide), (lf_sX7_hasSeat_5 seatThere sx c_1 c_2 c_3)⟩, gp_end ht hP hD⟩, hS.F ht⟩) hS.2.2 dX7_hasSeat_24

theorem lf_sX7_hasWall_1 (wallThere : Nat → Int32) (w : Int32) (c_1 : w < 0) : ((0 : Int32) = 1 ∧ sp_in w 0 11 ∧ ¬ (wallThere w.toNatClampNeg) = 0) ∨ ((0 : Int32) = 0 ∧ ¬ (sp_in w 0 11 ∧ ¬ (wallThere w.toNatClampNeg) = 0)) := by
  first | grind | (simp only [sp_in, sp_pl, sp_far, sp_two] at *; grind)
theorem lf_sX7_hasWall_2 (wallThere : Nat → Int32) (w : Int32) (c_1 : ¬ w < 0) (c_2 : 12 ≤ w) : ((0 : Int32) = 1 ∧ sp_in w 0 11 ∧ ¬ (wallThere w.toNatClampNeg) = 0) ∨ ((0 : Int32) = 0 ∧ ¬ (sp_in w 0 11 ∧ ¬ (wallThere w.toNatClampNeg) = 0)) := by
  first | grind | (simp only [sp_in, sp_pl, sp_far, sp_two] at *; grind)
theorem lf_sX7_hasWall_3 (w : Int32) (c_1 : ¬ w < 0) (c_2 : ¬ 12 ≤ w) : sp_in w 0 11 := by
  first | grind | (simp only [sp_in, sp_pl, sp_far, sp_two] at *; grind)
theorem lf_sX7_hasWall_4 (wallThere : Nat → Int32) (w : Int32) (c_1 : ¬ w < 0) (c_2 : ¬ 12 ≤ w) (c_3 : (wallThere w.toNatClampNeg) = 0) : ((0 : Int32) = 1 ∧ sp_in w 0 11 ∧ ¬ (wallThere w.toNatClampNeg) = 0) ∨ ((0 : Int32) = 0 ∧ ¬ (sp_in w 0 11 ∧ ¬ (wallThere w.toNatClampNeg) = 0)) := by
  first | grind | (simp only [sp_in, sp_pl, sp_far, sp_two] at *; grind)
theorem lf_sX7_hasWall_5 (wallThere : Nat → Int32) (w : Int32) (c_1 : ¬ w < 0) (c_2 : ¬ 12 ≤ w) (c_3 : ¬ (wallThere w.toNatClampNeg) = 0) : ((1 : Int32) = 1 ∧ sp_in w 0 11 ∧ ¬ (wallThere w.toNatClampNeg) = 0) ∨ ((1 : Int32) = 0 ∧ ¬ (sp_in w 0 11 ∧ ¬ (wallThere w.toNatClampNeg) = 0)) := by
  first | grind | (simp only [sp_in, sp_pl, sp_far, sp_two] at *; grind)
def v_sX7_hasWall : List Cond := .code yX7_hasWall cX7_hasWall 2 (some .boolean) :: (([.fieldLink RX7 56 "GhostPane$Room" "wallThere" "[Z"] : List Cond) ++ wsX70)
set_option maxHeartbeats 4000000 in
set_option maxRecDepth 100000 in
theorem sX7_hasWall (l : Launch) (D : va_G) (cy : Nat → ClassId) (sz : Nat) (xa : Nat → Nat) (room_ax : Int32) (room_ay : Int32) (room_bx : Int32) (room_by : Int32) (room_cx : Int32) (room_cy : Int32) (room_dx : Int32) (room_dy : Int32) (room_floor : Int32) (room_hand : Int32) (room_deep : Int32) (wallThere : Nat → Int32) (w : Int32) : Met l yX7_hasWall v_sX7_hasWall ({ frames := 0, cells := 0, slots := 0, locals := 0 } : Room) (va_Pc [.ref (xa 11), .int w] (gp_B D cy sz [(o_room xa room_ax room_ay room_bx room_by room_cx room_cy room_dx room_dy room_floor room_hand room_deep), (aI (xa 15) (cy 3) 12 wallThere)])) (va_Qi (fun (r : Int32) (u : Unit) => (r = 0 ∨ r = 1) ∧ ((r = 1 ∧ sp_in w 0 11 ∧ ¬ (wallThere w.toNatClampNeg) = 0) ∨ (r = 0 ∧ ¬ (sp_in w 0 11 ∧ ¬ (wallThere w.toNatClampNeg) = 0)))) (fun u => gp_E D (va_A [(o_room xa room_ax room_ay room_bx room_by room_cx room_cy room_dx room_dy room_floor room_hand room_deep), (aI (xa 15) (cy 3) 12 wallThere)] sz) [(o_room xa room_ax room_ay room_bx room_by room_cx room_cy room_dx room_dy room_floor room_hand room_deep), (aI (xa 15) (cy 3) 12 wallThere)]) (va_A [(o_room xa room_ax room_ay room_bx room_by room_cx room_cy room_dx room_dy room_floor room_hand room_deep), (aI (xa 15) (cy 3) 12 wallThere)] sz)) 0 0 (va_A [(o_room xa room_ax room_ay room_bx room_by room_cx room_cy room_dx room_dy room_floor room_hand room_deep), (aI (xa 15) (cy 3) 12 wallThere)] sz) := by
  refine gp_met (Qc := fun A => va_Qi (fun (r : Int32) (u : Unit) => (r = 0 ∨ r = 1) ∧ ((r = 1 ∧ sp_in w 0 11 ∧ ¬ (wallThere w.toNatClampNeg) = 0) ∨ (r = 0 ∧ ¬ (sp_in w 0 11 ∧ ¬ (wallThere w.toNatClampNeg) = 0)))) (fun u => gp_E D A [(o_room xa room_ax room_ay room_bx room_by room_cx room_cy room_dx room_dy room_floor room_hand room_deep), (aI (xa 15) (cy 3) 12 wallThere)]) A) (cc := cX7_hasWall) (maxL := 2) (ret := (some .boolean)) (by decide) rfl (Nat.le_of_ble_eq_true rfl) ?_
  intro p e s m below meth c A ls H hx hb hml hr hlocks hts hown hin hK hN hS hP hD hA hl
  have hown : s.vm.findClass RX7 = some m.cls := hown
  have hl : lv_has ls 2 [(0, .ref (xa 11)), (1, .int w)] := hl
  have hiX7 : ∀ w ∈ u_ws RX7 TX7 19, w ∈ v_sX7_hasWall := fun _ h => List.mem_cons_of_mem _ (List.mem_append_right _ h)
  refine lv_iload_n hx hb dX7_hasWall_0 rfl (lv_at hl 1 rfl) ?_
  refine lv_if_lt (tgt := 23) hx hb dX7_hasWall_1 (by decide) (fun c_1 => ?_) (fun c_1 => ?_)
  · refine lv_iconst (v := 0) hx hb dX7_hasWall_23 (by decide) ?_
    exact W.zret (v := 0) hx hb hr narrow_b0 (fun t ht hW => ⟨⟨0, (), rfl, ⟨(show (0 : Int32) = 0 ∨ (0 : Int32) = 1 by decide), (lf_sX7_hasWall_1 wallThere w c_1)⟩, gp_end ht hP hD⟩, hS.F ht⟩) hS.2.2 dX7_hasWall_24
  · refine lv_iload_n hx hb dX7_hasWall_4 rfl (lv_at hl 1 rfl) ?_
    refine lv_bipush (v := 12) hx hb dX7_hasWall_5 (by decide) ?_
    refine lv_icmp_ge (tgt := 23) hx hb dX7_hasWall_7 (by decide) (fun c_2 => ?_) (fun c_2 => ?_)
    · refine lv_iconst (v := 0) hx hb dX7_hasWall_23 (by decide) ?_
      exact W.zret (v := 0) hx hb hr narrow_b0 (fun t ht hW => ⟨⟨0, (), rfl, ⟨(show (0 : Int32) = 0 ∨ (0 : Int32) = 1 by decide), (lf_sX7_hasWall_2 wallThere w c_1 c_2)⟩, gp_end ht hP hD⟩, hS.F ht⟩) hS.2.2 dX7_hasWall_24
    · refine lv_aload_n hx hb dX7_hasWall_10 rfl (lv_at hl 0 rfl) ?_
      refine va_get (D := D) (ci := 7) (v := .ref (xa 15)) (C := RX7) (T := TX7) (N := 19) hx hb hts hiX7 hown hK hP 0 rfl rfl 14 (by decide) (hts (.fieldLink RX7 56 "GhostPane$Room" "wallThere" "[Z") (List.mem_of_getElem? (i := 1) rfl)) (fun _ h9 => h9) rfl dX7_hasWall_11 ?_
      refine lv_iload_n hx hb dX7_hasWall_14 rfl (lv_at hl 1 rfl) ?_
      refine va_zald hx hb hK hP 1 3 rfl rfl (gp_in (hi := 11) (lf_sX7_hasWall_3 w c_1 c_2) (by decide)) dX7_hasWall_15 ?_
      refine lv_if_eq (tgt := 23) hx hb dX7_hasWall_16 (by decide) (fun c_3 => ?_) (fun c_3 => ?_)
      · refine lv_iconst (v := 0) hx hb dX7_hasWall_23 (by decide) ?_
        exact W.zret (v := 0) hx hb hr narrow_b0 (fun t ht hW => ⟨⟨0, (), rfl, ⟨(show (0 : Int32) = 0 ∨ (0 : Int32) = 1 by decide), (lf_sX7_hasWall_4 wallThere w c_1 c_2 c_3)⟩, gp_end ht hP hD⟩, hS.F ht⟩) hS.2.2 dX7_hasWall_24
      · refine lv_iconst (v := 1) hx hb dX7_hasWall_19 (by decide) ?_
        refine lv_goto (tgt := 24) hx hb dX7_hasWall_20 (by decide) ?_
        exact W.zret (v := 1) hx hb hr narrow_b1 (fun t ht hW => ⟨⟨1, (), rfl, ⟨(show (1 : Int32) = 0 ∨ (1 : Int32) = 1 by decide), (lf_sX7_hasWall_5 wallThere w c_1 c_2 c_3)⟩, gp_end ht hP hD⟩, hS.F ht⟩) hS.2.2 dX7_hasWall_24

theorem lf_sX5_clearFaces_1 (ii : Int32) (h1 : sp_in ii 0 1001) (c_1 : ¬ 1000 < ii) : sp_in ii 0 1000 := by
  first | grind | (simp only [sp_in, sp_pl, sp_far, sp_two] at *; grind)
theorem lf_sX5_clearFaces_2 (ii : Int32) (h1 : sp_in ii 0 1001) (c_1 : ¬ 1000 < ii) : sp_in ii 0 1000 := by
  first | grind | (simp only [sp_in, sp_pl, sp_far, sp_two] at *; grind)
theorem lf_sX5_clearFaces_3 (ii : Int32) (h1 : sp_in ii 0 1001) (c_1 : ¬ 1000 < ii) : sp_in (ii + 1) 0 1001 := by
  first | grind | (simp only [sp_in, sp_pl, sp_far, sp_two] at *; grind)
theorem lf_sX5_clearFaces_4 (ii : Int32) (h1 : sp_in ii 0 1001) (c_1 : ¬ 1000 < ii) : ii < 1001 := by
  first | grind | (simp only [sp_in, sp_pl, sp_far, sp_two] at *; grind)
def v_sX5_clearFaces : List Cond := .code yX5_clearFaces cX5_clearFaces 2 none :: (([.fieldLink RX5 15 "GhostPane$Joints" "face" "[Z", .fieldLink RX5 19 "GhostPane$Joints" "banned" "[Z"] : List Cond) ++ wsX50)
set_option maxHeartbeats 4000000 in
set_option maxRecDepth 100000 in
theorem sX5_clearFaces (l : Launch) (D : va_G) (cy : Nat → ClassId) (sz : Nat) (xa : Nat → Nat) (joints_found : Int32) (face : Nat → Int32) (banned : Nat → Int32) (f_joints_found : sp_in joints_found 0 1000) : Met l yX5_clearFaces v_sX5_clearFaces ({ frames := 0, cells := 0, slots := 0, locals := 0 } : Room) (va_Pc [.ref (xa 25)] (gp_B D cy sz [(o_joints xa joints_found), (aI (xa 27) (cy 3) 1001 face), (aI (xa 28) (cy 3) 1001 banned)])) (va_Qv (fun (u : (Nat → Int32) × (Nat → Int32)) => True) (fun u => gp_E D (va_A [(o_joints xa joints_found), (aI (xa 27) (cy 3) 1001 face), (aI (xa 28) (cy 3) 1001 banned)] sz) [(o_joints xa joints_found), (aI (xa 27) (cy 3) 1001 u.1), (aI (xa 28) (cy 3) 1001 u.2)]) (va_A [(o_joints xa joints_found), (aI (xa 27) (cy 3) 1001 face), (aI (xa 28) (cy 3) 1001 banned)] sz)) 0 0 (va_A [(o_joints xa joints_found), (aI (xa 27) (cy 3) 1001 face), (aI (xa 28) (cy 3) 1001 banned)] sz) := by
  refine gp_met (Qc := fun A => va_Qv (fun (u : (Nat → Int32) × (Nat → Int32)) => True) (fun u => gp_E D A [(o_joints xa joints_found), (aI (xa 27) (cy 3) 1001 u.1), (aI (xa 28) (cy 3) 1001 u.2)]) A) (cc := cX5_clearFaces) (maxL := 2) (ret := none) (by decide) rfl (Nat.le_of_ble_eq_true rfl) ?_
  intro p e s m below meth c A ls H hx hb hml hr hlocks hts hown hin hK hN hS hP hD hA hl
  have hown : s.vm.findClass RX5 = some m.cls := hown
  have hl : lv_has ls 2 [(0, .ref (xa 25))] := hl
  have hiX5 : ∀ w ∈ u_ws RX5 TX5 4, w ∈ v_sX5_clearFaces := fun _ h => List.mem_cons_of_mem _ (List.mem_append_right _ h)
  refine lv_iconst (v := 0) hx hb dX5_clearFaces_0 (by decide) ?_
  refine lv_istore_n (lv' := [(1, .int 0), (0, .ref (xa 25))]) hx hb dX5_clearFaces_1 rfl hl (by decide) rfl (fun ls hl => ?_)
  have key2 : ∀ (fu : Nat) (ii : Int32) (fa : Nat → Int32) (ba : Nat → Int32) (H : Heap) (locs : List Loc) (ls : Array Slot), (h1 : sp_in ii 0 1001) → (1001 - ii.toInt).toNat < fu → va_P D vwCl [(o_joints xa joints_found), (aI (xa 27) (cy 3) 1001 fa), (aI (xa 28) (cy 3) 1001 ba)] H → va_D A [(o_joints xa joints_found), (aI (xa 27) (cy 3) 1001 fa), (aI (xa 28) (cy 3) 1001 ba)] → va_S A s.heap H locs → lv_has ls 2 [(1, .int ii), (0, .ref (xa 25))] → W p l e (headSpec v_sX5_clearFaces (({ frames := 0, cells := 0, slots := 0, locals := 0 } : Room))).room s m [.ref (xa 25)].toArray below meth c H locs 0 0 (MQ below (va_Qv (fun (u : (Nat → Int32) × (Nat → Int32)) => True) (fun u => gp_E D A [(o_joints xa joints_found), (aI (xa 27) (cy 3) 1001 u.1), (aI (xa 28) (cy 3) 1001 u.2)]) A) [.ref (xa 25)].toArray s 0 0 A) (F0 m 2 ls []) := by
    intro fu
    induction fu with
    | zero => intro ii fa ba H locs ls h1 hfu; exact absurd hfu (Nat.not_lt_zero _)
    | succ fu ih =>
      intro ii fa ba H locs ls h1 hfu hP hD hS hl
      refine lv_iload_n hx hb dX5_clearFaces_2 rfl (lv_at hl 0 rfl) ?_
      refine lv_sipush (v := 1000) hx hb dX5_clearFaces_3 (by decide) ?_
      refine lv_icmp_gt (tgt := 29) hx hb dX5_clearFaces_6 (by decide) (fun c_1 => ?_) (fun c_1 => ?_)
      · exact W.vret hx hb hr (fun t ht hW => ⟨⟨⟨fa, ba⟩, rfl, trivial, gp_end ht hP hD⟩, hS.F ht⟩) hS.2.2 dX5_clearFaces_29
      · refine lv_aload_n hx hb dX5_clearFaces_9 rfl (lv_at hl 1 rfl) ?_
        refine va_get (D := D) (ci := 5) (v := .ref (xa 27)) (C := RX5) (T := TX5) (N := 4) hx hb hts hiX5 hown hK hP 0 rfl rfl 2 (by decide) (hts (.fieldLink RX5 15 "GhostPane$Joints" "face" "[Z") (List.mem_of_getElem? (i := 1) rfl)) (fun _ h9 => h9) rfl dX5_clearFaces_10 ?_
        refine lv_iload_n hx hb dX5_clearFaces_13 rfl (lv_at hl 0 rfl) ?_
        refine lv_iconst (v := 0) hx hb dX5_clearFaces_14 (by decide) ?_
        refine va_zast hx hb hK hP hD hS 1 3 rfl rfl (gp_in (hi := 1000) (lf_sX5_clearFaces_1 ii h1 c_1) (by decide)) dX5_clearFaces_15 (fun H locs hP hD hS => ?_)
        obtain ⟨fa_2, hP, hD⟩ : ∃ fa_2 : Nat → Int32, va_P D vwCl [(o_joints xa joints_found), (aI (xa 27) (cy 3) 1001 fa_2), (aI (xa 28) (cy 3) 1001 ba)] H ∧ va_D A [(o_joints xa joints_found), (aI (xa 27) (cy 3) 1001 fa_2), (aI (xa 28) (cy 3) 1001 ba)] := ⟨_, hP, hD⟩
        refine lv_aload_n hx hb dX5_clearFaces_16 rfl (lv_at hl 1 rfl) ?_
        refine va_get (D := D) (ci := 5) (v := .ref (xa 28)) (C := RX5) (T := TX5) (N := 4) hx hb hts hiX5 hown hK hP 0 rfl rfl 3 (by decide) (hts (.fieldLink RX5 19 "GhostPane$Joints" "banned" "[Z") (List.mem_of_getElem? (i := 2) rfl)) (fun _ h9 => h9) rfl dX5_clearFaces_17 ?_
        refine lv_iload_n hx hb dX5_clearFaces_20 rfl (lv_at hl 0 rfl) ?_
        refine lv_iconst (v := 0) hx hb dX5_clearFaces_21 (by decide) ?_
        refine va_zast hx hb hK hP hD hS 2 3 rfl rfl (gp_in (hi := 1000) (lf_sX5_clearFaces_2 ii h1 c_1) (by decide)) dX5_clearFaces_22 (fun H locs hP hD hS => ?_)
        obtain ⟨ba_3, hP, hD⟩ : ∃ ba_3 : Nat → Int32, va_P D vwCl [(o_joints xa joints_found), (aI (xa 27) (cy 3) 1001 fa_2), (aI (xa 28) (cy 3) 1001 ba_3)] H ∧ va_D A [(o_joints xa joints_found), (aI (xa 27) (cy 3) 1001 fa_2), (aI (xa 28) (cy 3) 1001 ba_3)] := ⟨_, hP, hD⟩
        refine lv_iinc (v := (ii + 1)) (lv' := [(1, .int (ii + 1)), (0, .ref (xa 25))]) hx hb dX5_clearFaces_23 hl (k := 0) rfl rfl (by decide) rfl (fun ls hl => ?_)
        refine lv_goto (tgt := 2) hx hb dX5_clearFaces_26 (by decide) ?_
        exact ih (ii + 1) fa_2 ba_3 H locs ls (lf_sX5_clearFaces_3 ii h1 c_1) (Nat.lt_of_lt_of_le (gp_mdec (b := 1001) (lf_sX5_clearFaces_4 ii h1 c_1)) (Nat.le_of_lt_succ hfu)) hP hD hS (lv_sub hl [0, 1] rfl)
  exact key2 ((1001 - (0 : Int32).toInt).toNat + 1) 0 face banned H [] ls (show sp_in 0 0 1001 by decide) (Nat.lt_succ_self _) hP hD hS (lv_sub hl [0, 1] rfl)

theorem lf_sX5_mark_1 (p0 : Int32) (c_1 : ¬ p0 < 0) (c_2 : ¬ 1000 < p0) : sp_in p0 0 1000 := by
  first | grind | (simp only [sp_in, sp_pl, sp_far, sp_two] at *; grind)
def v_sX5_mark : List Cond := .code yX5_mark cX5_mark 2 none :: (([.fieldLink RX5 15 "GhostPane$Joints" "face" "[Z"] : List Cond) ++ wsX50)
set_option maxHeartbeats 4000000 in
set_option maxRecDepth 100000 in
theorem sX5_mark (l : Launch) (D : va_G) (cy : Nat → ClassId) (sz : Nat) (xa : Nat → Nat) (joints_found : Int32) (face : Nat → Int32) (p0 : Int32) (f_joints_found : sp_in joints_found 0 1000) : Met l yX5_mark v_sX5_mark ({ frames := 0, cells := 0, slots := 0, locals := 0 } : Room) (va_Pc [.ref (xa 25), .int p0] (gp_B D cy sz [(o_joints xa joints_found), (aI (xa 27) (cy 3) 1001 face)])) (va_Qv (fun (u : (Nat → Int32)) => True) (fun u => gp_E D (va_A [(o_joints xa joints_found), (aI (xa 27) (cy 3) 1001 face)] sz) [(o_joints xa joints_found), (aI (xa 27) (cy 3) 1001 u)]) (va_A [(o_joints xa joints_found), (aI (xa 27) (cy 3) 1001 face)] sz)) 0 0 (va_A [(o_joints xa joints_found), (aI (xa 27) (cy 3) 1001 face)] sz) := by
  refine gp_met (Qc := fun A => va_Qv (fun (u : (Nat → Int32)) => True) (fun u => gp_E D A [(o_joints xa joints_found), (aI (xa 27) (cy 3) 1001 u)]) A) (cc := cX5_mark) (maxL := 2) (ret := none) (by decide) rfl (Nat.le_of_ble_eq_true rfl) ?_
  intro p e s m below meth c A ls H hx hb hml hr hlocks hts hown hin hK hN hS hP hD hA hl
  have hown : s.vm.findClass RX5 = some m.cls := hown
  have hl : lv_has ls 2 [(0, .ref (xa 25)), (1, .int p0)] := hl
  have hiX5 : ∀ w ∈ u_ws RX5 TX5 4, w ∈ v_sX5_mark := fun _ h => List.mem_cons_of_mem _ (List.mem_append_right _ h)
  refine lv_iload_n hx hb dX5_mark_0 rfl (lv_at hl 1 rfl) ?_
  refine lv_if_lt (tgt := 18) hx hb dX5_mark_1 (by decide) (fun c_1 => ?_) (fun c_1 => ?_)
  · exact W.vret hx hb hr (fun t ht hW => ⟨⟨face, rfl, trivial, gp_end ht hP hD⟩, hS.F ht⟩) hS.2.2 dX5_mark_18
  · refine lv_iload_n hx hb dX5_mark_4 rfl (lv_at hl 1 rfl) ?_
    refine lv_sipush (v := 1000) hx hb dX5_mark_5 (by decide) ?_
    refine lv_icmp_gt (tgt := 18) hx hb dX5_mark_8 (by decide) (fun c_2 => ?_) (fun c_2 => ?_)
    · exact W.vret hx hb hr (fun t ht hW => ⟨⟨face, rfl, trivial, gp_end ht hP hD⟩, hS.F ht⟩) hS.2.2 dX5_mark_18
    · refine lv_aload_n hx hb dX5_mark_11 rfl (lv_at hl 0 rfl) ?_
      refine va_get (D := D) (ci := 5) (v := .ref (xa 27)) (C := RX5) (T := TX5) (N := 4) hx hb hts hiX5 hown hK hP 0 rfl rfl 2 (by decide) (hts (.fieldLink RX5 15 "GhostPane$Joints" "face" "[Z") (List.mem_of_getElem? (i := 1) rfl)) (fun _ h9 => h9) rfl dX5_mark_12 ?_
      refine lv_iload_n hx hb dX5_mark_15 rfl (lv_at hl 1 rfl) ?_
      refine lv_iconst (v := 1) hx hb dX5_mark_16 (by decide) ?_
      refine va_zast hx hb hK hP hD hS 1 3 rfl rfl (gp_in (hi := 1000) (lf_sX5_mark_1 p0 c_1 c_2) (by decide)) dX5_mark_17 (fun H locs hP hD hS => ?_)
      obtain ⟨face_3, hP, hD⟩ : ∃ face_3 : Nat → Int32, va_P D vwCl [(o_joints xa joints_found), (aI (xa 27) (cy 3) 1001 face_3)] H ∧ va_D A [(o_joints xa joints_found), (aI (xa 27) (cy 3) 1001 face_3)] := ⟨_, hP, hD⟩
      exact W.vret hx hb hr (fun t ht hW => ⟨⟨face_3, rfl, trivial, gp_end ht hP hD⟩, hS.F ht⟩) hS.2.2 dX5_mark_18

theorem lf_sX5_farthest_1 (fr : Int32) (k : Int32) (q0 : sp_in fr 0 1000) (h1 : sp_in k fr 1000) (c_1 : k ≤ fr) : fr ≤ fr ∧ fr ≤ 1000 := by
  first | grind | (simp only [sp_in, sp_pl, sp_far, sp_two] at *; grind)
theorem lf_sX5_farthest_2 (fr : Int32) (k : Int32) (q0 : sp_in fr 0 1000) (h1 : sp_in k fr 1000) (c_1 : ¬ k ≤ fr) : sp_in k 0 1000 := by
  first | grind | (simp only [sp_in, sp_pl, sp_far, sp_two] at *; grind)
theorem lf_sX5_farthest_3 (fr : Int32) (k : Int32) (q0 : sp_in fr 0 1000) (h1 : sp_in k fr 1000) (c_1 : ¬ k ≤ fr) : sp_in (k + (-1)) fr 1000 := by
  first | grind | (simp only [sp_in, sp_pl, sp_far, sp_two] at *; grind)
theorem lf_sX5_farthest_4 (fr : Int32) (k : Int32) (q0 : sp_in fr 0 1000) (h1 : sp_in k fr 1000) (c_1 : ¬ k ≤ fr) : fr < k := by
  first | grind | (simp only [sp_in, sp_pl, sp_far, sp_two] at *; grind)
theorem lf_sX5_farthest_5 (fr : Int32) (k : Int32) (q0 : sp_in fr 0 1000) (h1 : sp_in k fr 1000) (c_1 : ¬ k ≤ fr) : fr ≤ k ∧ k ≤ 1000 := by
  first | grind | (simp only [sp_in, sp_pl, sp_far, sp_two] at *; grind)
theorem lf_sX5_farthest_6 (fr : Int32) (longest : Int32) (q0 : sp_in fr 0 1000) (q1 : sp_in longest 1 1000) : sp_in (if (fr + longest) < 1000 then (fr + longest) else 1000) fr 1000 := by
  first | grind | (simp only [sp_in, sp_pl, sp_far, sp_two] at *; grind)
def v_sX5_farthest : List Cond := .code yX5_farthest cX5_farthest 4 (some .int) :: (([.methodLink RX5 34 Lib.Math.min.name, .static Lib.Math.min.name, .initialized "java/lang/Math", .code Lib.Math.min.name Lib.Math.min.code 2 (some .int), .fieldLink RX5 19 "GhostPane$Joints" "banned" "[Z"] : List Cond) ++ wsX50)
set_option maxHeartbeats 4000000 in
set_option maxRecDepth 100000 in
theorem sX5_farthest (l : Launch) (D : va_G) (cy : Nat → ClassId) (sz : Nat) (xa : Nat → Nat) (joints_found : Int32) (banned : Nat → Int32) (fr : Int32) (longest : Int32) (f_joints_found : sp_in joints_found 0 1000) (q0 : sp_in fr 0 1000) (q1 : sp_in longest 1 1000) : Met l yX5_farthest v_sX5_farthest ({ frames := 1, cells := 0, slots := 0, locals := 21 } : Room) (va_Pc [.ref (xa 25), .int fr, .int longest] (gp_B D cy sz [(o_joints xa joints_found), (aI (xa 28) (cy 3) 1001 banned)])) (va_Qi (fun (r : Int32) (u : Unit) => (fr ≤ r ∧ r ≤ 1000)) (fun u => gp_E D (va_A [(o_joints xa joints_found), (aI (xa 28) (cy 3) 1001 banned)] sz) [(o_joints xa joints_found), (aI (xa 28) (cy 3) 1001 banned)]) (va_A [(o_joints xa joints_found), (aI (xa 28) (cy 3) 1001 banned)] sz)) 0 0 (va_A [(o_joints xa joints_found), (aI (xa 28) (cy 3) 1001 banned)] sz) := by
  refine gp_met (Qc := fun A => va_Qi (fun (r : Int32) (u : Unit) => (fr ≤ r ∧ r ≤ 1000)) (fun u => gp_E D A [(o_joints xa joints_found), (aI (xa 28) (cy 3) 1001 banned)]) A) (cc := cX5_farthest) (maxL := 4) (ret := (some .int)) (by decide) rfl (Nat.le_of_ble_eq_true rfl) ?_
  intro p e s m below meth c A ls H hx hb hml hr hlocks hts hown hin hK hN hS hP hD hA hl
  have hown : s.vm.findClass RX5 = some m.cls := hown
  have hl : lv_has ls 4 [(0, .ref (xa 25)), (1, .int fr), (2, .int longest)] := hl
  have hiX5 : ∀ w ∈ u_ws RX5 TX5 4, w ∈ v_sX5_farthest := fun _ h => List.mem_cons_of_mem _ (List.mem_append_right _ h)
  refine lv_sipush (v := 1000) hx hb dX5_farthest_0 (by decide) ?_
  refine lv_iload_n hx hb dX5_farthest_3 rfl (lv_at hl 1 rfl) ?_
  refine lv_iload_n hx hb dX5_farthest_4 rfl (lv_at hl 2 rfl) ?_
  refine lv_iadd hx hb dX5_farthest_5 ?_
  refine va_mmin hx hb (by rw [hml]; exact hl.1.symm) hown (hts (.methodLink RX5 34 Lib.Math.min.name) (List.mem_of_getElem? (i := 1) rfl)) (hts (.static Lib.Math.min.name) (List.mem_of_getElem? (i := 2) rfl)) (hts (.initialized "java/lang/Math") (List.mem_of_getElem? (i := 3) rfl)) (hts (.code Lib.Math.min.name Lib.Math.min.code 2 (some .int)) (List.mem_of_getElem? (i := 4) rfl)) (Nat.le_of_ble_eq_true rfl) (Nat.le_of_ble_eq_true rfl) (Nat.le_of_ble_eq_true rfl) (Nat.le_of_ble_eq_true rfl) dX5_farthest_6 ?_
  refine lv_istore_n (lv' := [(3, .int (if (fr + longest) < 1000 then (fr + longest) else 1000)), (0, .ref (xa 25)), (1, .int fr), (2, .int longest)]) hx hb dX5_farthest_9 rfl hl (by decide) rfl (fun ls hl => ?_)
  have key10 : ∀ (fu : Nat) (k : Int32) (H : Heap) (locs : List Loc) (ls : Array Slot), (h1 : sp_in k fr 1000) → (k.toInt - fr.toInt).toNat < fu → va_P D vwCl [(o_joints xa joints_found), (aI (xa 28) (cy 3) 1001 banned)] H → va_D A [(o_joints xa joints_found), (aI (xa 28) (cy 3) 1001 banned)] → va_S A s.heap H locs → lv_has ls 4 [(3, .int k), (0, .ref (xa 25)), (1, .int fr), (2, .int longest)] → W p l e (headSpec v_sX5_farthest (({ frames := 1, cells := 0, slots := 0, locals := 21 } : Room))).room s m [.ref (xa 25), .int fr, .int longest].toArray below meth c H locs 0 0 (MQ below (va_Qi (fun (r : Int32) (u : Unit) => (fr ≤ r ∧ r ≤ 1000)) (fun u => gp_E D A [(o_joints xa joints_found), (aI (xa 28) (cy 3) 1001 banned)]) A) [.ref (xa 25), .int fr, .int longest].toArray s 0 0 A) (F0 m 10 ls []) := by
    intro fu
    induction fu with
    | zero => intro k H locs ls h1 hfu; exact absurd hfu (Nat.not_lt_zero _)
    | succ fu ih =>
      intro k H locs ls h1 hfu hP hD hS hl
      refine lv_iload_n hx hb dX5_farthest_10 rfl (lv_at hl 0 rfl) ?_
      refine lv_iload_n hx hb dX5_farthest_11 rfl (lv_at hl 2 rfl) ?_
      refine lv_icmp_le (tgt := 32) hx hb dX5_farthest_12 (by decide) (fun c_1 => ?_) (fun c_1 => ?_)
      · refine lv_iload_n hx hb dX5_farthest_32 rfl (lv_at hl 2 rfl) ?_
        exact W.iret (v := fr) hx hb hr (fun t ht hW => ⟨⟨fr, (), rfl, (lf_sX5_farthest_1 fr k q0 h1 c_1), gp_end ht hP hD⟩, hS.F ht⟩) hS.2.2 dX5_farthest_33
      · refine lv_aload_n hx hb dX5_farthest_15 rfl (lv_at hl 1 rfl) ?_
        refine va_get (D := D) (ci := 5) (v := .ref (xa 28)) (C := RX5) (T := TX5) (N := 4) hx hb hts hiX5 hown hK hP 0 rfl rfl 3 (by decide) (hts (.fieldLink RX5 19 "GhostPane$Joints" "banned" "[Z") (List.mem_of_getElem? (i := 5) rfl)) (fun _ h9 => h9) rfl dX5_farthest_16 ?_
        refine lv_iload_n hx hb dX5_farthest_19 rfl (lv_at hl 0 rfl) ?_
        refine va_zald hx hb hK hP 1 3 rfl rfl (gp_in (hi := 1000) (lf_sX5_farthest_2 fr k q0 h1 c_1) (by decide)) dX5_farthest_20 ?_
        refine gp_fi (fun y_2 => ?_)
        refine lv_if_ne (tgt := 26) hx hb dX5_farthest_21 (by decide) (fun c_3 => ?_) (fun c_3 => ?_)
        · refine lv_iinc (v := (k + (-1))) (lv' := [(3, .int (k + (-1))), (0, .ref (xa 25)), (1, .int fr), (2, .int longest)]) hx hb dX5_farthest_26 hl (k := 0) rfl rfl (by decide) rfl (fun ls hl => ?_)
          refine lv_goto (tgt := 10) hx hb dX5_farthest_29 (by decide) ?_
          exact ih (k + (-1)) H locs ls (lf_sX5_farthest_3 fr k q0 h1 c_1) (Nat.lt_of_lt_of_le (gp_mdec2 (lf_sX5_farthest_4 fr k q0 h1 c_1)) (Nat.le_of_lt_succ hfu)) hP hD hS (lv_sub hl [0, 1, 2, 3] rfl)
        · refine lv_iload_n hx hb dX5_farthest_24 rfl (lv_at hl 0 rfl) ?_
          exact W.iret (v := k) hx hb hr (fun t ht hW => ⟨⟨k, (), rfl, (lf_sX5_farthest_5 fr k q0 h1 c_1), gp_end ht hP hD⟩, hS.F ht⟩) hS.2.2 dX5_farthest_25
  exact key10 (((if (fr + longest) < 1000 then (fr + longest) else 1000).toInt - fr.toInt).toNat + 1) (if (fr + longest) < 1000 then (fr + longest) else 1000) H [] ls (lf_sX5_farthest_6 fr longest q0 q1) (Nat.lt_succ_self _) hP hD hS (lv_sub hl [0, 1, 2, 3] rfl)

theorem lf_sX5_stepsOf_1 (many : Int32) (h2 : sp_in many 0 1000) (c_1 : 1000 ≤ many) : sp_in many (-1) 1000 := by
  first | grind | (simp only [sp_in, sp_pl, sp_far, sp_two] at *; grind)
theorem lf_sX5_stepsOf_2 (many : Int32) (h2 : sp_in many 0 1000) (c_1 : ¬ 1000 ≤ many) : sp_in many (-1) 1000 := by
  first | grind | (simp only [sp_in, sp_pl, sp_far, sp_two] at *; grind)
theorem lf_sX5_stepsOf_3 (longest : Int32) (fr : Int32) (r_3 : Int32) (q0 : sp_in longest 1 1000) (h1 : sp_in fr 0 1000) (c_2 : ¬ 1000 ≤ (fr + longest)) (w_4 : fr ≤ r_3 ∧ r_3 ≤ 1000) (c_5 : ¬ r_3 = fr) : sp_in r_3 0 1000 := by
  first | grind | (simp only [sp_in, sp_pl, sp_far, sp_two] at *; grind)
theorem lf_sX5_stepsOf_4 (many : Int32) (h2 : sp_in many 0 1000) (c_1 : ¬ 1000 ≤ many) : sp_in (many + 1) 0 1000 := by
  first | grind | (simp only [sp_in, sp_pl, sp_far, sp_two] at *; grind)
theorem lf_sX5_stepsOf_5 (many : Int32) (h2 : sp_in many 0 1000) (c_1 : ¬ 1000 ≤ many) : many < 1000 := by
  first | grind | (simp only [sp_in, sp_pl, sp_far, sp_two] at *; grind)
def v_sX5_stepsOf : List Cond := .code yX5_stepsOf cX5_stepsOf 5 (some .int) :: (([.code yX5_farthest cX5_farthest 4 (some .int), .methodLink RX5 34 Lib.Math.min.name, .static Lib.Math.min.name, .initialized "java/lang/Math", .code Lib.Math.min.name Lib.Math.min.code 2 (some .int), .fieldLink RX5 19 "GhostPane$Joints" "banned" "[Z", .methodLink RX5 26 yX5_farthest, .instanceMethod yX5_farthest, .selects RX5 yX5_farthest yX5_farthest, .initialized RX5] : List Cond) ++ wsX50)
set_option maxRecDepth 20000 in
theorem gg_sX5_stepsOf_sX5_farthest : GoodIn v_sX5_stepsOf v_sX5_farthest := goodIn_ca (goodIn_r (.code yX5_farthest cX5_farthest 4 (some .int) :: [.methodLink RX5 34 Lib.Math.min.name, .static Lib.Math.min.name, .initialized "java/lang/Math", .code Lib.Math.min.name Lib.Math.min.code 2 (some .int), .fieldLink RX5 19 "GhostPane$Joints" "banned" "[Z"]) [1, 2, 3, 4, 5, 6] (by first | rfl | decide +kernel) (by decide +kernel)) (goodIn_sub (fun _ h => List.mem_cons_of_mem _ (List.mem_append_right _ h)) gwX5)
set_option maxRecDepth 20000 in
theorem g_sX5_stepsOf_sX5_farthest_0 : GoodIn v_sX5_stepsOf (wsV RX5 26 RX5 yX5_farthest v_sX5_farthest) := goodIn_app (goodIn_r [.methodLink RX5 26 yX5_farthest, .instanceMethod yX5_farthest, .selects RX5 yX5_farthest yX5_farthest, .initialized RX5] [7, 8, 9, 10] rfl (by decide +kernel)) gg_sX5_stepsOf_sX5_farthest
set_option maxHeartbeats 4000000 in
set_option maxRecDepth 100000 in
theorem sX5_stepsOf (l : Launch) (D : va_G) (cy : Nat → ClassId) (sz : Nat) (xa : Nat → Nat) (joints_found : Int32) (banned : Nat → Int32) (longest : Int32) (f_joints_found : sp_in joints_found 0 1000) (q0 : sp_in longest 1 1000) : Met l yX5_stepsOf v_sX5_stepsOf ({ frames := 2, cells := 0, slots := 0, locals := 44 } : Room) (va_Pc [.ref (xa 25), .int longest] (gp_B D cy sz [(o_joints xa joints_found), (aI (xa 28) (cy 3) 1001 banned)])) (va_Qi (fun (r : Int32) (u : Unit) => (sp_in r (-1) 1000)) (fun u => gp_E D (va_A [(o_joints xa joints_found), (aI (xa 28) (cy 3) 1001 banned)] sz) [(o_joints xa joints_found), (aI (xa 28) (cy 3) 1001 banned)]) (va_A [(o_joints xa joints_found), (aI (xa 28) (cy 3) 1001 banned)] sz)) 0 0 (va_A [(o_joints xa joints_found), (aI (xa 28) (cy 3) 1001 banned)] sz) := by
  refine gp_met (Qc := fun A => va_Qi (fun (r : Int32) (u : Unit) => (sp_in r (-1) 1000)) (fun u => gp_E D A [(o_joints xa joints_found), (aI (xa 28) (cy 3) 1001 banned)]) A) (cc := cX5_stepsOf) (maxL := 5) (ret := (some .int)) (by decide) rfl (Nat.le_of_ble_eq_true rfl) ?_
  intro p e s m below meth c A ls H hx hb hml hr hlocks hts hown hin hK hN hS hP hD hA hl
  have hown : s.vm.findClass RX5 = some m.cls := hown
  have hl : lv_has ls 5 [(0, .ref (xa 25)), (1, .int longest)] := hl
  refine lv_iconst (v := 0) hx hb dX5_stepsOf_0 (by decide) ?_
  refine lv_istore_n (lv' := [(2, .int 0), (0, .ref (xa 25)), (1, .int longest)]) hx hb dX5_stepsOf_1 rfl hl (by decide) rfl (fun ls hl => ?_)
  refine lv_iconst (v := 0) hx hb dX5_stepsOf_2 (by decide) ?_
  refine lv_istore_n (lv' := [(3, .int 0), (2, .int 0), (0, .ref (xa 25)), (1, .int longest)]) hx hb dX5_stepsOf_3 rfl hl (by decide) rfl (fun ls hl => ?_)
  have key4 : ∀ (fu : Nat) (fr : Int32) (many : Int32) (H : Heap) (locs : List Loc) (ls : Array Slot), (h1 : sp_in fr 0 1000) → (h2 : sp_in many 0 1000) → (1000 - many.toInt).toNat < fu → va_P D vwCl [(o_joints xa joints_found), (aI (xa 28) (cy 3) 1001 banned)] H → va_D A [(o_joints xa joints_found), (aI (xa 28) (cy 3) 1001 banned)] → va_S A s.heap H locs → lv_has ls 5 [(3, .int many), (2, .int fr), (0, .ref (xa 25)), (1, .int longest)] → W p l e (headSpec v_sX5_stepsOf (({ frames := 2, cells := 0, slots := 0, locals := 44 } : Room))).room s m [.ref (xa 25), .int longest].toArray below meth c H locs 0 0 (MQ below (va_Qi (fun (r : Int32) (u : Unit) => (sp_in r (-1) 1000)) (fun u => gp_E D A [(o_joints xa joints_found), (aI (xa 28) (cy 3) 1001 banned)]) A) [.ref (xa 25), .int longest].toArray s 0 0 A) (F0 m 4 ls []) := by
    intro fu
    induction fu with
    | zero => intro fr many H locs ls h1 h2 hfu; exact absurd hfu (Nat.not_lt_zero _)
    | succ fu ih =>
      intro fr many H locs ls h1 h2 hfu hP hD hS hl
      refine lv_iload_n hx hb dX5_stepsOf_4 rfl (lv_at hl 0 rfl) ?_
      refine lv_sipush (v := 1000) hx hb dX5_stepsOf_5 (by decide) ?_
      refine lv_icmp_ge (tgt := 45) hx hb dX5_stepsOf_8 (by decide) (fun c_1 => ?_) (fun c_1 => ?_)
      · refine lv_iload_n hx hb dX5_stepsOf_45 rfl (lv_at hl 0 rfl) ?_
        exact W.iret (v := many) hx hb hr (fun t ht hW => ⟨⟨many, (), rfl, (lf_sX5_stepsOf_1 many h2 c_1), gp_end ht hP hD⟩, hS.F ht⟩) hS.2.2 dX5_stepsOf_46
      · refine lv_iload_n hx hb dX5_stepsOf_11 rfl (lv_at hl 1 rfl) ?_
        refine lv_iload_n hx hb dX5_stepsOf_12 rfl (lv_at hl 3 rfl) ?_
        refine lv_iadd hx hb dX5_stepsOf_13 ?_
        refine lv_sipush (v := 1000) hx hb dX5_stepsOf_14 (by decide) ?_
        refine lv_icmp_ge (tgt := 45) hx hb dX5_stepsOf_17 (by decide) (fun c_2 => ?_) (fun c_2 => ?_)
        · refine lv_iload_n hx hb dX5_stepsOf_45 rfl (lv_at hl 0 rfl) ?_
          exact W.iret (v := many) hx hb hr (fun t ht hW => ⟨⟨many, (), rfl, (lf_sX5_stepsOf_2 many h2 c_1), gp_end ht hP hD⟩, hS.F ht⟩) hS.2.2 dX5_stepsOf_46
        · refine lv_aload_n hx hb dX5_stepsOf_20 rfl (lv_at hl 2 rfl) ?_
          refine lv_iload_n hx hb dX5_stepsOf_21 rfl (lv_at hl 1 rfl) ?_
          refine lv_iload_n hx hb dX5_stepsOf_22 rfl (lv_at hl 3 rfl) ?_
          have hPc := hP.sub (ws' := [(o_joints xa joints_found), (aI (xa 28) (cy 3) 1001 banned)]) [0, 1] rfl
          have hDc := hD.sub (ws' := [(o_joints xa joints_found), (aI (xa 28) (cy 3) 1001 banned)]) [0, 1] (by decide) rfl
          have hFc := va_free (wc := [(o_joints xa joints_found), (aI (xa 28) (cy 3) 1001 banned)]) hD hS hA [0, 1] rfl
          refine va_calli (va_runV (As := [.int fr, .int longest]) (rest := []) ⟨hx, hb, hml, hown, hts⟩ (sX5_farthest l D cy H.size xa joints_found banned fr longest f_joints_found h1 q0) (cwV 2 hts g_sX5_stepsOf_sX5_farthest_0 rfl rfl rfl (by decide +kernel) ⟨Nat.le_of_ble_eq_true rfl, Nat.le_of_ble_eq_true rfl⟩) (gp_preV (RX5, TX5, 4) 5 0 hPc hDc hK hN rfl rfl) rfl rfl hl.1 rfl (lv_room (Nat.le_of_ble_eq_true rfl)) dX5_stepsOf_23 ⟨Nat.le_of_ble_eq_true rfl, Nat.le_of_ble_eq_true rfl⟩) hS (fun q _ h => hFc q h) hFc (fun r_3 u t H locs ht hvm hw hB hz1 hk1 hS => ?_)
          have hP := gp_joinU (wc := [(o_joints xa joints_found), (aI (xa 28) (cy 3) 1001 banned)]) hP hD [0, 1] rfl hk1 ht hB
          have w_4 := hw
          refine lv_istore (lv' := [(4, .int r_3), (3, .int many), (2, .int fr), (0, .ref (xa 25)), (1, .int longest)]) hx hb dX5_stepsOf_26 hl (by decide) rfl (fun ls hl => ?_)
          refine lv_iload hx hb dX5_stepsOf_28 (lv_at hl 0 rfl) ?_
          refine lv_iload_n hx hb dX5_stepsOf_30 rfl (lv_at hl 2 rfl) ?_
          refine lv_icmp_ne (tgt := 36) hx hb dX5_stepsOf_31 (by decide) (fun c_5 => ?_) (fun c_5 => ?_)
          · refine lv_iload hx hb dX5_stepsOf_36 (lv_at hl 0 rfl) ?_
            refine lv_istore_n (lv' := [(2, .int r_3), (4, .int r_3), (3, .int many), (0, .ref (xa 25)), (1, .int longest)]) hx hb dX5_stepsOf_38 rfl hl (by decide) rfl (fun ls hl => ?_)
            refine lv_iinc (v := (many + 1)) (lv' := [(3, .int (many + 1)), (2, .int r_3), (4, .int r_3), (0, .ref (xa 25)), (1, .int longest)]) hx hb dX5_stepsOf_39 hl (k := 2) rfl rfl (by decide) rfl (fun ls hl => ?_)
            refine lv_goto (tgt := 4) hx hb dX5_stepsOf_42 (by decide) ?_
            exact ih r_3 (many + 1) H locs ls (lf_sX5_stepsOf_3 longest fr r_3 q0 h1 c_2 w_4 c_5) (lf_sX5_stepsOf_4 many h2 c_1) (Nat.lt_of_lt_of_le (gp_mdec (b := 1000) (lf_sX5_stepsOf_5 many h2 c_1)) (Nat.le_of_lt_succ hfu)) hP hD hS (lv_sub hl [0, 1, 3, 4] rfl)
          · refine lv_iconst (v := (-1)) hx hb dX5_stepsOf_34 (by decide) ?_
            exact W.iret (v := (-1)) hx hb hr (fun t ht hW => ⟨⟨(-1), (), rfl, (show sp_in ((-1) : Int32) (-1) 1000 by decide), gp_end ht hP hD⟩, hS.F ht⟩) hS.2.2 dX5_stepsOf_35
  exact key4 ((1000 - (0 : Int32).toInt).toNat + 1) 0 0 H [] ls (show sp_in 0 0 1000 by decide) (show sp_in 0 0 1000 by decide) (Nat.lt_succ_self _) hP hD hS (lv_sub hl [0, 1, 2, 3] rfl)

theorem lf_sX5_find_1 (r_1 : Int32) (k : Int32) (w_2 : sp_in r_1 (-1) 1000) (c_3 : 0 ≤ r_1) (h2 : sp_in k 0 1000) (c_4 : r_1 ≤ k) : sp_in r_1 0 1000 := by
  first | grind | (simp only [sp_in, sp_pl, sp_far, sp_two] at *; grind)
theorem lf_sX5_find_2 (r_1 : Int32) (k : Int32) (w_2 : sp_in r_1 (-1) 1000) (c_3 : 0 ≤ r_1) (h2 : sp_in k 0 1000) (c_4 : ¬ r_1 ≤ k) (c_5 : 1000 ≤ k) : sp_in r_1 0 1000 := by
  first | grind | (simp only [sp_in, sp_pl, sp_far, sp_two] at *; grind)
theorem lf_sX5_find_3 (r_1 : Int32) (k : Int32) (w_2 : sp_in r_1 (-1) 1000) (c_3 : 0 ≤ r_1) (h2 : sp_in k 0 1000) (c_4 : ¬ r_1 ≤ k) (c_5 : ¬ 1000 ≤ k) : sp_in k 0 999 := by
  first | grind | (simp only [sp_in, sp_pl, sp_far, sp_two] at *; grind)
theorem lf_sX5_find_4 (fr : Int32) (r_6 : Int32) (h1 : sp_in fr 0 1000) (w_7 : fr ≤ r_6 ∧ r_6 ≤ 1000) : sp_in r_6 0 1000 := by
  first | grind | (simp only [sp_in, sp_pl, sp_far, sp_two] at *; grind)
theorem lf_sX5_find_5 (r_1 : Int32) (k : Int32) (w_2 : sp_in r_1 (-1) 1000) (c_3 : 0 ≤ r_1) (h2 : sp_in k 0 1000) (c_4 : ¬ r_1 ≤ k) (c_5 : ¬ 1000 ≤ k) : sp_in (k + 1) 0 1000 := by
  first | grind | (simp only [sp_in, sp_pl, sp_far, sp_two] at *; grind)
theorem lf_sX5_find_6 (r_1 : Int32) (k : Int32) (w_2 : sp_in r_1 (-1) 1000) (c_3 : 0 ≤ r_1) (h2 : sp_in k 0 1000) (c_4 : ¬ r_1 ≤ k) (c_5 : ¬ 1000 ≤ k) : k < 1000 := by
  first | grind | (simp only [sp_in, sp_pl, sp_far, sp_two] at *; grind)
def v_sX5_find : List Cond := .code yX5_find cX5_find 5 (some .boolean) :: (([.code yX5_stepsOf cX5_stepsOf 5 (some .int), .code yX5_farthest cX5_farthest 4 (some .int), .methodLink RX5 34 Lib.Math.min.name, .static Lib.Math.min.name, .initialized "java/lang/Math", .code Lib.Math.min.name Lib.Math.min.code 2 (some .int), .fieldLink RX5 19 "GhostPane$Joints" "banned" "[Z", .methodLink RX5 26 yX5_farthest, .instanceMethod yX5_farthest, .selects RX5 yX5_farthest yX5_farthest, .initialized RX5, .methodLink RX5 22 yX5_stepsOf, .instanceMethod yX5_stepsOf, .selects RX5 yX5_stepsOf yX5_stepsOf, .fieldLink RX5 30 "GhostPane$Joints" "found" "I", .fieldLink RX5 11 "GhostPane$Joints" "places" "[I"] : List Cond) ++ wsX50)
set_option maxRecDepth 20000 in
theorem gg_sX5_find_sX5_stepsOf : GoodIn v_sX5_find v_sX5_stepsOf := goodIn_ca (goodIn_r (.code yX5_stepsOf cX5_stepsOf 5 (some .int) :: [.code yX5_farthest cX5_farthest 4 (some .int), .methodLink RX5 34 Lib.Math.min.name, .static Lib.Math.min.name, .initialized "java/lang/Math", .code Lib.Math.min.name Lib.Math.min.code 2 (some .int), .fieldLink RX5 19 "GhostPane$Joints" "banned" "[Z", .methodLink RX5 26 yX5_farthest, .instanceMethod yX5_farthest, .selects RX5 yX5_farthest yX5_farthest, .initialized RX5]) [1, 2, 3, 4, 5, 6, 7, 8, 9, 10, 11] (by first | rfl | decide +kernel) (by decide +kernel)) (goodIn_sub (fun _ h => List.mem_cons_of_mem _ (List.mem_append_right _ h)) gwX5)
set_option maxRecDepth 20000 in
theorem g_sX5_find_sX5_stepsOf_0 : GoodIn v_sX5_find (wsV RX5 22 RX5 yX5_stepsOf v_sX5_stepsOf) := goodIn_app (goodIn_r [.methodLink RX5 22 yX5_stepsOf, .instanceMethod yX5_stepsOf, .selects RX5 yX5_stepsOf yX5_stepsOf, .initialized RX5] [12, 13, 14, 11] rfl (by decide +kernel)) gg_sX5_find_sX5_stepsOf
set_option maxRecDepth 20000 in
theorem gg_sX5_find_sX5_farthest : GoodIn v_sX5_find v_sX5_farthest := goodIn_ca (goodIn_r (.code yX5_farthest cX5_farthest 4 (some .int) :: [.methodLink RX5 34 Lib.Math.min.name, .static Lib.Math.min.name, .initialized "java/lang/Math", .code Lib.Math.min.name Lib.Math.min.code 2 (some .int), .fieldLink RX5 19 "GhostPane$Joints" "banned" "[Z"]) [2, 3, 4, 5, 6, 7] (by first | rfl | decide +kernel) (by decide +kernel)) (goodIn_sub (fun _ h => List.mem_cons_of_mem _ (List.mem_append_right _ h)) gwX5)
set_option maxRecDepth 20000 in
theorem g_sX5_find_sX5_farthest_1 : GoodIn v_sX5_find (wsV RX5 26 RX5 yX5_farthest v_sX5_farthest) := goodIn_app (goodIn_r [.methodLink RX5 26 yX5_farthest, .instanceMethod yX5_farthest, .selects RX5 yX5_farthest yX5_farthest, .initialized RX5] [8, 9, 10, 11] rfl (by decide +kernel)) gg_sX5_find_sX5_farthest
set_option maxHeartbeats 4000000 in
set_option maxRecDepth 100000 in
theorem sX5_find (l : Launch) (D : va_G) (cy : Nat → ClassId) (sz : Nat) (xa : Nat → Nat) (joints_found : Int32) (places : Nat → Int32) (banned : Nat → Int32) (longest : Int32) (f_joints_found : sp_in joints_found 0 1000) (q0 : sp_in longest 1 1000) : Met l yX5_find v_sX5_find ({ frames := 3, cells := 0, slots := 0, locals := 68 } : Room) (va_Pc [.ref (xa 25), .int longest] (gp_B D cy sz [(o_joints xa joints_found), (aI (xa 26) (cy 1) 1000 places), (aI (xa 28) (cy 3) 1001 banned)])) (va_Qi (fun (r : Int32) (u : (Int32) × (Nat → Int32)) => (r = 0 ∨ r = 1) ∧ (sp_in u.1 0 1000)) (fun u => gp_E D (va_A [(o_joints xa joints_found), (aI (xa 26) (cy 1) 1000 places), (aI (xa 28) (cy 3) 1001 banned)] sz) [(o_joints xa u.1), (aI (xa 26) (cy 1) 1000 u.2), (aI (xa 28) (cy 3) 1001 banned)]) (va_A [(o_joints xa joints_found), (aI (xa 26) (cy 1) 1000 places), (aI (xa 28) (cy 3) 1001 banned)] sz)) 0 0 (va_A [(o_joints xa joints_found), (aI (xa 26) (cy 1) 1000 places), (aI (xa 28) (cy 3) 1001 banned)] sz) := by
  refine gp_met (Qc := fun A => va_Qi (fun (r : Int32) (u : (Int32) × (Nat → Int32)) => (r = 0 ∨ r = 1) ∧ (sp_in u.1 0 1000)) (fun u => gp_E D A [(o_joints xa u.1), (aI (xa 26) (cy 1) 1000 u.2), (aI (xa 28) (cy 3) 1001 banned)]) A) (cc := cX5_find) (maxL := 5) (ret := (some .boolean)) (by decide) rfl (Nat.le_of_ble_eq_true rfl) ?_
  intro p e s m below meth c A ls H hx hb hml hr hlocks hts hown hin hK hN hS hP hD hA hl
  have hown : s.vm.findClass RX5 = some m.cls := hown
  have hl : lv_has ls 5 [(0, .ref (xa 25)), (1, .int longest)] := hl
  have hiX5 : ∀ w ∈ u_ws RX5 TX5 4, w ∈ v_sX5_find := fun _ h => List.mem_cons_of_mem _ (List.mem_append_right _ h)
  refine lv_aload_n hx hb dX5_find_0 rfl (lv_at hl 0 rfl) ?_
  refine lv_iload_n hx hb dX5_find_1 rfl (lv_at hl 1 rfl) ?_
  have hPc := hP.sub (ws' := [(o_joints xa joints_found), (aI (xa 28) (cy 3) 1001 banned)]) [0, 2] rfl
  have hDc := hD.sub (ws' := [(o_joints xa joints_found), (aI (xa 28) (cy 3) 1001 banned)]) [0, 2] (by decide) rfl
  have hFc := va_free (wc := [(o_joints xa joints_found), (aI (xa 28) (cy 3) 1001 banned)]) hD hS hA [0, 2] rfl
  refine va_calli (va_runV (As := [.int longest]) (rest := []) ⟨hx, hb, hml, hown, hts⟩ (sX5_stepsOf l D cy H.size xa joints_found banned longest f_joints_found q0) (cwV 1 hts g_sX5_find_sX5_stepsOf_0 rfl rfl rfl (by decide +kernel) ⟨Nat.le_of_ble_eq_true rfl, Nat.le_of_ble_eq_true rfl⟩) (gp_preV (RX5, TX5, 4) 5 0 hPc hDc hK hN rfl rfl) rfl rfl hl.1 rfl (lv_room (Nat.le_of_ble_eq_true rfl)) dX5_find_2 ⟨Nat.le_of_ble_eq_true rfl, Nat.le_of_ble_eq_true rfl⟩) hS (fun q _ h => hFc q h) hFc (fun r_1 u t H locs ht hvm hw hB hz1 hk1 hS => ?_)
  have hP := gp_joinU (wc := [(o_joints xa joints_found), (aI (xa 28) (cy 3) 1001 banned)]) hP hD [0, 2] rfl hk1 ht hB
  have w_2 := hw
  refine lv_istore_n (lv' := [(2, .int r_1), (0, .ref (xa 25)), (1, .int longest)]) hx hb dX5_find_5 rfl hl (by decide) rfl (fun ls hl => ?_)
  refine lv_iload_n hx hb dX5_find_6 rfl (lv_at hl 0 rfl) ?_
  refine lv_if_ge (tgt := 12) hx hb dX5_find_7 (by decide) (fun c_3 => ?_) (fun c_3 => ?_)
  · refine lv_iconst (v := 0) hx hb dX5_find_12 (by decide) ?_
    refine lv_istore_n (lv' := [(3, .int 0), (2, .int r_1), (0, .ref (xa 25)), (1, .int longest)]) hx hb dX5_find_13 rfl hl (by decide) rfl (fun ls hl => ?_)
    refine lv_iconst (v := 0) hx hb dX5_find_14 (by decide) ?_
    refine lv_istore (lv' := [(4, .int 0), (3, .int 0), (2, .int r_1), (0, .ref (xa 25)), (1, .int longest)]) hx hb dX5_find_15 hl (by decide) rfl (fun ls hl => ?_)
    have key17 : ∀ (fu : Nat) (fr : Int32) (k : Int32) (pl : Nat → Int32) (H : Heap) (locs : List Loc) (ls : Array Slot), (h1 : sp_in fr 0 1000) → (h2 : sp_in k 0 1000) → (1000 - k.toInt).toNat < fu → va_P D vwCl [(o_joints xa joints_found), (aI (xa 26) (cy 1) 1000 pl), (aI (xa 28) (cy 3) 1001 banned)] H → va_D A [(o_joints xa joints_found), (aI (xa 26) (cy 1) 1000 pl), (aI (xa 28) (cy 3) 1001 banned)] → va_S A s.heap H locs → lv_has ls 5 [(4, .int k), (3, .int fr), (2, .int r_1), (0, .ref (xa 25)), (1, .int longest)] → W p l e (headSpec v_sX5_find (({ frames := 3, cells := 0, slots := 0, locals := 68 } : Room))).room s m [.ref (xa 25), .int longest].toArray below meth c H locs 0 0 (MQ below (va_Qi (fun (r : Int32) (u : (Int32) × (Nat → Int32)) => (r = 0 ∨ r = 1) ∧ (sp_in u.1 0 1000)) (fun u => gp_E D A [(o_joints xa u.1), (aI (xa 26) (cy 1) 1000 u.2), (aI (xa 28) (cy 3) 1001 banned)]) A) [.ref (xa 25), .int longest].toArray s 0 0 A) (F0 m 17 ls []) := by
      intro fu
      induction fu with
      | zero => intro fr k pl H locs ls h1 h2 hfu; exact absurd hfu (Nat.not_lt_zero _)
      | succ fu ih =>
        intro fr k pl H locs ls h1 h2 hfu hP hD hS hl
        refine lv_iload hx hb dX5_find_17 (lv_at hl 0 rfl) ?_
        refine lv_iload_n hx hb dX5_find_19 rfl (lv_at hl 2 rfl) ?_
        refine lv_icmp_ge (tgt := 52) hx hb dX5_find_20 (by decide) (fun c_4 => ?_) (fun c_4 => ?_)
        · refine lv_aload_n hx hb dX5_find_52 rfl (lv_at hl 3 rfl) ?_
          refine lv_iload_n hx hb dX5_find_53 rfl (lv_at hl 2 rfl) ?_
          refine va_put (D := D) (ci := 5) (v := .int r_1) (ty := .int) (C := RX5) (T := TX5) (N := 4) hx hb hts hiX5 tyX5 tyX5_ok nmX5 hown hK hP hD hS 0 rfl rfl 0 (by decide) (hts (.fieldLink RX5 30 "GhostPane$Joints" "found" "I") (List.mem_of_getElem? (i := 15) rfl)) (fun _ h9 => h9) rfl (by decide +kernel) rfl rfl (Nat.le_of_ble_eq_true rfl) dX5_find_54 (fun H locs hP hD hS => ?_)
          have hP : va_P D vwCl [(o_joints xa r_1), (aI (xa 26) (cy 1) 1000 pl), (aI (xa 28) (cy 3) 1001 banned)] H := hP
          have hD := gp_sD hP hD
          refine lv_iconst (v := 1) hx hb dX5_find_57 (by decide) ?_
          exact W.zret (v := 1) hx hb hr narrow_b1 (fun t ht hW => ⟨⟨1, ⟨r_1, pl⟩, rfl, ⟨(show (1 : Int32) = 0 ∨ (1 : Int32) = 1 by decide), (lf_sX5_find_1 r_1 k w_2 c_3 h2 c_4)⟩, gp_end ht hP hD⟩, hS.F ht⟩) hS.2.2 dX5_find_58
        · refine lv_iload hx hb dX5_find_23 (lv_at hl 0 rfl) ?_
          refine lv_sipush (v := 1000) hx hb dX5_find_25 (by decide) ?_
          refine lv_icmp_ge (tgt := 52) hx hb dX5_find_28 (by decide) (fun c_5 => ?_) (fun c_5 => ?_)
          · refine lv_aload_n hx hb dX5_find_52 rfl (lv_at hl 3 rfl) ?_
            refine lv_iload_n hx hb dX5_find_53 rfl (lv_at hl 2 rfl) ?_
            refine va_put (D := D) (ci := 5) (v := .int r_1) (ty := .int) (C := RX5) (T := TX5) (N := 4) hx hb hts hiX5 tyX5 tyX5_ok nmX5 hown hK hP hD hS 0 rfl rfl 0 (by decide) (hts (.fieldLink RX5 30 "GhostPane$Joints" "found" "I") (List.mem_of_getElem? (i := 15) rfl)) (fun _ h9 => h9) rfl (by decide +kernel) rfl rfl (Nat.le_of_ble_eq_true rfl) dX5_find_54 (fun H locs hP hD hS => ?_)
            have hP : va_P D vwCl [(o_joints xa r_1), (aI (xa 26) (cy 1) 1000 pl), (aI (xa 28) (cy 3) 1001 banned)] H := hP
            have hD := gp_sD hP hD
            refine lv_iconst (v := 1) hx hb dX5_find_57 (by decide) ?_
            exact W.zret (v := 1) hx hb hr narrow_b1 (fun t ht hW => ⟨⟨1, ⟨r_1, pl⟩, rfl, ⟨(show (1 : Int32) = 0 ∨ (1 : Int32) = 1 by decide), (lf_sX5_find_2 r_1 k w_2 c_3 h2 c_4 c_5)⟩, gp_end ht hP hD⟩, hS.F ht⟩) hS.2.2 dX5_find_58
          · refine lv_aload_n hx hb dX5_find_31 rfl (lv_at hl 3 rfl) ?_
            refine lv_iload_n hx hb dX5_find_32 rfl (lv_at hl 1 rfl) ?_
            refine lv_iload_n hx hb dX5_find_33 rfl (lv_at hl 4 rfl) ?_
            have hPc := hP.sub (ws' := [(o_joints xa joints_found), (aI (xa 28) (cy 3) 1001 banned)]) [0, 2] rfl
            have hDc := hD.sub (ws' := [(o_joints xa joints_found), (aI (xa 28) (cy 3) 1001 banned)]) [0, 2] (by decide) rfl
            have hFc := va_free (wc := [(o_joints xa joints_found), (aI (xa 28) (cy 3) 1001 banned)]) hD hS hA [0, 2] rfl
            refine va_calli (va_runV (As := [.int fr, .int longest]) (rest := []) ⟨hx, hb, hml, hown, hts⟩ (sX5_farthest l D cy H.size xa joints_found banned fr longest f_joints_found h1 q0) (cwV 2 hts g_sX5_find_sX5_farthest_1 rfl rfl rfl (by decide +kernel) ⟨Nat.le_of_ble_eq_true rfl, Nat.le_of_ble_eq_true rfl⟩) (gp_preV (RX5, TX5, 4) 5 0 hPc hDc hK hN rfl rfl) rfl rfl hl.1 rfl (lv_room (Nat.le_of_ble_eq_true rfl)) dX5_find_34 ⟨Nat.le_of_ble_eq_true rfl, Nat.le_of_ble_eq_true rfl⟩) hS (fun q _ h => hFc q h) hFc (fun r_6 u t H locs ht hvm hw hB hz1 hk1 hS => ?_)
            have hP := gp_joinU (wc := [(o_joints xa joints_found), (aI (xa 28) (cy 3) 1001 banned)]) hP hD [0, 2] rfl hk1 ht hB
            have w_7 := hw
            refine lv_istore_n (lv' := [(3, .int r_6), (4, .int k), (2, .int r_1), (0, .ref (xa 25)), (1, .int longest)]) hx hb dX5_find_37 rfl hl (by decide) rfl (fun ls hl => ?_)
            refine lv_aload_n hx hb dX5_find_38 rfl (lv_at hl 3 rfl) ?_
            refine va_get (D := D) (ci := 5) (v := .ref (xa 26)) (C := RX5) (T := TX5) (N := 4) hx hb hts hiX5 hown hK hP 0 rfl rfl 1 (by decide) (hts (.fieldLink RX5 11 "GhostPane$Joints" "places" "[I") (List.mem_of_getElem? (i := 16) rfl)) (fun _ h9 => h9) rfl dX5_find_39 ?_
            refine lv_iload hx hb dX5_find_42 (lv_at hl 1 rfl) ?_
            refine lv_iload_n hx hb dX5_find_44 rfl (lv_at hl 0 rfl) ?_
            refine va_iast hx hb hK hP hD hS 1 1 rfl rfl (gp_in (hi := 999) (lf_sX5_find_3 r_1 k w_2 c_3 h2 c_4 c_5) (by decide)) dX5_find_45 (fun H locs hP hD hS => ?_)
            obtain ⟨pl_8, hP, hD⟩ : ∃ pl_8 : Nat → Int32, va_P D vwCl [(o_joints xa joints_found), (aI (xa 26) (cy 1) 1000 pl_8), (aI (xa 28) (cy 3) 1001 banned)] H ∧ va_D A [(o_joints xa joints_found), (aI (xa 26) (cy 1) 1000 pl_8), (aI (xa 28) (cy 3) 1001 banned)] := ⟨_, hP, hD⟩
            refine lv_iinc (v := (k + 1)) (lv' := [(4, .int (k + 1)), (3, .int r_6), (2, .int r_1), (0, .ref (xa 25)), (1, .int longest)]) hx hb dX5_find_46 hl (k := 1) rfl rfl (by decide) rfl (fun ls hl => ?_)
            refine lv_goto (tgt := 17) hx hb dX5_find_49 (by decide) ?_
            exact ih r_6 (k + 1) pl_8 H locs ls (lf_sX5_find_4 fr r_6 h1 w_7) (lf_sX5_find_5 r_1 k w_2 c_3 h2 c_4 c_5) (Nat.lt_of_lt_of_le (gp_mdec (b := 1000) (lf_sX5_find_6 r_1 k w_2 c_3 h2 c_4 c_5)) (Nat.le_of_lt_succ hfu)) hP hD hS (lv_sub hl [0, 1, 2, 3, 4] rfl)
    exact key17 ((1000 - (0 : Int32).toInt).toNat + 1) 0 0 places H locs ls (show sp_in 0 0 1000 by decide) (show sp_in 0 0 1000 by decide) (Nat.lt_succ_self _) hP hD hS (lv_sub hl [0, 1, 2, 3, 4] rfl)
  · refine lv_iconst (v := 0) hx hb dX5_find_10 (by decide) ?_
    exact W.zret (v := 0) hx hb hr narrow_b0 (fun t ht hW => ⟨⟨0, ⟨joints_found, places⟩, rfl, ⟨(show (0 : Int32) = 0 ∨ (0 : Int32) = 1 by decide), f_joints_found⟩, gp_end ht hP hD⟩, hS.F ht⟩) hS.2.2 dX5_find_11

def v_sX4_clear : List Cond := .code yX4_clear cX4_clear 1 none :: (([.fieldLink RX4 9 "GhostPane$Grid" "n" "I", .fieldLink RX4 15 "GhostPane$Grid" "m" "I"] : List Cond) ++ wsX40)
set_option maxHeartbeats 4000000 in
set_option maxRecDepth 100000 in
theorem sX4_clear (l : Launch) (D : va_G) (cy : Nat → ClassId) (sz : Nat) (xa : Nat → Nat) (grid_n : Int32) (grid_sx : Int32) (grid_sy : Int32) (grid_m : Int32) (grid_sd : Int32) : Met l yX4_clear v_sX4_clear ({ frames := 0, cells := 0, slots := 0, locals := 0 } : Room) (va_Pc [.ref (xa 24)] (gp_B D cy sz [(o_grid xa grid_n grid_sx grid_sy grid_m grid_sd)])) (va_Qv (fun (u : (Int32) × (Int32)) => (u.1 = 0 ∧ u.2 = 0)) (fun u => gp_E D (va_A [(o_grid xa grid_n grid_sx grid_sy grid_m grid_sd)] sz) [(o_grid xa u.1 grid_sx grid_sy u.2 grid_sd)]) (va_A [(o_grid xa grid_n grid_sx grid_sy grid_m grid_sd)] sz)) 0 0 (va_A [(o_grid xa grid_n grid_sx grid_sy grid_m grid_sd)] sz) := by
  refine gp_met (Qc := fun A => va_Qv (fun (u : (Int32) × (Int32)) => (u.1 = 0 ∧ u.2 = 0)) (fun u => gp_E D A [(o_grid xa u.1 grid_sx grid_sy u.2 grid_sd)]) A) (cc := cX4_clear) (maxL := 1) (ret := none) (by decide) rfl (Nat.le_of_ble_eq_true rfl) ?_
  intro p e s m below meth c A ls H hx hb hml hr hlocks hts hown hin hK hN hS hP hD hA hl
  have hown : s.vm.findClass RX4 = some m.cls := hown
  have hl : lv_has ls 1 [(0, .ref (xa 24))] := hl
  have hiX4 : ∀ w ∈ u_ws RX4 TX4 5, w ∈ v_sX4_clear := fun _ h => List.mem_cons_of_mem _ (List.mem_append_right _ h)
  refine lv_aload_n hx hb dX4_clear_0 rfl (lv_at hl 0 rfl) ?_
  refine lv_iconst (v := 0) hx hb dX4_clear_1 (by decide) ?_
  refine va_put (D := D) (ci := 4) (v := .int 0) (ty := .int) (C := RX4) (T := TX4) (N := 5) hx hb hts hiX4 tyX4 tyX4_ok nmX4 hown hK hP hD hS 0 rfl rfl 0 (by decide) (hts (.fieldLink RX4 9 "GhostPane$Grid" "n" "I") (List.mem_of_getElem? (i := 1) rfl)) (fun _ h9 => h9) rfl (by decide +kernel) rfl rfl (Nat.le_of_ble_eq_true rfl) dX4_clear_2 (fun H locs hP hD hS => ?_)
  have hP : va_P D vwCl [(o_grid xa 0 grid_sx grid_sy grid_m grid_sd)] H := hP
  have hD := gp_sD hP hD
  refine lv_aload_n hx hb dX4_clear_5 rfl (lv_at hl 0 rfl) ?_
  refine lv_iconst (v := 0) hx hb dX4_clear_6 (by decide) ?_
  refine va_put (D := D) (ci := 4) (v := .int 0) (ty := .int) (C := RX4) (T := TX4) (N := 5) hx hb hts hiX4 tyX4 tyX4_ok nmX4 hown hK hP hD hS 0 rfl rfl 3 (by decide) (hts (.fieldLink RX4 15 "GhostPane$Grid" "m" "I") (List.mem_of_getElem? (i := 2) rfl)) (fun _ h9 => h9) rfl (by decide +kernel) rfl rfl (Nat.le_of_ble_eq_true rfl) dX4_clear_7 (fun H locs hP hD hS => ?_)
  have hP : va_P D vwCl [(o_grid xa 0 grid_sx grid_sy 0 grid_sd)] H := hP
  have hD := gp_sD hP hD
  exact W.vret hx hb hr (fun t ht hW => ⟨⟨⟨0, 0⟩, rfl, (show 0 = 0 ∧ 0 = 0 by decide), gp_end ht hP hD⟩, hS.F ht⟩) hS.2.2 dX4_clear_10

theorem lf_sX4_lay_1 (n : Int32) (sx : Int32) (sy : Int32) (m0 : Int32) (sd : Int32) : n = n ∧ sx = sx ∧ sy = sy ∧ m0 = m0 ∧ sd = sd := by
  first | grind | (simp only [sp_in, sp_pl, sp_far, sp_two] at *; grind)
def v_sX4_lay : List Cond := .code yX4_lay cX4_lay 6 none :: (([.fieldLink RX4 9 "GhostPane$Grid" "n" "I", .fieldLink RX4 18 "GhostPane$Grid" "sx" "I", .fieldLink RX4 21 "GhostPane$Grid" "sy" "I", .fieldLink RX4 15 "GhostPane$Grid" "m" "I", .fieldLink RX4 24 "GhostPane$Grid" "sd" "I"] : List Cond) ++ wsX40)
set_option maxHeartbeats 4000000 in
set_option maxRecDepth 100000 in
theorem sX4_lay (l : Launch) (D : va_G) (cy : Nat → ClassId) (sz : Nat) (xa : Nat → Nat) (grid_n : Int32) (grid_sx : Int32) (grid_sy : Int32) (grid_m : Int32) (grid_sd : Int32) (n : Int32) (sx : Int32) (sy : Int32) (m0 : Int32) (sd : Int32) : Met l yX4_lay v_sX4_lay ({ frames := 0, cells := 0, slots := 0, locals := 0 } : Room) (va_Pc [.ref (xa 24), .int n, .int sx, .int sy, .int m0, .int sd] (gp_B D cy sz [(o_grid xa grid_n grid_sx grid_sy grid_m grid_sd)])) (va_Qv (fun (u : (Int32) × (Int32) × (Int32) × (Int32) × (Int32)) => (u.1 = n ∧ u.2.1 = sx ∧ u.2.2.1 = sy ∧ u.2.2.2.1 = m0 ∧ u.2.2.2.2 = sd)) (fun u => gp_E D (va_A [(o_grid xa grid_n grid_sx grid_sy grid_m grid_sd)] sz) [(o_grid xa u.1 u.2.1 u.2.2.1 u.2.2.2.1 u.2.2.2.2)]) (va_A [(o_grid xa grid_n grid_sx grid_sy grid_m grid_sd)] sz)) 0 0 (va_A [(o_grid xa grid_n grid_sx grid_sy grid_m grid_sd)] sz) := by
  refine gp_met (Qc := fun A => va_Qv (fun (u : (Int32) × (Int32) × (Int32) × (Int32) × (Int32)) => (u.1 = n ∧ u.2.1 = sx ∧ u.2.2.1 = sy ∧ u.2.2.2.1 = m0 ∧ u.2.2.2.2 = sd)) (fun u => gp_E D A [(o_grid xa u.1 u.2.1 u.2.2.1 u.2.2.2.1 u.2.2.2.2)]) A) (cc := cX4_lay) (maxL := 6) (ret := none) (by decide) rfl (Nat.le_of_ble_eq_true rfl) ?_
  intro p e s m below meth c A ls H hx hb hml hr hlocks hts hown hin hK hN hS hP hD hA hl
  have hown : s.vm.findClass RX4 = some m.cls := hown
  have hl : lv_has ls 6 [(0, .ref (xa 24)), (1, .int n), (2, .int sx), (3, .int sy), (4, .int m0), (5, .int sd)] := hl
  have hiX4 : ∀ w ∈ u_ws RX4 TX4 5, w ∈ v_sX4_lay := fun _ h => List.mem_cons_of_mem _ (List.mem_append_right _ h)
  refine lv_aload_n hx hb dX4_lay_0 rfl (lv_at hl 0 rfl) ?_
  refine lv_iload_n hx hb dX4_lay_1 rfl (lv_at hl 1 rfl) ?_
  refine va_put (D := D) (ci := 4) (v := .int n) (ty := .int) (C := RX4) (T := TX4) (N := 5) hx hb hts hiX4 tyX4 tyX4_ok nmX4 hown hK hP hD hS 0 rfl rfl 0 (by decide) (hts (.fieldLink RX4 9 "GhostPane$Grid" "n" "I") (List.mem_of_getElem? (i := 1) rfl)) (fun _ h9 => h9) rfl (by decide +kernel) rfl rfl (Nat.le_of_ble_eq_true rfl) dX4_lay_2 (fun H locs hP hD hS => ?_)
  have hP : va_P D vwCl [(o_grid xa n grid_sx grid_sy grid_m grid_sd)] H := hP
  have hD := gp_sD hP hD
  refine lv_aload_n hx hb dX4_lay_5 rfl (lv_at hl 0 rfl) ?_
  refine lv_iload_n hx hb dX4_lay_6 rfl (lv_at hl 2 rfl) ?_
  refine va_put (D := D) (ci := 4) (v := .int sx) (ty := .int) (C := RX4) (T := TX4) (N := 5) hx hb hts hiX4 tyX4 tyX4_ok nmX4 hown hK hP hD hS 0 rfl rfl 1 (by decide) (hts (.fieldLink RX4 18 "GhostPane$Grid" "sx" "I") (List.mem_of_getElem? (i := 2) rfl)) (fun _ h9 => h9) rfl (by decide +kernel) rfl rfl (Nat.le_of_ble_eq_true rfl) dX4_lay_7 (fun H locs hP hD hS => ?_)
  have hP : va_P D vwCl [(o_grid xa n sx grid_sy grid_m grid_sd)] H := hP
  have hD := gp_sD hP hD
  refine lv_aload_n hx hb dX4_lay_10 rfl (lv_at hl 0 rfl) ?_
  refine lv_iload_n hx hb dX4_lay_11 rfl (lv_at hl 3 rfl) ?_
  refine va_put (D := D) (ci := 4) (v := .int sy) (ty := .int) (C := RX4) (T := TX4) (N := 5) hx hb hts hiX4 tyX4 tyX4_ok nmX4 hown hK hP hD hS 0 rfl rfl 2 (by decide) (hts (.fieldLink RX4 21 "GhostPane$Grid" "sy" "I") (List.mem_of_getElem? (i := 3) rfl)) (fun _ h9 => h9) rfl (by decide +kernel) rfl rfl (Nat.le_of_ble_eq_true rfl) dX4_lay_12 (fun H locs hP hD hS => ?_)
  have hP : va_P D vwCl [(o_grid xa n sx sy grid_m grid_sd)] H := hP
  have hD := gp_sD hP hD
  refine lv_aload_n hx hb dX4_lay_15 rfl (lv_at hl 0 rfl) ?_
  refine lv_iload hx hb dX4_lay_16 (lv_at hl 4 rfl) ?_
  refine va_put (D := D) (ci := 4) (v := .int m0) (ty := .int) (C := RX4) (T := TX4) (N := 5) hx hb hts hiX4 tyX4 tyX4_ok nmX4 hown hK hP hD hS 0 rfl rfl 3 (by decide) (hts (.fieldLink RX4 15 "GhostPane$Grid" "m" "I") (List.mem_of_getElem? (i := 4) rfl)) (fun _ h9 => h9) rfl (by decide +kernel) rfl rfl (Nat.le_of_ble_eq_true rfl) dX4_lay_18 (fun H locs hP hD hS => ?_)
  have hP : va_P D vwCl [(o_grid xa n sx sy m0 grid_sd)] H := hP
  have hD := gp_sD hP hD
  refine lv_aload_n hx hb dX4_lay_21 rfl (lv_at hl 0 rfl) ?_
  refine lv_iload hx hb dX4_lay_22 (lv_at hl 5 rfl) ?_
  refine va_put (D := D) (ci := 4) (v := .int sd) (ty := .int) (C := RX4) (T := TX4) (N := 5) hx hb hts hiX4 tyX4 tyX4_ok nmX4 hown hK hP hD hS 0 rfl rfl 4 (by decide) (hts (.fieldLink RX4 24 "GhostPane$Grid" "sd" "I") (List.mem_of_getElem? (i := 5) rfl)) (fun _ h9 => h9) rfl (by decide +kernel) rfl rfl (Nat.le_of_ble_eq_true rfl) dX4_lay_24 (fun H locs hP hD hS => ?_)
  have hP : va_P D vwCl [(o_grid xa n sx sy m0 sd)] H := hP
  have hD := gp_sD hP hD
  exact W.vret hx hb hr (fun t ht hW => ⟨⟨⟨n, sx, sy, m0, sd⟩, rfl, (lf_sX4_lay_1 n sx sy m0 sd), gp_end ht hP hD⟩, hS.F ht⟩) hS.2.2 dX4_lay_27

theorem lf_sX4_settings_1 (grid_n : Int32) (grid_m : Int32) : (grid_n * grid_m) = grid_n * grid_m := by
  first | grind | (simp only [sp_in, sp_pl, sp_far, sp_two] at *; grind)
def v_sX4_settings : List Cond := .code yX4_settings cX4_settings 1 (some .int) :: (([.fieldLink RX4 9 "GhostPane$Grid" "n" "I", .fieldLink RX4 15 "GhostPane$Grid" "m" "I"] : List Cond) ++ wsX40)
set_option maxHeartbeats 4000000 in
set_option maxRecDepth 100000 in
theorem sX4_settings (l : Launch) (D : va_G) (cy : Nat → ClassId) (sz : Nat) (xa : Nat → Nat) (grid_n : Int32) (grid_sx : Int32) (grid_sy : Int32) (grid_m : Int32) (grid_sd : Int32) : Met l yX4_settings v_sX4_settings ({ frames := 0, cells := 0, slots := 0, locals := 0 } : Room) (va_Pc [.ref (xa 24)] (gp_B D cy sz [(o_grid xa grid_n grid_sx grid_sy grid_m grid_sd)])) (va_Qi (fun (r : Int32) (u : Unit) => (r = grid_n * grid_m)) (fun u => gp_E D (va_A [(o_grid xa grid_n grid_sx grid_sy grid_m grid_sd)] sz) [(o_grid xa grid_n grid_sx grid_sy grid_m grid_sd)]) (va_A [(o_grid xa grid_n grid_sx grid_sy grid_m grid_sd)] sz)) 0 0 (va_A [(o_grid xa grid_n grid_sx grid_sy grid_m grid_sd)] sz) := by
  refine gp_met (Qc := fun A => va_Qi (fun (r : Int32) (u : Unit) => (r = grid_n * grid_m)) (fun u => gp_E D A [(o_grid xa grid_n grid_sx grid_sy grid_m grid_sd)]) A) (cc := cX4_settings) (maxL := 1) (ret := (some .int)) (by decide) rfl (Nat.le_of_ble_eq_true rfl) ?_
  intro p e s m below meth c A ls H hx hb hml hr hlocks hts hown hin hK hN hS hP hD hA hl
  have hown : s.vm.findClass RX4 = some m.cls := hown
  have hl : lv_has ls 1 [(0, .ref (xa 24))] := hl
  have hiX4 : ∀ w ∈ u_ws RX4 TX4 5, w ∈ v_sX4_settings := fun _ h => List.mem_cons_of_mem _ (List.mem_append_right _ h)
  refine lv_aload_n hx hb dX4_settings_0 rfl (lv_at hl 0 rfl) ?_
  refine va_get (D := D) (ci := 4) (v := .int grid_n) (C := RX4) (T := TX4) (N := 5) hx hb hts hiX4 hown hK hP 0 rfl rfl 0 (by decide) (hts (.fieldLink RX4 9 "GhostPane$Grid" "n" "I") (List.mem_of_getElem? (i := 1) rfl)) (fun _ h9 => h9) rfl dX4_settings_1 ?_
  refine lv_aload_n hx hb dX4_settings_4 rfl (lv_at hl 0 rfl) ?_
  refine va_get (D := D) (ci := 4) (v := .int grid_m) (C := RX4) (T := TX4) (N := 5) hx hb hts hiX4 hown hK hP 0 rfl rfl 3 (by decide) (hts (.fieldLink RX4 15 "GhostPane$Grid" "m" "I") (List.mem_of_getElem? (i := 2) rfl)) (fun _ h9 => h9) rfl dX4_settings_5 ?_
  refine lv_imul hx hb dX4_settings_8 ?_
  exact W.iret (v := (grid_n * grid_m)) hx hb hr (fun t ht hW => ⟨⟨(grid_n * grid_m), (), rfl, (lf_sX4_settings_1 grid_n grid_m), gp_end ht hP hD⟩, hS.F ht⟩) hS.2.2 dX4_settings_9

theorem lf_sX4_row_1 (grid_m : Int32) (k : Int32) (c_1 : grid_m ≤ 0) : (0 : Int32) = (if 0 < grid_m then k / grid_m else 0) := by
  first | grind | (simp only [sp_in, sp_pl, sp_far, sp_two] at *; grind)
theorem lf_sX4_row_2 (grid_m : Int32) (c_1 : ¬ grid_m ≤ 0) : ¬ grid_m = 0 := by
  first | grind | (simp only [sp_in, sp_pl, sp_far, sp_two] at *; grind)
theorem lf_sX4_row_3 (grid_m : Int32) (k : Int32) (c_1 : ¬ grid_m ≤ 0) : (k / grid_m) = (if 0 < grid_m then k / grid_m else 0) := by
  first | grind | (simp only [sp_in, sp_pl, sp_far, sp_two] at *; grind)
def v_sX4_row : List Cond := .code yX4_row cX4_row 2 (some .int) :: (([.fieldLink RX4 15 "GhostPane$Grid" "m" "I"] : List Cond) ++ wsX40)
set_option maxHeartbeats 4000000 in
set_option maxRecDepth 100000 in
theorem sX4_row (l : Launch) (D : va_G) (cy : Nat → ClassId) (sz : Nat) (xa : Nat → Nat) (grid_n : Int32) (grid_sx : Int32) (grid_sy : Int32) (grid_m : Int32) (grid_sd : Int32) (k : Int32) : Met l yX4_row v_sX4_row ({ frames := 0, cells := 0, slots := 0, locals := 0 } : Room) (va_Pc [.ref (xa 24), .int k] (gp_B D cy sz [(o_grid xa grid_n grid_sx grid_sy grid_m grid_sd)])) (va_Qi (fun (r : Int32) (u : Unit) => (r = (if 0 < grid_m then k / grid_m else 0))) (fun u => gp_E D (va_A [(o_grid xa grid_n grid_sx grid_sy grid_m grid_sd)] sz) [(o_grid xa grid_n grid_sx grid_sy grid_m grid_sd)]) (va_A [(o_grid xa grid_n grid_sx grid_sy grid_m grid_sd)] sz)) 0 0 (va_A [(o_grid xa grid_n grid_sx grid_sy grid_m grid_sd)] sz) := by
  refine gp_met (Qc := fun A => va_Qi (fun (r : Int32) (u : Unit) => (r = (if 0 < grid_m then k / grid_m else 0))) (fun u => gp_E D A [(o_grid xa grid_n grid_sx grid_sy grid_m grid_sd)]) A) (cc := cX4_row) (maxL := 2) (ret := (some .int)) (by decide) rfl (Nat.le_of_ble_eq_true rfl) ?_
  intro p e s m below meth c A ls H hx hb hml hr hlocks hts hown hin hK hN hS hP hD hA hl
  have hown : s.vm.findClass RX4 = some m.cls := hown
  have hl : lv_has ls 2 [(0, .ref (xa 24)), (1, .int k)] := hl
  have hiX4 : ∀ w ∈ u_ws RX4 TX4 5, w ∈ v_sX4_row := fun _ h => List.mem_cons_of_mem _ (List.mem_append_right _ h)
  refine lv_aload_n hx hb dX4_row_0 rfl (lv_at hl 0 rfl) ?_
  refine va_get (D := D) (ci := 4) (v := .int grid_m) (C := RX4) (T := TX4) (N := 5) hx hb hts hiX4 hown hK hP 0 rfl rfl 3 (by decide) (hts (.fieldLink RX4 15 "GhostPane$Grid" "m" "I") (List.mem_of_getElem? (i := 1) rfl)) (fun _ h9 => h9) rfl dX4_row_1 ?_
  refine lv_if_le (tgt := 16) hx hb dX4_row_4 (by decide) (fun c_1 => ?_) (fun c_1 => ?_)
  · refine lv_iconst (v := 0) hx hb dX4_row_16 (by decide) ?_
    exact W.iret (v := 0) hx hb hr (fun t ht hW => ⟨⟨0, (), rfl, (lf_sX4_row_1 grid_m k c_1), gp_end ht hP hD⟩, hS.F ht⟩) hS.2.2 dX4_row_17
  · refine lv_iload_n hx hb dX4_row_7 rfl (lv_at hl 1 rfl) ?_
    refine lv_aload_n hx hb dX4_row_8 rfl (lv_at hl 0 rfl) ?_
    refine va_get (D := D) (ci := 4) (v := .int grid_m) (C := RX4) (T := TX4) (N := 5) hx hb hts hiX4 hown hK hP 0 rfl rfl 3 (by decide) (hts (.fieldLink RX4 15 "GhostPane$Grid" "m" "I") (List.mem_of_getElem? (i := 1) rfl)) (fun _ h9 => h9) rfl dX4_row_9 ?_
    refine lv_idiv hx hb dX4_row_12 (lf_sX4_row_2 grid_m c_1) ?_
    refine lv_goto (tgt := 17) hx hb dX4_row_13 (by decide) ?_
    exact W.iret (v := (k / grid_m)) hx hb hr (fun t ht hW => ⟨⟨(k / grid_m), (), rfl, (lf_sX4_row_3 grid_m k c_1), gp_end ht hP hD⟩, hS.F ht⟩) hS.2.2 dX4_row_17

theorem lf_sX4_endX_1 (grid_sx : Int32) (grid_m : Int32) (room_bx : Int32) (k : Int32) (r_1 : Int32) (w_2 : r_1 = (if 0 < grid_m then k / grid_m else 0)) : (room_bx + (r_1 * grid_sx)) = room_bx + (if 0 < grid_m then k / grid_m else 0) * grid_sx := by
  first | grind | (simp only [sp_in, sp_pl, sp_far, sp_two] at *; grind)
def v_sX4_endX : List Cond := .code yX4_endX cX4_endX 3 (some .int) :: (([.fieldLink RX4 35 "GhostPane$Room" "bx" "I", .code yX4_row cX4_row 2 (some .int), .fieldLink RX4 15 "GhostPane$Grid" "m" "I", .methodLink RX4 48 yX4_row, .instanceMethod yX4_row, .selects RX4 yX4_row yX4_row, .initialized RX4, .fieldLink RX4 18 "GhostPane$Grid" "sx" "I"] : List Cond) ++ wsX70 ++ wsX40)
set_option maxRecDepth 20000 in
theorem gg_sX4_endX_sX4_row : GoodIn v_sX4_endX v_sX4_row := goodIn_ca (goodIn_r (.code yX4_row cX4_row 2 (some .int) :: [.fieldLink RX4 15 "GhostPane$Grid" "m" "I"]) [2, 3] (by first | rfl | decide +kernel) (by decide +kernel)) (goodIn_sub (fun _ h => List.mem_cons_of_mem _ (List.mem_append_right _ h)) gwX4)
set_option maxRecDepth 20000 in
theorem g_sX4_endX_sX4_row_0 : GoodIn v_sX4_endX (wsV RX4 48 RX4 yX4_row v_sX4_row) := goodIn_app (goodIn_r [.methodLink RX4 48 yX4_row, .instanceMethod yX4_row, .selects RX4 yX4_row yX4_row, .initialized RX4] [4, 5, 6, 7] rfl (by decide +kernel)) gg_sX4_endX_sX4_row
set_option maxHeartbeats 4000000 in
set_option maxRecDepth 100000 in
theorem sX4_endX (l : Launch) (D : va_G) (cy : Nat → ClassId) (sz : Nat) (xa : Nat → Nat) (grid_n : Int32) (grid_sx : Int32) (grid_sy : Int32) (grid_m : Int32) (grid_sd : Int32) (room_ax : Int32) (room_ay : Int32) (room_bx : Int32) (room_by : Int32) (room_cx : Int32) (room_cy : Int32) (room_dx : Int32) (room_dy : Int32) (room_floor : Int32) (room_hand : Int32) (room_deep : Int32) (k : Int32) : Met l yX4_endX v_sX4_endX ({ frames := 1, cells := 0, slots := 0, locals := 21 } : Room) (va_Pc [.ref (xa 24), .ref (xa 11), .int k] (gp_B D cy sz [(o_grid xa grid_n grid_sx grid_sy grid_m grid_sd), (o_room xa room_ax room_ay room_bx room_by room_cx room_cy room_dx room_dy room_floor room_hand room_deep)])) (va_Qi (fun (r : Int32) (u : Unit) => (r = room_bx + (if 0 < grid_m then k / grid_m else 0) * grid_sx)) (fun u => gp_E D (va_A [(o_grid xa grid_n grid_sx grid_sy grid_m grid_sd), (o_room xa room_ax room_ay room_bx room_by room_cx room_cy room_dx room_dy room_floor room_hand room_deep)] sz) [(o_grid xa grid_n grid_sx grid_sy grid_m grid_sd), (o_room xa room_ax room_ay room_bx room_by room_cx room_cy room_dx room_dy room_floor room_hand room_deep)]) (va_A [(o_grid xa grid_n grid_sx grid_sy grid_m grid_sd), (o_room xa room_ax room_ay room_bx room_by room_cx room_cy room_dx room_dy room_floor room_hand room_deep)] sz)) 0 0 (va_A [(o_grid xa grid_n grid_sx grid_sy grid_m grid_sd), (o_room xa room_ax room_ay room_bx room_by room_cx room_cy room_dx room_dy room_floor room_hand room_deep)] sz) := by
  refine gp_met (Qc := fun A => va_Qi (fun (r : Int32) (u : Unit) => (r = room_bx + (if 0 < grid_m then k / grid_m else 0) * grid_sx)) (fun u => gp_E D A [(o_grid xa grid_n grid_sx grid_sy grid_m grid_sd), (o_room xa room_ax room_ay room_bx room_by room_cx room_cy room_dx room_dy room_floor room_hand room_deep)]) A) (cc := cX4_endX) (maxL := 3) (ret := (some .int)) (by decide) rfl (Nat.le_of_ble_eq_true rfl) ?_
  intro p e s m below meth c A ls H hx hb hml hr hlocks hts hown hin hK hN hS hP hD hA hl
  have hown : s.vm.findClass RX4 = some m.cls := hown
  have hl : lv_has ls 3 [(0, .ref (xa 24)), (1, .ref (xa 11)), (2, .int k)] := hl
  have hiX4 : ∀ w ∈ u_ws RX4 TX4 5, w ∈ v_sX4_endX := fun _ h => List.mem_cons_of_mem _ (List.mem_append_right _ h)
  have hiX7 : ∀ w ∈ u_ws RX7 TX7 19, w ∈ v_sX4_endX := fun _ h => List.mem_cons_of_mem _ (List.mem_append_left _ (List.mem_append_right _ h))
  refine lv_aload_n hx hb dX4_endX_0 rfl (lv_at hl 1 rfl) ?_
  refine va_get (D := D) (ci := 7) (v := .int room_bx) (C := RX7) (T := TX7) (N := 19) hx hb hts hiX7 hown hK hP 1 rfl rfl 2 (by decide) (hts (.fieldLink RX4 35 "GhostPane$Room" "bx" "I") (List.mem_of_getElem? (i := 1) rfl)) (fun _ h9 => h9) rfl dX4_endX_1 ?_
  refine lv_aload_n hx hb dX4_endX_4 rfl (lv_at hl 0 rfl) ?_
  refine lv_iload_n hx hb dX4_endX_5 rfl (lv_at hl 2 rfl) ?_
  have hPc := hP.sub (ws' := [(o_grid xa grid_n grid_sx grid_sy grid_m grid_sd)]) [0] rfl
  have hDc := hD.sub (ws' := [(o_grid xa grid_n grid_sx grid_sy grid_m grid_sd)]) [0] (by decide) rfl
  have hFc := va_free (wc := [(o_grid xa grid_n grid_sx grid_sy grid_m grid_sd)]) hD hS hA [0] rfl
  refine va_calli (va_runV (As := [.int k]) (rest := [.int room_bx]) ⟨hx, hb, hml, hown, hts⟩ (sX4_row l D cy H.size xa grid_n grid_sx grid_sy grid_m grid_sd k) (cwV 1 hts g_sX4_endX_sX4_row_0 rfl rfl rfl (by decide +kernel) ⟨Nat.le_of_ble_eq_true rfl, Nat.le_of_ble_eq_true rfl⟩) (gp_preV (RX4, TX4, 5) 4 0 hPc hDc hK hN rfl rfl) rfl rfl hl.1 rfl (lv_room (Nat.le_of_ble_eq_true rfl)) dX4_endX_6 ⟨Nat.le_of_ble_eq_true rfl, Nat.le_of_ble_eq_true rfl⟩) hS (fun q _ h => hFc q h) hFc (fun r_1 u t H locs ht hvm hw hB hz1 hk1 hS => ?_)
  have hP := gp_joinU (wc := [(o_grid xa grid_n grid_sx grid_sy grid_m grid_sd)]) hP hD [0] rfl hk1 ht hB
  have w_2 := hw
  refine lv_aload_n hx hb dX4_endX_9 rfl (lv_at hl 0 rfl) ?_
  refine va_get (D := D) (ci := 4) (v := .int grid_sx) (C := RX4) (T := TX4) (N := 5) hx hb hts hiX4 hown hK hP 0 rfl rfl 1 (by decide) (hts (.fieldLink RX4 18 "GhostPane$Grid" "sx" "I") (List.mem_of_getElem? (i := 8) rfl)) (fun _ h9 => h9) rfl dX4_endX_10 ?_
  refine lv_imul hx hb dX4_endX_13 ?_
  refine lv_iadd hx hb dX4_endX_14 ?_
  exact W.iret (v := (room_bx + (r_1 * grid_sx))) hx hb hr (fun t ht hW => ⟨⟨(room_bx + (r_1 * grid_sx)), (), rfl, (lf_sX4_endX_1 grid_sx grid_m room_bx k r_1 w_2), gp_end ht hP hD⟩, hS.F ht⟩) hS.2.2 dX4_endX_15

theorem lf_sX4_endY_1 (grid_sy : Int32) (grid_m : Int32) (room_by : Int32) (k : Int32) (r_1 : Int32) (w_2 : r_1 = (if 0 < grid_m then k / grid_m else 0)) : (room_by + (r_1 * grid_sy)) = room_by + (if 0 < grid_m then k / grid_m else 0) * grid_sy := by
  first | grind | (simp only [sp_in, sp_pl, sp_far, sp_two] at *; grind)
def v_sX4_endY : List Cond := .code yX4_endY cX4_endY 3 (some .int) :: (([.fieldLink RX4 38 "GhostPane$Room" "by" "I", .code yX4_row cX4_row 2 (some .int), .fieldLink RX4 15 "GhostPane$Grid" "m" "I", .methodLink RX4 48 yX4_row, .instanceMethod yX4_row, .selects RX4 yX4_row yX4_row, .initialized RX4, .fieldLink RX4 21 "GhostPane$Grid" "sy" "I"] : List Cond) ++ wsX70 ++ wsX40)
set_option maxRecDepth 20000 in
theorem gg_sX4_endY_sX4_row : GoodIn v_sX4_endY v_sX4_row := goodIn_ca (goodIn_r (.code yX4_row cX4_row 2 (some .int) :: [.fieldLink RX4 15 "GhostPane$Grid" "m" "I"]) [2, 3] (by first | rfl | decide +kernel) (by decide +kernel)) (goodIn_sub (fun _ h => List.mem_cons_of_mem _ (List.mem_append_right _ h)) gwX4)
set_option maxRecDepth 20000 in
theorem g_sX4_endY_sX4_row_0 : GoodIn v_sX4_endY (wsV RX4 48 RX4 yX4_row v_sX4_row) := goodIn_app (goodIn_r [.methodLink RX4 48 yX4_row, .instanceMethod yX4_row, .selects RX4 yX4_row yX4_row, .initialized RX4] [4, 5, 6, 7] rfl (by decide +kernel)) gg_sX4_endY_sX4_row
set_option maxHeartbeats 4000000 in
set_option maxRecDepth 100000 in
theorem sX4_endY (l : Launch) (D : va_G) (cy : Nat → ClassId) (sz : Nat) (xa : Nat → Nat) (grid_n : Int32) (grid_sx : Int32) (grid_sy : Int32) (grid_m : Int32) (grid_sd : Int32) (room_ax : Int32) (room_ay : Int32) (room_bx : Int32) (room_by : Int32) (room_cx : Int32) (room_cy : Int32) (room_dx : Int32) (room_dy : Int32) (room_floor : Int32) (room_hand : Int32) (room_deep : Int32) (k : Int32) : Met l yX4_endY v_sX4_endY ({ frames := 1, cells := 0, slots := 0, locals := 21 } : Room) (va_Pc [.ref (xa 24), .ref (xa 11), .int k] (gp_B D cy sz [(o_grid xa grid_n grid_sx grid_sy grid_m grid_sd), (o_room xa room_ax room_ay room_bx room_by room_cx room_cy room_dx room_dy room_floor room_hand room_deep)])) (va_Qi (fun (r : Int32) (u : Unit) => (r = room_by + (if 0 < grid_m then k / grid_m else 0) * grid_sy)) (fun u => gp_E D (va_A [(o_grid xa grid_n grid_sx grid_sy grid_m grid_sd), (o_room xa room_ax room_ay room_bx room_by room_cx room_cy room_dx room_dy room_floor room_hand room_deep)] sz) [(o_grid xa grid_n grid_sx grid_sy grid_m grid_sd), (o_room xa room_ax room_ay room_bx room_by room_cx room_cy room_dx room_dy room_floor room_hand room_deep)]) (va_A [(o_grid xa grid_n grid_sx grid_sy grid_m grid_sd), (o_room xa room_ax room_ay room_bx room_by room_cx room_cy room_dx room_dy room_floor room_hand room_deep)] sz)) 0 0 (va_A [(o_grid xa grid_n grid_sx grid_sy grid_m grid_sd), (o_room xa room_ax room_ay room_bx room_by room_cx room_cy room_dx room_dy room_floor room_hand room_deep)] sz) := by
  refine gp_met (Qc := fun A => va_Qi (fun (r : Int32) (u : Unit) => (r = room_by + (if 0 < grid_m then k / grid_m else 0) * grid_sy)) (fun u => gp_E D A [(o_grid xa grid_n grid_sx grid_sy grid_m grid_sd), (o_room xa room_ax room_ay room_bx room_by room_cx room_cy room_dx room_dy room_floor room_hand room_deep)]) A) (cc := cX4_endY) (maxL := 3) (ret := (some .int)) (by decide) rfl (Nat.le_of_ble_eq_true rfl) ?_
  intro p e s m below meth c A ls H hx hb hml hr hlocks hts hown hin hK hN hS hP hD hA hl
  have hown : s.vm.findClass RX4 = some m.cls := hown
  have hl : lv_has ls 3 [(0, .ref (xa 24)), (1, .ref (xa 11)), (2, .int k)] := hl
  have hiX4 : ∀ w ∈ u_ws RX4 TX4 5, w ∈ v_sX4_endY := fun _ h => List.mem_cons_of_mem _ (List.mem_append_right _ h)
  have hiX7 : ∀ w ∈ u_ws RX7 TX7 19, w ∈ v_sX4_endY := fun _ h => List.mem_cons_of_mem _ (List.mem_append_left _ (List.mem_append_right _ h))
  refine lv_aload_n hx hb dX4_endY_0 rfl (lv_at hl 1 rfl) ?_
  refine va_get (D := D) (ci := 7) (v := .int room_by) (C := RX7) (T := TX7) (N := 19) hx hb hts hiX7 hown hK hP 1 rfl rfl 3 (by decide) (hts (.fieldLink RX4 38 "GhostPane$Room" "by" "I") (List.mem_of_getElem? (i := 1) rfl)) (fun _ h9 => h9) rfl dX4_endY_1 ?_
  refine lv_aload_n hx hb dX4_endY_4 rfl (lv_at hl 0 rfl) ?_
  refine lv_iload_n hx hb dX4_endY_5 rfl (lv_at hl 2 rfl) ?_
  have hPc := hP.sub (ws' := [(o_grid xa grid_n grid_sx grid_sy grid_m grid_sd)]) [0] rfl
  have hDc := hD.sub (ws' := [(o_grid xa grid_n grid_sx grid_sy grid_m grid_sd)]) [0] (by decide) rfl
  have hFc := va_free (wc := [(o_grid xa grid_n grid_sx grid_sy grid_m grid_sd)]) hD hS hA [0] rfl
  refine va_calli (va_runV (As := [.int k]) (rest := [.int room_by]) ⟨hx, hb, hml, hown, hts⟩ (sX4_row l D cy H.size xa grid_n grid_sx grid_sy grid_m grid_sd k) (cwV 1 hts g_sX4_endY_sX4_row_0 rfl rfl rfl (by decide +kernel) ⟨Nat.le_of_ble_eq_true rfl, Nat.le_of_ble_eq_true rfl⟩) (gp_preV (RX4, TX4, 5) 4 0 hPc hDc hK hN rfl rfl) rfl rfl hl.1 rfl (lv_room (Nat.le_of_ble_eq_true rfl)) dX4_endY_6 ⟨Nat.le_of_ble_eq_true rfl, Nat.le_of_ble_eq_true rfl⟩) hS (fun q _ h => hFc q h) hFc (fun r_1 u t H locs ht hvm hw hB hz1 hk1 hS => ?_)
  have hP := gp_joinU (wc := [(o_grid xa grid_n grid_sx grid_sy grid_m grid_sd)]) hP hD [0] rfl hk1 ht hB
  have w_2 := hw
  refine lv_aload_n hx hb dX4_endY_9 rfl (lv_at hl 0 rfl) ?_
  refine va_get (D := D) (ci := 4) (v := .int grid_sy) (C := RX4) (T := TX4) (N := 5) hx hb hts hiX4 hown hK hP 0 rfl rfl 2 (by decide) (hts (.fieldLink RX4 21 "GhostPane$Grid" "sy" "I") (List.mem_of_getElem? (i := 8) rfl)) (fun _ h9 => h9) rfl dX4_endY_10 ?_
  refine lv_imul hx hb dX4_endY_13 ?_
  refine lv_iadd hx hb dX4_endY_14 ?_
  exact W.iret (v := (room_by + (r_1 * grid_sy))) hx hb hr (fun t ht hW => ⟨⟨(room_by + (r_1 * grid_sy)), (), rfl, (lf_sX4_endY_1 grid_sy grid_m room_by k r_1 w_2), gp_end ht hP hD⟩, hS.F ht⟩) hS.2.2 dX4_endY_15

theorem lf_sX4_depth_1 (grid_m : Int32) (grid_sd : Int32) (room_deep : Int32) (k : Int32) (r_1 : Int32) (w_2 : r_1 = (if 0 < grid_m then k / grid_m else 0)) : (room_deep + ((k - (r_1 * grid_m)) * grid_sd)) = room_deep + (k - (if 0 < grid_m then k / grid_m else 0) * grid_m) * grid_sd := by
  first | grind | (simp only [sp_in, sp_pl, sp_far, sp_two] at *; grind)
def v_sX4_depth : List Cond := .code yX4_depth cX4_depth 3 (some .int) :: (([.fieldLink RX4 45 "GhostPane$Room" "deep" "I", .code yX4_row cX4_row 2 (some .int), .fieldLink RX4 15 "GhostPane$Grid" "m" "I", .methodLink RX4 48 yX4_row, .instanceMethod yX4_row, .selects RX4 yX4_row yX4_row, .initialized RX4, .fieldLink RX4 24 "GhostPane$Grid" "sd" "I"] : List Cond) ++ wsX70 ++ wsX40)
set_option maxRecDepth 20000 in
theorem gg_sX4_depth_sX4_row : GoodIn v_sX4_depth v_sX4_row := goodIn_ca (goodIn_r (.code yX4_row cX4_row 2 (some .int) :: [.fieldLink RX4 15 "GhostPane$Grid" "m" "I"]) [2, 3] (by first | rfl | decide +kernel) (by decide +kernel)) (goodIn_sub (fun _ h => List.mem_cons_of_mem _ (List.mem_append_right _ h)) gwX4)
set_option maxRecDepth 20000 in
theorem g_sX4_depth_sX4_row_0 : GoodIn v_sX4_depth (wsV RX4 48 RX4 yX4_row v_sX4_row) := goodIn_app (goodIn_r [.methodLink RX4 48 yX4_row, .instanceMethod yX4_row, .selects RX4 yX4_row yX4_row, .initialized RX4] [4, 5, 6, 7] rfl (by decide +kernel)) gg_sX4_depth_sX4_row
set_option maxHeartbeats 4000000 in
set_option maxRecDepth 100000 in
theorem sX4_depth (l : Launch) (D : va_G) (cy : Nat → ClassId) (sz : Nat) (xa : Nat → Nat) (grid_n : Int32) (grid_sx : Int32) (grid_sy : Int32) (grid_m : Int32) (grid_sd : Int32) (room_ax : Int32) (room_ay : Int32) (room_bx : Int32) (room_by : Int32) (room_cx : Int32) (room_cy : Int32) (room_dx : Int32) (room_dy : Int32) (room_floor : Int32) (room_hand : Int32) (room_deep : Int32) (k : Int32) : Met l yX4_depth v_sX4_depth ({ frames := 1, cells := 0, slots := 0, locals := 21 } : Room) (va_Pc [.ref (xa 24), .ref (xa 11), .int k] (gp_B D cy sz [(o_grid xa grid_n grid_sx grid_sy grid_m grid_sd), (o_room xa room_ax room_ay room_bx room_by room_cx room_cy room_dx room_dy room_floor room_hand room_deep)])) (va_Qi (fun (r : Int32) (u : Unit) => (r = room_deep + (k - (if 0 < grid_m then k / grid_m else 0) * grid_m) * grid_sd)) (fun u => gp_E D (va_A [(o_grid xa grid_n grid_sx grid_sy grid_m grid_sd), (o_room xa room_ax room_ay room_bx room_by room_cx room_cy room_dx room_dy room_floor room_hand room_deep)] sz) [(o_grid xa grid_n grid_sx grid_sy grid_m grid_sd), (o_room xa room_ax room_ay room_bx room_by room_cx room_cy room_dx room_dy room_floor room_hand room_deep)]) (va_A [(o_grid xa grid_n grid_sx grid_sy grid_m grid_sd), (o_room xa room_ax room_ay room_bx room_by room_cx room_cy room_dx room_dy room_floor room_hand room_deep)] sz)) 0 0 (va_A [(o_grid xa grid_n grid_sx grid_sy grid_m grid_sd), (o_room xa room_ax room_ay room_bx room_by room_cx room_cy room_dx room_dy room_floor room_hand room_deep)] sz) := by
  refine gp_met (Qc := fun A => va_Qi (fun (r : Int32) (u : Unit) => (r = room_deep + (k - (if 0 < grid_m then k / grid_m else 0) * grid_m) * grid_sd)) (fun u => gp_E D A [(o_grid xa grid_n grid_sx grid_sy grid_m grid_sd), (o_room xa room_ax room_ay room_bx room_by room_cx room_cy room_dx room_dy room_floor room_hand room_deep)]) A) (cc := cX4_depth) (maxL := 3) (ret := (some .int)) (by decide) rfl (Nat.le_of_ble_eq_true rfl) ?_
  intro p e s m below meth c A ls H hx hb hml hr hlocks hts hown hin hK hN hS hP hD hA hl
  have hown : s.vm.findClass RX4 = some m.cls := hown
  have hl : lv_has ls 3 [(0, .ref (xa 24)), (1, .ref (xa 11)), (2, .int k)] := hl
  have hiX4 : ∀ w ∈ u_ws RX4 TX4 5, w ∈ v_sX4_depth := fun _ h => List.mem_cons_of_mem _ (List.mem_append_right _ h)
  have hiX7 : ∀ w ∈ u_ws RX7 TX7 19, w ∈ v_sX4_depth := fun _ h => List.mem_cons_of_mem _ (List.mem_append_left _ (List.mem_append_right _ h))
  refine lv_aload_n hx hb dX4_depth_0 rfl (lv_at hl 1 rfl) ?_
  refine va_get (D := D) (ci := 7) (v := .int room_deep) (C := RX7) (T := TX7) (N := 19) hx hb hts hiX7 hown hK hP 1 rfl rfl 10 (by decide) (hts (.fieldLink RX4 45 "GhostPane$Room" "deep" "I") (List.mem_of_getElem? (i := 1) rfl)) (fun _ h9 => h9) rfl dX4_depth_1 ?_
  refine lv_iload_n hx hb dX4_depth_4 rfl (lv_at hl 2 rfl) ?_
  refine lv_aload_n hx hb dX4_depth_5 rfl (lv_at hl 0 rfl) ?_
  refine lv_iload_n hx hb dX4_depth_6 rfl (lv_at hl 2 rfl) ?_
  have hPc := hP.sub (ws' := [(o_grid xa grid_n grid_sx grid_sy grid_m grid_sd)]) [0] rfl
  have hDc := hD.sub (ws' := [(o_grid xa grid_n grid_sx grid_sy grid_m grid_sd)]) [0] (by decide) rfl
  have hFc := va_free (wc := [(o_grid xa grid_n grid_sx grid_sy grid_m grid_sd)]) hD hS hA [0] rfl
  refine va_calli (va_runV (As := [.int k]) (rest := [.int k, .int room_deep]) ⟨hx, hb, hml, hown, hts⟩ (sX4_row l D cy H.size xa grid_n grid_sx grid_sy grid_m grid_sd k) (cwV 1 hts g_sX4_depth_sX4_row_0 rfl rfl rfl (by decide +kernel) ⟨Nat.le_of_ble_eq_true rfl, Nat.le_of_ble_eq_true rfl⟩) (gp_preV (RX4, TX4, 5) 4 0 hPc hDc hK hN rfl rfl) rfl rfl hl.1 rfl (lv_room (Nat.le_of_ble_eq_true rfl)) dX4_depth_7 ⟨Nat.le_of_ble_eq_true rfl, Nat.le_of_ble_eq_true rfl⟩) hS (fun q _ h => hFc q h) hFc (fun r_1 u t H locs ht hvm hw hB hz1 hk1 hS => ?_)
  have hP := gp_joinU (wc := [(o_grid xa grid_n grid_sx grid_sy grid_m grid_sd)]) hP hD [0] rfl hk1 ht hB
  have w_2 := hw
  refine lv_aload_n hx hb dX4_depth_10 rfl (lv_at hl 0 rfl) ?_
  refine va_get (D := D) (ci := 4) (v := .int grid_m) (C := RX4) (T := TX4) (N := 5) hx hb hts hiX4 hown hK hP 0 rfl rfl 3 (by decide) (hts (.fieldLink RX4 15 "GhostPane$Grid" "m" "I") (List.mem_of_getElem? (i := 3) rfl)) (fun _ h9 => h9) rfl dX4_depth_11 ?_
  refine lv_imul hx hb dX4_depth_14 ?_
  refine lv_isub hx hb dX4_depth_15 ?_
  refine lv_aload_n hx hb dX4_depth_16 rfl (lv_at hl 0 rfl) ?_
  refine va_get (D := D) (ci := 4) (v := .int grid_sd) (C := RX4) (T := TX4) (N := 5) hx hb hts hiX4 hown hK hP 0 rfl rfl 4 (by decide) (hts (.fieldLink RX4 24 "GhostPane$Grid" "sd" "I") (List.mem_of_getElem? (i := 8) rfl)) (fun _ h9 => h9) rfl dX4_depth_17 ?_
  refine lv_imul hx hb dX4_depth_20 ?_
  refine lv_iadd hx hb dX4_depth_21 ?_
  exact W.iret (v := (room_deep + ((k - (r_1 * grid_m)) * grid_sd))) hx hb hr (fun t ht hW => ⟨⟨(room_deep + ((k - (r_1 * grid_m)) * grid_sd)), (), rfl, (lf_sX4_depth_1 grid_m grid_sd room_deep k r_1 w_2), gp_end ht hP hD⟩, hS.F ht⟩) hS.2.2 dX4_depth_22

theorem lf_sX1_isFull_1 (book_acts : Int32) (f_book_acts : sp_in book_acts 0 100) (c_1 : book_acts < 100) : ((0 : Int32) = 1 ∧ 100 ≤ book_acts) ∨ ((0 : Int32) = 0 ∧ ¬ 100 ≤ book_acts) := by
  first | grind | (simp only [sp_in, sp_pl, sp_far, sp_two] at *; grind)
theorem lf_sX1_isFull_2 (book_acts : Int32) (f_book_acts : sp_in book_acts 0 100) (c_1 : ¬ book_acts < 100) : ((1 : Int32) = 1 ∧ 100 ≤ book_acts) ∨ ((1 : Int32) = 0 ∧ ¬ 100 ≤ book_acts) := by
  first | grind | (simp only [sp_in, sp_pl, sp_far, sp_two] at *; grind)
def v_sX1_isFull : List Cond := .code yX1_isFull cX1_isFull 1 (some .boolean) :: (([.fieldLink RX1 37 "GhostPane$Book" "acts" "I"] : List Cond) ++ wsX10)
set_option maxHeartbeats 4000000 in
set_option maxRecDepth 100000 in
theorem sX1_isFull (l : Launch) (D : va_G) (cy : Nat → ClassId) (sz : Nat) (xa : Nat → Nat) (book_acts : Int32) (f_book_acts : sp_in book_acts 0 100) : Met l yX1_isFull v_sX1_isFull ({ frames := 0, cells := 0, slots := 0, locals := 0 } : Room) (va_Pc [.ref (xa 29)] (gp_B D cy sz [(o_book xa book_acts)])) (va_Qi (fun (r : Int32) (u : Unit) => (r = 0 ∨ r = 1) ∧ ((r = 1 ∧ 100 ≤ book_acts) ∨ (r = 0 ∧ ¬ 100 ≤ book_acts))) (fun u => gp_E D (va_A [(o_book xa book_acts)] sz) [(o_book xa book_acts)]) (va_A [(o_book xa book_acts)] sz)) 0 0 (va_A [(o_book xa book_acts)] sz) := by
  refine gp_met (Qc := fun A => va_Qi (fun (r : Int32) (u : Unit) => (r = 0 ∨ r = 1) ∧ ((r = 1 ∧ 100 ≤ book_acts) ∨ (r = 0 ∧ ¬ 100 ≤ book_acts))) (fun u => gp_E D A [(o_book xa book_acts)]) A) (cc := cX1_isFull) (maxL := 1) (ret := (some .boolean)) (by decide) rfl (Nat.le_of_ble_eq_true rfl) ?_
  intro p e s m below meth c A ls H hx hb hml hr hlocks hts hown hin hK hN hS hP hD hA hl
  have hown : s.vm.findClass RX1 = some m.cls := hown
  have hl : lv_has ls 1 [(0, .ref (xa 29))] := hl
  have hiX1 : ∀ w ∈ u_ws RX1 TX1 9, w ∈ v_sX1_isFull := fun _ h => List.mem_cons_of_mem _ (List.mem_append_right _ h)
  refine lv_aload_n hx hb dX1_isFull_0 rfl (lv_at hl 0 rfl) ?_
  refine va_get (D := D) (ci := 1) (v := .int book_acts) (C := RX1) (T := TX1) (N := 9) hx hb hts hiX1 hown hK hP 0 rfl rfl 0 (by decide) (hts (.fieldLink RX1 37 "GhostPane$Book" "acts" "I") (List.mem_of_getElem? (i := 1) rfl)) (fun _ h9 => h9) rfl dX1_isFull_1 ?_
  refine lv_bipush (v := 100) hx hb dX1_isFull_4 (by decide) ?_
  refine lv_icmp_lt (tgt := 13) hx hb dX1_isFull_6 (by decide) (fun c_1 => ?_) (fun c_1 => ?_)
  · refine lv_iconst (v := 0) hx hb dX1_isFull_13 (by decide) ?_
    exact W.zret (v := 0) hx hb hr narrow_b0 (fun t ht hW => ⟨⟨0, (), rfl, ⟨(show (0 : Int32) = 0 ∨ (0 : Int32) = 1 by decide), (lf_sX1_isFull_1 book_acts f_book_acts c_1)⟩, gp_end ht hP hD⟩, hS.F ht⟩) hS.2.2 dX1_isFull_14
  · refine lv_iconst (v := 1) hx hb dX1_isFull_9 (by decide) ?_
    refine lv_goto (tgt := 14) hx hb dX1_isFull_10 (by decide) ?_
    exact W.zret (v := 1) hx hb hr narrow_b1 (fun t ht hW => ⟨⟨1, (), rfl, ⟨(show (1 : Int32) = 0 ∨ (1 : Int32) = 1 by decide), (lf_sX1_isFull_2 book_acts f_book_acts c_1)⟩, gp_end ht hP hD⟩, hS.F ht⟩) hS.2.2 dX1_isFull_14

theorem lf_sX1_addReport_1 (book_acts : Int32) (r_1 : Int32) (f_book_acts : sp_in book_acts 0 100) (w_2 : r_1 = 0 ∨ r_1 = 1) (w_3 : (r_1 = 1 ∧ 100 ≤ book_acts) ∨ (r_1 = 0 ∧ ¬ 100 ≤ book_acts)) (c_4 : r_1 = 0) : sp_in (book_acts + 1) 0 100 := by
  first | grind | (simp only [sp_in, sp_pl, sp_far, sp_two] at *; grind)
theorem lf_sX1_addReport_2 (book_acts : Int32) (r_1 : Int32) (f_book_acts : sp_in book_acts 0 100) (w_2 : r_1 = 0 ∨ r_1 = 1) (w_3 : (r_1 = 1 ∧ 100 ≤ book_acts) ∨ (r_1 = 0 ∧ ¬ 100 ≤ book_acts)) (c_4 : r_1 = 0) : sp_in (book_acts + 1) 0 100 := by
  first | grind | (simp only [sp_in, sp_pl, sp_far, sp_two] at *; grind)
theorem lf_sX1_addReport_3 (book_acts : Int32) (r_1 : Int32) (f_book_acts : sp_in book_acts 0 100) (w_2 : r_1 = 0 ∨ r_1 = 1) (w_3 : (r_1 = 1 ∧ 100 ≤ book_acts) ∨ (r_1 = 0 ∧ ¬ 100 ≤ book_acts)) (c_4 : r_1 = 0) : sp_in (book_acts + 1) 0 100 := by
  first | grind | (simp only [sp_in, sp_pl, sp_far, sp_two] at *; grind)
theorem lf_sX1_addReport_4 (book_acts : Int32) (r_1 : Int32) (f_book_acts : sp_in book_acts 0 100) (w_2 : r_1 = 0 ∨ r_1 = 1) (w_3 : (r_1 = 1 ∧ 100 ≤ book_acts) ∨ (r_1 = 0 ∧ ¬ 100 ≤ book_acts)) (c_4 : r_1 = 0) : sp_in (book_acts + 1) 0 100 := by
  first | grind | (simp only [sp_in, sp_pl, sp_far, sp_two] at *; grind)
theorem lf_sX1_addReport_5 (book_acts : Int32) (target : Nat → Int32) (r_1 : Int32) (target_8 : Nat → Int32) (f_book_acts : sp_in book_acts 0 100) (w_2 : r_1 = 0 ∨ r_1 = 1) (w_3 : (r_1 = 1 ∧ 100 ≤ book_acts) ∨ (r_1 = 0 ∧ ¬ 100 ≤ book_acts)) (c_4 : r_1 = 0) (u_9 : target_8 = upd target (book_acts + 1).toNatClampNeg 0) : sp_in (book_acts + 1) 0 100 := by
  first | grind | (simp only [sp_in, sp_pl, sp_far, sp_two] at *; grind)
theorem lf_sX1_addReport_6 (book_acts : Int32) (target : Nat → Int32) (r_1 : Int32) (target_8 : Nat → Int32) (f_book_acts : sp_in book_acts 0 100) (w_2 : r_1 = 0 ∨ r_1 = 1) (w_3 : (r_1 = 1 ∧ 100 ≤ book_acts) ∨ (r_1 = 0 ∧ ¬ 100 ≤ book_acts)) (c_4 : r_1 = 0) (u_9 : target_8 = upd target (book_acts + 1).toNatClampNeg 0) : (100 ≤ book_acts ∧ (book_acts + 1) = (-1) ∧ (book_acts + 1) = book_acts ∧ target_8 = target) ∨ (¬ 100 ≤ book_acts ∧ (book_acts + 1) = book_acts + 1 ∧ (book_acts + 1) = book_acts + 1 ∧ target_8 = upd target (book_acts + 1).toNatClampNeg 0) := by
  first | grind | (simp only [sp_in, sp_pl, sp_far, sp_two] at *; grind)
theorem lf_sX1_addReport_7 (book_acts : Int32) (target : Nat → Int32) (r_1 : Int32) (f_book_acts : sp_in book_acts 0 100) (w_2 : r_1 = 0 ∨ r_1 = 1) (w_3 : (r_1 = 1 ∧ 100 ≤ book_acts) ∨ (r_1 = 0 ∧ ¬ 100 ≤ book_acts)) (c_4 : ¬ r_1 = 0) : (100 ≤ book_acts ∧ ((-1) : Int32) = (-1) ∧ book_acts = book_acts ∧ target = target) ∨ (¬ 100 ≤ book_acts ∧ ((-1) : Int32) = book_acts + 1 ∧ book_acts = book_acts + 1 ∧ target = upd target (book_acts + 1).toNatClampNeg 0) := by
  first | grind | (simp only [sp_in, sp_pl, sp_far, sp_two] at *; grind)
def v_sX1_addReport : List Cond := .code yX1_addReport cX1_addReport 4 (some .int) :: (([.code yX1_isFull cX1_isFull 1 (some .boolean), .fieldLink RX1 37 "GhostPane$Book" "acts" "I", .methodLink RX1 41 yX1_isFull, .instanceMethod yX1_isFull, .selects RX1 yX1_isFull yX1_isFull, .initialized RX1, .fieldLink RX1 15 "GhostPane$Book" "seatOf" "[I", .fieldLink RX1 18 "GhostPane$Book" "countOf" "[I", .fieldLink RX1 21 "GhostPane$Book" "sawIt" "[Z", .fieldLink RX1 28 "GhostPane$Book" "target" "[I"] : List Cond) ++ wsX10)
set_option maxRecDepth 20000 in
theorem gg_sX1_addReport_sX1_isFull : GoodIn v_sX1_addReport v_sX1_isFull := goodIn_ca (goodIn_r (.code yX1_isFull cX1_isFull 1 (some .boolean) :: [.fieldLink RX1 37 "GhostPane$Book" "acts" "I"]) [1, 2] (by first | rfl | decide +kernel) (by decide +kernel)) (goodIn_sub (fun _ h => List.mem_cons_of_mem _ (List.mem_append_right _ h)) gwX1)
set_option maxRecDepth 20000 in
theorem g_sX1_addReport_sX1_isFull_0 : GoodIn v_sX1_addReport (wsV RX1 41 RX1 yX1_isFull v_sX1_isFull) := goodIn_app (goodIn_r [.methodLink RX1 41 yX1_isFull, .instanceMethod yX1_isFull, .selects RX1 yX1_isFull yX1_isFull, .initialized RX1] [3, 4, 5, 6] rfl (by decide +kernel)) gg_sX1_addReport_sX1_isFull
set_option maxHeartbeats 4000000 in
set_option maxRecDepth 100000 in
theorem sX1_addReport (l : Launch) (D : va_G) (cy : Nat → ClassId) (sz : Nat) (xa : Nat → Nat) (book_acts : Int32) (seatOf : Nat → Int32) (countOf : Nat → Int32) (sawIt : Nat → Int32) (target : Nat → Int32) (sx : Int32) (cn : Int32) (saw : Int32) (f_book_acts : sp_in book_acts 0 100) : Met l yX1_addReport v_sX1_addReport ({ frames := 1, cells := 0, slots := 0, locals := 20 } : Room) (va_Pc [.ref (xa 29), .int sx, .int cn, .int saw] (gp_B D cy sz [(o_book xa book_acts), (aI (xa 31) (cy 1) 101 seatOf), (aI (xa 32) (cy 1) 101 countOf), (aI (xa 33) (cy 3) 101 sawIt), (aI (xa 35) (cy 1) 101 target)])) (va_Qi (fun (r : Int32) (u : (Int32) × (Nat → Int32) × (Nat → Int32) × (Nat → Int32) × (Nat → Int32)) => (sp_in u.1 0 100) ∧ ((100 ≤ book_acts ∧ r = (-1) ∧ u.1 = book_acts ∧ u.2.2.2.2 = target) ∨ (¬ 100 ≤ book_acts ∧ r = book_acts + 1 ∧ u.1 = book_acts + 1 ∧ u.2.2.2.2 = upd target (book_acts + 1).toNatClampNeg 0))) (fun u => gp_E D (va_A [(o_book xa book_acts), (aI (xa 31) (cy 1) 101 seatOf), (aI (xa 32) (cy 1) 101 countOf), (aI (xa 33) (cy 3) 101 sawIt), (aI (xa 35) (cy 1) 101 target)] sz) [(o_book xa u.1), (aI (xa 31) (cy 1) 101 u.2.1), (aI (xa 32) (cy 1) 101 u.2.2.1), (aI (xa 33) (cy 3) 101 u.2.2.2.1), (aI (xa 35) (cy 1) 101 u.2.2.2.2)]) (va_A [(o_book xa book_acts), (aI (xa 31) (cy 1) 101 seatOf), (aI (xa 32) (cy 1) 101 countOf), (aI (xa 33) (cy 3) 101 sawIt), (aI (xa 35) (cy 1) 101 target)] sz)) 0 0 (va_A [(o_book xa book_acts), (aI (xa 31) (cy 1) 101 seatOf), (aI (xa 32) (cy 1) 101 countOf), (aI (xa 33) (cy 3) 101 sawIt), (aI (xa 35) (cy 1) 101 target)] sz) := by
  refine gp_met (Qc := fun A => va_Qi (fun (r : Int32) (u : (Int32) × (Nat → Int32) × (Nat → Int32) × (Nat → Int32) × (Nat → Int32)) => (sp_in u.1 0 100) ∧ ((100 ≤ book_acts ∧ r = (-1) ∧ u.1 = book_acts ∧ u.2.2.2.2 = target) ∨ (¬ 100 ≤ book_acts ∧ r = book_acts + 1 ∧ u.1 = book_acts + 1 ∧ u.2.2.2.2 = upd target (book_acts + 1).toNatClampNeg 0))) (fun u => gp_E D A [(o_book xa u.1), (aI (xa 31) (cy 1) 101 u.2.1), (aI (xa 32) (cy 1) 101 u.2.2.1), (aI (xa 33) (cy 3) 101 u.2.2.2.1), (aI (xa 35) (cy 1) 101 u.2.2.2.2)]) A) (cc := cX1_addReport) (maxL := 4) (ret := (some .int)) (by decide) rfl (Nat.le_of_ble_eq_true rfl) ?_
  intro p e s m below meth c A ls H hx hb hml hr hlocks hts hown hin hK hN hS hP hD hA hl
  have hown : s.vm.findClass RX1 = some m.cls := hown
  have hl : lv_has ls 4 [(0, .ref (xa 29)), (1, .int sx), (2, .int cn), (3, .int saw)] := hl
  have hiX1 : ∀ w ∈ u_ws RX1 TX1 9, w ∈ v_sX1_addReport := fun _ h => List.mem_cons_of_mem _ (List.mem_append_right _ h)
  refine lv_aload_n hx hb dX1_addReport_0 rfl (lv_at hl 0 rfl) ?_
  have hPc := hP.sub (ws' := [(o_book xa book_acts)]) [0] rfl
  have hDc := hD.sub (ws' := [(o_book xa book_acts)]) [0] (by decide) rfl
  have hFc := va_free (wc := [(o_book xa book_acts)]) hD hS hA [0] rfl
  refine va_calli (va_runV (As := []) (rest := []) ⟨hx, hb, hml, hown, hts⟩ (sX1_isFull l D cy H.size xa book_acts f_book_acts) (cwV 0 hts g_sX1_addReport_sX1_isFull_0 rfl rfl rfl (by decide +kernel) ⟨Nat.le_of_ble_eq_true rfl, Nat.le_of_ble_eq_true rfl⟩) (gp_preV (RX1, TX1, 9) 1 0 hPc hDc hK hN rfl rfl) rfl rfl hl.1 rfl (lv_room (Nat.le_of_ble_eq_true rfl)) dX1_addReport_1 ⟨Nat.le_of_ble_eq_true rfl, Nat.le_of_ble_eq_true rfl⟩) hS (fun q _ h => hFc q h) hFc (fun r_1 u t H locs ht hvm hw hB hz1 hk1 hS => ?_)
  have hP := gp_joinU (wc := [(o_book xa book_acts)]) hP hD [0] rfl hk1 ht hB
  obtain ⟨w_2, w_3⟩ := hw
  refine lv_if_eq (tgt := 9) hx hb dX1_addReport_4 (by decide) (fun c_4 => ?_) (fun c_4 => ?_)
  · refine lv_aload_n hx hb dX1_addReport_9 rfl (lv_at hl 0 rfl) ?_
    refine lv_dup hx hb dX1_addReport_10 rfl ?_
    refine va_get (D := D) (ci := 1) (v := .int book_acts) (C := RX1) (T := TX1) (N := 9) hx hb hts hiX1 hown hK hP 0 rfl rfl 0 (by decide) (hts (.fieldLink RX1 37 "GhostPane$Book" "acts" "I") (List.mem_of_getElem? (i := 2) rfl)) (fun _ h9 => h9) rfl dX1_addReport_11 ?_
    refine lv_iconst (v := 1) hx hb dX1_addReport_14 (by decide) ?_
    refine lv_iadd hx hb dX1_addReport_15 ?_
    refine va_put (D := D) (ci := 1) (v := .int (book_acts + 1)) (ty := .int) (C := RX1) (T := TX1) (N := 9) hx hb hts hiX1 tyX1 tyX1_ok nmX1 hown hK hP hD hS 0 rfl rfl 0 (by decide) (hts (.fieldLink RX1 37 "GhostPane$Book" "acts" "I") (List.mem_of_getElem? (i := 2) rfl)) (fun _ h9 => h9) rfl (by decide +kernel) rfl rfl (Nat.le_of_ble_eq_true rfl) dX1_addReport_16 (fun H locs hP hD hS => ?_)
    have hP : va_P D vwCl [(o_book xa (book_acts + 1)), (aI (xa 31) (cy 1) 101 seatOf), (aI (xa 32) (cy 1) 101 countOf), (aI (xa 33) (cy 3) 101 sawIt), (aI (xa 35) (cy 1) 101 target)] H := hP
    have hD := gp_sD hP hD
    refine lv_aload_n hx hb dX1_addReport_19 rfl (lv_at hl 0 rfl) ?_
    refine va_get (D := D) (ci := 1) (v := .ref (xa 31)) (C := RX1) (T := TX1) (N := 9) hx hb hts hiX1 hown hK hP 0 rfl rfl 2 (by decide) (hts (.fieldLink RX1 15 "GhostPane$Book" "seatOf" "[I") (List.mem_of_getElem? (i := 7) rfl)) (fun _ h9 => h9) rfl dX1_addReport_20 ?_
    refine lv_aload_n hx hb dX1_addReport_23 rfl (lv_at hl 0 rfl) ?_
    refine va_get (D := D) (ci := 1) (v := .int (book_acts + 1)) (C := RX1) (T := TX1) (N := 9) hx hb hts hiX1 hown hK hP 0 rfl rfl 0 (by decide) (hts (.fieldLink RX1 37 "GhostPane$Book" "acts" "I") (List.mem_of_getElem? (i := 2) rfl)) (fun _ h9 => h9) rfl dX1_addReport_24 ?_
    refine lv_iload_n hx hb dX1_addReport_27 rfl (lv_at hl 1 rfl) ?_
    refine va_iast hx hb hK hP hD hS 1 1 rfl rfl (gp_in (hi := 100) (lf_sX1_addReport_1 book_acts r_1 f_book_acts w_2 w_3 c_4) (by decide)) dX1_addReport_28 (fun H locs hP hD hS => ?_)
    obtain ⟨seatOf_5, hP, hD⟩ : ∃ seatOf_5 : Nat → Int32, va_P D vwCl [(o_book xa (book_acts + 1)), (aI (xa 31) (cy 1) 101 seatOf_5), (aI (xa 32) (cy 1) 101 countOf), (aI (xa 33) (cy 3) 101 sawIt), (aI (xa 35) (cy 1) 101 target)] H ∧ va_D A [(o_book xa (book_acts + 1)), (aI (xa 31) (cy 1) 101 seatOf_5), (aI (xa 32) (cy 1) 101 countOf), (aI (xa 33) (cy 3) 101 sawIt), (aI (xa 35) (cy 1) 101 target)] := ⟨_, hP, hD⟩
    refine lv_aload_n hx hb dX1_addReport_29 rfl (lv_at hl 0 rfl) ?_
    refine va_get (D := D) (ci := 1) (v := .ref (xa 32)) (C := RX1) (T := TX1) (N := 9) hx hb hts hiX1 hown hK hP 0 rfl rfl 3 (by decide) (hts (.fieldLink RX1 18 "GhostPane$Book" "countOf" "[I") (List.mem_of_getElem? (i := 8) rfl)) (fun _ h9 => h9) rfl dX1_addReport_30 ?_
    refine lv_aload_n hx hb dX1_addReport_33 rfl (lv_at hl 0 rfl) ?_
    refine va_get (D := D) (ci := 1) (v := .int (book_acts + 1)) (C := RX1) (T := TX1) (N := 9) hx hb hts hiX1 hown hK hP 0 rfl rfl 0 (by decide) (hts (.fieldLink RX1 37 "GhostPane$Book" "acts" "I") (List.mem_of_getElem? (i := 2) rfl)) (fun _ h9 => h9) rfl dX1_addReport_34 ?_
    refine lv_iload_n hx hb dX1_addReport_37 rfl (lv_at hl 2 rfl) ?_
    refine va_iast hx hb hK hP hD hS 2 1 rfl rfl (gp_in (hi := 100) (lf_sX1_addReport_2 book_acts r_1 f_book_acts w_2 w_3 c_4) (by decide)) dX1_addReport_38 (fun H locs hP hD hS => ?_)
    obtain ⟨countOf_6, hP, hD⟩ : ∃ countOf_6 : Nat → Int32, va_P D vwCl [(o_book xa (book_acts + 1)), (aI (xa 31) (cy 1) 101 seatOf_5), (aI (xa 32) (cy 1) 101 countOf_6), (aI (xa 33) (cy 3) 101 sawIt), (aI (xa 35) (cy 1) 101 target)] H ∧ va_D A [(o_book xa (book_acts + 1)), (aI (xa 31) (cy 1) 101 seatOf_5), (aI (xa 32) (cy 1) 101 countOf_6), (aI (xa 33) (cy 3) 101 sawIt), (aI (xa 35) (cy 1) 101 target)] := ⟨_, hP, hD⟩
    refine lv_aload_n hx hb dX1_addReport_39 rfl (lv_at hl 0 rfl) ?_
    refine va_get (D := D) (ci := 1) (v := .ref (xa 33)) (C := RX1) (T := TX1) (N := 9) hx hb hts hiX1 hown hK hP 0 rfl rfl 4 (by decide) (hts (.fieldLink RX1 21 "GhostPane$Book" "sawIt" "[Z") (List.mem_of_getElem? (i := 9) rfl)) (fun _ h9 => h9) rfl dX1_addReport_40 ?_
    refine lv_aload_n hx hb dX1_addReport_43 rfl (lv_at hl 0 rfl) ?_
    refine va_get (D := D) (ci := 1) (v := .int (book_acts + 1)) (C := RX1) (T := TX1) (N := 9) hx hb hts hiX1 hown hK hP 0 rfl rfl 0 (by decide) (hts (.fieldLink RX1 37 "GhostPane$Book" "acts" "I") (List.mem_of_getElem? (i := 2) rfl)) (fun _ h9 => h9) rfl dX1_addReport_44 ?_
    refine lv_iload_n hx hb dX1_addReport_47 rfl (lv_at hl 3 rfl) ?_
    refine va_zast hx hb hK hP hD hS 3 3 rfl rfl (gp_in (hi := 100) (lf_sX1_addReport_3 book_acts r_1 f_book_acts w_2 w_3 c_4) (by decide)) dX1_addReport_48 (fun H locs hP hD hS => ?_)
    obtain ⟨sawIt_7, hP, hD⟩ : ∃ sawIt_7 : Nat → Int32, va_P D vwCl [(o_book xa (book_acts + 1)), (aI (xa 31) (cy 1) 101 seatOf_5), (aI (xa 32) (cy 1) 101 countOf_6), (aI (xa 33) (cy 3) 101 sawIt_7), (aI (xa 35) (cy 1) 101 target)] H ∧ va_D A [(o_book xa (book_acts + 1)), (aI (xa 31) (cy 1) 101 seatOf_5), (aI (xa 32) (cy 1) 101 countOf_6), (aI (xa 33) (cy 3) 101 sawIt_7), (aI (xa 35) (cy 1) 101 target)] := ⟨_, hP, hD⟩
    refine lv_aload_n hx hb dX1_addReport_49 rfl (lv_at hl 0 rfl) ?_
    refine va_get (D := D) (ci := 1) (v := .ref (xa 35)) (C := RX1) (T := TX1) (N := 9) hx hb hts hiX1 hown hK hP 0 rfl rfl 6 (by decide) (hts (.fieldLink RX1 28 "GhostPane$Book" "target" "[I") (List.mem_of_getElem? (i := 10) rfl)) (fun _ h9 => h9) rfl dX1_addReport_50 ?_
    refine lv_aload_n hx hb dX1_addReport_53 rfl (lv_at hl 0 rfl) ?_
    refine va_get (D := D) (ci := 1) (v := .int (book_acts + 1)) (C := RX1) (T := TX1) (N := 9) hx hb hts hiX1 hown hK hP 0 rfl rfl 0 (by decide) (hts (.fieldLink RX1 37 "GhostPane$Book" "acts" "I") (List.mem_of_getElem? (i := 2) rfl)) (fun _ h9 => h9) rfl dX1_addReport_54 ?_
    refine lv_iconst (v := 0) hx hb dX1_addReport_57 (by decide) ?_
    refine va_iast hx hb hK hP hD hS 4 1 rfl rfl (gp_in (hi := 100) (lf_sX1_addReport_4 book_acts r_1 f_book_acts w_2 w_3 c_4) (by decide)) dX1_addReport_58 (fun H locs hP hD hS => ?_)
    obtain ⟨target_8, u_9, hP, hD⟩ : ∃ target_8 : Nat → Int32, target_8 = upd target (book_acts + 1).toNatClampNeg 0 ∧ va_P D vwCl [(o_book xa (book_acts + 1)), (aI (xa 31) (cy 1) 101 seatOf_5), (aI (xa 32) (cy 1) 101 countOf_6), (aI (xa 33) (cy 3) 101 sawIt_7), (aI (xa 35) (cy 1) 101 target_8)] H ∧ va_D A [(o_book xa (book_acts + 1)), (aI (xa 31) (cy 1) 101 seatOf_5), (aI (xa 32) (cy 1) 101 countOf_6), (aI (xa 33) (cy 3) 101 sawIt_7), (aI (xa 35) (cy 1) 101 target_8)] := ⟨_, rfl, hP, hD⟩
    refine lv_aload_n hx hb dX1_addReport_59 rfl (lv_at hl 0 rfl) ?_
    refine va_get (D := D) (ci := 1) (v := .int (book_acts + 1)) (C := RX1) (T := TX1) (N := 9) hx hb hts hiX1 hown hK hP 0 rfl rfl 0 (by decide) (hts (.fieldLink RX1 37 "GhostPane$Book" "acts" "I") (List.mem_of_getElem? (i := 2) rfl)) (fun _ h9 => h9) rfl dX1_addReport_60 ?_
    exact W.iret (v := (book_acts + 1)) hx hb hr (fun t ht hW => ⟨⟨(book_acts + 1), ⟨(book_acts + 1), seatOf_5, countOf_6, sawIt_7, target_8⟩, rfl, ⟨(lf_sX1_addReport_5 book_acts target r_1 target_8 f_book_acts w_2 w_3 c_4 u_9), (lf_sX1_addReport_6 book_acts target r_1 target_8 f_book_acts w_2 w_3 c_4 u_9)⟩, gp_end ht hP hD⟩, hS.F ht⟩) hS.2.2 dX1_addReport_63
  · refine lv_iconst (v := (-1)) hx hb dX1_addReport_7 (by decide) ?_
    exact W.iret (v := (-1)) hx hb hr (fun t ht hW => ⟨⟨(-1), ⟨book_acts, seatOf, countOf, sawIt, target⟩, rfl, ⟨f_book_acts, (lf_sX1_addReport_7 book_acts target r_1 f_book_acts w_2 w_3 c_4)⟩, gp_end ht hP hD⟩, hS.F ht⟩) hS.2.2 dX1_addReport_8

theorem lf_sX1_canVoid_1 (book_acts : Int32) (voided : Nat → Int32) (target : Nat → Int32) (act : Int32) (r_1 : Int32) (f_book_acts : sp_in book_acts 0 100) (w_2 : r_1 = 0 ∨ r_1 = 1) (w_3 : (r_1 = 1 ∧ 100 ≤ book_acts) ∨ (r_1 = 0 ∧ ¬ 100 ≤ book_acts)) (c_4 : ¬ r_1 = 0) : ((0 : Int32) = 1 ∧ (¬ 100 ≤ book_acts ∧ 1 ≤ act ∧ act ≤ book_acts ∧ (target act.toNatClampNeg) = 0 ∧ (voided act.toNatClampNeg) = 0)) ∨ ((0 : Int32) = 0 ∧ ¬ (¬ 100 ≤ book_acts ∧ 1 ≤ act ∧ act ≤ book_acts ∧ (target act.toNatClampNeg) = 0 ∧ (voided act.toNatClampNeg) = 0)) := by
  first | grind | (simp only [sp_in, sp_pl, sp_far, sp_two] at *; grind)
theorem lf_sX1_canVoid_2 (book_acts : Int32) (voided : Nat → Int32) (target : Nat → Int32) (act : Int32) (r_1 : Int32) (f_book_acts : sp_in book_acts 0 100) (w_2 : r_1 = 0 ∨ r_1 = 1) (w_3 : (r_1 = 1 ∧ 100 ≤ book_acts) ∨ (r_1 = 0 ∧ ¬ 100 ≤ book_acts)) (c_4 : r_1 = 0) (c_5 : act < 1) : ((0 : Int32) = 1 ∧ (¬ 100 ≤ book_acts ∧ 1 ≤ act ∧ act ≤ book_acts ∧ (target act.toNatClampNeg) = 0 ∧ (voided act.toNatClampNeg) = 0)) ∨ ((0 : Int32) = 0 ∧ ¬ (¬ 100 ≤ book_acts ∧ 1 ≤ act ∧ act ≤ book_acts ∧ (target act.toNatClampNeg) = 0 ∧ (voided act.toNatClampNeg) = 0)) := by
  first | grind | (simp only [sp_in, sp_pl, sp_far, sp_two] at *; grind)
theorem lf_sX1_canVoid_3 (book_acts : Int32) (voided : Nat → Int32) (target : Nat → Int32) (act : Int32) (r_1 : Int32) (f_book_acts : sp_in book_acts 0 100) (w_2 : r_1 = 0 ∨ r_1 = 1) (w_3 : (r_1 = 1 ∧ 100 ≤ book_acts) ∨ (r_1 = 0 ∧ ¬ 100 ≤ book_acts)) (c_4 : r_1 = 0) (c_5 : ¬ act < 1) (c_6 : book_acts < act) : ((0 : Int32) = 1 ∧ (¬ 100 ≤ book_acts ∧ 1 ≤ act ∧ act ≤ book_acts ∧ (target act.toNatClampNeg) = 0 ∧ (voided act.toNatClampNeg) = 0)) ∨ ((0 : Int32) = 0 ∧ ¬ (¬ 100 ≤ book_acts ∧ 1 ≤ act ∧ act ≤ book_acts ∧ (target act.toNatClampNeg) = 0 ∧ (voided act.toNatClampNeg) = 0)) := by
  first | grind | (simp only [sp_in, sp_pl, sp_far, sp_two] at *; grind)
theorem lf_sX1_canVoid_4 (book_acts : Int32) (act : Int32) (r_1 : Int32) (f_book_acts : sp_in book_acts 0 100) (w_2 : r_1 = 0 ∨ r_1 = 1) (w_3 : (r_1 = 1 ∧ 100 ≤ book_acts) ∨ (r_1 = 0 ∧ ¬ 100 ≤ book_acts)) (c_4 : r_1 = 0) (c_5 : ¬ act < 1) (c_6 : ¬ book_acts < act) : sp_in act 0 100 := by
  first | grind | (simp only [sp_in, sp_pl, sp_far, sp_two] at *; grind)
theorem lf_sX1_canVoid_5 (book_acts : Int32) (voided : Nat → Int32) (target : Nat → Int32) (act : Int32) (r_1 : Int32) (f_book_acts : sp_in book_acts 0 100) (w_2 : r_1 = 0 ∨ r_1 = 1) (w_3 : (r_1 = 1 ∧ 100 ≤ book_acts) ∨ (r_1 = 0 ∧ ¬ 100 ≤ book_acts)) (c_4 : r_1 = 0) (c_5 : ¬ act < 1) (c_6 : ¬ book_acts < act) (c_7 : ¬ (target act.toNatClampNeg) = 0) : ((0 : Int32) = 1 ∧ (¬ 100 ≤ book_acts ∧ 1 ≤ act ∧ act ≤ book_acts ∧ (target act.toNatClampNeg) = 0 ∧ (voided act.toNatClampNeg) = 0)) ∨ ((0 : Int32) = 0 ∧ ¬ (¬ 100 ≤ book_acts ∧ 1 ≤ act ∧ act ≤ book_acts ∧ (target act.toNatClampNeg) = 0 ∧ (voided act.toNatClampNeg) = 0)) := by
  first | grind | (simp only [sp_in, sp_pl, sp_far, sp_two] at *; grind)
theorem lf_sX1_canVoid_6 (book_acts : Int32) (target : Nat → Int32) (act : Int32) (r_1 : Int32) (f_book_acts : sp_in book_acts 0 100) (w_2 : r_1 = 0 ∨ r_1 = 1) (w_3 : (r_1 = 1 ∧ 100 ≤ book_acts) ∨ (r_1 = 0 ∧ ¬ 100 ≤ book_acts)) (c_4 : r_1 = 0) (c_5 : ¬ act < 1) (c_6 : ¬ book_acts < act) (c_7 : (target act.toNatClampNeg) = 0) : sp_in act 0 100 := by
  first | grind | (simp only [sp_in, sp_pl, sp_far, sp_two] at *; grind)
theorem lf_sX1_canVoid_7 (book_acts : Int32) (voided : Nat → Int32) (target : Nat → Int32) (act : Int32) (r_1 : Int32) (f_book_acts : sp_in book_acts 0 100) (w_2 : r_1 = 0 ∨ r_1 = 1) (w_3 : (r_1 = 1 ∧ 100 ≤ book_acts) ∨ (r_1 = 0 ∧ ¬ 100 ≤ book_acts)) (c_4 : r_1 = 0) (c_5 : ¬ act < 1) (c_6 : ¬ book_acts < act) (c_7 : (target act.toNatClampNeg) = 0) (c_8 : ¬ (voided act.toNatClampNeg) = 0) : ((0 : Int32) = 1 ∧ (¬ 100 ≤ book_acts ∧ 1 ≤ act ∧ act ≤ book_acts ∧ (target act.toNatClampNeg) = 0 ∧ (voided act.toNatClampNeg) = 0)) ∨ ((0 : Int32) = 0 ∧ ¬ (¬ 100 ≤ book_acts ∧ 1 ≤ act ∧ act ≤ book_acts ∧ (target act.toNatClampNeg) = 0 ∧ (voided act.toNatClampNeg) = 0)) := by
  first | grind | (simp only [sp_in, sp_pl, sp_far, sp_two] at *; grind)
theorem lf_sX1_canVoid_8 (book_acts : Int32) (voided : Nat → Int32) (target : Nat → Int32) (act : Int32) (r_1 : Int32) (f_book_acts : sp_in book_acts 0 100) (w_2 : r_1 = 0 ∨ r_1 = 1) (w_3 : (r_1 = 1 ∧ 100 ≤ book_acts) ∨ (r_1 = 0 ∧ ¬ 100 ≤ book_acts)) (c_4 : r_1 = 0) (c_5 : ¬ act < 1) (c_6 : ¬ book_acts < act) (c_7 : (target act.toNatClampNeg) = 0) (c_8 : (voided act.toNatClampNeg) = 0) : ((1 : Int32) = 1 ∧ (¬ 100 ≤ book_acts ∧ 1 ≤ act ∧ act ≤ book_acts ∧ (target act.toNatClampNeg) = 0 ∧ (voided act.toNatClampNeg) = 0)) ∨ ((1 : Int32) = 0 ∧ ¬ (¬ 100 ≤ book_acts ∧ 1 ≤ act ∧ act ≤ book_acts ∧ (target act.toNatClampNeg) = 0 ∧ (voided act.toNatClampNeg) = 0)) := by
  first | grind | (simp only [sp_in, sp_pl, sp_far, sp_two] at *; grind)
def v_sX1_canVoid : List Cond := .code yX1_canVoid cX1_canVoid 2 (some .boolean) :: (([.code yX1_isFull cX1_isFull 1 (some .boolean), .fieldLink RX1 37 "GhostPane$Book" "acts" "I", .methodLink RX1 41 yX1_isFull, .instanceMethod yX1_isFull, .selects RX1 yX1_isFull yX1_isFull, .initialized RX1, .fieldLink RX1 28 "GhostPane$Book" "target" "[I", .fieldLink RX1 25 "GhostPane$Book" "voided" "[Z"] : List Cond) ++ wsX10)
set_option maxRecDepth 20000 in
theorem gg_sX1_canVoid_sX1_isFull : GoodIn v_sX1_canVoid v_sX1_isFull := goodIn_ca (goodIn_r (.code yX1_isFull cX1_isFull 1 (some .boolean) :: [.fieldLink RX1 37 "GhostPane$Book" "acts" "I"]) [1, 2] (by first | rfl | decide +kernel) (by decide +kernel)) (goodIn_sub (fun _ h => List.mem_cons_of_mem _ (List.mem_append_right _ h)) gwX1)
set_option maxRecDepth 20000 in
theorem g_sX1_canVoid_sX1_isFull_0 : GoodIn v_sX1_canVoid (wsV RX1 41 RX1 yX1_isFull v_sX1_isFull) := goodIn_app (goodIn_r [.methodLink RX1 41 yX1_isFull, .instanceMethod yX1_isFull, .selects RX1 yX1_isFull yX1_isFull, .initialized RX1] [3, 4, 5, 6] rfl (by decide +kernel)) gg_sX1_canVoid_sX1_isFull
set_option maxHeartbeats 4000000 in
set_option maxRecDepth 100000 in
theorem sX1_canVoid (l : Launch) (D : va_G) (cy : Nat → ClassId) (sz : Nat) (xa : Nat → Nat) (book_acts : Int32) (voided : Nat → Int32) (target : Nat → Int32) (act : Int32) (f_book_acts : sp_in book_acts 0 100) : Met l yX1_canVoid v_sX1_canVoid ({ frames := 1, cells := 0, slots := 0, locals := 20 } : Room) (va_Pc [.ref (xa 29), .int act] (gp_B D cy sz [(o_book xa book_acts), (aI (xa 34) (cy 3) 101 voided), (aI (xa 35) (cy 1) 101 target)])) (va_Qi (fun (r : Int32) (u : Unit) => (r = 0 ∨ r = 1) ∧ ((r = 1 ∧ (¬ 100 ≤ book_acts ∧ 1 ≤ act ∧ act ≤ book_acts ∧ (target act.toNatClampNeg) = 0 ∧ (voided act.toNatClampNeg) = 0)) ∨ (r = 0 ∧ ¬ (¬ 100 ≤ book_acts ∧ 1 ≤ act ∧ act ≤ book_acts ∧ (target act.toNatClampNeg) = 0 ∧ (voided act.toNatClampNeg) = 0)))) (fun u => gp_E D (va_A [(o_book xa book_acts), (aI (xa 34) (cy 3) 101 voided), (aI (xa 35) (cy 1) 101 target)] sz) [(o_book xa book_acts), (aI (xa 34) (cy 3) 101 voided), (aI (xa 35) (cy 1) 101 target)]) (va_A [(o_book xa book_acts), (aI (xa 34) (cy 3) 101 voided), (aI (xa 35) (cy 1) 101 target)] sz)) 0 0 (va_A [(o_book xa book_acts), (aI (xa 34) (cy 3) 101 voided), (aI (xa 35) (cy 1) 101 target)] sz) := by
  refine gp_met (Qc := fun A => va_Qi (fun (r : Int32) (u : Unit) => (r = 0 ∨ r = 1) ∧ ((r = 1 ∧ (¬ 100 ≤ book_acts ∧ 1 ≤ act ∧ act ≤ book_acts ∧ (target act.toNatClampNeg) = 0 ∧ (voided act.toNatClampNeg) = 0)) ∨ (r = 0 ∧ ¬ (¬ 100 ≤ book_acts ∧ 1 ≤ act ∧ act ≤ book_acts ∧ (target act.toNatClampNeg) = 0 ∧ (voided act.toNatClampNeg) = 0)))) (fun u => gp_E D A [(o_book xa book_acts), (aI (xa 34) (cy 3) 101 voided), (aI (xa 35) (cy 1) 101 target)]) A) (cc := cX1_canVoid) (maxL := 2) (ret := (some .boolean)) (by decide) rfl (Nat.le_of_ble_eq_true rfl) ?_
  intro p e s m below meth c A ls H hx hb hml hr hlocks hts hown hin hK hN hS hP hD hA hl
  have hown : s.vm.findClass RX1 = some m.cls := hown
  have hl : lv_has ls 2 [(0, .ref (xa 29)), (1, .int act)] := hl
  have hiX1 : ∀ w ∈ u_ws RX1 TX1 9, w ∈ v_sX1_canVoid := fun _ h => List.mem_cons_of_mem _ (List.mem_append_right _ h)
  refine lv_aload_n hx hb dX1_canVoid_0 rfl (lv_at hl 0 rfl) ?_
  have hPc := hP.sub (ws' := [(o_book xa book_acts)]) [0] rfl
  have hDc := hD.sub (ws' := [(o_book xa book_acts)]) [0] (by decide) rfl
  have hFc := va_free (wc := [(o_book xa book_acts)]) hD hS hA [0] rfl
  refine va_calli (va_runV (As := []) (rest := []) ⟨hx, hb, hml, hown, hts⟩ (sX1_isFull l D cy H.size xa book_acts f_book_acts) (cwV 0 hts g_sX1_canVoid_sX1_isFull_0 rfl rfl rfl (by decide +kernel) ⟨Nat.le_of_ble_eq_true rfl, Nat.le_of_ble_eq_true rfl⟩) (gp_preV (RX1, TX1, 9) 1 0 hPc hDc hK hN rfl rfl) rfl rfl hl.1 rfl (lv_room (Nat.le_of_ble_eq_true rfl)) dX1_canVoid_1 ⟨Nat.le_of_ble_eq_true rfl, Nat.le_of_ble_eq_true rfl⟩) hS (fun q _ h => hFc q h) hFc (fun r_1 u t H locs ht hvm hw hB hz1 hk1 hS => ?_)
  have hP := gp_joinU (wc := [(o_book xa book_acts)]) hP hD [0] rfl hk1 ht hB
  obtain ⟨w_2, w_3⟩ := hw
  refine lv_if_ne (tgt := 42) hx hb dX1_canVoid_4 (by decide) (fun c_4 => ?_) (fun c_4 => ?_)
  · refine lv_iconst (v := 0) hx hb dX1_canVoid_42 (by decide) ?_
    exact W.zret (v := 0) hx hb hr narrow_b0 (fun t ht hW => ⟨⟨0, (), rfl, ⟨(show (0 : Int32) = 0 ∨ (0 : Int32) = 1 by decide), (lf_sX1_canVoid_1 book_acts voided target act r_1 f_book_acts w_2 w_3 c_4)⟩, gp_end ht hP hD⟩, hS.F ht⟩) hS.2.2 dX1_canVoid_43
  · refine lv_iload_n hx hb dX1_canVoid_7 rfl (lv_at hl 1 rfl) ?_
    refine lv_iconst (v := 1) hx hb dX1_canVoid_8 (by decide) ?_
    refine lv_icmp_lt (tgt := 42) hx hb dX1_canVoid_9 (by decide) (fun c_5 => ?_) (fun c_5 => ?_)
    · refine lv_iconst (v := 0) hx hb dX1_canVoid_42 (by decide) ?_
      exact W.zret (v := 0) hx hb hr narrow_b0 (fun t ht hW => ⟨⟨0, (), rfl, ⟨(show (0 : Int32) = 0 ∨ (0 : Int32) = 1 by decide), (lf_sX1_canVoid_2 book_acts voided target act r_1 f_book_acts w_2 w_3 c_4 c_5)⟩, gp_end ht hP hD⟩, hS.F ht⟩) hS.2.2 dX1_canVoid_43
    · refine lv_iload_n hx hb dX1_canVoid_12 rfl (lv_at hl 1 rfl) ?_
      refine lv_aload_n hx hb dX1_canVoid_13 rfl (lv_at hl 0 rfl) ?_
      refine va_get (D := D) (ci := 1) (v := .int book_acts) (C := RX1) (T := TX1) (N := 9) hx hb hts hiX1 hown hK hP 0 rfl rfl 0 (by decide) (hts (.fieldLink RX1 37 "GhostPane$Book" "acts" "I") (List.mem_of_getElem? (i := 2) rfl)) (fun _ h9 => h9) rfl dX1_canVoid_14 ?_
      refine lv_icmp_gt (tgt := 42) hx hb dX1_canVoid_17 (by decide) (fun c_6 => ?_) (fun c_6 => ?_)
      · refine lv_iconst (v := 0) hx hb dX1_canVoid_42 (by decide) ?_
        exact W.zret (v := 0) hx hb hr narrow_b0 (fun t ht hW => ⟨⟨0, (), rfl, ⟨(show (0 : Int32) = 0 ∨ (0 : Int32) = 1 by decide), (lf_sX1_canVoid_3 book_acts voided target act r_1 f_book_acts w_2 w_3 c_4 c_5 c_6)⟩, gp_end ht hP hD⟩, hS.F ht⟩) hS.2.2 dX1_canVoid_43
      · refine lv_aload_n hx hb dX1_canVoid_20 rfl (lv_at hl 0 rfl) ?_
        refine va_get (D := D) (ci := 1) (v := .ref (xa 35)) (C := RX1) (T := TX1) (N := 9) hx hb hts hiX1 hown hK hP 0 rfl rfl 6 (by decide) (hts (.fieldLink RX1 28 "GhostPane$Book" "target" "[I") (List.mem_of_getElem? (i := 7) rfl)) (fun _ h9 => h9) rfl dX1_canVoid_21 ?_
        refine lv_iload_n hx hb dX1_canVoid_24 rfl (lv_at hl 1 rfl) ?_
        refine va_iald hx hb hK hP 2 1 rfl rfl (gp_in (hi := 100) (lf_sX1_canVoid_4 book_acts act r_1 f_book_acts w_2 w_3 c_4 c_5 c_6) (by decide)) dX1_canVoid_25 ?_
        refine lv_if_ne (tgt := 42) hx hb dX1_canVoid_26 (by decide) (fun c_7 => ?_) (fun c_7 => ?_)
        · refine lv_iconst (v := 0) hx hb dX1_canVoid_42 (by decide) ?_
          exact W.zret (v := 0) hx hb hr narrow_b0 (fun t ht hW => ⟨⟨0, (), rfl, ⟨(show (0 : Int32) = 0 ∨ (0 : Int32) = 1 by decide), (lf_sX1_canVoid_5 book_acts voided target act r_1 f_book_acts w_2 w_3 c_4 c_5 c_6 c_7)⟩, gp_end ht hP hD⟩, hS.F ht⟩) hS.2.2 dX1_canVoid_43
        · refine lv_aload_n hx hb dX1_canVoid_29 rfl (lv_at hl 0 rfl) ?_
          refine va_get (D := D) (ci := 1) (v := .ref (xa 34)) (C := RX1) (T := TX1) (N := 9) hx hb hts hiX1 hown hK hP 0 rfl rfl 5 (by decide) (hts (.fieldLink RX1 25 "GhostPane$Book" "voided" "[Z") (List.mem_of_getElem? (i := 8) rfl)) (fun _ h9 => h9) rfl dX1_canVoid_30 ?_
          refine lv_iload_n hx hb dX1_canVoid_33 rfl (lv_at hl 1 rfl) ?_
          refine va_zald hx hb hK hP 1 3 rfl rfl (gp_in (hi := 100) (lf_sX1_canVoid_6 book_acts target act r_1 f_book_acts w_2 w_3 c_4 c_5 c_6 c_7) (by decide)) dX1_canVoid_34 ?_
          refine lv_if_ne (tgt := 42) hx hb dX1_canVoid_35 (by decide) (fun c_8 => ?_) (fun c_8 => ?_)
          · refine lv_iconst (v := 0) hx hb dX1_canVoid_42 (by decide) ?_
            exact W.zret (v := 0) hx hb hr narrow_b0 (fun t ht hW => ⟨⟨0, (), rfl, ⟨(show (0 : Int32) = 0 ∨ (0 : Int32) = 1 by decide), (lf_sX1_canVoid_7 book_acts voided target act r_1 f_book_acts w_2 w_3 c_4 c_5 c_6 c_7 c_8)⟩, gp_end ht hP hD⟩, hS.F ht⟩) hS.2.2 dX1_canVoid_43
          · refine lv_iconst (v := 1) hx hb dX1_canVoid_38 (by decide) ?_
            refine lv_goto (tgt := 43) hx hb dX1_canVoid_39 (by decide) ?_
            exact W.zret (v := 1) hx hb hr narrow_b1 (fun t ht hW => ⟨⟨1, (), rfl, ⟨(show (1 : Int32) = 0 ∨ (1 : Int32) = 1 by decide), (lf_sX1_canVoid_8 book_acts voided target act r_1 f_book_acts w_2 w_3 c_4 c_5 c_6 c_7 c_8)⟩, gp_end ht hP hD⟩, hS.F ht⟩) hS.2.2 dX1_canVoid_43

theorem lf_sX1_addVoid_1 (book_acts : Int32) (voided : Nat → Int32) (target : Nat → Int32) (act : Int32) (r_1 : Int32) (f_book_acts : sp_in book_acts 0 100) (w_2 : r_1 = 0 ∨ r_1 = 1) (w_3 : (r_1 = 1 ∧ (¬ 100 ≤ book_acts ∧ 1 ≤ act ∧ act ≤ book_acts ∧ (target act.toNatClampNeg) = 0 ∧ (voided act.toNatClampNeg) = 0)) ∨ (r_1 = 0 ∧ ¬ (¬ 100 ≤ book_acts ∧ 1 ≤ act ∧ act ≤ book_acts ∧ (target act.toNatClampNeg) = 0 ∧ (voided act.toNatClampNeg) = 0))) (c_4 : ¬ r_1 = 0) : sp_in (book_acts + 1) 0 100 := by
  first | grind | (simp only [sp_in, sp_pl, sp_far, sp_two] at *; grind)
theorem lf_sX1_addVoid_2 (book_acts : Int32) (voided : Nat → Int32) (target : Nat → Int32) (act : Int32) (r_1 : Int32) (target_5 : Nat → Int32) (f_book_acts : sp_in book_acts 0 100) (w_2 : r_1 = 0 ∨ r_1 = 1) (w_3 : (r_1 = 1 ∧ (¬ 100 ≤ book_acts ∧ 1 ≤ act ∧ act ≤ book_acts ∧ (target act.toNatClampNeg) = 0 ∧ (voided act.toNatClampNeg) = 0)) ∨ (r_1 = 0 ∧ ¬ (¬ 100 ≤ book_acts ∧ 1 ≤ act ∧ act ≤ book_acts ∧ (target act.toNatClampNeg) = 0 ∧ (voided act.toNatClampNeg) = 0))) (c_4 : ¬ r_1 = 0) (u_6 : target_5 = upd target (book_acts + 1).toNatClampNeg act) : sp_in act 0 100 := by
  first | grind | (simp only [sp_in, sp_pl, sp_far, sp_two] at *; grind)
theorem lf_sX1_addVoid_3 (book_acts : Int32) (voided : Nat → Int32) (target : Nat → Int32) (act : Int32) (r_1 : Int32) (target_5 : Nat → Int32) (voided_7 : Nat → Int32) (f_book_acts : sp_in book_acts 0 100) (w_2 : r_1 = 0 ∨ r_1 = 1) (w_3 : (r_1 = 1 ∧ (¬ 100 ≤ book_acts ∧ 1 ≤ act ∧ act ≤ book_acts ∧ (target act.toNatClampNeg) = 0 ∧ (voided act.toNatClampNeg) = 0)) ∨ (r_1 = 0 ∧ ¬ (¬ 100 ≤ book_acts ∧ 1 ≤ act ∧ act ≤ book_acts ∧ (target act.toNatClampNeg) = 0 ∧ (voided act.toNatClampNeg) = 0))) (c_4 : ¬ r_1 = 0) (u_6 : target_5 = upd target (book_acts + 1).toNatClampNeg act) (u_8 : voided_7 = upd voided act.toNatClampNeg 1) : sp_in (book_acts + 1) 0 100 := by
  first | grind | (simp only [sp_in, sp_pl, sp_far, sp_two] at *; grind)
theorem lf_sX1_addVoid_4 (book_acts : Int32) (voided : Nat → Int32) (target : Nat → Int32) (act : Int32) (r_1 : Int32) (target_5 : Nat → Int32) (voided_7 : Nat → Int32) (f_book_acts : sp_in book_acts 0 100) (w_2 : r_1 = 0 ∨ r_1 = 1) (w_3 : (r_1 = 1 ∧ (¬ 100 ≤ book_acts ∧ 1 ≤ act ∧ act ≤ book_acts ∧ (target act.toNatClampNeg) = 0 ∧ (voided act.toNatClampNeg) = 0)) ∨ (r_1 = 0 ∧ ¬ (¬ 100 ≤ book_acts ∧ 1 ≤ act ∧ act ≤ book_acts ∧ (target act.toNatClampNeg) = 0 ∧ (voided act.toNatClampNeg) = 0))) (c_4 : ¬ r_1 = 0) (u_6 : target_5 = upd target (book_acts + 1).toNatClampNeg act) (u_8 : voided_7 = upd voided act.toNatClampNeg 1) : ((¬ 100 ≤ book_acts ∧ 1 ≤ act ∧ act ≤ book_acts ∧ (target act.toNatClampNeg) = 0 ∧ (voided act.toNatClampNeg) = 0) ∧ (book_acts + 1) = book_acts + 1 ∧ (book_acts + 1) = book_acts + 1 ∧ target_5 = upd target (book_acts + 1).toNatClampNeg act ∧ voided_7 = upd voided act.toNatClampNeg 1) ∨ (¬ (¬ 100 ≤ book_acts ∧ 1 ≤ act ∧ act ≤ book_acts ∧ (target act.toNatClampNeg) = 0 ∧ (voided act.toNatClampNeg) = 0) ∧ (book_acts + 1) = (-1) ∧ (book_acts + 1) = book_acts ∧ target_5 = target ∧ voided_7 = voided) := by
  first | grind | (simp only [sp_in, sp_pl, sp_far, sp_two] at *; grind)
theorem lf_sX1_addVoid_5 (book_acts : Int32) (voided : Nat → Int32) (target : Nat → Int32) (act : Int32) (r_1 : Int32) (f_book_acts : sp_in book_acts 0 100) (w_2 : r_1 = 0 ∨ r_1 = 1) (w_3 : (r_1 = 1 ∧ (¬ 100 ≤ book_acts ∧ 1 ≤ act ∧ act ≤ book_acts ∧ (target act.toNatClampNeg) = 0 ∧ (voided act.toNatClampNeg) = 0)) ∨ (r_1 = 0 ∧ ¬ (¬ 100 ≤ book_acts ∧ 1 ≤ act ∧ act ≤ book_acts ∧ (target act.toNatClampNeg) = 0 ∧ (voided act.toNatClampNeg) = 0))) (c_4 : r_1 = 0) : ((¬ 100 ≤ book_acts ∧ 1 ≤ act ∧ act ≤ book_acts ∧ (target act.toNatClampNeg) = 0 ∧ (voided act.toNatClampNeg) = 0) ∧ ((-1) : Int32) = book_acts + 1 ∧ book_acts = book_acts + 1 ∧ target = upd target (book_acts + 1).toNatClampNeg act ∧ voided = upd voided act.toNatClampNeg 1) ∨ (¬ (¬ 100 ≤ book_acts ∧ 1 ≤ act ∧ act ≤ book_acts ∧ (target act.toNatClampNeg) = 0 ∧ (voided act.toNatClampNeg) = 0) ∧ ((-1) : Int32) = (-1) ∧ book_acts = book_acts ∧ target = target ∧ voided = voided) := by
  first | grind | (simp only [sp_in, sp_pl, sp_far, sp_two] at *; grind)
def v_sX1_addVoid : List Cond := .code yX1_addVoid cX1_addVoid 2 (some .int) :: (([.code yX1_canVoid cX1_canVoid 2 (some .boolean), .code yX1_isFull cX1_isFull 1 (some .boolean), .fieldLink RX1 37 "GhostPane$Book" "acts" "I", .methodLink RX1 41 yX1_isFull, .instanceMethod yX1_isFull, .selects RX1 yX1_isFull yX1_isFull, .initialized RX1, .fieldLink RX1 28 "GhostPane$Book" "target" "[I", .fieldLink RX1 25 "GhostPane$Book" "voided" "[Z", .methodLink RX1 45 yX1_canVoid, .instanceMethod yX1_canVoid, .selects RX1 yX1_canVoid yX1_canVoid] : List Cond) ++ wsX10)
set_option maxRecDepth 20000 in
theorem gg_sX1_addVoid_sX1_canVoid : GoodIn v_sX1_addVoid v_sX1_canVoid := goodIn_ca (goodIn_r (.code yX1_canVoid cX1_canVoid 2 (some .boolean) :: [.code yX1_isFull cX1_isFull 1 (some .boolean), .fieldLink RX1 37 "GhostPane$Book" "acts" "I", .methodLink RX1 41 yX1_isFull, .instanceMethod yX1_isFull, .selects RX1 yX1_isFull yX1_isFull, .initialized RX1, .fieldLink RX1 28 "GhostPane$Book" "target" "[I", .fieldLink RX1 25 "GhostPane$Book" "voided" "[Z"]) [1, 2, 3, 4, 5, 6, 7, 8, 9] (by first | rfl | decide +kernel) (by decide +kernel)) (goodIn_sub (fun _ h => List.mem_cons_of_mem _ (List.mem_append_right _ h)) gwX1)
set_option maxRecDepth 20000 in
theorem g_sX1_addVoid_sX1_canVoid_0 : GoodIn v_sX1_addVoid (wsV RX1 45 RX1 yX1_canVoid v_sX1_canVoid) := goodIn_app (goodIn_r [.methodLink RX1 45 yX1_canVoid, .instanceMethod yX1_canVoid, .selects RX1 yX1_canVoid yX1_canVoid, .initialized RX1] [10, 11, 12, 7] rfl (by decide +kernel)) gg_sX1_addVoid_sX1_canVoid
set_option maxHeartbeats 4000000 in
set_option maxRecDepth 100000 in
theorem sX1_addVoid (l : Launch) (D : va_G) (cy : Nat → ClassId) (sz : Nat) (xa : Nat → Nat) (book_acts : Int32) (voided : Nat → Int32) (target : Nat → Int32) (act : Int32) (f_book_acts : sp_in book_acts 0 100) : Met l yX1_addVoid v_sX1_addVoid ({ frames := 2, cells := 0, slots := 0, locals := 41 } : Room) (va_Pc [.ref (xa 29), .int act] (gp_B D cy sz [(o_book xa book_acts), (aI (xa 34) (cy 3) 101 voided), (aI (xa 35) (cy 1) 101 target)])) (va_Qi (fun (r : Int32) (u : (Int32) × (Nat → Int32) × (Nat → Int32)) => (sp_in u.1 0 100) ∧ (((¬ 100 ≤ book_acts ∧ 1 ≤ act ∧ act ≤ book_acts ∧ (target act.toNatClampNeg) = 0 ∧ (voided act.toNatClampNeg) = 0) ∧ r = book_acts + 1 ∧ u.1 = book_acts + 1 ∧ u.2.2 = upd target (book_acts + 1).toNatClampNeg act ∧ u.2.1 = upd voided act.toNatClampNeg 1) ∨ (¬ (¬ 100 ≤ book_acts ∧ 1 ≤ act ∧ act ≤ book_acts ∧ (target act.toNatClampNeg) = 0 ∧ (voided act.toNatClampNeg) = 0) ∧ r = (-1) ∧ u.1 = book_acts ∧ u.2.2 = target ∧ u.2.1 = voided))) (fun u => gp_E D (va_A [(o_book xa book_acts), (aI (xa 34) (cy 3) 101 voided), (aI (xa 35) (cy 1) 101 target)] sz) [(o_book xa u.1), (aI (xa 34) (cy 3) 101 u.2.1), (aI (xa 35) (cy 1) 101 u.2.2)]) (va_A [(o_book xa book_acts), (aI (xa 34) (cy 3) 101 voided), (aI (xa 35) (cy 1) 101 target)] sz)) 0 0 (va_A [(o_book xa book_acts), (aI (xa 34) (cy 3) 101 voided), (aI (xa 35) (cy 1) 101 target)] sz) := by
  refine gp_met (Qc := fun A => va_Qi (fun (r : Int32) (u : (Int32) × (Nat → Int32) × (Nat → Int32)) => (sp_in u.1 0 100) ∧ (((¬ 100 ≤ book_acts ∧ 1 ≤ act ∧ act ≤ book_acts ∧ (target act.toNatClampNeg) = 0 ∧ (voided act.toNatClampNeg) = 0) ∧ r = book_acts + 1 ∧ u.1 = book_acts + 1 ∧ u.2.2 = upd target (book_acts + 1).toNatClampNeg act ∧ u.2.1 = upd voided act.toNatClampNeg 1) ∨ (¬ (¬ 100 ≤ book_acts ∧ 1 ≤ act ∧ act ≤ book_acts ∧ (target act.toNatClampNeg) = 0 ∧ (voided act.toNatClampNeg) = 0) ∧ r = (-1) ∧ u.1 = book_acts ∧ u.2.2 = target ∧ u.2.1 = voided))) (fun u => gp_E D A [(o_book xa u.1), (aI (xa 34) (cy 3) 101 u.2.1), (aI (xa 35) (cy 1) 101 u.2.2)]) A) (cc := cX1_addVoid) (maxL := 2) (ret := (some .int)) (by decide) rfl (Nat.le_of_ble_eq_true rfl) ?_
  intro p e s m below meth c A ls H hx hb hml hr hlocks hts hown hin hK hN hS hP hD hA hl
  have hown : s.vm.findClass RX1 = some m.cls := hown
  have hl : lv_has ls 2 [(0, .ref (xa 29)), (1, .int act)] := hl
  have hiX1 : ∀ w ∈ u_ws RX1 TX1 9, w ∈ v_sX1_addVoid := fun _ h => List.mem_cons_of_mem _ (List.mem_append_right _ h)
  refine lv_aload_n hx hb dX1_addVoid_0 rfl (lv_at hl 0 rfl) ?_
  refine lv_iload_n hx hb dX1_addVoid_1 rfl (lv_at hl 1 rfl) ?_
  have hPc := hP.sub (ws' := [(o_book xa book_acts), (aI (xa 34) (cy 3) 101 voided), (aI (xa 35) (cy 1) 101 target)]) [0, 1, 2] rfl
  have hDc := hD.sub (ws' := [(o_book xa book_acts), (aI (xa 34) (cy 3) 101 voided), (aI (xa 35) (cy 1) 101 target)]) [0, 1, 2] (by decide) rfl
  have hFc := va_free (wc := [(o_book xa book_acts), (aI (xa 34) (cy 3) 101 voided), (aI (xa 35) (cy 1) 101 target)]) hD hS hA [0, 1, 2] rfl
  refine va_calli (va_runV (As := [.int act]) (rest := []) ⟨hx, hb, hml, hown, hts⟩ (sX1_canVoid l D cy H.size xa book_acts voided target act f_book_acts) (cwV 1 hts g_sX1_addVoid_sX1_canVoid_0 rfl rfl rfl (by decide +kernel) ⟨Nat.le_of_ble_eq_true rfl, Nat.le_of_ble_eq_true rfl⟩) (gp_preV (RX1, TX1, 9) 1 0 hPc hDc hK hN rfl rfl) rfl rfl hl.1 rfl (lv_room (Nat.le_of_ble_eq_true rfl)) dX1_addVoid_2 ⟨Nat.le_of_ble_eq_true rfl, Nat.le_of_ble_eq_true rfl⟩) hS (fun q _ h => hFc q h) hFc (fun r_1 u t H locs ht hvm hw hB hz1 hk1 hS => ?_)
  have hP := gp_joinU (wc := [(o_book xa book_acts), (aI (xa 34) (cy 3) 101 voided), (aI (xa 35) (cy 1) 101 target)]) hP hD [0, 1, 2] rfl hk1 ht hB
  obtain ⟨w_2, w_3⟩ := hw
  refine lv_if_ne (tgt := 10) hx hb dX1_addVoid_5 (by decide) (fun c_4 => ?_) (fun c_4 => ?_)
  · refine lv_aload_n hx hb dX1_addVoid_10 rfl (lv_at hl 0 rfl) ?_
    refine lv_dup hx hb dX1_addVoid_11 rfl ?_
    refine va_get (D := D) (ci := 1) (v := .int book_acts) (C := RX1) (T := TX1) (N := 9) hx hb hts hiX1 hown hK hP 0 rfl rfl 0 (by decide) (hts (.fieldLink RX1 37 "GhostPane$Book" "acts" "I") (List.mem_of_getElem? (i := 3) rfl)) (fun _ h9 => h9) rfl dX1_addVoid_12 ?_
    refine lv_iconst (v := 1) hx hb dX1_addVoid_15 (by decide) ?_
    refine lv_iadd hx hb dX1_addVoid_16 ?_
    refine va_put (D := D) (ci := 1) (v := .int (book_acts + 1)) (ty := .int) (C := RX1) (T := TX1) (N := 9) hx hb hts hiX1 tyX1 tyX1_ok nmX1 hown hK hP hD hS 0 rfl rfl 0 (by decide) (hts (.fieldLink RX1 37 "GhostPane$Book" "acts" "I") (List.mem_of_getElem? (i := 3) rfl)) (fun _ h9 => h9) rfl (by decide +kernel) rfl rfl (Nat.le_of_ble_eq_true rfl) dX1_addVoid_17 (fun H locs hP hD hS => ?_)
    have hP : va_P D vwCl [(o_book xa (book_acts + 1)), (aI (xa 34) (cy 3) 101 voided), (aI (xa 35) (cy 1) 101 target)] H := hP
    have hD := gp_sD hP hD
    refine lv_aload_n hx hb dX1_addVoid_20 rfl (lv_at hl 0 rfl) ?_
    refine va_get (D := D) (ci := 1) (v := .ref (xa 35)) (C := RX1) (T := TX1) (N := 9) hx hb hts hiX1 hown hK hP 0 rfl rfl 6 (by decide) (hts (.fieldLink RX1 28 "GhostPane$Book" "target" "[I") (List.mem_of_getElem? (i := 8) rfl)) (fun _ h9 => h9) rfl dX1_addVoid_21 ?_
    refine lv_aload_n hx hb dX1_addVoid_24 rfl (lv_at hl 0 rfl) ?_
    refine va_get (D := D) (ci := 1) (v := .int (book_acts + 1)) (C := RX1) (T := TX1) (N := 9) hx hb hts hiX1 hown hK hP 0 rfl rfl 0 (by decide) (hts (.fieldLink RX1 37 "GhostPane$Book" "acts" "I") (List.mem_of_getElem? (i := 3) rfl)) (fun _ h9 => h9) rfl dX1_addVoid_25 ?_
    refine lv_iload_n hx hb dX1_addVoid_28 rfl (lv_at hl 1 rfl) ?_
    refine va_iast hx hb hK hP hD hS 2 1 rfl rfl (gp_in (hi := 100) (lf_sX1_addVoid_1 book_acts voided target act r_1 f_book_acts w_2 w_3 c_4) (by decide)) dX1_addVoid_29 (fun H locs hP hD hS => ?_)
    obtain ⟨target_5, u_6, hP, hD⟩ : ∃ target_5 : Nat → Int32, target_5 = upd target (book_acts + 1).toNatClampNeg act ∧ va_P D vwCl [(o_book xa (book_acts + 1)), (aI (xa 34) (cy 3) 101 voided), (aI (xa 35) (cy 1) 101 target_5)] H ∧ va_D A [(o_book xa (book_acts + 1)), (aI (xa 34) (cy 3) 101 voided), (aI (xa 35) (cy 1) 101 target_5)] := ⟨_, rfl, hP, hD⟩
    refine lv_aload_n hx hb dX1_addVoid_30 rfl (lv_at hl 0 rfl) ?_
    refine va_get (D := D) (ci := 1) (v := .ref (xa 34)) (C := RX1) (T := TX1) (N := 9) hx hb hts hiX1 hown hK hP 0 rfl rfl 5 (by decide) (hts (.fieldLink RX1 25 "GhostPane$Book" "voided" "[Z") (List.mem_of_getElem? (i := 9) rfl)) (fun _ h9 => h9) rfl dX1_addVoid_31 ?_
    refine lv_iload_n hx hb dX1_addVoid_34 rfl (lv_at hl 1 rfl) ?_
    refine lv_iconst (v := 1) hx hb dX1_addVoid_35 (by decide) ?_
    refine va_zast hx hb hK hP hD hS 1 3 rfl rfl (gp_in (hi := 100) (lf_sX1_addVoid_2 book_acts voided target act r_1 target_5 f_book_acts w_2 w_3 c_4 u_6) (by decide)) dX1_addVoid_36 (fun H locs hP hD hS => ?_)
    obtain ⟨voided_7, u_8, hP, hD⟩ : ∃ voided_7 : Nat → Int32, voided_7 = upd voided act.toNatClampNeg 1 ∧ va_P D vwCl [(o_book xa (book_acts + 1)), (aI (xa 34) (cy 3) 101 voided_7), (aI (xa 35) (cy 1) 101 target_5)] H ∧ va_D A [(o_book xa (book_acts + 1)), (aI (xa 34) (cy 3) 101 voided_7), (aI (xa 35) (cy 1) 101 target_5)] := ⟨_, rfl, hP, hD⟩
    refine lv_aload_n hx hb dX1_addVoid_37 rfl (lv_at hl 0 rfl) ?_
    refine va_get (D := D) (ci := 1) (v := .int (book_acts + 1)) (C := RX1) (T := TX1) (N := 9) hx hb hts hiX1 hown hK hP 0 rfl rfl 0 (by decide) (hts (.fieldLink RX1 37 "GhostPane$Book" "acts" "I") (List.mem_of_getElem? (i := 3) rfl)) (fun _ h9 => h9) rfl dX1_addVoid_38 ?_
    exact W.iret (v := (book_acts + 1)) hx hb hr (fun t ht hW => ⟨⟨(book_acts + 1), ⟨(book_acts + 1), voided_7, target_5⟩, rfl, ⟨(lf_sX1_addVoid_3 book_acts voided target act r_1 target_5 voided_7 f_book_acts w_2 w_3 c_4 u_6 u_8), (lf_sX1_addVoid_4 book_acts voided target act r_1 target_5 voided_7 f_book_acts w_2 w_3 c_4 u_6 u_8)⟩, gp_end ht hP hD⟩, hS.F ht⟩) hS.2.2 dX1_addVoid_41
  · refine lv_iconst (v := (-1)) hx hb dX1_addVoid_8 (by decide) ?_
    exact W.iret (v := (-1)) hx hb hr (fun t ht hW => ⟨⟨(-1), ⟨book_acts, voided, target⟩, rfl, ⟨f_book_acts, (lf_sX1_addVoid_5 book_acts voided target act r_1 f_book_acts w_2 w_3 c_4)⟩, gp_end ht hP hD⟩, hS.F ht⟩) hS.2.2 dX1_addVoid_9

theorem lf_sX1_knownAt_1 (book_acts : Int32) (f_book_acts : sp_in book_acts 0 100) : sp_in ((-1) : Int32) (-1) book_acts := by
  first | grind | (simp only [sp_in, sp_pl, sp_far, sp_two] at *; grind)
theorem lf_sX1_knownAt_2 (book_acts : Int32) (act : Int32) (f_book_acts : sp_in book_acts 0 100) (c_1 : ¬ act = (-1)) (c_2 : ¬ act < 0) (c_3 : book_acts < act) : sp_in ((-1) : Int32) (-1) book_acts := by
  first | grind | (simp only [sp_in, sp_pl, sp_far, sp_two] at *; grind)
theorem lf_sX1_knownAt_3 (book_acts : Int32) (act : Int32) (f_book_acts : sp_in book_acts 0 100) (c_1 : ¬ act = (-1)) (c_2 : ¬ act < 0) (c_3 : ¬ book_acts < act) : sp_in act (-1) book_acts := by
  first | grind | (simp only [sp_in, sp_pl, sp_far, sp_two] at *; grind)
theorem lf_sX1_knownAt_4 (book_acts : Int32) (f_book_acts : sp_in book_acts 0 100) : sp_in book_acts (-1) book_acts := by
  first | grind | (simp only [sp_in, sp_pl, sp_far, sp_two] at *; grind)
def v_sX1_knownAt : List Cond := .code yX1_knownAt cX1_knownAt 2 (some .int) :: (([.fieldLink RX1 37 "GhostPane$Book" "acts" "I"] : List Cond) ++ wsX10)
set_option maxHeartbeats 4000000 in
set_option maxRecDepth 100000 in
theorem sX1_knownAt (l : Launch) (D : va_G) (cy : Nat → ClassId) (sz : Nat) (xa : Nat → Nat) (book_acts : Int32) (act : Int32) (f_book_acts : sp_in book_acts 0 100) : Met l yX1_knownAt v_sX1_knownAt ({ frames := 0, cells := 0, slots := 0, locals := 0 } : Room) (va_Pc [.ref (xa 29), .int act] (gp_B D cy sz [(o_book xa book_acts)])) (va_Qi (fun (r : Int32) (u : Unit) => (sp_in r (-1) book_acts)) (fun u => gp_E D (va_A [(o_book xa book_acts)] sz) [(o_book xa book_acts)]) (va_A [(o_book xa book_acts)] sz)) 0 0 (va_A [(o_book xa book_acts)] sz) := by
  refine gp_met (Qc := fun A => va_Qi (fun (r : Int32) (u : Unit) => (sp_in r (-1) book_acts)) (fun u => gp_E D A [(o_book xa book_acts)]) A) (cc := cX1_knownAt) (maxL := 2) (ret := (some .int)) (by decide) rfl (Nat.le_of_ble_eq_true rfl) ?_
  intro p e s m below meth c A ls H hx hb hml hr hlocks hts hown hin hK hN hS hP hD hA hl
  have hown : s.vm.findClass RX1 = some m.cls := hown
  have hl : lv_has ls 2 [(0, .ref (xa 29)), (1, .int act)] := hl
  have hiX1 : ∀ w ∈ u_ws RX1 TX1 9, w ∈ v_sX1_knownAt := fun _ h => List.mem_cons_of_mem _ (List.mem_append_right _ h)
  refine lv_iload_n hx hb dX1_knownAt_0 rfl (lv_at hl 1 rfl) ?_
  refine lv_iconst (v := (-1)) hx hb dX1_knownAt_1 (by decide) ?_
  refine lv_icmp_ne (tgt := 10) hx hb dX1_knownAt_2 (by decide) (fun c_1 => ?_) (fun c_1 => ?_)
  · refine lv_iload_n hx hb dX1_knownAt_10 rfl (lv_at hl 1 rfl) ?_
    refine lv_if_lt (tgt := 26) hx hb dX1_knownAt_11 (by decide) (fun c_2 => ?_) (fun c_2 => ?_)
    · refine lv_iconst (v := (-1)) hx hb dX1_knownAt_26 (by decide) ?_
      exact W.iret (v := (-1)) hx hb hr (fun t ht hW => ⟨⟨(-1), (), rfl, (lf_sX1_knownAt_1 book_acts f_book_acts), gp_end ht hP hD⟩, hS.F ht⟩) hS.2.2 dX1_knownAt_27
    · refine lv_iload_n hx hb dX1_knownAt_14 rfl (lv_at hl 1 rfl) ?_
      refine lv_aload_n hx hb dX1_knownAt_15 rfl (lv_at hl 0 rfl) ?_
      refine va_get (D := D) (ci := 1) (v := .int book_acts) (C := RX1) (T := TX1) (N := 9) hx hb hts hiX1 hown hK hP 0 rfl rfl 0 (by decide) (hts (.fieldLink RX1 37 "GhostPane$Book" "acts" "I") (List.mem_of_getElem? (i := 1) rfl)) (fun _ h9 => h9) rfl dX1_knownAt_16 ?_
      refine lv_icmp_gt (tgt := 26) hx hb dX1_knownAt_19 (by decide) (fun c_3 => ?_) (fun c_3 => ?_)
      · refine lv_iconst (v := (-1)) hx hb dX1_knownAt_26 (by decide) ?_
        exact W.iret (v := (-1)) hx hb hr (fun t ht hW => ⟨⟨(-1), (), rfl, (lf_sX1_knownAt_2 book_acts act f_book_acts c_1 c_2 c_3), gp_end ht hP hD⟩, hS.F ht⟩) hS.2.2 dX1_knownAt_27
      · refine lv_iload_n hx hb dX1_knownAt_22 rfl (lv_at hl 1 rfl) ?_
        refine lv_goto (tgt := 27) hx hb dX1_knownAt_23 (by decide) ?_
        exact W.iret (v := act) hx hb hr (fun t ht hW => ⟨⟨act, (), rfl, (lf_sX1_knownAt_3 book_acts act f_book_acts c_1 c_2 c_3), gp_end ht hP hD⟩, hS.F ht⟩) hS.2.2 dX1_knownAt_27
  · refine lv_aload_n hx hb dX1_knownAt_5 rfl (lv_at hl 0 rfl) ?_
    refine va_get (D := D) (ci := 1) (v := .int book_acts) (C := RX1) (T := TX1) (N := 9) hx hb hts hiX1 hown hK hP 0 rfl rfl 0 (by decide) (hts (.fieldLink RX1 37 "GhostPane$Book" "acts" "I") (List.mem_of_getElem? (i := 1) rfl)) (fun _ h9 => h9) rfl dX1_knownAt_6 ?_
    exact W.iret (v := book_acts) hx hb hr (fun t ht hW => ⟨⟨book_acts, (), rfl, (lf_sX1_knownAt_4 book_acts f_book_acts), gp_end ht hP hD⟩, hS.F ht⟩) hS.2.2 dX1_knownAt_9

theorem lf_sX1_clearLikely_1 (ii : Int32) (h1 : sp_in ii 0 101) (c_1 : ¬ 100 < ii) : sp_in ii 0 100 := by
  first | grind | (simp only [sp_in, sp_pl, sp_far, sp_two] at *; grind)
theorem lf_sX1_clearLikely_2 (ii : Int32) (h1 : sp_in ii 0 101) (c_1 : ¬ 100 < ii) : sp_in ii 0 100 := by
  first | grind | (simp only [sp_in, sp_pl, sp_far, sp_two] at *; grind)
theorem lf_sX1_clearLikely_3 (ii : Int32) (h1 : sp_in ii 0 101) (c_1 : ¬ 100 < ii) : sp_in (ii + 1) 0 101 := by
  first | grind | (simp only [sp_in, sp_pl, sp_far, sp_two] at *; grind)
theorem lf_sX1_clearLikely_4 (ii : Int32) (h1 : sp_in ii 0 101) (c_1 : ¬ 100 < ii) : ii < 101 := by
  first | grind | (simp only [sp_in, sp_pl, sp_far, sp_two] at *; grind)
def v_sX1_clearLikely : List Cond := .code yX1_clearLikely cX1_clearLikely 2 none :: (([.fieldLink RX1 31 "GhostPane$Book" "least" "[I", .fieldLink RX1 34 "GhostPane$Book" "likeliest" "[I"] : List Cond) ++ wsX10)
set_option maxHeartbeats 4000000 in
set_option maxRecDepth 100000 in
theorem sX1_clearLikely (l : Launch) (D : va_G) (cy : Nat → ClassId) (sz : Nat) (xa : Nat → Nat) (book_acts : Int32) (least : Nat → Int32) (likeliest : Nat → Int32) (f_book_acts : sp_in book_acts 0 100) : Met l yX1_clearLikely v_sX1_clearLikely ({ frames := 0, cells := 0, slots := 0, locals := 0 } : Room) (va_Pc [.ref (xa 29)] (gp_B D cy sz [(o_book xa book_acts), (aI (xa 36) (cy 1) 101 least), (aI (xa 37) (cy 1) 101 likeliest)])) (va_Qv (fun (u : (Nat → Int32) × (Nat → Int32)) => True) (fun u => gp_E D (va_A [(o_book xa book_acts), (aI (xa 36) (cy 1) 101 least), (aI (xa 37) (cy 1) 101 likeliest)] sz) [(o_book xa book_acts), (aI (xa 36) (cy 1) 101 u.1), (aI (xa 37) (cy 1) 101 u.2)]) (va_A [(o_book xa book_acts), (aI (xa 36) (cy 1) 101 least), (aI (xa 37) (cy 1) 101 likeliest)] sz)) 0 0 (va_A [(o_book xa book_acts), (aI (xa 36) (cy 1) 101 least), (aI (xa 37) (cy 1) 101 likeliest)] sz) := by
  refine gp_met (Qc := fun A => va_Qv (fun (u : (Nat → Int32) × (Nat → Int32)) => True) (fun u => gp_E D A [(o_book xa book_acts), (aI (xa 36) (cy 1) 101 u.1), (aI (xa 37) (cy 1) 101 u.2)]) A) (cc := cX1_clearLikely) (maxL := 2) (ret := none) (by decide) rfl (Nat.le_of_ble_eq_true rfl) ?_
  intro p e s m below meth c A ls H hx hb hml hr hlocks hts hown hin hK hN hS hP hD hA hl
  have hown : s.vm.findClass RX1 = some m.cls := hown
  have hl : lv_has ls 2 [(0, .ref (xa 29))] := hl
  have hiX1 : ∀ w ∈ u_ws RX1 TX1 9, w ∈ v_sX1_clearLikely := fun _ h => List.mem_cons_of_mem _ (List.mem_append_right _ h)
  refine lv_iconst (v := 0) hx hb dX1_clearLikely_0 (by decide) ?_
  refine lv_istore_n (lv' := [(1, .int 0), (0, .ref (xa 29))]) hx hb dX1_clearLikely_1 rfl hl (by decide) rfl (fun ls hl => ?_)
  have key2 : ∀ (fu : Nat) (ii : Int32) (f1 : Nat → Int32) (f2 : Nat → Int32) (H : Heap) (locs : List Loc) (ls : Array Slot), (h1 : sp_in ii 0 101) → (101 - ii.toInt).toNat < fu → va_P D vwCl [(o_book xa book_acts), (aI (xa 36) (cy 1) 101 f1), (aI (xa 37) (cy 1) 101 f2)] H → va_D A [(o_book xa book_acts), (aI (xa 36) (cy 1) 101 f1), (aI (xa 37) (cy 1) 101 f2)] → va_S A s.heap H locs → lv_has ls 2 [(1, .int ii), (0, .ref (xa 29))] → W p l e (headSpec v_sX1_clearLikely (({ frames := 0, cells := 0, slots := 0, locals := 0 } : Room))).room s m [.ref (xa 29)].toArray below meth c H locs 0 0 (MQ below (va_Qv (fun (u : (Nat → Int32) × (Nat → Int32)) => True) (fun u => gp_E D A [(o_book xa book_acts), (aI (xa 36) (cy 1) 101 u.1), (aI (xa 37) (cy 1) 101 u.2)]) A) [.ref (xa 29)].toArray s 0 0 A) (F0 m 2 ls []) := by
    intro fu
    induction fu with
    | zero => intro ii f1 f2 H locs ls h1 hfu; exact absurd hfu (Nat.not_lt_zero _)
    | succ fu ih =>
      intro ii f1 f2 H locs ls h1 hfu hP hD hS hl
      refine lv_iload_n hx hb dX1_clearLikely_2 rfl (lv_at hl 0 rfl) ?_
      refine lv_bipush (v := 100) hx hb dX1_clearLikely_3 (by decide) ?_
      refine lv_icmp_gt (tgt := 29) hx hb dX1_clearLikely_5 (by decide) (fun c_1 => ?_) (fun c_1 => ?_)
      · exact W.vret hx hb hr (fun t ht hW => ⟨⟨⟨f1, f2⟩, rfl, trivial, gp_end ht hP hD⟩, hS.F ht⟩) hS.2.2 dX1_clearLikely_29
      · refine lv_aload_n hx hb dX1_clearLikely_8 rfl (lv_at hl 1 rfl) ?_
        refine va_get (D := D) (ci := 1) (v := .ref (xa 36)) (C := RX1) (T := TX1) (N := 9) hx hb hts hiX1 hown hK hP 0 rfl rfl 7 (by decide) (hts (.fieldLink RX1 31 "GhostPane$Book" "least" "[I") (List.mem_of_getElem? (i := 1) rfl)) (fun _ h9 => h9) rfl dX1_clearLikely_9 ?_
        refine lv_iload_n hx hb dX1_clearLikely_12 rfl (lv_at hl 0 rfl) ?_
        refine lv_bipush (v := 101) hx hb dX1_clearLikely_13 (by decide) ?_
        refine va_iast hx hb hK hP hD hS 1 1 rfl rfl (gp_in (hi := 100) (lf_sX1_clearLikely_1 ii h1 c_1) (by decide)) dX1_clearLikely_15 (fun H locs hP hD hS => ?_)
        obtain ⟨f1_2, hP, hD⟩ : ∃ f1_2 : Nat → Int32, va_P D vwCl [(o_book xa book_acts), (aI (xa 36) (cy 1) 101 f1_2), (aI (xa 37) (cy 1) 101 f2)] H ∧ va_D A [(o_book xa book_acts), (aI (xa 36) (cy 1) 101 f1_2), (aI (xa 37) (cy 1) 101 f2)] := ⟨_, hP, hD⟩
        refine lv_aload_n hx hb dX1_clearLikely_16 rfl (lv_at hl 1 rfl) ?_
        refine va_get (D := D) (ci := 1) (v := .ref (xa 37)) (C := RX1) (T := TX1) (N := 9) hx hb hts hiX1 hown hK hP 0 rfl rfl 8 (by decide) (hts (.fieldLink RX1 34 "GhostPane$Book" "likeliest" "[I") (List.mem_of_getElem? (i := 2) rfl)) (fun _ h9 => h9) rfl dX1_clearLikely_17 ?_
        refine lv_iload_n hx hb dX1_clearLikely_20 rfl (lv_at hl 0 rfl) ?_
        refine lv_iconst (v := (-1)) hx hb dX1_clearLikely_21 (by decide) ?_
        refine va_iast hx hb hK hP hD hS 2 1 rfl rfl (gp_in (hi := 100) (lf_sX1_clearLikely_2 ii h1 c_1) (by decide)) dX1_clearLikely_22 (fun H locs hP hD hS => ?_)
        obtain ⟨f2_3, hP, hD⟩ : ∃ f2_3 : Nat → Int32, va_P D vwCl [(o_book xa book_acts), (aI (xa 36) (cy 1) 101 f1_2), (aI (xa 37) (cy 1) 101 f2_3)] H ∧ va_D A [(o_book xa book_acts), (aI (xa 36) (cy 1) 101 f1_2), (aI (xa 37) (cy 1) 101 f2_3)] := ⟨_, hP, hD⟩
        refine lv_iinc (v := (ii + 1)) (lv' := [(1, .int (ii + 1)), (0, .ref (xa 29))]) hx hb dX1_clearLikely_23 hl (k := 0) rfl rfl (by decide) rfl (fun ls hl => ?_)
        refine lv_goto (tgt := 2) hx hb dX1_clearLikely_26 (by decide) ?_
        exact ih (ii + 1) f1_2 f2_3 H locs ls (lf_sX1_clearLikely_3 ii h1 c_1) (Nat.lt_of_lt_of_le (gp_mdec (b := 101) (lf_sX1_clearLikely_4 ii h1 c_1)) (Nat.le_of_lt_succ hfu)) hP hD hS (lv_sub hl [0, 1] rfl)
  exact key2 ((101 - (0 : Int32).toInt).toNat + 1) 0 least likeliest H [] ls (show sp_in 0 0 101 by decide) (Nat.lt_succ_self _) hP hD hS (lv_sub hl [0, 1] rfl)

theorem lf_sX1_keepLikely_1 (book_acts : Int32) (ii : Int32) (f_book_acts : sp_in book_acts 0 100) (h1 : sp_in ii 0 101) (c_1 : ¬ book_acts < ii) : sp_in ii 0 100 := by
  first | grind | (simp only [sp_in, sp_pl, sp_far, sp_two] at *; grind)
theorem lf_sX1_keepLikely_2 (book_acts : Int32) (ii : Int32) (f_book_acts : sp_in book_acts 0 100) (h1 : sp_in ii 0 101) (c_1 : ¬ book_acts < ii) : sp_in ii 0 100 := by
  first | grind | (simp only [sp_in, sp_pl, sp_far, sp_two] at *; grind)
theorem lf_sX1_keepLikely_3 (book_acts : Int32) (ii : Int32) (f_book_acts : sp_in book_acts 0 100) (h1 : sp_in ii 0 101) (c_1 : ¬ book_acts < ii) : sp_in (ii + 1) 0 101 := by
  first | grind | (simp only [sp_in, sp_pl, sp_far, sp_two] at *; grind)
theorem lf_sX1_keepLikely_4 (book_acts : Int32) (ii : Int32) (f_book_acts : sp_in book_acts 0 100) (h1 : sp_in ii 0 101) (c_1 : ¬ book_acts < ii) : ii < 101 := by
  first | grind | (simp only [sp_in, sp_pl, sp_far, sp_two] at *; grind)
theorem lf_sX1_keepLikely_5 (book_acts : Int32) (ii : Int32) (f_book_acts : sp_in book_acts 0 100) (h1 : sp_in ii 0 101) (c_1 : ¬ book_acts < ii) : sp_in ii 0 100 := by
  first | grind | (simp only [sp_in, sp_pl, sp_far, sp_two] at *; grind)
theorem lf_sX1_keepLikely_6 (book_acts : Int32) (ii : Int32) (f_book_acts : sp_in book_acts 0 100) (h1 : sp_in ii 0 101) (c_1 : ¬ book_acts < ii) : sp_in ii 0 100 := by
  first | grind | (simp only [sp_in, sp_pl, sp_far, sp_two] at *; grind)
theorem lf_sX1_keepLikely_7 (book_acts : Int32) (ii : Int32) (f_book_acts : sp_in book_acts 0 100) (h1 : sp_in ii 0 101) (c_1 : ¬ book_acts < ii) : sp_in ii 0 100 := by
  first | grind | (simp only [sp_in, sp_pl, sp_far, sp_two] at *; grind)
theorem lf_sX1_keepLikely_8 (book_acts : Int32) (ii : Int32) (f_book_acts : sp_in book_acts 0 100) (h1 : sp_in ii 0 101) (c_1 : ¬ book_acts < ii) : sp_in (ii + 1) 0 101 := by
  first | grind | (simp only [sp_in, sp_pl, sp_far, sp_two] at *; grind)
theorem lf_sX1_keepLikely_9 (book_acts : Int32) (ii : Int32) (f_book_acts : sp_in book_acts 0 100) (h1 : sp_in ii 0 101) (c_1 : ¬ book_acts < ii) : ii < 101 := by
  first | grind | (simp only [sp_in, sp_pl, sp_far, sp_two] at *; grind)
def v_sX1_keepLikely : List Cond := .code yX1_keepLikely cX1_keepLikely 3 none :: (([.fieldLink RX1 37 "GhostPane$Book" "acts" "I", .fieldLink RX1 11 "GhostPane$Book" "sums" "[I", .fieldLink RX1 31 "GhostPane$Book" "least" "[I", .fieldLink RX1 34 "GhostPane$Book" "likeliest" "[I"] : List Cond) ++ wsX10)
set_option maxHeartbeats 4000000 in
set_option maxRecDepth 100000 in
theorem sX1_keepLikely (l : Launch) (D : va_G) (cy : Nat → ClassId) (sz : Nat) (xa : Nat → Nat) (book_acts : Int32) (sums : Nat → Int32) (least : Nat → Int32) (likeliest : Nat → Int32) (k : Int32) (f_book_acts : sp_in book_acts 0 100) : Met l yX1_keepLikely v_sX1_keepLikely ({ frames := 0, cells := 0, slots := 0, locals := 0 } : Room) (va_Pc [.ref (xa 29), .int k] (gp_B D cy sz [(o_book xa book_acts), (aI (xa 30) (cy 1) 101 sums), (aI (xa 36) (cy 1) 101 least), (aI (xa 37) (cy 1) 101 likeliest)])) (va_Qv (fun (u : (Nat → Int32) × (Nat → Int32)) => True) (fun u => gp_E D (va_A [(o_book xa book_acts), (aI (xa 30) (cy 1) 101 sums), (aI (xa 36) (cy 1) 101 least), (aI (xa 37) (cy 1) 101 likeliest)] sz) [(o_book xa book_acts), (aI (xa 30) (cy 1) 101 sums), (aI (xa 36) (cy 1) 101 u.1), (aI (xa 37) (cy 1) 101 u.2)]) (va_A [(o_book xa book_acts), (aI (xa 30) (cy 1) 101 sums), (aI (xa 36) (cy 1) 101 least), (aI (xa 37) (cy 1) 101 likeliest)] sz)) 0 0 (va_A [(o_book xa book_acts), (aI (xa 30) (cy 1) 101 sums), (aI (xa 36) (cy 1) 101 least), (aI (xa 37) (cy 1) 101 likeliest)] sz) := by
  refine gp_met (Qc := fun A => va_Qv (fun (u : (Nat → Int32) × (Nat → Int32)) => True) (fun u => gp_E D A [(o_book xa book_acts), (aI (xa 30) (cy 1) 101 sums), (aI (xa 36) (cy 1) 101 u.1), (aI (xa 37) (cy 1) 101 u.2)]) A) (cc := cX1_keepLikely) (maxL := 3) (ret := none) (by decide) rfl (Nat.le_of_ble_eq_true rfl) ?_
  intro p e s m below meth c A ls H hx hb hml hr hlocks hts hown hin hK hN hS hP hD hA hl
  have hown : s.vm.findClass RX1 = some m.cls := hown
  have hl : lv_has ls 3 [(0, .ref (xa 29)), (1, .int k)] := hl
  have hiX1 : ∀ w ∈ u_ws RX1 TX1 9, w ∈ v_sX1_keepLikely := fun _ h => List.mem_cons_of_mem _ (List.mem_append_right _ h)
  refine lv_iconst (v := 0) hx hb dX1_keepLikely_0 (by decide) ?_
  refine lv_istore_n (lv' := [(2, .int 0), (0, .ref (xa 29)), (1, .int k)]) hx hb dX1_keepLikely_1 rfl hl (by decide) rfl (fun ls hl => ?_)
  have key2 : ∀ (fu : Nat) (ii : Int32) (f1 : Nat → Int32) (f2 : Nat → Int32) (H : Heap) (locs : List Loc) (ls : Array Slot), (h1 : sp_in ii 0 101) → (101 - ii.toInt).toNat < fu → va_P D vwCl [(o_book xa book_acts), (aI (xa 30) (cy 1) 101 sums), (aI (xa 36) (cy 1) 101 f1), (aI (xa 37) (cy 1) 101 f2)] H → va_D A [(o_book xa book_acts), (aI (xa 30) (cy 1) 101 sums), (aI (xa 36) (cy 1) 101 f1), (aI (xa 37) (cy 1) 101 f2)] → va_S A s.heap H locs → lv_has ls 3 [(2, .int ii), (0, .ref (xa 29)), (1, .int k)] → W p l e (headSpec v_sX1_keepLikely (({ frames := 0, cells := 0, slots := 0, locals := 0 } : Room))).room s m [.ref (xa 29), .int k].toArray below meth c H locs 0 0 (MQ below (va_Qv (fun (u : (Nat → Int32) × (Nat → Int32)) => True) (fun u => gp_E D A [(o_book xa book_acts), (aI (xa 30) (cy 1) 101 sums), (aI (xa 36) (cy 1) 101 u.1), (aI (xa 37) (cy 1) 101 u.2)]) A) [.ref (xa 29), .int k].toArray s 0 0 A) (F0 m 2 ls []) := by
    intro fu
    induction fu with
    | zero => intro ii f1 f2 H locs ls h1 hfu; exact absurd hfu (Nat.not_lt_zero _)
    | succ fu ih =>
      intro ii f1 f2 H locs ls h1 hfu hP hD hS hl
      refine lv_iload_n hx hb dX1_keepLikely_2 rfl (lv_at hl 0 rfl) ?_
      refine lv_aload_n hx hb dX1_keepLikely_3 rfl (lv_at hl 1 rfl) ?_
      refine va_get (D := D) (ci := 1) (v := .int book_acts) (C := RX1) (T := TX1) (N := 9) hx hb hts hiX1 hown hK hP 0 rfl rfl 0 (by decide) (hts (.fieldLink RX1 37 "GhostPane$Book" "acts" "I") (List.mem_of_getElem? (i := 1) rfl)) (fun _ h9 => h9) rfl dX1_keepLikely_4 ?_
      refine lv_icmp_gt (tgt := 50) hx hb dX1_keepLikely_7 (by decide) (fun c_1 => ?_) (fun c_1 => ?_)
      · exact W.vret hx hb hr (fun t ht hW => ⟨⟨⟨f1, f2⟩, rfl, trivial, gp_end ht hP hD⟩, hS.F ht⟩) hS.2.2 dX1_keepLikely_50
      · refine lv_aload_n hx hb dX1_keepLikely_10 rfl (lv_at hl 1 rfl) ?_
        refine va_get (D := D) (ci := 1) (v := .ref (xa 30)) (C := RX1) (T := TX1) (N := 9) hx hb hts hiX1 hown hK hP 0 rfl rfl 1 (by decide) (hts (.fieldLink RX1 11 "GhostPane$Book" "sums" "[I") (List.mem_of_getElem? (i := 2) rfl)) (fun _ h9 => h9) rfl dX1_keepLikely_11 ?_
        refine lv_iload_n hx hb dX1_keepLikely_14 rfl (lv_at hl 0 rfl) ?_
        refine va_iald hx hb hK hP 1 1 rfl rfl (gp_in (hi := 100) (lf_sX1_keepLikely_1 book_acts ii f_book_acts h1 c_1) (by decide)) dX1_keepLikely_15 ?_
        refine gp_fi (fun y_2 => ?_)
        refine lv_aload_n hx hb dX1_keepLikely_16 rfl (lv_at hl 1 rfl) ?_
        refine va_get (D := D) (ci := 1) (v := .ref (xa 36)) (C := RX1) (T := TX1) (N := 9) hx hb hts hiX1 hown hK hP 0 rfl rfl 7 (by decide) (hts (.fieldLink RX1 31 "GhostPane$Book" "least" "[I") (List.mem_of_getElem? (i := 3) rfl)) (fun _ h9 => h9) rfl dX1_keepLikely_17 ?_
        refine lv_iload_n hx hb dX1_keepLikely_20 rfl (lv_at hl 0 rfl) ?_
        refine va_iald hx hb hK hP 2 1 rfl rfl (gp_in (hi := 100) (lf_sX1_keepLikely_2 book_acts ii f_book_acts h1 c_1) (by decide)) dX1_keepLikely_21 ?_
        refine gp_fi (fun y_3 => ?_)
        refine lv_icmp_ge (tgt := 44) hx hb dX1_keepLikely_22 (by decide) (fun c_4 => ?_) (fun c_4 => ?_)
        · refine lv_iinc (v := (ii + 1)) (lv' := [(2, .int (ii + 1)), (0, .ref (xa 29)), (1, .int k)]) hx hb dX1_keepLikely_44 hl (k := 0) rfl rfl (by decide) rfl (fun ls hl => ?_)
          refine lv_goto (tgt := 2) hx hb dX1_keepLikely_47 (by decide) ?_
          exact ih (ii + 1) f1 f2 H locs ls (lf_sX1_keepLikely_3 book_acts ii f_book_acts h1 c_1) (Nat.lt_of_lt_of_le (gp_mdec (b := 101) (lf_sX1_keepLikely_4 book_acts ii f_book_acts h1 c_1)) (Nat.le_of_lt_succ hfu)) hP hD hS (lv_sub hl [0, 1, 2] rfl)
        · refine lv_aload_n hx hb dX1_keepLikely_25 rfl (lv_at hl 1 rfl) ?_
          refine va_get (D := D) (ci := 1) (v := .ref (xa 36)) (C := RX1) (T := TX1) (N := 9) hx hb hts hiX1 hown hK hP 0 rfl rfl 7 (by decide) (hts (.fieldLink RX1 31 "GhostPane$Book" "least" "[I") (List.mem_of_getElem? (i := 3) rfl)) (fun _ h9 => h9) rfl dX1_keepLikely_26 ?_
          refine lv_iload_n hx hb dX1_keepLikely_29 rfl (lv_at hl 0 rfl) ?_
          refine lv_aload_n hx hb dX1_keepLikely_30 rfl (lv_at hl 1 rfl) ?_
          refine va_get (D := D) (ci := 1) (v := .ref (xa 30)) (C := RX1) (T := TX1) (N := 9) hx hb hts hiX1 hown hK hP 0 rfl rfl 1 (by decide) (hts (.fieldLink RX1 11 "GhostPane$Book" "sums" "[I") (List.mem_of_getElem? (i := 2) rfl)) (fun _ h9 => h9) rfl dX1_keepLikely_31 ?_
          refine lv_iload_n hx hb dX1_keepLikely_34 rfl (lv_at hl 0 rfl) ?_
          refine va_iald hx hb hK hP 1 1 rfl rfl (gp_in (hi := 100) (lf_sX1_keepLikely_5 book_acts ii f_book_acts h1 c_1) (by decide)) dX1_keepLikely_35 ?_
          refine gp_fi (fun y_5 => ?_)
          refine va_iast hx hb hK hP hD hS 2 1 rfl rfl (gp_in (hi := 100) (lf_sX1_keepLikely_6 book_acts ii f_book_acts h1 c_1) (by decide)) dX1_keepLikely_36 (fun H locs hP hD hS => ?_)
          obtain ⟨f1_6, hP, hD⟩ : ∃ f1_6 : Nat → Int32, va_P D vwCl [(o_book xa book_acts), (aI (xa 30) (cy 1) 101 sums), (aI (xa 36) (cy 1) 101 f1_6), (aI (xa 37) (cy 1) 101 f2)] H ∧ va_D A [(o_book xa book_acts), (aI (xa 30) (cy 1) 101 sums), (aI (xa 36) (cy 1) 101 f1_6), (aI (xa 37) (cy 1) 101 f2)] := ⟨_, hP, hD⟩
          refine lv_aload_n hx hb dX1_keepLikely_37 rfl (lv_at hl 1 rfl) ?_
          refine va_get (D := D) (ci := 1) (v := .ref (xa 37)) (C := RX1) (T := TX1) (N := 9) hx hb hts hiX1 hown hK hP 0 rfl rfl 8 (by decide) (hts (.fieldLink RX1 34 "GhostPane$Book" "likeliest" "[I") (List.mem_of_getElem? (i := 4) rfl)) (fun _ h9 => h9) rfl dX1_keepLikely_38 ?_
          refine lv_iload_n hx hb dX1_keepLikely_41 rfl (lv_at hl 0 rfl) ?_
          refine lv_iload_n hx hb dX1_keepLikely_42 rfl (lv_at hl 2 rfl) ?_
          refine va_iast hx hb hK hP hD hS 3 1 rfl rfl (gp_in (hi := 100) (lf_sX1_keepLikely_7 book_acts ii f_book_acts h1 c_1) (by decide)) dX1_keepLikely_43 (fun H locs hP hD hS => ?_)
          obtain ⟨f2_7, hP, hD⟩ : ∃ f2_7 : Nat → Int32, va_P D vwCl [(o_book xa book_acts), (aI (xa 30) (cy 1) 101 sums), (aI (xa 36) (cy 1) 101 f1_6), (aI (xa 37) (cy 1) 101 f2_7)] H ∧ va_D A [(o_book xa book_acts), (aI (xa 30) (cy 1) 101 sums), (aI (xa 36) (cy 1) 101 f1_6), (aI (xa 37) (cy 1) 101 f2_7)] := ⟨_, hP, hD⟩
          refine lv_iinc (v := (ii + 1)) (lv' := [(2, .int (ii + 1)), (0, .ref (xa 29)), (1, .int k)]) hx hb dX1_keepLikely_44 hl (k := 0) rfl rfl (by decide) rfl (fun ls hl => ?_)
          refine lv_goto (tgt := 2) hx hb dX1_keepLikely_47 (by decide) ?_
          exact ih (ii + 1) f1_6 f2_7 H locs ls (lf_sX1_keepLikely_8 book_acts ii f_book_acts h1 c_1) (Nat.lt_of_lt_of_le (gp_mdec (b := 101) (lf_sX1_keepLikely_9 book_acts ii f_book_acts h1 c_1)) (Nat.le_of_lt_succ hfu)) hP hD hS (lv_sub hl [0, 1, 2] rfl)
  exact key2 ((101 - (0 : Int32).toInt).toNat + 1) 0 least likeliest H [] ls (show sp_in 0 0 101 by decide) (Nat.lt_succ_self _) hP hD hS (lv_sub hl [0, 1, 2] rfl)

theorem lf_sX1_firstOfLastLikely_1 (ii : Int32) (h1 : sp_in ii 0 100) (c_1 : ¬ ii ≤ 0) : sp_in (ii - 1) 0 100 := by
  first | grind | (simp only [sp_in, sp_pl, sp_far, sp_two] at *; grind)
theorem lf_sX1_firstOfLastLikely_2 (ii : Int32) (h1 : sp_in ii 0 100) (c_1 : ¬ ii ≤ 0) : sp_in (ii + (-1)) 0 100 := by
  first | grind | (simp only [sp_in, sp_pl, sp_far, sp_two] at *; grind)
theorem lf_sX1_firstOfLastLikely_3 (ii : Int32) (h1 : sp_in ii 0 100) (c_1 : ¬ ii ≤ 0) : 0 < ii := by
  first | grind | (simp only [sp_in, sp_pl, sp_far, sp_two] at *; grind)
def v_sX1_firstOfLastLikely : List Cond := .code yX1_firstOfLastLikely cX1_firstOfLastLikely 2 (some .int) :: (([.fieldLink RX1 37 "GhostPane$Book" "acts" "I", .fieldLink RX1 34 "GhostPane$Book" "likeliest" "[I"] : List Cond) ++ wsX10)
set_option maxHeartbeats 4000000 in
set_option maxRecDepth 100000 in
theorem sX1_firstOfLastLikely (l : Launch) (D : va_G) (cy : Nat → ClassId) (sz : Nat) (xa : Nat → Nat) (book_acts : Int32) (likeliest : Nat → Int32) (f_book_acts : sp_in book_acts 0 100) : Met l yX1_firstOfLastLikely v_sX1_firstOfLastLikely ({ frames := 0, cells := 0, slots := 0, locals := 0 } : Room) (va_Pc [.ref (xa 29)] (gp_B D cy sz [(o_book xa book_acts), (aI (xa 37) (cy 1) 101 likeliest)])) (va_Qi (fun (r : Int32) (u : Unit) => True) (fun u => gp_E D (va_A [(o_book xa book_acts), (aI (xa 37) (cy 1) 101 likeliest)] sz) [(o_book xa book_acts), (aI (xa 37) (cy 1) 101 likeliest)]) (va_A [(o_book xa book_acts), (aI (xa 37) (cy 1) 101 likeliest)] sz)) 0 0 (va_A [(o_book xa book_acts), (aI (xa 37) (cy 1) 101 likeliest)] sz) := by
  refine gp_met (Qc := fun A => va_Qi (fun (r : Int32) (u : Unit) => True) (fun u => gp_E D A [(o_book xa book_acts), (aI (xa 37) (cy 1) 101 likeliest)]) A) (cc := cX1_firstOfLastLikely) (maxL := 2) (ret := (some .int)) (by decide) rfl (Nat.le_of_ble_eq_true rfl) ?_
  intro p e s m below meth c A ls H hx hb hml hr hlocks hts hown hin hK hN hS hP hD hA hl
  have hown : s.vm.findClass RX1 = some m.cls := hown
  have hl : lv_has ls 2 [(0, .ref (xa 29))] := hl
  have hiX1 : ∀ w ∈ u_ws RX1 TX1 9, w ∈ v_sX1_firstOfLastLikely := fun _ h => List.mem_cons_of_mem _ (List.mem_append_right _ h)
  refine lv_aload_n hx hb dX1_firstOfLastLikely_0 rfl (lv_at hl 0 rfl) ?_
  refine va_get (D := D) (ci := 1) (v := .int book_acts) (C := RX1) (T := TX1) (N := 9) hx hb hts hiX1 hown hK hP 0 rfl rfl 0 (by decide) (hts (.fieldLink RX1 37 "GhostPane$Book" "acts" "I") (List.mem_of_getElem? (i := 1) rfl)) (fun _ h9 => h9) rfl dX1_firstOfLastLikely_1 ?_
  refine lv_istore_n (lv' := [(1, .int book_acts), (0, .ref (xa 29))]) hx hb dX1_firstOfLastLikely_4 rfl hl (by decide) rfl (fun ls hl => ?_)
  have key5 : ∀ (fu : Nat) (ii : Int32) (H : Heap) (locs : List Loc) (ls : Array Slot), (h1 : sp_in ii 0 100) → ii.toInt.toNat < fu → va_P D vwCl [(o_book xa book_acts), (aI (xa 37) (cy 1) 101 likeliest)] H → va_D A [(o_book xa book_acts), (aI (xa 37) (cy 1) 101 likeliest)] → va_S A s.heap H locs → lv_has ls 2 [(1, .int ii), (0, .ref (xa 29))] → W p l e (headSpec v_sX1_firstOfLastLikely (({ frames := 0, cells := 0, slots := 0, locals := 0 } : Room))).room s m [.ref (xa 29)].toArray below meth c H locs 0 0 (MQ below (va_Qi (fun (r : Int32) (u : Unit) => True) (fun u => gp_E D A [(o_book xa book_acts), (aI (xa 37) (cy 1) 101 likeliest)]) A) [.ref (xa 29)].toArray s 0 0 A) (F0 m 5 ls []) := by
    intro fu
    induction fu with
    | zero => intro ii H locs ls h1 hfu; exact absurd hfu (Nat.not_lt_zero _)
    | succ fu ih =>
      intro ii H locs ls h1 hfu hP hD hS hl
      refine lv_iload_n hx hb dX1_firstOfLastLikely_5 rfl (lv_at hl 0 rfl) ?_
      refine lv_if_le (tgt := 35) hx hb dX1_firstOfLastLikely_6 (by decide) (fun c_1 => ?_) (fun c_1 => ?_)
      · refine lv_iload_n hx hb dX1_firstOfLastLikely_35 rfl (lv_at hl 0 rfl) ?_
        exact W.iret (v := ii) hx hb hr (fun t ht hW => ⟨⟨ii, (), rfl, trivial, gp_end ht hP hD⟩, hS.F ht⟩) hS.2.2 dX1_firstOfLastLikely_36
      · refine lv_aload_n hx hb dX1_firstOfLastLikely_9 rfl (lv_at hl 1 rfl) ?_
        refine va_get (D := D) (ci := 1) (v := .ref (xa 37)) (C := RX1) (T := TX1) (N := 9) hx hb hts hiX1 hown hK hP 0 rfl rfl 8 (by decide) (hts (.fieldLink RX1 34 "GhostPane$Book" "likeliest" "[I") (List.mem_of_getElem? (i := 2) rfl)) (fun _ h9 => h9) rfl dX1_firstOfLastLikely_10 ?_
        refine lv_iload_n hx hb dX1_firstOfLastLikely_13 rfl (lv_at hl 0 rfl) ?_
        refine lv_iconst (v := 1) hx hb dX1_firstOfLastLikely_14 (by decide) ?_
        refine lv_isub hx hb dX1_firstOfLastLikely_15 ?_
        refine va_iald hx hb hK hP 1 1 rfl rfl (gp_in (hi := 100) (lf_sX1_firstOfLastLikely_1 ii h1 c_1) (by decide)) dX1_firstOfLastLikely_16 ?_
        refine gp_fi (fun y_2 => ?_)
        refine lv_aload_n hx hb dX1_firstOfLastLikely_17 rfl (lv_at hl 1 rfl) ?_
        refine va_get (D := D) (ci := 1) (v := .ref (xa 37)) (C := RX1) (T := TX1) (N := 9) hx hb hts hiX1 hown hK hP 0 rfl rfl 8 (by decide) (hts (.fieldLink RX1 34 "GhostPane$Book" "likeliest" "[I") (List.mem_of_getElem? (i := 2) rfl)) (fun _ h9 => h9) rfl dX1_firstOfLastLikely_18 ?_
        refine lv_aload_n hx hb dX1_firstOfLastLikely_21 rfl (lv_at hl 1 rfl) ?_
        refine va_get (D := D) (ci := 1) (v := .int book_acts) (C := RX1) (T := TX1) (N := 9) hx hb hts hiX1 hown hK hP 0 rfl rfl 0 (by decide) (hts (.fieldLink RX1 37 "GhostPane$Book" "acts" "I") (List.mem_of_getElem? (i := 1) rfl)) (fun _ h9 => h9) rfl dX1_firstOfLastLikely_22 ?_
        refine va_iald hx hb hK hP 1 1 rfl rfl (gp_in (hi := 100) f_book_acts (by decide)) dX1_firstOfLastLikely_25 ?_
        refine gp_fi (fun y_3 => ?_)
        refine lv_icmp_ne (tgt := 35) hx hb dX1_firstOfLastLikely_26 (by decide) (fun c_4 => ?_) (fun c_4 => ?_)
        · refine lv_iload_n hx hb dX1_firstOfLastLikely_35 rfl (lv_at hl 0 rfl) ?_
          exact W.iret (v := ii) hx hb hr (fun t ht hW => ⟨⟨ii, (), rfl, trivial, gp_end ht hP hD⟩, hS.F ht⟩) hS.2.2 dX1_firstOfLastLikely_36
        · refine lv_iinc (v := (ii + (-1))) (lv' := [(1, .int (ii + (-1))), (0, .ref (xa 29))]) hx hb dX1_firstOfLastLikely_29 hl (k := 0) rfl rfl (by decide) rfl (fun ls hl => ?_)
          refine lv_goto (tgt := 5) hx hb dX1_firstOfLastLikely_32 (by decide) ?_
          exact ih (ii + (-1)) H locs ls (lf_sX1_firstOfLastLikely_2 ii h1 c_1) (Nat.lt_of_lt_of_le (gp_mdec3 (lf_sX1_firstOfLastLikely_3 ii h1 c_1)) (Nat.le_of_lt_succ hfu)) hP hD hS (lv_sub hl [0, 1] rfl)
  exact key5 (book_acts.toInt.toNat + 1) book_acts H [] ls f_book_acts (Nat.lt_succ_self _) hP hD hS (lv_sub hl [0, 1] rfl)
