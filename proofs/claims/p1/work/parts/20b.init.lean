def v_kX9_init : List Cond := .code yX9_init cX9_init 1 none :: ([.methodLink RX9 3 objectInit, .instanceMethod objectInit, .code objectInit ⟨#[0xb1]⟩ 1 none, .fieldLink RX9 9 "GhostPane$Tape" "fault" "I", .fieldLink RX9 15 "GhostPane$Tape" "faultPlace" "I", .arrayClass .byte, .fieldLink RX9 18 "GhostPane$Tape" "bytes" "[B"] ++ wsX90)
set_option maxHeartbeats 4000000 in
set_option maxRecDepth 100000 in
theorem kX9_init (l : Launch) (D : va_G) (cy : Nat → ClassId) (sz : Nat) (h0 : Nat) : Met l yX9_init v_kX9_init ({ frames := 1, cells := 1, slots := 600, locals := 20 } : Room) (va_Pc [.ref h0] (gp_B D cy sz [(h0, .inr (9, [.int 0, .int 0, .int 0, .int 0, .int 0, .int 0, .null]))])) (va_Qv (fun (u : Nat) => True) (fun u => gp_E D (va_A [(h0, .inr (9, [.int 0, .int 0, .int 0, .int 0, .int 0, .int 0, .null]))] sz) [(h0, .inr (9, [.int 0, .int 0, .int (-1), .int 0, .int 0, .int 0, .ref u])), (u, .inl (cy 0, 600, .inl (fun _ => 0)))]) (va_A [(h0, .inr (9, [.int 0, .int 0, .int 0, .int 0, .int 0, .int 0, .null]))] sz)) 1 600 (va_A [(h0, .inr (9, [.int 0, .int 0, .int 0, .int 0, .int 0, .int 0, .null]))] sz) := by
  refine gp_met (Qc := fun A => va_Qv (fun (u : Nat) => True) (fun u => gp_E D A [(h0, .inr (9, [.int 0, .int 0, .int (-1), .int 0, .int 0, .int 0, .ref u])), (u, .inl (cy 0, 600, .inl (fun _ => 0)))]) A) (cc := cX9_init) (maxL := 1) (ret := none) (by decide) rfl (Nat.le_of_ble_eq_true rfl) ?_
  intro p e s m below meth c A ls H hx hb hml hr hlocks hts hown hin hK hN hS hP hD hA hl
  have hown : s.vm.findClass RX9 = some m.cls := hown
  have hl : lv_has ls 1 [(0, .ref h0)] := hl
  have hiX9 : ∀ w ∈ u_ws RX9 TX9 7, w ∈ v_kX9_init := fun _ h => List.mem_cons_of_mem _ (List.mem_append_right _ h)
  refine lv_aload_n hx hb dX9_init_0 rfl (lv_at hl 0 rfl) ?_
  refine W.objInit hx hb hown (hts (.methodLink RX9 3 objectInit) (List.mem_of_getElem? (i := 1) rfl)) (hts (.instanceMethod objectInit) (List.mem_of_getElem? (i := 2) rfl)) (hts (.code objectInit ⟨#[0xb1]⟩ 1 none) (List.mem_of_getElem? (i := 3) rfl)) rfl (by rw [hml]; exact hl.1) rfl dX9_init_1 (Nat.le_of_ble_eq_true rfl) (Nat.le_of_ble_eq_true rfl) ?_
  refine W.eq (g2 := F0 m 4 ls []) rfl ?_
  refine lv_aload_n hx hb dX9_init_4 rfl (lv_at hl 0 rfl) ?_
  refine lv_iconst (v := 0) hx hb dX9_init_5 (by decide) ?_
  refine va_put (D := D) (ci := 9) (v := .int 0) (ty := .int) (C := RX9) (T := TX9) (N := 7) hx hb hts hiX9 tyX9 tyX9_ok nmX9 hown hK hP hD hS 0 rfl rfl 1 (by decide) (hts (.fieldLink RX9 9 "GhostPane$Tape" "fault" "I") (List.mem_of_getElem? (i := 4) rfl)) (fun _ h9 => h9) rfl (by decide +kernel) rfl rfl (Nat.le_of_ble_eq_true rfl) dX9_init_6 (fun H locs hP hD hS => ?_)
  have hP : va_P D vwCl [(h0, .inr (9, [.int 0, .int 0, .int 0, .int 0, .int 0, .int 0, .null]))] H := hP
  have hD : va_D A [(h0, .inr (9, [.int 0, .int 0, .int 0, .int 0, .int 0, .int 0, .null]))] := hD
  refine lv_aload_n hx hb dX9_init_9 rfl (lv_at hl 0 rfl) ?_
  refine lv_iconst (v := (-1)) hx hb dX9_init_10 (by decide) ?_
  refine va_put (D := D) (ci := 9) (v := .int (-1)) (ty := .int) (C := RX9) (T := TX9) (N := 7) hx hb hts hiX9 tyX9 tyX9_ok nmX9 hown hK hP hD hS 0 rfl rfl 2 (by decide) (hts (.fieldLink RX9 15 "GhostPane$Tape" "faultPlace" "I") (List.mem_of_getElem? (i := 5) rfl)) (fun _ h9 => h9) rfl (by decide +kernel) rfl rfl (Nat.le_of_ble_eq_true rfl) dX9_init_11 (fun H locs hP hD hS => ?_)
  have hP : va_P D vwCl [(h0, .inr (9, [.int 0, .int 0, .int (-1), .int 0, .int 0, .int 0, .null]))] H := hP
  have hD : va_D A [(h0, .inr (9, [.int 0, .int 0, .int (-1), .int 0, .int 0, .int 0, .null]))] := hD
  refine lv_aload_n hx hb dX9_init_14 rfl (lv_at hl 0 rfl) ?_
  refine lv_sipush (v := 600) hx hb dX9_init_15 (by decide) ?_
  refine gp_newa (atype := .byte) (ty := .byte) (n := 600) (N' := 600) (a0 := (600, .inl (fun _ => 0))) hx hb (hts (.arrayClass .byte) (List.mem_of_getElem? (i := 6) rfl)) rfl hK hP hD hS hA 0 rfl (fun _ => rfl) (by decide) (by decide) (by decide) (Nat.le_of_ble_eq_true rfl) (Nat.le_of_ble_eq_true rfl) dX9_init_18 (fun q_1 H hP hD hS => ?_)
  have hP : va_P D vwCl [(h0, .inr (9, [.int 0, .int 0, .int (-1), .int 0, .int 0, .int 0, .null])), (q_1, .inl (cy 0, 600, .inl (fun _ => 0)))] H := hP
  have hD : va_D A [(h0, .inr (9, [.int 0, .int 0, .int (-1), .int 0, .int 0, .int 0, .null])), (q_1, .inl (cy 0, 600, .inl (fun _ => 0)))] := hD
  refine W.widen (k := 1) (n := 600) (Nat.le_of_ble_eq_true rfl) (Nat.le_of_ble_eq_true rfl) ?_
  refine va_putF (D := D) (ci := 9) (v := .ref q_1) (ty := (.array .byte)) (C := RX9) (T := TX9) (N := 7) hx hb hts hiX9 tyX9 tyX9_ok nmX9 hown hK hP hD hS 0 rfl rfl 6 (by decide) (hts (.fieldLink RX9 18 "GhostPane$Tape" "bytes" "[B") (List.mem_of_getElem? (i := 7) rfl)) (fun _ h9 => h9) rfl hin rfl (by decide +kernel) rfl rfl (Nat.le_of_ble_eq_true rfl) dX9_init_20 (fun H locs hP hD hS => ?_)
  have hP : va_P D vwCl [(h0, .inr (9, [.int 0, .int 0, .int (-1), .int 0, .int 0, .int 0, .ref q_1])), (q_1, .inl (cy 0, 600, .inl (fun _ => 0)))] H := hP
  have hD : va_D A [(h0, .inr (9, [.int 0, .int 0, .int (-1), .int 0, .int 0, .int 0, .ref q_1])), (q_1, .inl (cy 0, 600, .inl (fun _ => 0)))] := hD
  exact W.vret hx hb hr (fun t ht hW => ⟨⟨q_1, rfl, trivial, gp_end ht (hP.sub (ws' := [(h0, .inr (9, [.int 0, .int 0, .int (-1), .int 0, .int 0, .int 0, .ref q_1])), (q_1, .inl (cy 0, 600, .inl (fun _ => 0)))]) [0, 1] rfl) (hD.sub (ws' := [(h0, .inr (9, [.int 0, .int 0, .int (-1), .int 0, .int 0, .int 0, .ref q_1])), (q_1, .inl (cy 0, 600, .inl (fun _ => 0)))]) [0, 1] (by decide) rfl)⟩, hS.F ht⟩) hS.2.2 dX9_init_23

def v_kX0_init : List Cond := .code yX0_init cX0_init 1 none :: ([.methodLink RX0 3 objectInit, .instanceMethod objectInit, .code objectInit ⟨#[0xb1]⟩ 1 none])
set_option maxHeartbeats 4000000 in
set_option maxRecDepth 100000 in
theorem kX0_init (l : Launch) (D : va_G) (cy : Nat → ClassId) (sz : Nat) (h0 : Nat) : Met l yX0_init v_kX0_init ({ frames := 1, cells := 0, slots := 0, locals := 20 } : Room) (va_Pc [.ref h0] (gp_B D cy sz [(h0, .inr (0, [.int 0, .int 0, .int 0, .int 0, .int 0, .int 0, .int 0]))])) (va_Qv (fun (u : Unit) => True) (fun u => gp_E D (va_A [(h0, .inr (0, [.int 0, .int 0, .int 0, .int 0, .int 0, .int 0, .int 0]))] sz) [(h0, .inr (0, [.int 0, .int 0, .int 0, .int 0, .int 0, .int 0, .int 0]))]) (va_A [(h0, .inr (0, [.int 0, .int 0, .int 0, .int 0, .int 0, .int 0, .int 0]))] sz)) 0 0 (va_A [(h0, .inr (0, [.int 0, .int 0, .int 0, .int 0, .int 0, .int 0, .int 0]))] sz) := by
  refine gp_met (Qc := fun A => va_Qv (fun (u : Unit) => True) (fun u => gp_E D A [(h0, .inr (0, [.int 0, .int 0, .int 0, .int 0, .int 0, .int 0, .int 0]))]) A) (cc := cX0_init) (maxL := 1) (ret := none) (by decide) rfl (Nat.le_of_ble_eq_true rfl) ?_
  intro p e s m below meth c A ls H hx hb hml hr hlocks hts hown hin hK hN hS hP hD hA hl
  have hown : s.vm.findClass RX0 = some m.cls := hown
  have hl : lv_has ls 1 [(0, .ref h0)] := hl
  refine lv_aload_n hx hb dX0_init_0 rfl (lv_at hl 0 rfl) ?_
  refine W.objInit hx hb hown (hts (.methodLink RX0 3 objectInit) (List.mem_of_getElem? (i := 1) rfl)) (hts (.instanceMethod objectInit) (List.mem_of_getElem? (i := 2) rfl)) (hts (.code objectInit ⟨#[0xb1]⟩ 1 none) (List.mem_of_getElem? (i := 3) rfl)) rfl (by rw [hml]; exact hl.1) rfl dX0_init_1 (Nat.le_of_ble_eq_true rfl) (Nat.le_of_ble_eq_true rfl) ?_
  refine W.eq (g2 := F0 m 4 ls []) rfl ?_
  exact W.vret hx hb hr (fun t ht hW => ⟨⟨(), rfl, trivial, gp_end ht (hP.sub (ws' := [(h0, .inr (0, [.int 0, .int 0, .int 0, .int 0, .int 0, .int 0, .int 0]))]) [0] rfl) (hD.sub (ws' := [(h0, .inr (0, [.int 0, .int 0, .int 0, .int 0, .int 0, .int 0, .int 0]))]) [0] (by decide) rfl)⟩, hS.F ht⟩) hS.2.2 dX0_init_4

def v_kX2_init : List Cond := .code yX2_init cX2_init 1 none :: ([.methodLink RX2 1 objectInit, .instanceMethod objectInit, .code objectInit ⟨#[0xb1]⟩ 1 none, .arrayClass .int, .fieldLink RX2 9 "GhostPane$Code" "kind" "[I", .fieldLink RX2 13 "GhostPane$Code" "first" "[I", .fieldLink RX2 16 "GhostPane$Code" "second" "[I"] ++ wsX20)
set_option maxHeartbeats 4000000 in
set_option maxRecDepth 100000 in
theorem kX2_init (l : Launch) (D : va_G) (cy : Nat → ClassId) (sz : Nat) (h0 : Nat) : Met l yX2_init v_kX2_init ({ frames := 1, cells := 3, slots := 384, locals := 20 } : Room) (va_Pc [.ref h0] (gp_B D cy sz [(h0, .inr (2, [.int 0, .null, .null, .null]))])) (va_Qv (fun (u : Nat × Nat × Nat) => True) (fun u => gp_E D (va_A [(h0, .inr (2, [.int 0, .null, .null, .null]))] sz) [(h0, .inr (2, [.int 0, .ref u.1, .ref u.2.1, .ref u.2.2]))]) (va_A [(h0, .inr (2, [.int 0, .null, .null, .null]))] sz)) 3 384 (va_A [(h0, .inr (2, [.int 0, .null, .null, .null]))] sz) := by
  refine gp_met (Qc := fun A => va_Qv (fun (u : Nat × Nat × Nat) => True) (fun u => gp_E D A [(h0, .inr (2, [.int 0, .ref u.1, .ref u.2.1, .ref u.2.2]))]) A) (cc := cX2_init) (maxL := 1) (ret := none) (by decide) rfl (Nat.le_of_ble_eq_true rfl) ?_
  intro p e s m below meth c A ls H hx hb hml hr hlocks hts hown hin hK hN hS hP hD hA hl
  have hown : s.vm.findClass RX2 = some m.cls := hown
  have hl : lv_has ls 1 [(0, .ref h0)] := hl
  have hiX2 : ∀ w ∈ u_ws RX2 TX2 4, w ∈ v_kX2_init := fun _ h => List.mem_cons_of_mem _ (List.mem_append_right _ h)
  refine lv_aload_n hx hb dX2_init_0 rfl (lv_at hl 0 rfl) ?_
  refine W.objInit hx hb hown (hts (.methodLink RX2 1 objectInit) (List.mem_of_getElem? (i := 1) rfl)) (hts (.instanceMethod objectInit) (List.mem_of_getElem? (i := 2) rfl)) (hts (.code objectInit ⟨#[0xb1]⟩ 1 none) (List.mem_of_getElem? (i := 3) rfl)) rfl (by rw [hml]; exact hl.1) rfl dX2_init_1 (Nat.le_of_ble_eq_true rfl) (Nat.le_of_ble_eq_true rfl) ?_
  refine W.eq (g2 := F0 m 4 ls []) rfl ?_
  refine lv_aload_n hx hb dX2_init_4 rfl (lv_at hl 0 rfl) ?_
  refine lv_sipush (v := 128) hx hb dX2_init_5 (by decide) ?_
  refine gp_newa (atype := .int) (ty := .int) (n := 128) (N' := 128) (a0 := (128, .inl (fun _ => 0))) hx hb (hts (.arrayClass .int) (List.mem_of_getElem? (i := 4) rfl)) rfl hK hP hD hS hA 1 rfl (fun _ => rfl) (by decide) (by decide) (by decide) (Nat.le_of_ble_eq_true rfl) (Nat.le_of_ble_eq_true rfl) dX2_init_8 (fun q_1 H hP hD hS => ?_)
  have hP : va_P D vwCl [(h0, .inr (2, [.int 0, .null, .null, .null])), (q_1, .inl (cy 1, 128, .inl (fun _ => 0)))] H := hP
  have hD : va_D A [(h0, .inr (2, [.int 0, .null, .null, .null])), (q_1, .inl (cy 1, 128, .inl (fun _ => 0)))] := hD
  refine W.widen (k := 1) (n := 128) (Nat.le_of_ble_eq_true rfl) (Nat.le_of_ble_eq_true rfl) ?_
  refine va_putF (D := D) (ci := 2) (v := .ref q_1) (ty := (.array .int)) (C := RX2) (T := TX2) (N := 4) hx hb hts hiX2 tyX2 tyX2_ok nmX2 hown hK hP hD hS 0 rfl rfl 1 (by decide) (hts (.fieldLink RX2 9 "GhostPane$Code" "kind" "[I") (List.mem_of_getElem? (i := 5) rfl)) (fun _ h9 => h9) rfl hin rfl (by decide +kernel) rfl rfl (Nat.le_of_ble_eq_true rfl) dX2_init_10 (fun H locs hP hD hS => ?_)
  have hP : va_P D vwCl [(h0, .inr (2, [.int 0, .ref q_1, .null, .null])), (q_1, .inl (cy 1, 128, .inl (fun _ => 0)))] H := hP
  have hD : va_D A [(h0, .inr (2, [.int 0, .ref q_1, .null, .null])), (q_1, .inl (cy 1, 128, .inl (fun _ => 0)))] := hD
  refine lv_aload_n hx hb dX2_init_13 rfl (lv_at hl 0 rfl) ?_
  refine lv_sipush (v := 128) hx hb dX2_init_14 (by decide) ?_
  refine gp_newa (atype := .int) (ty := .int) (n := 128) (N' := 128) (a0 := (128, .inl (fun _ => 0))) hx hb (hts (.arrayClass .int) (List.mem_of_getElem? (i := 4) rfl)) rfl hK hP hD hS hA 1 rfl (fun _ => rfl) (by decide) (by decide) (by decide) (Nat.le_of_ble_eq_true rfl) (Nat.le_of_ble_eq_true rfl) dX2_init_17 (fun q_2 H hP hD hS => ?_)
  have hP : va_P D vwCl [(h0, .inr (2, [.int 0, .ref q_1, .null, .null])), (q_1, .inl (cy 1, 128, .inl (fun _ => 0))), (q_2, .inl (cy 1, 128, .inl (fun _ => 0)))] H := hP
  have hD : va_D A [(h0, .inr (2, [.int 0, .ref q_1, .null, .null])), (q_1, .inl (cy 1, 128, .inl (fun _ => 0))), (q_2, .inl (cy 1, 128, .inl (fun _ => 0)))] := hD
  refine W.widen (k := 2) (n := 256) (Nat.le_of_ble_eq_true rfl) (Nat.le_of_ble_eq_true rfl) ?_
  refine va_putF (D := D) (ci := 2) (v := .ref q_2) (ty := (.array .int)) (C := RX2) (T := TX2) (N := 4) hx hb hts hiX2 tyX2 tyX2_ok nmX2 hown hK hP hD hS 0 rfl rfl 2 (by decide) (hts (.fieldLink RX2 13 "GhostPane$Code" "first" "[I") (List.mem_of_getElem? (i := 6) rfl)) (fun _ h9 => h9) rfl hin rfl (by decide +kernel) rfl rfl (Nat.le_of_ble_eq_true rfl) dX2_init_19 (fun H locs hP hD hS => ?_)
  have hP : va_P D vwCl [(h0, .inr (2, [.int 0, .ref q_1, .ref q_2, .null])), (q_1, .inl (cy 1, 128, .inl (fun _ => 0))), (q_2, .inl (cy 1, 128, .inl (fun _ => 0)))] H := hP
  have hD : va_D A [(h0, .inr (2, [.int 0, .ref q_1, .ref q_2, .null])), (q_1, .inl (cy 1, 128, .inl (fun _ => 0))), (q_2, .inl (cy 1, 128, .inl (fun _ => 0)))] := hD
  refine lv_aload_n hx hb dX2_init_22 rfl (lv_at hl 0 rfl) ?_
  refine lv_sipush (v := 128) hx hb dX2_init_23 (by decide) ?_
  refine gp_newa (atype := .int) (ty := .int) (n := 128) (N' := 128) (a0 := (128, .inl (fun _ => 0))) hx hb (hts (.arrayClass .int) (List.mem_of_getElem? (i := 4) rfl)) rfl hK hP hD hS hA 1 rfl (fun _ => rfl) (by decide) (by decide) (by decide) (Nat.le_of_ble_eq_true rfl) (Nat.le_of_ble_eq_true rfl) dX2_init_26 (fun q_3 H hP hD hS => ?_)
  have hP : va_P D vwCl [(h0, .inr (2, [.int 0, .ref q_1, .ref q_2, .null])), (q_1, .inl (cy 1, 128, .inl (fun _ => 0))), (q_2, .inl (cy 1, 128, .inl (fun _ => 0))), (q_3, .inl (cy 1, 128, .inl (fun _ => 0)))] H := hP
  have hD : va_D A [(h0, .inr (2, [.int 0, .ref q_1, .ref q_2, .null])), (q_1, .inl (cy 1, 128, .inl (fun _ => 0))), (q_2, .inl (cy 1, 128, .inl (fun _ => 0))), (q_3, .inl (cy 1, 128, .inl (fun _ => 0)))] := hD
  refine W.widen (k := 3) (n := 384) (Nat.le_of_ble_eq_true rfl) (Nat.le_of_ble_eq_true rfl) ?_
  refine va_putF (D := D) (ci := 2) (v := .ref q_3) (ty := (.array .int)) (C := RX2) (T := TX2) (N := 4) hx hb hts hiX2 tyX2 tyX2_ok nmX2 hown hK hP hD hS 0 rfl rfl 3 (by decide) (hts (.fieldLink RX2 16 "GhostPane$Code" "second" "[I") (List.mem_of_getElem? (i := 7) rfl)) (fun _ h9 => h9) rfl hin rfl (by decide +kernel) rfl rfl (Nat.le_of_ble_eq_true rfl) dX2_init_28 (fun H locs hP hD hS => ?_)
  have hP : va_P D vwCl [(h0, .inr (2, [.int 0, .ref q_1, .ref q_2, .ref q_3])), (q_1, .inl (cy 1, 128, .inl (fun _ => 0))), (q_2, .inl (cy 1, 128, .inl (fun _ => 0))), (q_3, .inl (cy 1, 128, .inl (fun _ => 0)))] H := hP
  have hD : va_D A [(h0, .inr (2, [.int 0, .ref q_1, .ref q_2, .ref q_3])), (q_1, .inl (cy 1, 128, .inl (fun _ => 0))), (q_2, .inl (cy 1, 128, .inl (fun _ => 0))), (q_3, .inl (cy 1, 128, .inl (fun _ => 0)))] := hD
  exact W.vret hx hb hr (fun t ht hW => ⟨⟨(q_1, q_2, q_3), rfl, trivial, gp_end ht (hP.sub (ws' := [(h0, .inr (2, [.int 0, .ref q_1, .ref q_2, .ref q_3]))]) [0] rfl) (hD.sub (ws' := [(h0, .inr (2, [.int 0, .ref q_1, .ref q_2, .ref q_3]))]) [0] (by decide) rfl)⟩, hS.F ht⟩) hS.2.2 dX2_init_31

