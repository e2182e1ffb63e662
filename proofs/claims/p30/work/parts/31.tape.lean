theorem lf_sX9_hasRoom_1 (tape_length : Int32) (f_tape_length : sp_in tape_length 0 600) (c_1 : 600 < (tape_length + 20)) : ((0 : Int32) = 1 ∧ tape_length ≤ 580) ∨ ((0 : Int32) = 0 ∧ ¬ tape_length ≤ 580) := by
  first | grind | (simp only [sp_in, sp_pl, sp_far, sp_two] at *; grind)
theorem lf_sX9_hasRoom_2 (tape_length : Int32) (f_tape_length : sp_in tape_length 0 600) (c_1 : ¬ 600 < (tape_length + 20)) : ((1 : Int32) = 1 ∧ tape_length ≤ 580) ∨ ((1 : Int32) = 0 ∧ ¬ tape_length ≤ 580) := by
  first | grind | (simp only [sp_in, sp_pl, sp_far, sp_two] at *; grind)
def v_sX9_hasRoom : List Cond := .code yX9_hasRoom cX9_hasRoom 1 (some .boolean) :: (([.fieldLink RX9 22 "GhostPane$Tape" "length" "I"] : List Cond) ++ wsX90)
set_option maxHeartbeats 4000000 in
set_option maxRecDepth 100000 in
theorem sX9_hasRoom (l : Launch) (D : va_G) (cy : Nat → ClassId) (sz : Nat) (xa : Nat → Nat) (tape_length : Int32) (tape_fault : Int32) (tape_faultPlace : Int32) (tape_wordFrom : Int32) (tape_wordTo : Int32) (tape_at : Int32) (f_tape_length : sp_in tape_length 0 600) (f_tape_wordFrom : sp_in tape_wordFrom 0 600) (f_tape_wordTo : sp_in tape_wordTo 0 600) (f_tape_at : sp_in tape_at 0 600) : Met l yX9_hasRoom v_sX9_hasRoom ({ frames := 0, cells := 0, slots := 0, locals := 0 } : Room) (va_Pc [.ref (xa 1)] (gp_B D cy sz [(o_tape xa tape_length tape_fault tape_faultPlace tape_wordFrom tape_wordTo tape_at)])) (va_Qi (fun (r : Int32) (u : Unit) => (r = 0 ∨ r = 1) ∧ ((r = 1 ∧ tape_length ≤ 580) ∨ (r = 0 ∧ ¬ tape_length ≤ 580))) (fun u => gp_E D (va_A [(o_tape xa tape_length tape_fault tape_faultPlace tape_wordFrom tape_wordTo tape_at)] sz) [(o_tape xa tape_length tape_fault tape_faultPlace tape_wordFrom tape_wordTo tape_at)]) (va_A [(o_tape xa tape_length tape_fault tape_faultPlace tape_wordFrom tape_wordTo tape_at)] sz)) 0 0 (va_A [(o_tape xa tape_length tape_fault tape_faultPlace tape_wordFrom tape_wordTo tape_at)] sz) := by
  refine gp_met (Qc := fun A => va_Qi (fun (r : Int32) (u : Unit) => (r = 0 ∨ r = 1) ∧ ((r = 1 ∧ tape_length ≤ 580) ∨ (r = 0 ∧ ¬ tape_length ≤ 580))) (fun u => gp_E D A [(o_tape xa tape_length tape_fault tape_faultPlace tape_wordFrom tape_wordTo tape_at)]) A) (cc := cX9_hasRoom) (maxL := 1) (ret := (some .boolean)) (by decide) rfl (Nat.le_of_ble_eq_true rfl) ?_
  intro p e s m below meth c A ls H hx hb hml hr hlocks hts hown hin hK hN hS hP hD hA hl
  have hown : s.vm.findClass RX9 = some m.cls := hown
  have hl : lv_has ls 1 [(0, .ref (xa 1))] := hl
  have hiX9 : ∀ w ∈ u_ws RX9 TX9 7, w ∈ v_sX9_hasRoom := fun _ h => List.mem_cons_of_mem _ (List.mem_append_right _ h)
  refine lv_aload_n hx hb dX9_hasRoom_0 rfl (lv_at hl 0 rfl) ?_
  refine va_get (D := D) (ci := 9) (v := .int tape_length) (C := RX9) (T := TX9) (N := 7) hx hb hts hiX9 hown hK hP 0 rfl rfl 0 (by decide) (hts (.fieldLink RX9 22 "GhostPane$Tape" "length" "I") (List.mem_of_getElem? (i := 1) rfl)) (fun _ h9 => h9) rfl dX9_hasRoom_1 ?_
  refine lv_bipush (v := 20) hx hb dX9_hasRoom_4 (by decide) ?_
  refine lv_iadd hx hb dX9_hasRoom_6 ?_
  refine lv_sipush (v := 600) hx hb dX9_hasRoom_7 (by decide) ?_
  refine lv_icmp_gt (tgt := 17) hx hb dX9_hasRoom_10 (by decide) (fun c_1 => ?_) (fun c_1 => ?_)
  · refine lv_iconst (v := 0) hx hb dX9_hasRoom_17 (by decide) ?_
    exact W.zret (v := 0) hx hb hr narrow_b0 (fun t ht hW => ⟨⟨0, (), rfl, ⟨(show (0 : Int32) = 0 ∨ (0 : Int32) = 1 by decide), (lf_sX9_hasRoom_1 tape_length f_tape_length c_1)⟩, gp_end ht hP hD⟩, hS.F ht⟩) hS.2.2 dX9_hasRoom_18
  · refine lv_iconst (v := 1) hx hb dX9_hasRoom_13 (by decide) ?_
    refine lv_goto (tgt := 18) hx hb dX9_hasRoom_14 (by decide) ?_
    exact W.zret (v := 1) hx hb hr narrow_b1 (fun t ht hW => ⟨⟨1, (), rfl, ⟨(show (1 : Int32) = 0 ∨ (1 : Int32) = 1 by decide), (lf_sX9_hasRoom_2 tape_length f_tape_length c_1)⟩, gp_end ht hP hD⟩, hS.F ht⟩) hS.2.2 dX9_hasRoom_18

theorem lf_sX9_append_1 (tape_length : Int32) (sh : Int32) (tl : Int32) (f_tape_length : sp_in tape_length 0 600) (h1 : sp_in tl 0 600) (h2 : sp_in sh (-8) 24) (h3 : tape_length ≤ 596 → 8 * tl + sh = 8 * tape_length + 24) (c_1 : sh < 0) : tape_length ≤ 596 → tl = tape_length + 4 := by
  first | grind | (simp only [sp_in, sp_pl, sp_far, sp_two] at *; grind)
theorem lf_sX9_append_2 (tape_length : Int32) (sh : Int32) (tl : Int32) (f_tape_length : sp_in tape_length 0 600) (h1 : sp_in tl 0 600) (h2 : sp_in sh (-8) 24) (h3 : tape_length ≤ 596 → 8 * tl + sh = 8 * tape_length + 24) (c_1 : ¬ sh < 0) (c_2 : 600 ≤ tl) : tape_length ≤ 596 → tl = tape_length + 4 := by
  first | grind | (simp only [sp_in, sp_pl, sp_far, sp_two] at *; grind)
theorem lf_sX9_append_3 (tape_length : Int32) (sh : Int32) (tl : Int32) (f_tape_length : sp_in tape_length 0 600) (h1 : sp_in tl 0 600) (h2 : sp_in sh (-8) 24) (h3 : tape_length ≤ 596 → 8 * tl + sh = 8 * tape_length + 24) (c_1 : ¬ sh < 0) (c_2 : ¬ 600 ≤ tl) : sp_in tl 0 599 := by
  first | grind | (simp only [sp_in, sp_pl, sp_far, sp_two] at *; grind)
theorem lf_sX9_append_4 (tape_length : Int32) (sh : Int32) (tl : Int32) (f_tape_length : sp_in tape_length 0 600) (h1 : sp_in tl 0 600) (h2 : sp_in sh (-8) 24) (h3 : tape_length ≤ 596 → 8 * tl + sh = 8 * tape_length + 24) (c_1 : ¬ sh < 0) (c_2 : ¬ 600 ≤ tl) : sp_in (tl + 1) 0 600 := by
  first | grind | (simp only [sp_in, sp_pl, sp_far, sp_two] at *; grind)
theorem lf_sX9_append_5 (tape_length : Int32) (sh : Int32) (tl : Int32) (f_tape_length : sp_in tape_length 0 600) (h1 : sp_in tl 0 600) (h2 : sp_in sh (-8) 24) (h3 : tape_length ≤ 596 → 8 * tl + sh = 8 * tape_length + 24) (c_1 : ¬ sh < 0) (c_2 : ¬ 600 ≤ tl) : sp_in (sh + (-8)) (-8) 24 := by
  first | grind | (simp only [sp_in, sp_pl, sp_far, sp_two] at *; grind)
theorem lf_sX9_append_6 (tape_length : Int32) (sh : Int32) (tl : Int32) (f_tape_length : sp_in tape_length 0 600) (h1 : sp_in tl 0 600) (h2 : sp_in sh (-8) 24) (h3 : tape_length ≤ 596 → 8 * tl + sh = 8 * tape_length + 24) (c_1 : ¬ sh < 0) (c_2 : ¬ 600 ≤ tl) : tape_length ≤ 596 → 8 * (tl + 1) + (sh + (-8)) = 8 * tape_length + 24 := by
  first | grind | (simp only [sp_in, sp_pl, sp_far, sp_two] at *; grind)
theorem lf_sX9_append_7 (tape_length : Int32) (f_tape_length : sp_in tape_length 0 600) : tape_length ≤ 596 → 8 * tape_length + 24 = 8 * tape_length + 24 := by
  first | grind | (simp only [sp_in, sp_pl, sp_far, sp_two] at *; grind)
def v_sX9_append : List Cond := .code yX9_append cX9_append 3 none :: (([.fieldLink RX9 22 "GhostPane$Tape" "length" "I", .fieldLink RX9 18 "GhostPane$Tape" "bytes" "[B"] : List Cond) ++ wsX90)
set_option maxHeartbeats 4000000 in
set_option maxRecDepth 100000 in
theorem sX9_append (l : Launch) (D : va_G) (cy : Nat → ClassId) (sz : Nat) (xa : Nat → Nat) (tape_length : Int32) (tape_fault : Int32) (tape_faultPlace : Int32) (tape_wordFrom : Int32) (tape_wordTo : Int32) (tape_at : Int32) (bytes : Nat → Int32) (number : Int32) (f_tape_length : sp_in tape_length 0 600) (f_tape_wordFrom : sp_in tape_wordFrom 0 600) (f_tape_wordTo : sp_in tape_wordTo 0 600) (f_tape_at : sp_in tape_at 0 600) : Met l yX9_append v_sX9_append ({ frames := 0, cells := 0, slots := 0, locals := 0 } : Room) (va_Pc [.ref (xa 1), .int number] (gp_B D cy sz [(o_tape xa tape_length tape_fault tape_faultPlace tape_wordFrom tape_wordTo tape_at), (aI (xa 2) (cy 0) 600 bytes)])) (va_Qv (fun (u : (Int32) × (Nat → Int32)) => (sp_in u.1 0 600) ∧ (tape_length ≤ 596 → u.1 = tape_length + 4)) (fun u => gp_E D (va_A [(o_tape xa tape_length tape_fault tape_faultPlace tape_wordFrom tape_wordTo tape_at), (aI (xa 2) (cy 0) 600 bytes)] sz) [(o_tape xa u.1 tape_fault tape_faultPlace tape_wordFrom tape_wordTo tape_at), (aI (xa 2) (cy 0) 600 u.2)]) (va_A [(o_tape xa tape_length tape_fault tape_faultPlace tape_wordFrom tape_wordTo tape_at), (aI (xa 2) (cy 0) 600 bytes)] sz)) 0 0 (va_A [(o_tape xa tape_length tape_fault tape_faultPlace tape_wordFrom tape_wordTo tape_at), (aI (xa 2) (cy 0) 600 bytes)] sz) := by
  refine gp_met (Qc := fun A => va_Qv (fun (u : (Int32) × (Nat → Int32)) => (sp_in u.1 0 600) ∧ (tape_length ≤ 596 → u.1 = tape_length + 4)) (fun u => gp_E D A [(o_tape xa u.1 tape_fault tape_faultPlace tape_wordFrom tape_wordTo tape_at), (aI (xa 2) (cy 0) 600 u.2)]) A) (cc := cX9_append) (maxL := 3) (ret := none) (by decide) rfl (Nat.le_of_ble_eq_true rfl) ?_
  intro p e s m below meth c A ls H hx hb hml hr hlocks hts hown hin hK hN hS hP hD hA hl
  have hown : s.vm.findClass RX9 = some m.cls := hown
  have hl : lv_has ls 3 [(0, .ref (xa 1)), (1, .int number)] := hl
  have hiX9 : ∀ w ∈ u_ws RX9 TX9 7, w ∈ v_sX9_append := fun _ h => List.mem_cons_of_mem _ (List.mem_append_right _ h)
  refine lv_bipush (v := 24) hx hb dX9_append_0 (by decide) ?_
  refine lv_istore_n (lv' := [(2, .int 24), (0, .ref (xa 1)), (1, .int number)]) hx hb dX9_append_2 rfl hl (by decide) rfl (fun ls hl => ?_)
  have key3 : ∀ (fu : Nat) (sh : Int32) (tl : Int32) (tb : Nat → Int32) (H : Heap) (locs : List Loc) (ls : Array Slot), (h1 : sp_in tl 0 600) → (h2 : sp_in sh (-8) 24) → (h3 : tape_length ≤ 596 → 8 * tl + sh = 8 * tape_length + 24) → (sh.toInt + 8).toNat < fu → va_P D vwCl [(o_tape xa tl tape_fault tape_faultPlace tape_wordFrom tape_wordTo tape_at), (aI (xa 2) (cy 0) 600 tb)] H → va_D A [(o_tape xa tl tape_fault tape_faultPlace tape_wordFrom tape_wordTo tape_at), (aI (xa 2) (cy 0) 600 tb)] → va_S A s.heap H locs → lv_has ls 3 [(2, .int sh), (0, .ref (xa 1)), (1, .int number)] → W p l e (headSpec v_sX9_append (({ frames := 0, cells := 0, slots := 0, locals := 0 } : Room))).room s m [.ref (xa 1), .int number].toArray below meth c H locs 0 0 (MQ below (va_Qv (fun (u : (Int32) × (Nat → Int32)) => (sp_in u.1 0 600) ∧ (tape_length ≤ 596 → u.1 = tape_length + 4)) (fun u => gp_E D A [(o_tape xa u.1 tape_fault tape_faultPlace tape_wordFrom tape_wordTo tape_at), (aI (xa 2) (cy 0) 600 u.2)]) A) [.ref (xa 1), .int number].toArray s 0 0 A) (F0 m 3 ls []) := by
    intro fu
    induction fu with
    | zero => intro sh tl tb H locs ls h1 h2 h3 hfu; exact absurd hfu (Nat.not_lt_zero _)
    | succ fu ih =>
      intro sh tl tb H locs ls h1 h2 h3 hfu hP hD hS hl
      refine lv_iload_n hx hb dX9_append_3 rfl (lv_at hl 0 rfl) ?_
      refine lv_if_lt (tgt := 46) hx hb dX9_append_4 (by decide) (fun c_1 => ?_) (fun c_1 => ?_)
      · exact W.vret hx hb hr (fun t ht hW => ⟨⟨⟨tl, tb⟩, rfl, ⟨h1, (lf_sX9_append_1 tape_length sh tl f_tape_length h1 h2 h3 c_1)⟩, gp_end ht hP hD⟩, hS.F ht⟩) hS.2.2 dX9_append_46
      · refine lv_aload_n hx hb dX9_append_7 rfl (lv_at hl 1 rfl) ?_
        refine va_get (D := D) (ci := 9) (v := .int tl) (C := RX9) (T := TX9) (N := 7) hx hb hts hiX9 hown hK hP 0 rfl rfl 0 (by decide) (hts (.fieldLink RX9 22 "GhostPane$Tape" "length" "I") (List.mem_of_getElem? (i := 1) rfl)) (fun _ h9 => h9) rfl dX9_append_8 ?_
        refine lv_sipush (v := 600) hx hb dX9_append_11 (by decide) ?_
        refine lv_icmp_ge (tgt := 46) hx hb dX9_append_14 (by decide) (fun c_2 => ?_) (fun c_2 => ?_)
        · exact W.vret hx hb hr (fun t ht hW => ⟨⟨⟨tl, tb⟩, rfl, ⟨h1, (lf_sX9_append_2 tape_length sh tl f_tape_length h1 h2 h3 c_1 c_2)⟩, gp_end ht hP hD⟩, hS.F ht⟩) hS.2.2 dX9_append_46
        · refine lv_aload_n hx hb dX9_append_17 rfl (lv_at hl 1 rfl) ?_
          refine va_get (D := D) (ci := 9) (v := .ref (xa 2)) (C := RX9) (T := TX9) (N := 7) hx hb hts hiX9 hown hK hP 0 rfl rfl 6 (by decide) (hts (.fieldLink RX9 18 "GhostPane$Tape" "bytes" "[B") (List.mem_of_getElem? (i := 2) rfl)) (fun _ h9 => h9) rfl dX9_append_18 ?_
          refine lv_aload_n hx hb dX9_append_21 rfl (lv_at hl 1 rfl) ?_
          refine va_get (D := D) (ci := 9) (v := .int tl) (C := RX9) (T := TX9) (N := 7) hx hb hts hiX9 hown hK hP 0 rfl rfl 0 (by decide) (hts (.fieldLink RX9 22 "GhostPane$Tape" "length" "I") (List.mem_of_getElem? (i := 1) rfl)) (fun _ h9 => h9) rfl dX9_append_22 ?_
          refine lv_iload_n hx hb dX9_append_25 rfl (lv_at hl 2 rfl) ?_
          refine lv_iload_n hx hb dX9_append_26 rfl (lv_at hl 0 rfl) ?_
          refine lv_iushr (v := (number.toUInt32 >>> ((sh : Int32).toUInt32 &&& Int32.toUInt32 31)).toInt32) hx hb dX9_append_27 rfl ?_
          refine lv_i2b (v := ((number.toUInt32 >>> ((sh : Int32).toUInt32 &&& Int32.toUInt32 31)).toInt32).toInt8.toInt32) hx hb dX9_append_28 rfl ?_
          refine gp_fi (fun y_3 => ?_)
          refine va_bast hx hb hK hP hD hS 1 0 rfl rfl (gp_in (hi := 599) (lf_sX9_append_3 tape_length sh tl f_tape_length h1 h2 h3 c_1 c_2) (by decide)) dX9_append_29 (fun H locs hP hD hS => ?_)
          obtain ⟨tb_4, hP, hD⟩ : ∃ tb_4 : Nat → Int32, va_P D vwCl [(o_tape xa tl tape_fault tape_faultPlace tape_wordFrom tape_wordTo tape_at), (aI (xa 2) (cy 0) 600 tb_4)] H ∧ va_D A [(o_tape xa tl tape_fault tape_faultPlace tape_wordFrom tape_wordTo tape_at), (aI (xa 2) (cy 0) 600 tb_4)] := ⟨_, hP, hD⟩
          refine lv_aload_n hx hb dX9_append_30 rfl (lv_at hl 1 rfl) ?_
          refine lv_dup hx hb dX9_append_31 rfl ?_
          refine va_get (D := D) (ci := 9) (v := .int tl) (C := RX9) (T := TX9) (N := 7) hx hb hts hiX9 hown hK hP 0 rfl rfl 0 (by decide) (hts (.fieldLink RX9 22 "GhostPane$Tape" "length" "I") (List.mem_of_getElem? (i := 1) rfl)) (fun _ h9 => h9) rfl dX9_append_32 ?_
          refine lv_iconst (v := 1) hx hb dX9_append_35 (by decide) ?_
          refine lv_iadd hx hb dX9_append_36 ?_
          refine va_put (D := D) (ci := 9) (v := .int (tl + 1)) (ty := .int) (C := RX9) (T := TX9) (N := 7) hx hb hts hiX9 tyX9 tyX9_ok nmX9 hown hK hP hD hS 0 rfl rfl 0 (by decide) (hts (.fieldLink RX9 22 "GhostPane$Tape" "length" "I") (List.mem_of_getElem? (i := 1) rfl)) (fun _ h9 => h9) rfl (by decide +kernel) rfl rfl (Nat.le_of_ble_eq_true rfl) dX9_append_37 (fun H locs hP hD hS => ?_)
          have hP : va_P D vwCl [(o_tape xa (tl + 1) tape_fault tape_faultPlace tape_wordFrom tape_wordTo tape_at), (aI (xa 2) (cy 0) 600 tb_4)] H := hP
          have hD := gp_sD hP hD
          refine lv_iinc (v := (sh + (-8))) (lv' := [(2, .int (sh + (-8))), (0, .ref (xa 1)), (1, .int number)]) hx hb dX9_append_40 hl (k := 0) rfl rfl (by decide) rfl (fun ls hl => ?_)
          refine lv_goto (tgt := 3) hx hb dX9_append_43 (by decide) ?_
          exact ih (sh + (-8)) (tl + 1) tb_4 H locs ls (lf_sX9_append_4 tape_length sh tl f_tape_length h1 h2 h3 c_1 c_2) (lf_sX9_append_5 tape_length sh tl f_tape_length h1 h2 h3 c_1 c_2) (lf_sX9_append_6 tape_length sh tl f_tape_length h1 h2 h3 c_1 c_2) (Nat.lt_of_lt_of_le (gp_mdec8 c_1) (Nat.le_of_lt_succ hfu)) hP hD hS (lv_sub hl [0, 1, 2] rfl)
  exact key3 (((24 : Int32).toInt + 8).toNat + 1) 24 tape_length bytes H [] ls f_tape_length (show sp_in 24 (-8) 24 by decide) (lf_sX9_append_7 tape_length f_tape_length) (Nat.lt_succ_self _) hP hD hS (lv_sub hl [0, 1, 2] rfl)

def v_sX9_rewind : List Cond := .code yX9_rewind cX9_rewind 1 none :: (([.fieldLink RX9 25 "GhostPane$Tape" "at" "I", .fieldLink RX9 9 "GhostPane$Tape" "fault" "I", .fieldLink RX9 15 "GhostPane$Tape" "faultPlace" "I"] : List Cond) ++ wsX90)
set_option maxHeartbeats 4000000 in
set_option maxRecDepth 100000 in
theorem sX9_rewind (l : Launch) (D : va_G) (cy : Nat → ClassId) (sz : Nat) (xa : Nat → Nat) (tape_length : Int32) (tape_fault : Int32) (tape_faultPlace : Int32) (tape_wordFrom : Int32) (tape_wordTo : Int32) (tape_at : Int32) (f_tape_length : sp_in tape_length 0 600) (f_tape_wordFrom : sp_in tape_wordFrom 0 600) (f_tape_wordTo : sp_in tape_wordTo 0 600) (f_tape_at : sp_in tape_at 0 600) : Met l yX9_rewind v_sX9_rewind ({ frames := 0, cells := 0, slots := 0, locals := 0 } : Room) (va_Pc [.ref (xa 1)] (gp_B D cy sz [(o_tape xa tape_length tape_fault tape_faultPlace tape_wordFrom tape_wordTo tape_at)])) (va_Qv (fun (u : (Int32) × (Int32) × (Int32)) => (sp_in u.2.2 0 600) ∧ (u.2.2 = 0 ∧ u.1 = 0)) (fun u => gp_E D (va_A [(o_tape xa tape_length tape_fault tape_faultPlace tape_wordFrom tape_wordTo tape_at)] sz) [(o_tape xa tape_length u.1 u.2.1 tape_wordFrom tape_wordTo u.2.2)]) (va_A [(o_tape xa tape_length tape_fault tape_faultPlace tape_wordFrom tape_wordTo tape_at)] sz)) 0 0 (va_A [(o_tape xa tape_length tape_fault tape_faultPlace tape_wordFrom tape_wordTo tape_at)] sz) := by
  refine gp_met (Qc := fun A => va_Qv (fun (u : (Int32) × (Int32) × (Int32)) => (sp_in u.2.2 0 600) ∧ (u.2.2 = 0 ∧ u.1 = 0)) (fun u => gp_E D A [(o_tape xa tape_length u.1 u.2.1 tape_wordFrom tape_wordTo u.2.2)]) A) (cc := cX9_rewind) (maxL := 1) (ret := none) (by decide) rfl (Nat.le_of_ble_eq_true rfl) ?_
  intro p e s m below meth c A ls H hx hb hml hr hlocks hts hown hin hK hN hS hP hD hA hl
  have hown : s.vm.findClass RX9 = some m.cls := hown
  have hl : lv_has ls 1 [(0, .ref (xa 1))] := hl
  have hiX9 : ∀ w ∈ u_ws RX9 TX9 7, w ∈ v_sX9_rewind := fun _ h => List.mem_cons_of_mem _ (List.mem_append_right _ h)
  refine lv_aload_n hx hb dX9_rewind_0 rfl (lv_at hl 0 rfl) ?_
  refine lv_iconst (v := 0) hx hb dX9_rewind_1 (by decide) ?_
  refine va_put (D := D) (ci := 9) (v := .int 0) (ty := .int) (C := RX9) (T := TX9) (N := 7) hx hb hts hiX9 tyX9 tyX9_ok nmX9 hown hK hP hD hS 0 rfl rfl 5 (by decide) (hts (.fieldLink RX9 25 "GhostPane$Tape" "at" "I") (List.mem_of_getElem? (i := 1) rfl)) (fun _ h9 => h9) rfl (by decide +kernel) rfl rfl (Nat.le_of_ble_eq_true rfl) dX9_rewind_2 (fun H locs hP hD hS => ?_)
  have hP : va_P D vwCl [(o_tape xa tape_length tape_fault tape_faultPlace tape_wordFrom tape_wordTo 0)] H := hP
  have hD := gp_sD hP hD
  refine lv_aload_n hx hb dX9_rewind_5 rfl (lv_at hl 0 rfl) ?_
  refine lv_iconst (v := 0) hx hb dX9_rewind_6 (by decide) ?_
  refine va_put (D := D) (ci := 9) (v := .int 0) (ty := .int) (C := RX9) (T := TX9) (N := 7) hx hb hts hiX9 tyX9 tyX9_ok nmX9 hown hK hP hD hS 0 rfl rfl 1 (by decide) (hts (.fieldLink RX9 9 "GhostPane$Tape" "fault" "I") (List.mem_of_getElem? (i := 2) rfl)) (fun _ h9 => h9) rfl (by decide +kernel) rfl rfl (Nat.le_of_ble_eq_true rfl) dX9_rewind_7 (fun H locs hP hD hS => ?_)
  have hP : va_P D vwCl [(o_tape xa tape_length 0 tape_faultPlace tape_wordFrom tape_wordTo 0)] H := hP
  have hD := gp_sD hP hD
  refine lv_aload_n hx hb dX9_rewind_10 rfl (lv_at hl 0 rfl) ?_
  refine lv_iconst (v := (-1)) hx hb dX9_rewind_11 (by decide) ?_
  refine va_put (D := D) (ci := 9) (v := .int (-1)) (ty := .int) (C := RX9) (T := TX9) (N := 7) hx hb hts hiX9 tyX9 tyX9_ok nmX9 hown hK hP hD hS 0 rfl rfl 2 (by decide) (hts (.fieldLink RX9 15 "GhostPane$Tape" "faultPlace" "I") (List.mem_of_getElem? (i := 3) rfl)) (fun _ h9 => h9) rfl (by decide +kernel) rfl rfl (Nat.le_of_ble_eq_true rfl) dX9_rewind_12 (fun H locs hP hD hS => ?_)
  have hP : va_P D vwCl [(o_tape xa tape_length 0 (-1) tape_wordFrom tape_wordTo 0)] H := hP
  have hD := gp_sD hP hD
  exact W.vret hx hb hr (fun t ht hW => ⟨⟨⟨0, (-1), 0⟩, rfl, ⟨(show sp_in 0 0 600 by decide), (show 0 = 0 ∧ 0 = 0 by decide)⟩, gp_end ht hP hD⟩, hS.F ht⟩) hS.2.2 dX9_rewind_15

def v_sX9_fail : List Cond := .code yX9_fail cX9_fail 3 none :: (([.fieldLink RX9 9 "GhostPane$Tape" "fault" "I", .fieldLink RX9 15 "GhostPane$Tape" "faultPlace" "I"] : List Cond) ++ wsX90)
set_option maxHeartbeats 4000000 in
set_option maxRecDepth 100000 in
theorem sX9_fail (l : Launch) (D : va_G) (cy : Nat → ClassId) (sz : Nat) (xa : Nat → Nat) (tape_length : Int32) (tape_fault : Int32) (tape_faultPlace : Int32) (tape_wordFrom : Int32) (tape_wordTo : Int32) (tape_at : Int32) (kind : Int32) (place : Int32) (f_tape_length : sp_in tape_length 0 600) (f_tape_wordFrom : sp_in tape_wordFrom 0 600) (f_tape_wordTo : sp_in tape_wordTo 0 600) (f_tape_at : sp_in tape_at 0 600) (q0 : ¬ kind = 0) : Met l yX9_fail v_sX9_fail ({ frames := 0, cells := 0, slots := 0, locals := 0 } : Room) (va_Pc [.ref (xa 1), .int kind, .int place] (gp_B D cy sz [(o_tape xa tape_length tape_fault tape_faultPlace tape_wordFrom tape_wordTo tape_at)])) (va_Qv (fun (u : (Int32) × (Int32)) => (¬ u.1 = 0)) (fun u => gp_E D (va_A [(o_tape xa tape_length tape_fault tape_faultPlace tape_wordFrom tape_wordTo tape_at)] sz) [(o_tape xa tape_length u.1 u.2 tape_wordFrom tape_wordTo tape_at)]) (va_A [(o_tape xa tape_length tape_fault tape_faultPlace tape_wordFrom tape_wordTo tape_at)] sz)) 0 0 (va_A [(o_tape xa tape_length tape_fault tape_faultPlace tape_wordFrom tape_wordTo tape_at)] sz) := by
  refine gp_met (Qc := fun A => va_Qv (fun (u : (Int32) × (Int32)) => (¬ u.1 = 0)) (fun u => gp_E D A [(o_tape xa tape_length u.1 u.2 tape_wordFrom tape_wordTo tape_at)]) A) (cc := cX9_fail) (maxL := 3) (ret := none) (by decide) rfl (Nat.le_of_ble_eq_true rfl) ?_
  intro p e s m below meth c A ls H hx hb hml hr hlocks hts hown hin hK hN hS hP hD hA hl
  have hown : s.vm.findClass RX9 = some m.cls := hown
  have hl : lv_has ls 3 [(0, .ref (xa 1)), (1, .int kind), (2, .int place)] := hl
  have hiX9 : ∀ w ∈ u_ws RX9 TX9 7, w ∈ v_sX9_fail := fun _ h => List.mem_cons_of_mem _ (List.mem_append_right _ h)
  refine lv_aload_n hx hb dX9_fail_0 rfl (lv_at hl 0 rfl) ?_
  refine va_get (D := D) (ci := 9) (v := .int tape_fault) (C := RX9) (T := TX9) (N := 7) hx hb hts hiX9 hown hK hP 0 rfl rfl 1 (by decide) (hts (.fieldLink RX9 9 "GhostPane$Tape" "fault" "I") (List.mem_of_getElem? (i := 1) rfl)) (fun _ h9 => h9) rfl dX9_fail_1 ?_
  refine lv_if_ne (tgt := 17) hx hb dX9_fail_4 (by decide) (fun c_1 => ?_) (fun c_1 => ?_)
  · exact W.vret hx hb hr (fun t ht hW => ⟨⟨⟨tape_fault, tape_faultPlace⟩, rfl, c_1, gp_end ht hP hD⟩, hS.F ht⟩) hS.2.2 dX9_fail_17
  · refine lv_aload_n hx hb dX9_fail_7 rfl (lv_at hl 0 rfl) ?_
    refine lv_iload_n hx hb dX9_fail_8 rfl (lv_at hl 1 rfl) ?_
    refine va_put (D := D) (ci := 9) (v := .int kind) (ty := .int) (C := RX9) (T := TX9) (N := 7) hx hb hts hiX9 tyX9 tyX9_ok nmX9 hown hK hP hD hS 0 rfl rfl 1 (by decide) (hts (.fieldLink RX9 9 "GhostPane$Tape" "fault" "I") (List.mem_of_getElem? (i := 1) rfl)) (fun _ h9 => h9) rfl (by decide +kernel) rfl rfl (Nat.le_of_ble_eq_true rfl) dX9_fail_9 (fun H locs hP hD hS => ?_)
    have hP : va_P D vwCl [(o_tape xa tape_length kind tape_faultPlace tape_wordFrom tape_wordTo tape_at)] H := hP
    have hD := gp_sD hP hD
    refine lv_aload_n hx hb dX9_fail_12 rfl (lv_at hl 0 rfl) ?_
    refine lv_iload_n hx hb dX9_fail_13 rfl (lv_at hl 2 rfl) ?_
    refine va_put (D := D) (ci := 9) (v := .int place) (ty := .int) (C := RX9) (T := TX9) (N := 7) hx hb hts hiX9 tyX9 tyX9_ok nmX9 hown hK hP hD hS 0 rfl rfl 2 (by decide) (hts (.fieldLink RX9 15 "GhostPane$Tape" "faultPlace" "I") (List.mem_of_getElem? (i := 2) rfl)) (fun _ h9 => h9) rfl (by decide +kernel) rfl rfl (Nat.le_of_ble_eq_true rfl) dX9_fail_14 (fun H locs hP hD hS => ?_)
    have hP : va_P D vwCl [(o_tape xa tape_length kind place tape_wordFrom tape_wordTo tape_at)] H := hP
    have hD := gp_sD hP hD
    exact W.vret hx hb hr (fun t ht hW => ⟨⟨⟨kind, place⟩, rfl, q0, gp_end ht hP hD⟩, hS.F ht⟩) hS.2.2 dX9_fail_17

theorem lf_sX9_isRead_1 (tape_length : Int32) (tape_at : Int32) (f_tape_length : sp_in tape_length 0 600) (f_tape_at : sp_in tape_at 0 600) (c_1 : tape_at < tape_length) : ((0 : Int32) = 1 ∧ tape_length ≤ tape_at) ∨ ((0 : Int32) = 0 ∧ tape_at < tape_length) := by
  first | grind | (simp only [sp_in, sp_pl, sp_far, sp_two] at *; grind)
theorem lf_sX9_isRead_2 (tape_length : Int32) (tape_at : Int32) (f_tape_length : sp_in tape_length 0 600) (f_tape_at : sp_in tape_at 0 600) (c_1 : ¬ tape_at < tape_length) : ((1 : Int32) = 1 ∧ tape_length ≤ tape_at) ∨ ((1 : Int32) = 0 ∧ tape_at < tape_length) := by
  first | grind | (simp only [sp_in, sp_pl, sp_far, sp_two] at *; grind)
def v_sX9_isRead : List Cond := .code yX9_isRead cX9_isRead 1 (some .boolean) :: (([.fieldLink RX9 25 "GhostPane$Tape" "at" "I", .fieldLink RX9 22 "GhostPane$Tape" "length" "I"] : List Cond) ++ wsX90)
set_option maxHeartbeats 4000000 in
set_option maxRecDepth 100000 in
theorem sX9_isRead (l : Launch) (D : va_G) (cy : Nat → ClassId) (sz : Nat) (xa : Nat → Nat) (tape_length : Int32) (tape_fault : Int32) (tape_faultPlace : Int32) (tape_wordFrom : Int32) (tape_wordTo : Int32) (tape_at : Int32) (f_tape_length : sp_in tape_length 0 600) (f_tape_wordFrom : sp_in tape_wordFrom 0 600) (f_tape_wordTo : sp_in tape_wordTo 0 600) (f_tape_at : sp_in tape_at 0 600) : Met l yX9_isRead v_sX9_isRead ({ frames := 0, cells := 0, slots := 0, locals := 0 } : Room) (va_Pc [.ref (xa 1)] (gp_B D cy sz [(o_tape xa tape_length tape_fault tape_faultPlace tape_wordFrom tape_wordTo tape_at)])) (va_Qi (fun (r : Int32) (u : Unit) => (r = 0 ∨ r = 1) ∧ ((r = 1 ∧ tape_length ≤ tape_at) ∨ (r = 0 ∧ tape_at < tape_length))) (fun u => gp_E D (va_A [(o_tape xa tape_length tape_fault tape_faultPlace tape_wordFrom tape_wordTo tape_at)] sz) [(o_tape xa tape_length tape_fault tape_faultPlace tape_wordFrom tape_wordTo tape_at)]) (va_A [(o_tape xa tape_length tape_fault tape_faultPlace tape_wordFrom tape_wordTo tape_at)] sz)) 0 0 (va_A [(o_tape xa tape_length tape_fault tape_faultPlace tape_wordFrom tape_wordTo tape_at)] sz) := by
  refine gp_met (Qc := fun A => va_Qi (fun (r : Int32) (u : Unit) => (r = 0 ∨ r = 1) ∧ ((r = 1 ∧ tape_length ≤ tape_at) ∨ (r = 0 ∧ tape_at < tape_length))) (fun u => gp_E D A [(o_tape xa tape_length tape_fault tape_faultPlace tape_wordFrom tape_wordTo tape_at)]) A) (cc := cX9_isRead) (maxL := 1) (ret := (some .boolean)) (by decide) rfl (Nat.le_of_ble_eq_true rfl) ?_
  intro p e s m below meth c A ls H hx hb hml hr hlocks hts hown hin hK hN hS hP hD hA hl
  have hown : s.vm.findClass RX9 = some m.cls := hown
  have hl : lv_has ls 1 [(0, .ref (xa 1))] := hl
  have hiX9 : ∀ w ∈ u_ws RX9 TX9 7, w ∈ v_sX9_isRead := fun _ h => List.mem_cons_of_mem _ (List.mem_append_right _ h)
  refine lv_aload_n hx hb dX9_isRead_0 rfl (lv_at hl 0 rfl) ?_
  refine va_get (D := D) (ci := 9) (v := .int tape_at) (C := RX9) (T := TX9) (N := 7) hx hb hts hiX9 hown hK hP 0 rfl rfl 5 (by decide) (hts (.fieldLink RX9 25 "GhostPane$Tape" "at" "I") (List.mem_of_getElem? (i := 1) rfl)) (fun _ h9 => h9) rfl dX9_isRead_1 ?_
  refine lv_aload_n hx hb dX9_isRead_4 rfl (lv_at hl 0 rfl) ?_
  refine va_get (D := D) (ci := 9) (v := .int tape_length) (C := RX9) (T := TX9) (N := 7) hx hb hts hiX9 hown hK hP 0 rfl rfl 0 (by decide) (hts (.fieldLink RX9 22 "GhostPane$Tape" "length" "I") (List.mem_of_getElem? (i := 2) rfl)) (fun _ h9 => h9) rfl dX9_isRead_5 ?_
  refine lv_icmp_lt (tgt := 15) hx hb dX9_isRead_8 (by decide) (fun c_1 => ?_) (fun c_1 => ?_)
  · refine lv_iconst (v := 0) hx hb dX9_isRead_15 (by decide) ?_
    exact W.zret (v := 0) hx hb hr narrow_b0 (fun t ht hW => ⟨⟨0, (), rfl, ⟨(show (0 : Int32) = 0 ∨ (0 : Int32) = 1 by decide), (lf_sX9_isRead_1 tape_length tape_at f_tape_length f_tape_at c_1)⟩, gp_end ht hP hD⟩, hS.F ht⟩) hS.2.2 dX9_isRead_16
  · refine lv_iconst (v := 1) hx hb dX9_isRead_11 (by decide) ?_
    refine lv_goto (tgt := 16) hx hb dX9_isRead_12 (by decide) ?_
    exact W.zret (v := 1) hx hb hr narrow_b1 (fun t ht hW => ⟨⟨1, (), rfl, ⟨(show (1 : Int32) = 0 ∨ (1 : Int32) = 1 by decide), (lf_sX9_isRead_2 tape_length tape_at f_tape_length f_tape_at c_1)⟩, gp_end ht hP hD⟩, hS.F ht⟩) hS.2.2 dX9_isRead_16

theorem lf_sX9_place_1 (tape_at : Int32) (f_tape_at : sp_in tape_at 0 600) : tape_at = tape_at := by
  first | grind | (simp only [sp_in, sp_pl, sp_far, sp_two] at *; grind)
def v_sX9_place : List Cond := .code yX9_place cX9_place 1 (some .int) :: (([.fieldLink RX9 25 "GhostPane$Tape" "at" "I"] : List Cond) ++ wsX90)
set_option maxHeartbeats 4000000 in
set_option maxRecDepth 100000 in
theorem sX9_place (l : Launch) (D : va_G) (cy : Nat → ClassId) (sz : Nat) (xa : Nat → Nat) (tape_length : Int32) (tape_fault : Int32) (tape_faultPlace : Int32) (tape_wordFrom : Int32) (tape_wordTo : Int32) (tape_at : Int32) (f_tape_length : sp_in tape_length 0 600) (f_tape_wordFrom : sp_in tape_wordFrom 0 600) (f_tape_wordTo : sp_in tape_wordTo 0 600) (f_tape_at : sp_in tape_at 0 600) : Met l yX9_place v_sX9_place ({ frames := 0, cells := 0, slots := 0, locals := 0 } : Room) (va_Pc [.ref (xa 1)] (gp_B D cy sz [(o_tape xa tape_length tape_fault tape_faultPlace tape_wordFrom tape_wordTo tape_at)])) (va_Qi (fun (r : Int32) (u : Unit) => (r = tape_at)) (fun u => gp_E D (va_A [(o_tape xa tape_length tape_fault tape_faultPlace tape_wordFrom tape_wordTo tape_at)] sz) [(o_tape xa tape_length tape_fault tape_faultPlace tape_wordFrom tape_wordTo tape_at)]) (va_A [(o_tape xa tape_length tape_fault tape_faultPlace tape_wordFrom tape_wordTo tape_at)] sz)) 0 0 (va_A [(o_tape xa tape_length tape_fault tape_faultPlace tape_wordFrom tape_wordTo tape_at)] sz) := by
  refine gp_met (Qc := fun A => va_Qi (fun (r : Int32) (u : Unit) => (r = tape_at)) (fun u => gp_E D A [(o_tape xa tape_length tape_fault tape_faultPlace tape_wordFrom tape_wordTo tape_at)]) A) (cc := cX9_place) (maxL := 1) (ret := (some .int)) (by decide) rfl (Nat.le_of_ble_eq_true rfl) ?_
  intro p e s m below meth c A ls H hx hb hml hr hlocks hts hown hin hK hN hS hP hD hA hl
  have hown : s.vm.findClass RX9 = some m.cls := hown
  have hl : lv_has ls 1 [(0, .ref (xa 1))] := hl
  have hiX9 : ∀ w ∈ u_ws RX9 TX9 7, w ∈ v_sX9_place := fun _ h => List.mem_cons_of_mem _ (List.mem_append_right _ h)
  refine lv_aload_n hx hb dX9_place_0 rfl (lv_at hl 0 rfl) ?_
  refine va_get (D := D) (ci := 9) (v := .int tape_at) (C := RX9) (T := TX9) (N := 7) hx hb hts hiX9 hown hK hP 0 rfl rfl 5 (by decide) (hts (.fieldLink RX9 25 "GhostPane$Tape" "at" "I") (List.mem_of_getElem? (i := 1) rfl)) (fun _ h9 => h9) rfl dX9_place_1 ?_
  exact W.iret (v := tape_at) hx hb hr (fun t ht hW => ⟨⟨tape_at, (), rfl, (lf_sX9_place_1 tape_at f_tape_at), gp_end ht hP hD⟩, hS.F ht⟩) hS.2.2 dX9_place_4

theorem lf_sX9_skipBlanks_1 (tape_length : Int32) (tape_at : Int32) (ta : Int32) (f_tape_length : sp_in tape_length 0 600) (f_tape_at : sp_in tape_at 0 600) (h1 : sp_in ta 0 600) (h2 : tape_at ≤ ta) (c_1 : ¬ tape_length ≤ ta) : sp_in ta 0 599 := by
  first | grind | (simp only [sp_in, sp_pl, sp_far, sp_two] at *; grind)
theorem lf_sX9_skipBlanks_2 (tape_length : Int32) (tape_at : Int32) (ta : Int32) (f_tape_length : sp_in tape_length 0 600) (f_tape_at : sp_in tape_at 0 600) (h1 : sp_in ta 0 600) (h2 : tape_at ≤ ta) (c_1 : ¬ tape_length ≤ ta) : sp_in (ta + 1) 0 600 := by
  first | grind | (simp only [sp_in, sp_pl, sp_far, sp_two] at *; grind)
theorem lf_sX9_skipBlanks_3 (tape_length : Int32) (tape_at : Int32) (ta : Int32) (f_tape_length : sp_in tape_length 0 600) (f_tape_at : sp_in tape_at 0 600) (h1 : sp_in ta 0 600) (h2 : tape_at ≤ ta) (c_1 : ¬ tape_length ≤ ta) : tape_at ≤ (ta + 1) := by
  first | grind | (simp only [sp_in, sp_pl, sp_far, sp_two] at *; grind)
theorem lf_sX9_skipBlanks_4 (tape_length : Int32) (tape_at : Int32) (ta : Int32) (f_tape_length : sp_in tape_length 0 600) (f_tape_at : sp_in tape_at 0 600) (h1 : sp_in ta 0 600) (h2 : tape_at ≤ ta) (c_1 : ¬ tape_length ≤ ta) : ta < tape_length := by
  first | grind | (simp only [sp_in, sp_pl, sp_far, sp_two] at *; grind)
theorem lf_sX9_skipBlanks_5 (tape_length : Int32) (tape_at : Int32) (ta : Int32) (f_tape_length : sp_in tape_length 0 600) (f_tape_at : sp_in tape_at 0 600) (h1 : sp_in ta 0 600) (h2 : tape_at ≤ ta) (c_1 : ¬ tape_length ≤ ta) : sp_in ta 0 599 := by
  first | grind | (simp only [sp_in, sp_pl, sp_far, sp_two] at *; grind)
theorem lf_sX9_skipBlanks_6 (tape_length : Int32) (tape_at : Int32) (ta : Int32) (f_tape_length : sp_in tape_length 0 600) (f_tape_at : sp_in tape_at 0 600) (h1 : sp_in ta 0 600) (h2 : tape_at ≤ ta) (c_1 : ¬ tape_length ≤ ta) : sp_in (ta + 1) 0 600 := by
  first | grind | (simp only [sp_in, sp_pl, sp_far, sp_two] at *; grind)
theorem lf_sX9_skipBlanks_7 (tape_length : Int32) (tape_at : Int32) (ta : Int32) (f_tape_length : sp_in tape_length 0 600) (f_tape_at : sp_in tape_at 0 600) (h1 : sp_in ta 0 600) (h2 : tape_at ≤ ta) (c_1 : ¬ tape_length ≤ ta) : tape_at ≤ (ta + 1) := by
  first | grind | (simp only [sp_in, sp_pl, sp_far, sp_two] at *; grind)
theorem lf_sX9_skipBlanks_8 (tape_length : Int32) (tape_at : Int32) (ta : Int32) (f_tape_length : sp_in tape_length 0 600) (f_tape_at : sp_in tape_at 0 600) (h1 : sp_in ta 0 600) (h2 : tape_at ≤ ta) (c_1 : ¬ tape_length ≤ ta) : ta < tape_length := by
  first | grind | (simp only [sp_in, sp_pl, sp_far, sp_two] at *; grind)
theorem lf_sX9_skipBlanks_9 (tape_at : Int32) (f_tape_at : sp_in tape_at 0 600) : tape_at ≤ tape_at := by
  first | grind | (simp only [sp_in, sp_pl, sp_far, sp_two] at *; grind)
def v_sX9_skipBlanks : List Cond := .code yX9_skipBlanks cX9_skipBlanks 1 none :: (([.fieldLink RX9 25 "GhostPane$Tape" "at" "I", .fieldLink RX9 22 "GhostPane$Tape" "length" "I", .fieldLink RX9 18 "GhostPane$Tape" "bytes" "[B"] : List Cond) ++ wsX90)
set_option maxHeartbeats 4000000 in
set_option maxRecDepth 100000 in
theorem sX9_skipBlanks (l : Launch) (D : va_G) (cy : Nat → ClassId) (sz : Nat) (xa : Nat → Nat) (tape_length : Int32) (tape_fault : Int32) (tape_faultPlace : Int32) (tape_wordFrom : Int32) (tape_wordTo : Int32) (tape_at : Int32) (bytes : Nat → Int32) (f_tape_length : sp_in tape_length 0 600) (f_tape_wordFrom : sp_in tape_wordFrom 0 600) (f_tape_wordTo : sp_in tape_wordTo 0 600) (f_tape_at : sp_in tape_at 0 600) : Met l yX9_skipBlanks v_sX9_skipBlanks ({ frames := 0, cells := 0, slots := 0, locals := 0 } : Room) (va_Pc [.ref (xa 1)] (gp_B D cy sz [(o_tape xa tape_length tape_fault tape_faultPlace tape_wordFrom tape_wordTo tape_at), (aI (xa 2) (cy 0) 600 bytes)])) (va_Qv (fun (u : (Int32)) => (sp_in u 0 600) ∧ (tape_at ≤ u)) (fun u => gp_E D (va_A [(o_tape xa tape_length tape_fault tape_faultPlace tape_wordFrom tape_wordTo tape_at), (aI (xa 2) (cy 0) 600 bytes)] sz) [(o_tape xa tape_length tape_fault tape_faultPlace tape_wordFrom tape_wordTo u), (aI (xa 2) (cy 0) 600 bytes)]) (va_A [(o_tape xa tape_length tape_fault tape_faultPlace tape_wordFrom tape_wordTo tape_at), (aI (xa 2) (cy 0) 600 bytes)] sz)) 0 0 (va_A [(o_tape xa tape_length tape_fault tape_faultPlace tape_wordFrom tape_wordTo tape_at), (aI (xa 2) (cy 0) 600 bytes)] sz) := by
  refine gp_met (Qc := fun A => va_Qv (fun (u : (Int32)) => (sp_in u 0 600) ∧ (tape_at ≤ u)) (fun u => gp_E D A [(o_tape xa tape_length tape_fault tape_faultPlace tape_wordFrom tape_wordTo u), (aI (xa 2) (cy 0) 600 bytes)]) A) (cc := cX9_skipBlanks) (maxL := 1) (ret := none) (by decide) rfl (Nat.le_of_ble_eq_true rfl) ?_
  intro p e s m below meth c A ls H hx hb hml hr hlocks hts hown hin hK hN hS hP hD hA hl
  have hown : s.vm.findClass RX9 = some m.cls := hown
  have hl : lv_has ls 1 [(0, .ref (xa 1))] := hl
  have hiX9 : ∀ w ∈ u_ws RX9 TX9 7, w ∈ v_sX9_skipBlanks := fun _ h => List.mem_cons_of_mem _ (List.mem_append_right _ h)
  have key0 : ∀ (fu : Nat) (ta : Int32) (H : Heap) (locs : List Loc) (ls : Array Slot), (h1 : sp_in ta 0 600) → (h2 : tape_at ≤ ta) → (tape_length.toInt - ta.toInt).toNat < fu → va_P D vwCl [(o_tape xa tape_length tape_fault tape_faultPlace tape_wordFrom tape_wordTo ta), (aI (xa 2) (cy 0) 600 bytes)] H → va_D A [(o_tape xa tape_length tape_fault tape_faultPlace tape_wordFrom tape_wordTo ta), (aI (xa 2) (cy 0) 600 bytes)] → va_S A s.heap H locs → lv_has ls 1 [(0, .ref (xa 1))] → W p l e (headSpec v_sX9_skipBlanks (({ frames := 0, cells := 0, slots := 0, locals := 0 } : Room))).room s m [.ref (xa 1)].toArray below meth c H locs 0 0 (MQ below (va_Qv (fun (u : (Int32)) => (sp_in u 0 600) ∧ (tape_at ≤ u)) (fun u => gp_E D A [(o_tape xa tape_length tape_fault tape_faultPlace tape_wordFrom tape_wordTo u), (aI (xa 2) (cy 0) 600 bytes)]) A) [.ref (xa 1)].toArray s 0 0 A) (F0 m 0 ls []) := by
    intro fu
    induction fu with
    | zero => intro ta H locs ls h1 h2 hfu; exact absurd hfu (Nat.not_lt_zero _)
    | succ fu ih =>
      intro ta H locs ls h1 h2 hfu hP hD hS hl
      refine lv_aload_n hx hb dX9_skipBlanks_0 rfl (lv_at hl 0 rfl) ?_
      refine va_get (D := D) (ci := 9) (v := .int ta) (C := RX9) (T := TX9) (N := 7) hx hb hts hiX9 hown hK hP 0 rfl rfl 5 (by decide) (hts (.fieldLink RX9 25 "GhostPane$Tape" "at" "I") (List.mem_of_getElem? (i := 1) rfl)) (fun _ h9 => h9) rfl dX9_skipBlanks_1 ?_
      refine lv_aload_n hx hb dX9_skipBlanks_4 rfl (lv_at hl 0 rfl) ?_
      refine va_get (D := D) (ci := 9) (v := .int tape_length) (C := RX9) (T := TX9) (N := 7) hx hb hts hiX9 hown hK hP 0 rfl rfl 0 (by decide) (hts (.fieldLink RX9 22 "GhostPane$Tape" "length" "I") (List.mem_of_getElem? (i := 2) rfl)) (fun _ h9 => h9) rfl dX9_skipBlanks_5 ?_
      refine lv_icmp_ge (tgt := 52) hx hb dX9_skipBlanks_8 (by decide) (fun c_1 => ?_) (fun c_1 => ?_)
      · exact W.vret hx hb hr (fun t ht hW => ⟨⟨ta, rfl, ⟨h1, h2⟩, gp_end ht hP hD⟩, hS.F ht⟩) hS.2.2 dX9_skipBlanks_52
      · refine lv_aload_n hx hb dX9_skipBlanks_11 rfl (lv_at hl 0 rfl) ?_
        refine va_get (D := D) (ci := 9) (v := .ref (xa 2)) (C := RX9) (T := TX9) (N := 7) hx hb hts hiX9 hown hK hP 0 rfl rfl 6 (by decide) (hts (.fieldLink RX9 18 "GhostPane$Tape" "bytes" "[B") (List.mem_of_getElem? (i := 3) rfl)) (fun _ h9 => h9) rfl dX9_skipBlanks_12 ?_
        refine lv_aload_n hx hb dX9_skipBlanks_15 rfl (lv_at hl 0 rfl) ?_
        refine va_get (D := D) (ci := 9) (v := .int ta) (C := RX9) (T := TX9) (N := 7) hx hb hts hiX9 hown hK hP 0 rfl rfl 5 (by decide) (hts (.fieldLink RX9 25 "GhostPane$Tape" "at" "I") (List.mem_of_getElem? (i := 1) rfl)) (fun _ h9 => h9) rfl dX9_skipBlanks_16 ?_
        refine va_bald hx hb hK hP 1 0 rfl rfl (gp_in (hi := 599) (lf_sX9_skipBlanks_1 tape_length tape_at ta f_tape_length f_tape_at h1 h2 c_1) (by decide)) dX9_skipBlanks_19 ?_
        refine gp_fi (fun y_2 => ?_)
        refine lv_bipush (v := 10) hx hb dX9_skipBlanks_20 (by decide) ?_
        refine lv_icmp_eq (tgt := 39) hx hb dX9_skipBlanks_22 (by decide) (fun c_3 => ?_) (fun c_3 => ?_)
        · refine lv_aload_n hx hb dX9_skipBlanks_39 rfl (lv_at hl 0 rfl) ?_
          refine lv_dup hx hb dX9_skipBlanks_40 rfl ?_
          refine va_get (D := D) (ci := 9) (v := .int ta) (C := RX9) (T := TX9) (N := 7) hx hb hts hiX9 hown hK hP 0 rfl rfl 5 (by decide) (hts (.fieldLink RX9 25 "GhostPane$Tape" "at" "I") (List.mem_of_getElem? (i := 1) rfl)) (fun _ h9 => h9) rfl dX9_skipBlanks_41 ?_
          refine lv_iconst (v := 1) hx hb dX9_skipBlanks_44 (by decide) ?_
          refine lv_iadd hx hb dX9_skipBlanks_45 ?_
          refine va_put (D := D) (ci := 9) (v := .int (ta + 1)) (ty := .int) (C := RX9) (T := TX9) (N := 7) hx hb hts hiX9 tyX9 tyX9_ok nmX9 hown hK hP hD hS 0 rfl rfl 5 (by decide) (hts (.fieldLink RX9 25 "GhostPane$Tape" "at" "I") (List.mem_of_getElem? (i := 1) rfl)) (fun _ h9 => h9) rfl (by decide +kernel) rfl rfl (Nat.le_of_ble_eq_true rfl) dX9_skipBlanks_46 (fun H locs hP hD hS => ?_)
          have hP : va_P D vwCl [(o_tape xa tape_length tape_fault tape_faultPlace tape_wordFrom tape_wordTo (ta + 1)), (aI (xa 2) (cy 0) 600 bytes)] H := hP
          have hD := gp_sD hP hD
          refine lv_goto (tgt := 0) hx hb dX9_skipBlanks_49 (by decide) ?_
          exact ih (ta + 1) H locs ls (lf_sX9_skipBlanks_2 tape_length tape_at ta f_tape_length f_tape_at h1 h2 c_1) (lf_sX9_skipBlanks_3 tape_length tape_at ta f_tape_length f_tape_at h1 h2 c_1) (Nat.lt_of_lt_of_le (gp_mdec (lf_sX9_skipBlanks_4 tape_length tape_at ta f_tape_length f_tape_at h1 h2 c_1)) (Nat.le_of_lt_succ hfu)) hP hD hS (lv_sub hl [0] rfl)
        · refine lv_aload_n hx hb dX9_skipBlanks_25 rfl (lv_at hl 0 rfl) ?_
          refine va_get (D := D) (ci := 9) (v := .ref (xa 2)) (C := RX9) (T := TX9) (N := 7) hx hb hts hiX9 hown hK hP 0 rfl rfl 6 (by decide) (hts (.fieldLink RX9 18 "GhostPane$Tape" "bytes" "[B") (List.mem_of_getElem? (i := 3) rfl)) (fun _ h9 => h9) rfl dX9_skipBlanks_26 ?_
          refine lv_aload_n hx hb dX9_skipBlanks_29 rfl (lv_at hl 0 rfl) ?_
          refine va_get (D := D) (ci := 9) (v := .int ta) (C := RX9) (T := TX9) (N := 7) hx hb hts hiX9 hown hK hP 0 rfl rfl 5 (by decide) (hts (.fieldLink RX9 25 "GhostPane$Tape" "at" "I") (List.mem_of_getElem? (i := 1) rfl)) (fun _ h9 => h9) rfl dX9_skipBlanks_30 ?_
          refine va_bald hx hb hK hP 1 0 rfl rfl (gp_in (hi := 599) (lf_sX9_skipBlanks_5 tape_length tape_at ta f_tape_length f_tape_at h1 h2 c_1) (by decide)) dX9_skipBlanks_33 ?_
          refine gp_fi (fun y_4 => ?_)
          refine lv_bipush (v := 32) hx hb dX9_skipBlanks_34 (by decide) ?_
          refine lv_icmp_ne (tgt := 52) hx hb dX9_skipBlanks_36 (by decide) (fun c_5 => ?_) (fun c_5 => ?_)
          · exact W.vret hx hb hr (fun t ht hW => ⟨⟨ta, rfl, ⟨h1, h2⟩, gp_end ht hP hD⟩, hS.F ht⟩) hS.2.2 dX9_skipBlanks_52
          · refine lv_aload_n hx hb dX9_skipBlanks_39 rfl (lv_at hl 0 rfl) ?_
            refine lv_dup hx hb dX9_skipBlanks_40 rfl ?_
            refine va_get (D := D) (ci := 9) (v := .int ta) (C := RX9) (T := TX9) (N := 7) hx hb hts hiX9 hown hK hP 0 rfl rfl 5 (by decide) (hts (.fieldLink RX9 25 "GhostPane$Tape" "at" "I") (List.mem_of_getElem? (i := 1) rfl)) (fun _ h9 => h9) rfl dX9_skipBlanks_41 ?_
            refine lv_iconst (v := 1) hx hb dX9_skipBlanks_44 (by decide) ?_
            refine lv_iadd hx hb dX9_skipBlanks_45 ?_
            refine va_put (D := D) (ci := 9) (v := .int (ta + 1)) (ty := .int) (C := RX9) (T := TX9) (N := 7) hx hb hts hiX9 tyX9 tyX9_ok nmX9 hown hK hP hD hS 0 rfl rfl 5 (by decide) (hts (.fieldLink RX9 25 "GhostPane$Tape" "at" "I") (List.mem_of_getElem? (i := 1) rfl)) (fun _ h9 => h9) rfl (by decide +kernel) rfl rfl (Nat.le_of_ble_eq_true rfl) dX9_skipBlanks_46 (fun H locs hP hD hS => ?_)
            have hP : va_P D vwCl [(o_tape xa tape_length tape_fault tape_faultPlace tape_wordFrom tape_wordTo (ta + 1)), (aI (xa 2) (cy 0) 600 bytes)] H := hP
            have hD := gp_sD hP hD
            refine lv_goto (tgt := 0) hx hb dX9_skipBlanks_49 (by decide) ?_
            exact ih (ta + 1) H locs ls (lf_sX9_skipBlanks_6 tape_length tape_at ta f_tape_length f_tape_at h1 h2 c_1) (lf_sX9_skipBlanks_7 tape_length tape_at ta f_tape_length f_tape_at h1 h2 c_1) (Nat.lt_of_lt_of_le (gp_mdec (lf_sX9_skipBlanks_8 tape_length tape_at ta f_tape_length f_tape_at h1 h2 c_1)) (Nat.le_of_lt_succ hfu)) hP hD hS (lv_sub hl [0] rfl)
  exact key0 ((tape_length.toInt - tape_at.toInt).toNat + 1) tape_at H [] ls f_tape_at (lf_sX9_skipBlanks_9 tape_at f_tape_at) (Nat.lt_succ_self _) hP hD hS (lv_sub hl [0] rfl)

theorem lf_sX9_skipGap_1 (tape_fault : Int32) : tape_fault = 0 → tape_fault = 0 := by
  first | grind | (simp only [sp_in, sp_pl, sp_far, sp_two] at *; grind)
theorem lf_sX9_skipGap_2 (tape_fault : Int32) (tape_fault_5 : Int32) (w_7 : ¬ tape_fault_5 = 0) : tape_fault_5 = 0 → tape_fault = 0 := by
  first | grind | (simp only [sp_in, sp_pl, sp_far, sp_two] at *; grind)
def v_sX9_skipGap : List Cond := .code yX9_skipGap cX9_skipGap 2 none :: (([.fieldLink RX9 25 "GhostPane$Tape" "at" "I", .code yX9_skipBlanks cX9_skipBlanks 1 none, .fieldLink RX9 22 "GhostPane$Tape" "length" "I", .fieldLink RX9 18 "GhostPane$Tape" "bytes" "[B", .methodLink RX9 28 yX9_skipBlanks, .instanceMethod yX9_skipBlanks, .selects RX9 yX9_skipBlanks yX9_skipBlanks, .initialized RX9, .code yX9_fail cX9_fail 3 none, .fieldLink RX9 9 "GhostPane$Tape" "fault" "I", .fieldLink RX9 15 "GhostPane$Tape" "faultPlace" "I", .methodLink RX9 31 yX9_fail, .instanceMethod yX9_fail, .selects RX9 yX9_fail yX9_fail] : List Cond) ++ wsX90)
set_option maxRecDepth 20000 in
theorem gg_sX9_skipGap_sX9_skipBlanks : GoodIn v_sX9_skipGap v_sX9_skipBlanks := goodIn_ca (goodIn_r (.code yX9_skipBlanks cX9_skipBlanks 1 none :: [.fieldLink RX9 25 "GhostPane$Tape" "at" "I", .fieldLink RX9 22 "GhostPane$Tape" "length" "I", .fieldLink RX9 18 "GhostPane$Tape" "bytes" "[B"]) [2, 1, 3, 4] (by first | rfl | decide +kernel) (by decide +kernel)) (goodIn_sub (fun _ h => List.mem_cons_of_mem _ (List.mem_append_right _ h)) gwX9)
set_option maxRecDepth 20000 in
theorem g_sX9_skipGap_sX9_skipBlanks_0 : GoodIn v_sX9_skipGap (wsV RX9 28 RX9 yX9_skipBlanks v_sX9_skipBlanks) := goodIn_app (goodIn_r [.methodLink RX9 28 yX9_skipBlanks, .instanceMethod yX9_skipBlanks, .selects RX9 yX9_skipBlanks yX9_skipBlanks, .initialized RX9] [5, 6, 7, 8] rfl (by decide +kernel)) gg_sX9_skipGap_sX9_skipBlanks
set_option maxRecDepth 20000 in
theorem gg_sX9_skipGap_sX9_fail : GoodIn v_sX9_skipGap v_sX9_fail := goodIn_ca (goodIn_r (.code yX9_fail cX9_fail 3 none :: [.fieldLink RX9 9 "GhostPane$Tape" "fault" "I", .fieldLink RX9 15 "GhostPane$Tape" "faultPlace" "I"]) [9, 10, 11] (by first | rfl | decide +kernel) (by decide +kernel)) (goodIn_sub (fun _ h => List.mem_cons_of_mem _ (List.mem_append_right _ h)) gwX9)
set_option maxRecDepth 20000 in
theorem g_sX9_skipGap_sX9_fail_1 : GoodIn v_sX9_skipGap (wsV RX9 31 RX9 yX9_fail v_sX9_fail) := goodIn_app (goodIn_r [.methodLink RX9 31 yX9_fail, .instanceMethod yX9_fail, .selects RX9 yX9_fail yX9_fail, .initialized RX9] [12, 13, 14, 8] rfl (by decide +kernel)) gg_sX9_skipGap_sX9_fail
set_option maxHeartbeats 4000000 in
set_option maxRecDepth 100000 in
theorem sX9_skipGap (l : Launch) (D : va_G) (cy : Nat → ClassId) (sz : Nat) (xa : Nat → Nat) (tape_length : Int32) (tape_fault : Int32) (tape_faultPlace : Int32) (tape_wordFrom : Int32) (tape_wordTo : Int32) (tape_at : Int32) (bytes : Nat → Int32) (f_tape_length : sp_in tape_length 0 600) (f_tape_wordFrom : sp_in tape_wordFrom 0 600) (f_tape_wordTo : sp_in tape_wordTo 0 600) (f_tape_at : sp_in tape_at 0 600) : Met l yX9_skipGap v_sX9_skipGap ({ frames := 1, cells := 0, slots := 0, locals := 22 } : Room) (va_Pc [.ref (xa 1)] (gp_B D cy sz [(o_tape xa tape_length tape_fault tape_faultPlace tape_wordFrom tape_wordTo tape_at), (aI (xa 2) (cy 0) 600 bytes)])) (va_Qv (fun (u : (Int32) × (Int32) × (Int32)) => (sp_in u.2.2 0 600) ∧ (tape_at ≤ u.2.2) ∧ (u.1 = 0 → tape_fault = 0)) (fun u => gp_E D (va_A [(o_tape xa tape_length tape_fault tape_faultPlace tape_wordFrom tape_wordTo tape_at), (aI (xa 2) (cy 0) 600 bytes)] sz) [(o_tape xa tape_length u.1 u.2.1 tape_wordFrom tape_wordTo u.2.2), (aI (xa 2) (cy 0) 600 bytes)]) (va_A [(o_tape xa tape_length tape_fault tape_faultPlace tape_wordFrom tape_wordTo tape_at), (aI (xa 2) (cy 0) 600 bytes)] sz)) 0 0 (va_A [(o_tape xa tape_length tape_fault tape_faultPlace tape_wordFrom tape_wordTo tape_at), (aI (xa 2) (cy 0) 600 bytes)] sz) := by
  refine gp_met (Qc := fun A => va_Qv (fun (u : (Int32) × (Int32) × (Int32)) => (sp_in u.2.2 0 600) ∧ (tape_at ≤ u.2.2) ∧ (u.1 = 0 → tape_fault = 0)) (fun u => gp_E D A [(o_tape xa tape_length u.1 u.2.1 tape_wordFrom tape_wordTo u.2.2), (aI (xa 2) (cy 0) 600 bytes)]) A) (cc := cX9_skipGap) (maxL := 2) (ret := none) (by decide) rfl (Nat.le_of_ble_eq_true rfl) ?_
  intro p e s m below meth c A ls H hx hb hml hr hlocks hts hown hin hK hN hS hP hD hA hl
  have hown : s.vm.findClass RX9 = some m.cls := hown
  have hl : lv_has ls 2 [(0, .ref (xa 1))] := hl
  have hiX9 : ∀ w ∈ u_ws RX9 TX9 7, w ∈ v_sX9_skipGap := fun _ h => List.mem_cons_of_mem _ (List.mem_append_right _ h)
  refine lv_aload_n hx hb dX9_skipGap_0 rfl (lv_at hl 0 rfl) ?_
  refine va_get (D := D) (ci := 9) (v := .int tape_at) (C := RX9) (T := TX9) (N := 7) hx hb hts hiX9 hown hK hP 0 rfl rfl 5 (by decide) (hts (.fieldLink RX9 25 "GhostPane$Tape" "at" "I") (List.mem_of_getElem? (i := 1) rfl)) (fun _ h9 => h9) rfl dX9_skipGap_1 ?_
  refine lv_istore_n (lv' := [(1, .int tape_at), (0, .ref (xa 1))]) hx hb dX9_skipGap_4 rfl hl (by decide) rfl (fun ls hl => ?_)
  refine lv_aload_n hx hb dX9_skipGap_5 rfl (lv_at hl 1 rfl) ?_
  have hPc := hP.sub (ws' := [(o_tape xa tape_length tape_fault tape_faultPlace tape_wordFrom tape_wordTo tape_at), (aI (xa 2) (cy 0) 600 bytes)]) [0, 1] rfl
  have hDc := hD.sub (ws' := [(o_tape xa tape_length tape_fault tape_faultPlace tape_wordFrom tape_wordTo tape_at), (aI (xa 2) (cy 0) 600 bytes)]) [0, 1] (by decide) rfl
  have hFc := va_free (wc := [(o_tape xa tape_length tape_fault tape_faultPlace tape_wordFrom tape_wordTo tape_at), (aI (xa 2) (cy 0) 600 bytes)]) hD hS hA [0, 1] rfl
  refine va_callv (va_runV (As := []) (rest := []) ⟨hx, hb, hml, hown, hts⟩ (sX9_skipBlanks l D cy H.size xa tape_length tape_fault tape_faultPlace tape_wordFrom tape_wordTo tape_at bytes f_tape_length f_tape_wordFrom f_tape_wordTo f_tape_at) (cwV 0 hts g_sX9_skipGap_sX9_skipBlanks_0 rfl rfl rfl (by decide +kernel) ⟨Nat.le_of_ble_eq_true rfl, Nat.le_of_ble_eq_true rfl⟩) (gp_preV (RX9, TX9, 7) 9 0 hPc hDc hK hN rfl rfl) rfl rfl hl.1 rfl (lv_room (Nat.le_of_ble_eq_true rfl)) dX9_skipGap_6 ⟨Nat.le_of_ble_eq_true rfl, Nat.le_of_ble_eq_true rfl⟩) hS (fun q _ h => hFc q h) hFc (fun tape_at_1 t H locs ht hvm hw hB hz1 hk1 hS => ?_)
  obtain ⟨hP, hD⟩ := gp_joinS (wc := [(o_tape xa tape_length tape_fault tape_faultPlace tape_wordFrom tape_wordTo tape_at), (aI (xa 2) (cy 0) 600 bytes)]) (w1 := [(o_tape xa tape_length tape_fault tape_faultPlace tape_wordFrom tape_wordTo tape_at_1), (aI (xa 2) (cy 0) 600 bytes)]) hP hD [0, 1] rfl rfl hk1 ht hB
  obtain ⟨w_2, w_3⟩ := hw
  have hP : va_P D vwCl [(o_tape xa tape_length tape_fault tape_faultPlace tape_wordFrom tape_wordTo tape_at_1), (aI (xa 2) (cy 0) 600 bytes)] H := hP
  have hD := gp_sD hP hD
  refine lv_aload_n hx hb dX9_skipGap_9 rfl (lv_at hl 1 rfl) ?_
  refine va_get (D := D) (ci := 9) (v := .int tape_at_1) (C := RX9) (T := TX9) (N := 7) hx hb hts hiX9 hown hK hP 0 rfl rfl 5 (by decide) (hts (.fieldLink RX9 25 "GhostPane$Tape" "at" "I") (List.mem_of_getElem? (i := 1) rfl)) (fun _ h9 => h9) rfl dX9_skipGap_10 ?_
  refine lv_iload_n hx hb dX9_skipGap_13 rfl (lv_at hl 0 rfl) ?_
  refine lv_icmp_ne (tgt := 26) hx hb dX9_skipGap_14 (by decide) (fun c_4 => ?_) (fun c_4 => ?_)
  · exact W.vret hx hb hr (fun t ht hW => ⟨⟨⟨tape_fault, tape_faultPlace, tape_at_1⟩, rfl, ⟨w_2, w_3, (lf_sX9_skipGap_1 tape_fault)⟩, gp_end ht hP hD⟩, hS.F ht⟩) hS.2.2 dX9_skipGap_26
  · refine lv_aload_n hx hb dX9_skipGap_17 rfl (lv_at hl 1 rfl) ?_
    refine lv_iconst (v := 1) hx hb dX9_skipGap_18 (by decide) ?_
    refine lv_aload_n hx hb dX9_skipGap_19 rfl (lv_at hl 1 rfl) ?_
    refine va_get (D := D) (ci := 9) (v := .int tape_at_1) (C := RX9) (T := TX9) (N := 7) hx hb hts hiX9 hown hK hP 0 rfl rfl 5 (by decide) (hts (.fieldLink RX9 25 "GhostPane$Tape" "at" "I") (List.mem_of_getElem? (i := 1) rfl)) (fun _ h9 => h9) rfl dX9_skipGap_20 ?_
    have hPc := hP.sub (ws' := [(o_tape xa tape_length tape_fault tape_faultPlace tape_wordFrom tape_wordTo tape_at_1)]) [0] rfl
    have hDc := hD.sub (ws' := [(o_tape xa tape_length tape_fault tape_faultPlace tape_wordFrom tape_wordTo tape_at_1)]) [0] (by decide) rfl
    have hFc := va_free (wc := [(o_tape xa tape_length tape_fault tape_faultPlace tape_wordFrom tape_wordTo tape_at_1)]) hD hS hA [0] rfl
    refine va_callv (va_runV (As := [.int 1, .int tape_at_1]) (rest := []) ⟨hx, hb, hml, hown, hts⟩ (sX9_fail l D cy H.size xa tape_length tape_fault tape_faultPlace tape_wordFrom tape_wordTo tape_at_1 1 tape_at_1 f_tape_length f_tape_wordFrom f_tape_wordTo w_2 (show ¬ 1 = 0 by decide)) (cwV 2 hts g_sX9_skipGap_sX9_fail_1 rfl rfl rfl (by decide +kernel) ⟨Nat.le_of_ble_eq_true rfl, Nat.le_of_ble_eq_true rfl⟩) (gp_preV (RX9, TX9, 7) 9 0 hPc hDc hK hN rfl rfl) rfl rfl hl.1 rfl (lv_room (Nat.le_of_ble_eq_true rfl)) dX9_skipGap_23 ⟨Nat.le_of_ble_eq_true rfl, Nat.le_of_ble_eq_true rfl⟩) hS (fun q _ h => hFc q h) hFc (fun u t H locs ht hvm hw hB hz1 hk1 hS => ?_)
    obtain ⟨tape_fault_5, tape_faultPlace_6⟩ := u
    obtain ⟨hP, hD⟩ := gp_joinS (wc := [(o_tape xa tape_length tape_fault tape_faultPlace tape_wordFrom tape_wordTo tape_at_1)]) (w1 := [(o_tape xa tape_length tape_fault_5 tape_faultPlace_6 tape_wordFrom tape_wordTo tape_at_1)]) hP hD [0] rfl rfl hk1 ht hB
    have w_7 := hw
    have hP : va_P D vwCl [(o_tape xa tape_length tape_fault_5 tape_faultPlace_6 tape_wordFrom tape_wordTo tape_at_1), (aI (xa 2) (cy 0) 600 bytes)] H := hP
    have hD := gp_sD hP hD
    exact W.vret hx hb hr (fun t ht hW => ⟨⟨⟨tape_fault_5, tape_faultPlace_6, tape_at_1⟩, rfl, ⟨w_2, w_3, (lf_sX9_skipGap_2 tape_fault tape_fault_5 w_7)⟩, gp_end ht hP hD⟩, hS.F ht⟩) hS.2.2 dX9_skipGap_26

theorem lf_sX9_takesSign_1 (tape_at : Int32) (f_tape_at : sp_in tape_at 0 600) : tape_at ≤ tape_at := by
  first | grind | (simp only [sp_in, sp_pl, sp_far, sp_two] at *; grind)
theorem lf_sX9_takesSign_2 (tape_at : Int32) (f_tape_at : sp_in tape_at 0 600) : (0 : Int32) = 1 → tape_at < tape_at := by
  first | grind | (simp only [sp_in, sp_pl, sp_far, sp_two] at *; grind)
theorem lf_sX9_takesSign_3 (tape_length : Int32) (tape_at : Int32) (f_tape_length : sp_in tape_length 0 600) (f_tape_at : sp_in tape_at 0 600) (c_2 : tape_length ≤ tape_at) : tape_at ≤ tape_at := by
  first | grind | (simp only [sp_in, sp_pl, sp_far, sp_two] at *; grind)
theorem lf_sX9_takesSign_4 (tape_length : Int32) (tape_at : Int32) (f_tape_length : sp_in tape_length 0 600) (f_tape_at : sp_in tape_at 0 600) (c_2 : tape_length ≤ tape_at) : (0 : Int32) = 1 → tape_at < tape_at := by
  first | grind | (simp only [sp_in, sp_pl, sp_far, sp_two] at *; grind)
theorem lf_sX9_takesSign_5 (tape_length : Int32) (tape_at : Int32) (f_tape_length : sp_in tape_length 0 600) (f_tape_at : sp_in tape_at 0 600) (c_2 : ¬ tape_length ≤ tape_at) : sp_in tape_at 0 599 := by
  first | grind | (simp only [sp_in, sp_pl, sp_far, sp_two] at *; grind)
theorem lf_sX9_takesSign_6 (tape_length : Int32) (tape_at : Int32) (f_tape_length : sp_in tape_length 0 600) (f_tape_at : sp_in tape_at 0 600) (c_2 : ¬ tape_length ≤ tape_at) : sp_in (tape_at + 1) 0 600 := by
  first | grind | (simp only [sp_in, sp_pl, sp_far, sp_two] at *; grind)
theorem lf_sX9_takesSign_7 (tape_length : Int32) (tape_at : Int32) (f_tape_length : sp_in tape_length 0 600) (f_tape_at : sp_in tape_at 0 600) (c_2 : ¬ tape_length ≤ tape_at) : tape_at ≤ (tape_at + 1) := by
  first | grind | (simp only [sp_in, sp_pl, sp_far, sp_two] at *; grind)
theorem lf_sX9_takesSign_8 (tape_length : Int32) (tape_at : Int32) (f_tape_length : sp_in tape_length 0 600) (f_tape_at : sp_in tape_at 0 600) (c_2 : ¬ tape_length ≤ tape_at) : (1 : Int32) = 1 → tape_at < (tape_at + 1) := by
  first | grind | (simp only [sp_in, sp_pl, sp_far, sp_two] at *; grind)
theorem lf_sX9_takesSign_9 (tape_length : Int32) (tape_at : Int32) (f_tape_length : sp_in tape_length 0 600) (f_tape_at : sp_in tape_at 0 600) (c_2 : ¬ tape_length ≤ tape_at) : tape_at ≤ tape_at := by
  first | grind | (simp only [sp_in, sp_pl, sp_far, sp_two] at *; grind)
theorem lf_sX9_takesSign_10 (tape_length : Int32) (tape_at : Int32) (f_tape_length : sp_in tape_length 0 600) (f_tape_at : sp_in tape_at 0 600) (c_2 : ¬ tape_length ≤ tape_at) : (0 : Int32) = 1 → tape_at < tape_at := by
  first | grind | (simp only [sp_in, sp_pl, sp_far, sp_two] at *; grind)
def v_sX9_takesSign : List Cond := .code yX9_takesSign cX9_takesSign 2 (some .boolean) :: (([.fieldLink RX9 9 "GhostPane$Tape" "fault" "I", .fieldLink RX9 25 "GhostPane$Tape" "at" "I", .fieldLink RX9 22 "GhostPane$Tape" "length" "I", .fieldLink RX9 18 "GhostPane$Tape" "bytes" "[B"] : List Cond) ++ wsX90)
set_option maxHeartbeats 4000000 in
set_option maxRecDepth 100000 in
theorem sX9_takesSign (l : Launch) (D : va_G) (cy : Nat → ClassId) (sz : Nat) (xa : Nat → Nat) (tape_length : Int32) (tape_fault : Int32) (tape_faultPlace : Int32) (tape_wordFrom : Int32) (tape_wordTo : Int32) (tape_at : Int32) (bytes : Nat → Int32) (sign : Int32) (f_tape_length : sp_in tape_length 0 600) (f_tape_wordFrom : sp_in tape_wordFrom 0 600) (f_tape_wordTo : sp_in tape_wordTo 0 600) (f_tape_at : sp_in tape_at 0 600) : Met l yX9_takesSign v_sX9_takesSign ({ frames := 0, cells := 0, slots := 0, locals := 0 } : Room) (va_Pc [.ref (xa 1), .int sign] (gp_B D cy sz [(o_tape xa tape_length tape_fault tape_faultPlace tape_wordFrom tape_wordTo tape_at), (aI (xa 2) (cy 0) 600 bytes)])) (va_Qi (fun (r : Int32) (u : (Int32)) => (r = 0 ∨ r = 1) ∧ (sp_in u 0 600) ∧ (tape_at ≤ u) ∧ (r = 1 → tape_at < u)) (fun u => gp_E D (va_A [(o_tape xa tape_length tape_fault tape_faultPlace tape_wordFrom tape_wordTo tape_at), (aI (xa 2) (cy 0) 600 bytes)] sz) [(o_tape xa tape_length tape_fault tape_faultPlace tape_wordFrom tape_wordTo u), (aI (xa 2) (cy 0) 600 bytes)]) (va_A [(o_tape xa tape_length tape_fault tape_faultPlace tape_wordFrom tape_wordTo tape_at), (aI (xa 2) (cy 0) 600 bytes)] sz)) 0 0 (va_A [(o_tape xa tape_length tape_fault tape_faultPlace tape_wordFrom tape_wordTo tape_at), (aI (xa 2) (cy 0) 600 bytes)] sz) := by
  refine gp_met (Qc := fun A => va_Qi (fun (r : Int32) (u : (Int32)) => (r = 0 ∨ r = 1) ∧ (sp_in u 0 600) ∧ (tape_at ≤ u) ∧ (r = 1 → tape_at < u)) (fun u => gp_E D A [(o_tape xa tape_length tape_fault tape_faultPlace tape_wordFrom tape_wordTo u), (aI (xa 2) (cy 0) 600 bytes)]) A) (cc := cX9_takesSign) (maxL := 2) (ret := (some .boolean)) (by decide) rfl (Nat.le_of_ble_eq_true rfl) ?_
  intro p e s m below meth c A ls H hx hb hml hr hlocks hts hown hin hK hN hS hP hD hA hl
  have hown : s.vm.findClass RX9 = some m.cls := hown
  have hl : lv_has ls 2 [(0, .ref (xa 1)), (1, .int sign)] := hl
  have hiX9 : ∀ w ∈ u_ws RX9 TX9 7, w ∈ v_sX9_takesSign := fun _ h => List.mem_cons_of_mem _ (List.mem_append_right _ h)
  refine lv_aload_n hx hb dX9_takesSign_0 rfl (lv_at hl 0 rfl) ?_
  refine va_get (D := D) (ci := 9) (v := .int tape_fault) (C := RX9) (T := TX9) (N := 7) hx hb hts hiX9 hown hK hP 0 rfl rfl 1 (by decide) (hts (.fieldLink RX9 9 "GhostPane$Tape" "fault" "I") (List.mem_of_getElem? (i := 1) rfl)) (fun _ h9 => h9) rfl dX9_takesSign_1 ?_
  refine lv_if_ne (tgt := 31) hx hb dX9_takesSign_4 (by decide) (fun c_1 => ?_) (fun c_1 => ?_)
  · refine lv_iconst (v := 0) hx hb dX9_takesSign_31 (by decide) ?_
    exact W.zret (v := 0) hx hb hr narrow_b0 (fun t ht hW => ⟨⟨0, tape_at, rfl, ⟨(show (0 : Int32) = 0 ∨ (0 : Int32) = 1 by decide), f_tape_at, (lf_sX9_takesSign_1 tape_at f_tape_at), (lf_sX9_takesSign_2 tape_at f_tape_at)⟩, gp_end ht hP hD⟩, hS.F ht⟩) hS.2.2 dX9_takesSign_32
  · refine lv_aload_n hx hb dX9_takesSign_7 rfl (lv_at hl 0 rfl) ?_
    refine va_get (D := D) (ci := 9) (v := .int tape_at) (C := RX9) (T := TX9) (N := 7) hx hb hts hiX9 hown hK hP 0 rfl rfl 5 (by decide) (hts (.fieldLink RX9 25 "GhostPane$Tape" "at" "I") (List.mem_of_getElem? (i := 2) rfl)) (fun _ h9 => h9) rfl dX9_takesSign_8 ?_
    refine lv_aload_n hx hb dX9_takesSign_11 rfl (lv_at hl 0 rfl) ?_
    refine va_get (D := D) (ci := 9) (v := .int tape_length) (C := RX9) (T := TX9) (N := 7) hx hb hts hiX9 hown hK hP 0 rfl rfl 0 (by decide) (hts (.fieldLink RX9 22 "GhostPane$Tape" "length" "I") (List.mem_of_getElem? (i := 3) rfl)) (fun _ h9 => h9) rfl dX9_takesSign_12 ?_
    refine lv_icmp_ge (tgt := 31) hx hb dX9_takesSign_15 (by decide) (fun c_2 => ?_) (fun c_2 => ?_)
    · refine lv_iconst (v := 0) hx hb dX9_takesSign_31 (by decide) ?_
      exact W.zret (v := 0) hx hb hr narrow_b0 (fun t ht hW => ⟨⟨0, tape_at, rfl, ⟨(show (0 : Int32) = 0 ∨ (0 : Int32) = 1 by decide), f_tape_at, (lf_sX9_takesSign_3 tape_length tape_at f_tape_length f_tape_at c_2), (lf_sX9_takesSign_4 tape_length tape_at f_tape_length f_tape_at c_2)⟩, gp_end ht hP hD⟩, hS.F ht⟩) hS.2.2 dX9_takesSign_32
    · refine lv_aload_n hx hb dX9_takesSign_18 rfl (lv_at hl 0 rfl) ?_
      refine va_get (D := D) (ci := 9) (v := .ref (xa 2)) (C := RX9) (T := TX9) (N := 7) hx hb hts hiX9 hown hK hP 0 rfl rfl 6 (by decide) (hts (.fieldLink RX9 18 "GhostPane$Tape" "bytes" "[B") (List.mem_of_getElem? (i := 4) rfl)) (fun _ h9 => h9) rfl dX9_takesSign_19 ?_
      refine lv_aload_n hx hb dX9_takesSign_22 rfl (lv_at hl 0 rfl) ?_
      refine va_get (D := D) (ci := 9) (v := .int tape_at) (C := RX9) (T := TX9) (N := 7) hx hb hts hiX9 hown hK hP 0 rfl rfl 5 (by decide) (hts (.fieldLink RX9 25 "GhostPane$Tape" "at" "I") (List.mem_of_getElem? (i := 2) rfl)) (fun _ h9 => h9) rfl dX9_takesSign_23 ?_
      refine va_bald hx hb hK hP 1 0 rfl rfl (gp_in (hi := 599) (lf_sX9_takesSign_5 tape_length tape_at f_tape_length f_tape_at c_2) (by decide)) dX9_takesSign_26 ?_
      refine gp_fi (fun y_3 => ?_)
      refine lv_iload_n hx hb dX9_takesSign_27 rfl (lv_at hl 1 rfl) ?_
      refine lv_icmp_eq (tgt := 33) hx hb dX9_takesSign_28 (by decide) (fun c_4 => ?_) (fun c_4 => ?_)
      · refine lv_aload_n hx hb dX9_takesSign_33 rfl (lv_at hl 0 rfl) ?_
        refine lv_dup hx hb dX9_takesSign_34 rfl ?_
        refine va_get (D := D) (ci := 9) (v := .int tape_at) (C := RX9) (T := TX9) (N := 7) hx hb hts hiX9 hown hK hP 0 rfl rfl 5 (by decide) (hts (.fieldLink RX9 25 "GhostPane$Tape" "at" "I") (List.mem_of_getElem? (i := 2) rfl)) (fun _ h9 => h9) rfl dX9_takesSign_35 ?_
        refine lv_iconst (v := 1) hx hb dX9_takesSign_38 (by decide) ?_
        refine lv_iadd hx hb dX9_takesSign_39 ?_
        refine va_put (D := D) (ci := 9) (v := .int (tape_at + 1)) (ty := .int) (C := RX9) (T := TX9) (N := 7) hx hb hts hiX9 tyX9 tyX9_ok nmX9 hown hK hP hD hS 0 rfl rfl 5 (by decide) (hts (.fieldLink RX9 25 "GhostPane$Tape" "at" "I") (List.mem_of_getElem? (i := 2) rfl)) (fun _ h9 => h9) rfl (by decide +kernel) rfl rfl (Nat.le_of_ble_eq_true rfl) dX9_takesSign_40 (fun H locs hP hD hS => ?_)
        have hP : va_P D vwCl [(o_tape xa tape_length tape_fault tape_faultPlace tape_wordFrom tape_wordTo (tape_at + 1)), (aI (xa 2) (cy 0) 600 bytes)] H := hP
        have hD := gp_sD hP hD
        refine lv_iconst (v := 1) hx hb dX9_takesSign_43 (by decide) ?_
        exact W.zret (v := 1) hx hb hr narrow_b1 (fun t ht hW => ⟨⟨1, (tape_at + 1), rfl, ⟨(show (1 : Int32) = 0 ∨ (1 : Int32) = 1 by decide), (lf_sX9_takesSign_6 tape_length tape_at f_tape_length f_tape_at c_2), (lf_sX9_takesSign_7 tape_length tape_at f_tape_length f_tape_at c_2), (lf_sX9_takesSign_8 tape_length tape_at f_tape_length f_tape_at c_2)⟩, gp_end ht hP hD⟩, hS.F ht⟩) hS.2.2 dX9_takesSign_44
      · refine lv_iconst (v := 0) hx hb dX9_takesSign_31 (by decide) ?_
        exact W.zret (v := 0) hx hb hr narrow_b0 (fun t ht hW => ⟨⟨0, tape_at, rfl, ⟨(show (0 : Int32) = 0 ∨ (0 : Int32) = 1 by decide), f_tape_at, (lf_sX9_takesSign_9 tape_length tape_at f_tape_length f_tape_at c_2), (lf_sX9_takesSign_10 tape_length tape_at f_tape_length f_tape_at c_2)⟩, gp_end ht hP hD⟩, hS.F ht⟩) hS.2.2 dX9_takesSign_32

theorem lf_sX9_needSign_1 (tape_at : Int32) (f_tape_at : sp_in tape_at 0 600) : tape_at ≤ tape_at := by
  first | grind | (simp only [sp_in, sp_pl, sp_far, sp_two] at *; grind)
theorem lf_sX9_needSign_2 (tape_fault : Int32) (c_1 : ¬ tape_fault = 0) : tape_fault = 0 → tape_fault = 0 := by
  first | grind | (simp only [sp_in, sp_pl, sp_far, sp_two] at *; grind)
theorem lf_sX9_needSign_3 (tape_fault : Int32) (tape_at : Int32) (f_tape_at : sp_in tape_at 0 600) (c_1 : ¬ tape_fault = 0) : tape_fault = 0 → tape_at < tape_at := by
  first | grind | (simp only [sp_in, sp_pl, sp_far, sp_two] at *; grind)
theorem lf_sX9_needSign_4 (tape_at : Int32) (tape_at_2 : Int32) (r_5 : Int32) (tape_at_6 : Int32) (f_tape_at : sp_in tape_at 0 600) (w_3 : sp_in tape_at_2 0 600) (w_4 : tape_at ≤ tape_at_2) (w_7 : r_5 = 0 ∨ r_5 = 1) (w_8 : sp_in tape_at_6 0 600) (w_9 : tape_at_2 ≤ tape_at_6) (w_10 : r_5 = 1 → tape_at_2 < tape_at_6) (c_11 : ¬ r_5 = 0) : tape_at ≤ tape_at_6 := by
  first | grind | (simp only [sp_in, sp_pl, sp_far, sp_two] at *; grind)
theorem lf_sX9_needSign_5 (tape_fault : Int32) (c_1 : tape_fault = 0) : tape_fault = 0 → tape_fault = 0 := by
  first | grind | (simp only [sp_in, sp_pl, sp_far, sp_two] at *; grind)
theorem lf_sX9_needSign_6 (tape_fault : Int32) (tape_at : Int32) (tape_at_2 : Int32) (r_5 : Int32) (tape_at_6 : Int32) (f_tape_at : sp_in tape_at 0 600) (c_1 : tape_fault = 0) (w_3 : sp_in tape_at_2 0 600) (w_4 : tape_at ≤ tape_at_2) (w_7 : r_5 = 0 ∨ r_5 = 1) (w_8 : sp_in tape_at_6 0 600) (w_9 : tape_at_2 ≤ tape_at_6) (w_10 : r_5 = 1 → tape_at_2 < tape_at_6) (c_11 : ¬ r_5 = 0) : tape_fault = 0 → tape_at < tape_at_6 := by
  first | grind | (simp only [sp_in, sp_pl, sp_far, sp_two] at *; grind)
theorem lf_sX9_needSign_7 (tape_at : Int32) (tape_at_2 : Int32) (r_5 : Int32) (tape_at_6 : Int32) (f_tape_at : sp_in tape_at 0 600) (w_3 : sp_in tape_at_2 0 600) (w_4 : tape_at ≤ tape_at_2) (w_7 : r_5 = 0 ∨ r_5 = 1) (w_8 : sp_in tape_at_6 0 600) (w_9 : tape_at_2 ≤ tape_at_6) (w_10 : r_5 = 1 → tape_at_2 < tape_at_6) (c_11 : r_5 = 0) : tape_at ≤ tape_at_6 := by
  first | grind | (simp only [sp_in, sp_pl, sp_far, sp_two] at *; grind)
theorem lf_sX9_needSign_8 (tape_fault : Int32) (tape_fault_12 : Int32) (c_1 : tape_fault = 0) (w_14 : ¬ tape_fault_12 = 0) : tape_fault_12 = 0 → tape_fault = 0 := by
  first | grind | (simp only [sp_in, sp_pl, sp_far, sp_two] at *; grind)
theorem lf_sX9_needSign_9 (tape_at : Int32) (tape_at_2 : Int32) (r_5 : Int32) (tape_at_6 : Int32) (tape_fault_12 : Int32) (f_tape_at : sp_in tape_at 0 600) (w_3 : sp_in tape_at_2 0 600) (w_4 : tape_at ≤ tape_at_2) (w_7 : r_5 = 0 ∨ r_5 = 1) (w_8 : sp_in tape_at_6 0 600) (w_9 : tape_at_2 ≤ tape_at_6) (w_10 : r_5 = 1 → tape_at_2 < tape_at_6) (c_11 : r_5 = 0) (w_14 : ¬ tape_fault_12 = 0) : tape_fault_12 = 0 → tape_at < tape_at_6 := by
  first | grind | (simp only [sp_in, sp_pl, sp_far, sp_two] at *; grind)
def v_sX9_needSign : List Cond := .code yX9_needSign cX9_needSign 2 none :: (([.fieldLink RX9 9 "GhostPane$Tape" "fault" "I", .code yX9_skipBlanks cX9_skipBlanks 1 none, .fieldLink RX9 25 "GhostPane$Tape" "at" "I", .fieldLink RX9 22 "GhostPane$Tape" "length" "I", .fieldLink RX9 18 "GhostPane$Tape" "bytes" "[B", .methodLink RX9 28 yX9_skipBlanks, .instanceMethod yX9_skipBlanks, .selects RX9 yX9_skipBlanks yX9_skipBlanks, .initialized RX9, .code yX9_takesSign cX9_takesSign 2 (some .boolean), .methodLink RX9 35 yX9_takesSign, .instanceMethod yX9_takesSign, .selects RX9 yX9_takesSign yX9_takesSign, .code yX9_fail cX9_fail 3 none, .fieldLink RX9 15 "GhostPane$Tape" "faultPlace" "I", .methodLink RX9 31 yX9_fail, .instanceMethod yX9_fail, .selects RX9 yX9_fail yX9_fail] : List Cond) ++ wsX90)
set_option maxRecDepth 20000 in
theorem gg_sX9_needSign_sX9_skipBlanks : GoodIn v_sX9_needSign v_sX9_skipBlanks := goodIn_ca (goodIn_r (.code yX9_skipBlanks cX9_skipBlanks 1 none :: [.fieldLink RX9 25 "GhostPane$Tape" "at" "I", .fieldLink RX9 22 "GhostPane$Tape" "length" "I", .fieldLink RX9 18 "GhostPane$Tape" "bytes" "[B"]) [2, 3, 4, 5] (by first | rfl | decide +kernel) (by decide +kernel)) (goodIn_sub (fun _ h => List.mem_cons_of_mem _ (List.mem_append_right _ h)) gwX9)
set_option maxRecDepth 20000 in
theorem g_sX9_needSign_sX9_skipBlanks_0 : GoodIn v_sX9_needSign (wsV RX9 28 RX9 yX9_skipBlanks v_sX9_skipBlanks) := goodIn_app (goodIn_r [.methodLink RX9 28 yX9_skipBlanks, .instanceMethod yX9_skipBlanks, .selects RX9 yX9_skipBlanks yX9_skipBlanks, .initialized RX9] [6, 7, 8, 9] rfl (by decide +kernel)) gg_sX9_needSign_sX9_skipBlanks
set_option maxRecDepth 20000 in
theorem gg_sX9_needSign_sX9_takesSign : GoodIn v_sX9_needSign v_sX9_takesSign := goodIn_ca (goodIn_r (.code yX9_takesSign cX9_takesSign 2 (some .boolean) :: [.fieldLink RX9 9 "GhostPane$Tape" "fault" "I", .fieldLink RX9 25 "GhostPane$Tape" "at" "I", .fieldLink RX9 22 "GhostPane$Tape" "length" "I", .fieldLink RX9 18 "GhostPane$Tape" "bytes" "[B"]) [10, 1, 3, 4, 5] (by first | rfl | decide +kernel) (by decide +kernel)) (goodIn_sub (fun _ h => List.mem_cons_of_mem _ (List.mem_append_right _ h)) gwX9)
set_option maxRecDepth 20000 in
theorem g_sX9_needSign_sX9_takesSign_1 : GoodIn v_sX9_needSign (wsV RX9 35 RX9 yX9_takesSign v_sX9_takesSign) := goodIn_app (goodIn_r [.methodLink RX9 35 yX9_takesSign, .instanceMethod yX9_takesSign, .selects RX9 yX9_takesSign yX9_takesSign, .initialized RX9] [11, 12, 13, 9] rfl (by decide +kernel)) gg_sX9_needSign_sX9_takesSign
set_option maxRecDepth 20000 in
theorem gg_sX9_needSign_sX9_fail : GoodIn v_sX9_needSign v_sX9_fail := goodIn_ca (goodIn_r (.code yX9_fail cX9_fail 3 none :: [.fieldLink RX9 9 "GhostPane$Tape" "fault" "I", .fieldLink RX9 15 "GhostPane$Tape" "faultPlace" "I"]) [14, 1, 15] (by first | rfl | decide +kernel) (by decide +kernel)) (goodIn_sub (fun _ h => List.mem_cons_of_mem _ (List.mem_append_right _ h)) gwX9)
set_option maxRecDepth 20000 in
theorem g_sX9_needSign_sX9_fail_2 : GoodIn v_sX9_needSign (wsV RX9 31 RX9 yX9_fail v_sX9_fail) := goodIn_app (goodIn_r [.methodLink RX9 31 yX9_fail, .instanceMethod yX9_fail, .selects RX9 yX9_fail yX9_fail, .initialized RX9] [16, 17, 18, 9] rfl (by decide +kernel)) gg_sX9_needSign_sX9_fail
set_option maxHeartbeats 4000000 in
set_option maxRecDepth 100000 in
theorem sX9_needSign (l : Launch) (D : va_G) (cy : Nat → ClassId) (sz : Nat) (xa : Nat → Nat) (tape_length : Int32) (tape_fault : Int32) (tape_faultPlace : Int32) (tape_wordFrom : Int32) (tape_wordTo : Int32) (tape_at : Int32) (bytes : Nat → Int32) (sign : Int32) (f_tape_length : sp_in tape_length 0 600) (f_tape_wordFrom : sp_in tape_wordFrom 0 600) (f_tape_wordTo : sp_in tape_wordTo 0 600) (f_tape_at : sp_in tape_at 0 600) : Met l yX9_needSign v_sX9_needSign ({ frames := 1, cells := 0, slots := 0, locals := 22 } : Room) (va_Pc [.ref (xa 1), .int sign] (gp_B D cy sz [(o_tape xa tape_length tape_fault tape_faultPlace tape_wordFrom tape_wordTo tape_at), (aI (xa 2) (cy 0) 600 bytes)])) (va_Qv (fun (u : (Int32) × (Int32) × (Int32)) => (sp_in u.2.2 0 600) ∧ (tape_at ≤ u.2.2) ∧ (u.1 = 0 → tape_fault = 0) ∧ (u.1 = 0 → tape_at < u.2.2)) (fun u => gp_E D (va_A [(o_tape xa tape_length tape_fault tape_faultPlace tape_wordFrom tape_wordTo tape_at), (aI (xa 2) (cy 0) 600 bytes)] sz) [(o_tape xa tape_length u.1 u.2.1 tape_wordFrom tape_wordTo u.2.2), (aI (xa 2) (cy 0) 600 bytes)]) (va_A [(o_tape xa tape_length tape_fault tape_faultPlace tape_wordFrom tape_wordTo tape_at), (aI (xa 2) (cy 0) 600 bytes)] sz)) 0 0 (va_A [(o_tape xa tape_length tape_fault tape_faultPlace tape_wordFrom tape_wordTo tape_at), (aI (xa 2) (cy 0) 600 bytes)] sz) := by
  refine gp_met (Qc := fun A => va_Qv (fun (u : (Int32) × (Int32) × (Int32)) => (sp_in u.2.2 0 600) ∧ (tape_at ≤ u.2.2) ∧ (u.1 = 0 → tape_fault = 0) ∧ (u.1 = 0 → tape_at < u.2.2)) (fun u => gp_E D A [(o_tape xa tape_length u.1 u.2.1 tape_wordFrom tape_wordTo u.2.2), (aI (xa 2) (cy 0) 600 bytes)]) A) (cc := cX9_needSign) (maxL := 2) (ret := none) (by decide) rfl (Nat.le_of_ble_eq_true rfl) ?_
  intro p e s m below meth c A ls H hx hb hml hr hlocks hts hown hin hK hN hS hP hD hA hl
  have hown : s.vm.findClass RX9 = some m.cls := hown
  have hl : lv_has ls 2 [(0, .ref (xa 1)), (1, .int sign)] := hl
  have hiX9 : ∀ w ∈ u_ws RX9 TX9 7, w ∈ v_sX9_needSign := fun _ h => List.mem_cons_of_mem _ (List.mem_append_right _ h)
  refine lv_aload_n hx hb dX9_needSign_0 rfl (lv_at hl 0 rfl) ?_
  refine va_get (D := D) (ci := 9) (v := .int tape_fault) (C := RX9) (T := TX9) (N := 7) hx hb hts hiX9 hown hK hP 0 rfl rfl 1 (by decide) (hts (.fieldLink RX9 9 "GhostPane$Tape" "fault" "I") (List.mem_of_getElem? (i := 1) rfl)) (fun _ h9 => h9) rfl dX9_needSign_1 ?_
  refine lv_if_ne (tgt := 28) hx hb dX9_needSign_4 (by decide) (fun c_1 => ?_) (fun c_1 => ?_)
  · exact W.vret hx hb hr (fun t ht hW => ⟨⟨⟨tape_fault, tape_faultPlace, tape_at⟩, rfl, ⟨f_tape_at, (lf_sX9_needSign_1 tape_at f_tape_at), (lf_sX9_needSign_2 tape_fault c_1), (lf_sX9_needSign_3 tape_fault tape_at f_tape_at c_1)⟩, gp_end ht hP hD⟩, hS.F ht⟩) hS.2.2 dX9_needSign_28
  · refine lv_aload_n hx hb dX9_needSign_7 rfl (lv_at hl 0 rfl) ?_
    have hPc := hP.sub (ws' := [(o_tape xa tape_length tape_fault tape_faultPlace tape_wordFrom tape_wordTo tape_at), (aI (xa 2) (cy 0) 600 bytes)]) [0, 1] rfl
    have hDc := hD.sub (ws' := [(o_tape xa tape_length tape_fault tape_faultPlace tape_wordFrom tape_wordTo tape_at), (aI (xa 2) (cy 0) 600 bytes)]) [0, 1] (by decide) rfl
    have hFc := va_free (wc := [(o_tape xa tape_length tape_fault tape_faultPlace tape_wordFrom tape_wordTo tape_at), (aI (xa 2) (cy 0) 600 bytes)]) hD hS hA [0, 1] rfl
    refine va_callv (va_runV (As := []) (rest := []) ⟨hx, hb, hml, hown, hts⟩ (sX9_skipBlanks l D cy H.size xa tape_length tape_fault tape_faultPlace tape_wordFrom tape_wordTo tape_at bytes f_tape_length f_tape_wordFrom f_tape_wordTo f_tape_at) (cwV 0 hts g_sX9_needSign_sX9_skipBlanks_0 rfl rfl rfl (by decide +kernel) ⟨Nat.le_of_ble_eq_true rfl, Nat.le_of_ble_eq_true rfl⟩) (gp_preV (RX9, TX9, 7) 9 0 hPc hDc hK hN rfl rfl) rfl rfl hl.1 rfl (lv_room (Nat.le_of_ble_eq_true rfl)) dX9_needSign_8 ⟨Nat.le_of_ble_eq_true rfl, Nat.le_of_ble_eq_true rfl⟩) hS (fun q _ h => hFc q h) hFc (fun tape_at_2 t H locs ht hvm hw hB hz1 hk1 hS => ?_)
    obtain ⟨hP, hD⟩ := gp_joinS (wc := [(o_tape xa tape_length tape_fault tape_faultPlace tape_wordFrom tape_wordTo tape_at), (aI (xa 2) (cy 0) 600 bytes)]) (w1 := [(o_tape xa tape_length tape_fault tape_faultPlace tape_wordFrom tape_wordTo tape_at_2), (aI (xa 2) (cy 0) 600 bytes)]) hP hD [0, 1] rfl rfl hk1 ht hB
    obtain ⟨w_3, w_4⟩ := hw
    have hP : va_P D vwCl [(o_tape xa tape_length tape_fault tape_faultPlace tape_wordFrom tape_wordTo tape_at_2), (aI (xa 2) (cy 0) 600 bytes)] H := hP
    have hD := gp_sD hP hD
    refine lv_aload_n hx hb dX9_needSign_11 rfl (lv_at hl 0 rfl) ?_
    refine lv_iload_n hx hb dX9_needSign_12 rfl (lv_at hl 1 rfl) ?_
    have hPc := hP.sub (ws' := [(o_tape xa tape_length tape_fault tape_faultPlace tape_wordFrom tape_wordTo tape_at_2), (aI (xa 2) (cy 0) 600 bytes)]) [0, 1] rfl
    have hDc := hD.sub (ws' := [(o_tape xa tape_length tape_fault tape_faultPlace tape_wordFrom tape_wordTo tape_at_2), (aI (xa 2) (cy 0) 600 bytes)]) [0, 1] (by decide) rfl
    have hFc := va_free (wc := [(o_tape xa tape_length tape_fault tape_faultPlace tape_wordFrom tape_wordTo tape_at_2), (aI (xa 2) (cy 0) 600 bytes)]) hD hS hA [0, 1] rfl
    refine va_calli (va_runV (As := [.int sign]) (rest := []) ⟨hx, hb, hml, hown, hts⟩ (sX9_takesSign l D cy H.size xa tape_length tape_fault tape_faultPlace tape_wordFrom tape_wordTo tape_at_2 bytes sign f_tape_length f_tape_wordFrom f_tape_wordTo w_3) (cwV 1 hts g_sX9_needSign_sX9_takesSign_1 rfl rfl rfl (by decide +kernel) ⟨Nat.le_of_ble_eq_true rfl, Nat.le_of_ble_eq_true rfl⟩) (gp_preV (RX9, TX9, 7) 9 0 hPc hDc hK hN rfl rfl) rfl rfl hl.1 rfl (lv_room (Nat.le_of_ble_eq_true rfl)) dX9_needSign_13 ⟨Nat.le_of_ble_eq_true rfl, Nat.le_of_ble_eq_true rfl⟩) hS (fun q _ h => hFc q h) hFc (fun r_5 tape_at_6 t H locs ht hvm hw hB hz1 hk1 hS => ?_)
    obtain ⟨hP, hD⟩ := gp_joinS (wc := [(o_tape xa tape_length tape_fault tape_faultPlace tape_wordFrom tape_wordTo tape_at_2), (aI (xa 2) (cy 0) 600 bytes)]) (w1 := [(o_tape xa tape_length tape_fault tape_faultPlace tape_wordFrom tape_wordTo tape_at_6), (aI (xa 2) (cy 0) 600 bytes)]) hP hD [0, 1] rfl rfl hk1 ht hB
    obtain ⟨w_7, w_8, w_9, w_10⟩ := hw
    have hP : va_P D vwCl [(o_tape xa tape_length tape_fault tape_faultPlace tape_wordFrom tape_wordTo tape_at_6), (aI (xa 2) (cy 0) 600 bytes)] H := hP
    have hD := gp_sD hP hD
    refine lv_if_ne (tgt := 28) hx hb dX9_needSign_16 (by decide) (fun c_11 => ?_) (fun c_11 => ?_)
    · exact W.vret hx hb hr (fun t ht hW => ⟨⟨⟨tape_fault, tape_faultPlace, tape_at_6⟩, rfl, ⟨w_8, (lf_sX9_needSign_4 tape_at tape_at_2 r_5 tape_at_6 f_tape_at w_3 w_4 w_7 w_8 w_9 w_10 c_11), (lf_sX9_needSign_5 tape_fault c_1), (lf_sX9_needSign_6 tape_fault tape_at tape_at_2 r_5 tape_at_6 f_tape_at c_1 w_3 w_4 w_7 w_8 w_9 w_10 c_11)⟩, gp_end ht hP hD⟩, hS.F ht⟩) hS.2.2 dX9_needSign_28
    · refine lv_aload_n hx hb dX9_needSign_19 rfl (lv_at hl 0 rfl) ?_
      refine lv_iconst (v := 1) hx hb dX9_needSign_20 (by decide) ?_
      refine lv_aload_n hx hb dX9_needSign_21 rfl (lv_at hl 0 rfl) ?_
      refine va_get (D := D) (ci := 9) (v := .int tape_at_6) (C := RX9) (T := TX9) (N := 7) hx hb hts hiX9 hown hK hP 0 rfl rfl 5 (by decide) (hts (.fieldLink RX9 25 "GhostPane$Tape" "at" "I") (List.mem_of_getElem? (i := 3) rfl)) (fun _ h9 => h9) rfl dX9_needSign_22 ?_
      have hPc := hP.sub (ws' := [(o_tape xa tape_length tape_fault tape_faultPlace tape_wordFrom tape_wordTo tape_at_6)]) [0] rfl
      have hDc := hD.sub (ws' := [(o_tape xa tape_length tape_fault tape_faultPlace tape_wordFrom tape_wordTo tape_at_6)]) [0] (by decide) rfl
      have hFc := va_free (wc := [(o_tape xa tape_length tape_fault tape_faultPlace tape_wordFrom tape_wordTo tape_at_6)]) hD hS hA [0] rfl
      refine va_callv (va_runV (As := [.int 1, .int tape_at_6]) (rest := []) ⟨hx, hb, hml, hown, hts⟩ (sX9_fail l D cy H.size xa tape_length tape_fault tape_faultPlace tape_wordFrom tape_wordTo tape_at_6 1 tape_at_6 f_tape_length f_tape_wordFrom f_tape_wordTo w_8 (show ¬ 1 = 0 by decide)) (cwV 2 hts g_sX9_needSign_sX9_fail_2 rfl rfl rfl (by decide +kernel) ⟨Nat.le_of_ble_eq_true rfl, Nat.le_of_ble_eq_true rfl⟩) (gp_preV (RX9, TX9, 7) 9 0 hPc hDc hK hN rfl rfl) rfl rfl hl.1 rfl (lv_room (Nat.le_of_ble_eq_true rfl)) dX9_needSign_25 ⟨Nat.le_of_ble_eq_true rfl, Nat.le_of_ble_eq_true rfl⟩) hS (fun q _ h => hFc q h) hFc (fun u t H locs ht hvm hw hB hz1 hk1 hS => ?_)
      obtain ⟨tape_fault_12, tape_faultPlace_13⟩ := u
      obtain ⟨hP, hD⟩ := gp_joinS (wc := [(o_tape xa tape_length tape_fault tape_faultPlace tape_wordFrom tape_wordTo tape_at_6)]) (w1 := [(o_tape xa tape_length tape_fault_12 tape_faultPlace_13 tape_wordFrom tape_wordTo tape_at_6)]) hP hD [0] rfl rfl hk1 ht hB
      have w_14 := hw
      have hP : va_P D vwCl [(o_tape xa tape_length tape_fault_12 tape_faultPlace_13 tape_wordFrom tape_wordTo tape_at_6), (aI (xa 2) (cy 0) 600 bytes)] H := hP
      have hD := gp_sD hP hD
      exact W.vret hx hb hr (fun t ht hW => ⟨⟨⟨tape_fault_12, tape_faultPlace_13, tape_at_6⟩, rfl, ⟨w_8, (lf_sX9_needSign_7 tape_at tape_at_2 r_5 tape_at_6 f_tape_at w_3 w_4 w_7 w_8 w_9 w_10 c_11), (lf_sX9_needSign_8 tape_fault tape_fault_12 c_1 w_14), (lf_sX9_needSign_9 tape_at tape_at_2 r_5 tape_at_6 tape_fault_12 f_tape_at w_3 w_4 w_7 w_8 w_9 w_10 c_11 w_14)⟩, gp_end ht hP hD⟩, hS.F ht⟩) hS.2.2 dX9_needSign_28

theorem lf_sX9_isLetter_1 (tape_length : Int32) (tape_at : Int32) (f_tape_length : sp_in tape_length 0 600) (f_tape_at : sp_in tape_at 0 600) (c_1 : tape_at < tape_length) : sp_in tape_at 0 599 := by
  first | grind | (simp only [sp_in, sp_pl, sp_far, sp_two] at *; grind)
def v_sX9_isLetter : List Cond := .code yX9_isLetter cX9_isLetter 2 (some .boolean) :: (([.fieldLink RX9 25 "GhostPane$Tape" "at" "I", .fieldLink RX9 22 "GhostPane$Tape" "length" "I", .fieldLink RX9 18 "GhostPane$Tape" "bytes" "[B"] : List Cond) ++ wsX90)
set_option maxHeartbeats 4000000 in
set_option maxRecDepth 100000 in
theorem sX9_isLetter (l : Launch) (D : va_G) (cy : Nat → ClassId) (sz : Nat) (xa : Nat → Nat) (tape_length : Int32) (tape_fault : Int32) (tape_faultPlace : Int32) (tape_wordFrom : Int32) (tape_wordTo : Int32) (tape_at : Int32) (bytes : Nat → Int32) (f_tape_length : sp_in tape_length 0 600) (f_tape_wordFrom : sp_in tape_wordFrom 0 600) (f_tape_wordTo : sp_in tape_wordTo 0 600) (f_tape_at : sp_in tape_at 0 600) : Met l yX9_isLetter v_sX9_isLetter ({ frames := 0, cells := 0, slots := 0, locals := 0 } : Room) (va_Pc [.ref (xa 1)] (gp_B D cy sz [(o_tape xa tape_length tape_fault tape_faultPlace tape_wordFrom tape_wordTo tape_at), (aI (xa 2) (cy 0) 600 bytes)])) (va_Qi (fun (r : Int32) (u : Unit) => (r = 0 ∨ r = 1)) (fun u => gp_E D (va_A [(o_tape xa tape_length tape_fault tape_faultPlace tape_wordFrom tape_wordTo tape_at), (aI (xa 2) (cy 0) 600 bytes)] sz) [(o_tape xa tape_length tape_fault tape_faultPlace tape_wordFrom tape_wordTo tape_at), (aI (xa 2) (cy 0) 600 bytes)]) (va_A [(o_tape xa tape_length tape_fault tape_faultPlace tape_wordFrom tape_wordTo tape_at), (aI (xa 2) (cy 0) 600 bytes)] sz)) 0 0 (va_A [(o_tape xa tape_length tape_fault tape_faultPlace tape_wordFrom tape_wordTo tape_at), (aI (xa 2) (cy 0) 600 bytes)] sz) := by
  refine gp_met (Qc := fun A => va_Qi (fun (r : Int32) (u : Unit) => (r = 0 ∨ r = 1)) (fun u => gp_E D A [(o_tape xa tape_length tape_fault tape_faultPlace tape_wordFrom tape_wordTo tape_at), (aI (xa 2) (cy 0) 600 bytes)]) A) (cc := cX9_isLetter) (maxL := 2) (ret := (some .boolean)) (by decide) rfl (Nat.le_of_ble_eq_true rfl) ?_
  intro p e s m below meth c A ls H hx hb hml hr hlocks hts hown hin hK hN hS hP hD hA hl
  have hown : s.vm.findClass RX9 = some m.cls := hown
  have hl : lv_has ls 2 [(0, .ref (xa 1))] := hl
  have hiX9 : ∀ w ∈ u_ws RX9 TX9 7, w ∈ v_sX9_isLetter := fun _ h => List.mem_cons_of_mem _ (List.mem_append_right _ h)
  refine lv_aload_n hx hb dX9_isLetter_0 rfl (lv_at hl 0 rfl) ?_
  refine va_get (D := D) (ci := 9) (v := .int tape_at) (C := RX9) (T := TX9) (N := 7) hx hb hts hiX9 hown hK hP 0 rfl rfl 5 (by decide) (hts (.fieldLink RX9 25 "GhostPane$Tape" "at" "I") (List.mem_of_getElem? (i := 1) rfl)) (fun _ h9 => h9) rfl dX9_isLetter_1 ?_
  refine lv_aload_n hx hb dX9_isLetter_4 rfl (lv_at hl 0 rfl) ?_
  refine va_get (D := D) (ci := 9) (v := .int tape_length) (C := RX9) (T := TX9) (N := 7) hx hb hts hiX9 hown hK hP 0 rfl rfl 0 (by decide) (hts (.fieldLink RX9 22 "GhostPane$Tape" "length" "I") (List.mem_of_getElem? (i := 2) rfl)) (fun _ h9 => h9) rfl dX9_isLetter_5 ?_
  refine lv_icmp_lt (tgt := 13) hx hb dX9_isLetter_8 (by decide) (fun c_1 => ?_) (fun c_1 => ?_)
  · refine lv_aload_n hx hb dX9_isLetter_13 rfl (lv_at hl 0 rfl) ?_
    refine va_get (D := D) (ci := 9) (v := .ref (xa 2)) (C := RX9) (T := TX9) (N := 7) hx hb hts hiX9 hown hK hP 0 rfl rfl 6 (by decide) (hts (.fieldLink RX9 18 "GhostPane$Tape" "bytes" "[B") (List.mem_of_getElem? (i := 3) rfl)) (fun _ h9 => h9) rfl dX9_isLetter_14 ?_
    refine lv_aload_n hx hb dX9_isLetter_17 rfl (lv_at hl 0 rfl) ?_
    refine va_get (D := D) (ci := 9) (v := .int tape_at) (C := RX9) (T := TX9) (N := 7) hx hb hts hiX9 hown hK hP 0 rfl rfl 5 (by decide) (hts (.fieldLink RX9 25 "GhostPane$Tape" "at" "I") (List.mem_of_getElem? (i := 1) rfl)) (fun _ h9 => h9) rfl dX9_isLetter_18 ?_
    refine va_bald hx hb hK hP 1 0 rfl rfl (gp_in (hi := 599) (lf_sX9_isLetter_1 tape_length tape_at f_tape_length f_tape_at c_1) (by decide)) dX9_isLetter_21 ?_
    refine gp_fi (fun y_2 => ?_)
    refine lv_istore_n (lv' := [(1, .int y_2), (0, .ref (xa 1))]) hx hb dX9_isLetter_22 rfl hl (by decide) rfl (fun ls hl => ?_)
    refine lv_iload_n hx hb dX9_isLetter_23 rfl (lv_at hl 0 rfl) ?_
    refine lv_bipush (v := 97) hx hb dX9_isLetter_24 (by decide) ?_
    refine lv_icmp_lt (tgt := 35) hx hb dX9_isLetter_26 (by decide) (fun c_3 => ?_) (fun c_3 => ?_)
    · refine lv_iload_n hx hb dX9_isLetter_35 rfl (lv_at hl 0 rfl) ?_
      refine lv_bipush (v := 65) hx hb dX9_isLetter_36 (by decide) ?_
      refine lv_icmp_lt (tgt := 51) hx hb dX9_isLetter_38 (by decide) (fun c_4 => ?_) (fun c_4 => ?_)
      · refine lv_iconst (v := 0) hx hb dX9_isLetter_51 (by decide) ?_
        exact W.zret (v := 0) hx hb hr narrow_b0 (fun t ht hW => ⟨⟨0, (), rfl, (show (0 : Int32) = 0 ∨ (0 : Int32) = 1 by decide), gp_end ht hP hD⟩, hS.F ht⟩) hS.2.2 dX9_isLetter_52
      · refine lv_iload_n hx hb dX9_isLetter_41 rfl (lv_at hl 0 rfl) ?_
        refine lv_bipush (v := 90) hx hb dX9_isLetter_42 (by decide) ?_
        refine lv_icmp_gt (tgt := 51) hx hb dX9_isLetter_44 (by decide) (fun c_5 => ?_) (fun c_5 => ?_)
        · refine lv_iconst (v := 0) hx hb dX9_isLetter_51 (by decide) ?_
          exact W.zret (v := 0) hx hb hr narrow_b0 (fun t ht hW => ⟨⟨0, (), rfl, (show (0 : Int32) = 0 ∨ (0 : Int32) = 1 by decide), gp_end ht hP hD⟩, hS.F ht⟩) hS.2.2 dX9_isLetter_52
        · refine lv_iconst (v := 1) hx hb dX9_isLetter_47 (by decide) ?_
          refine lv_goto (tgt := 52) hx hb dX9_isLetter_48 (by decide) ?_
          exact W.zret (v := 1) hx hb hr narrow_b1 (fun t ht hW => ⟨⟨1, (), rfl, (show (1 : Int32) = 0 ∨ (1 : Int32) = 1 by decide), gp_end ht hP hD⟩, hS.F ht⟩) hS.2.2 dX9_isLetter_52
    · refine lv_iload_n hx hb dX9_isLetter_29 rfl (lv_at hl 0 rfl) ?_
      refine lv_bipush (v := 122) hx hb dX9_isLetter_30 (by decide) ?_
      refine lv_icmp_le (tgt := 47) hx hb dX9_isLetter_32 (by decide) (fun c_6 => ?_) (fun c_6 => ?_)
      · refine lv_iconst (v := 1) hx hb dX9_isLetter_47 (by decide) ?_
        refine lv_goto (tgt := 52) hx hb dX9_isLetter_48 (by decide) ?_
        exact W.zret (v := 1) hx hb hr narrow_b1 (fun t ht hW => ⟨⟨1, (), rfl, (show (1 : Int32) = 0 ∨ (1 : Int32) = 1 by decide), gp_end ht hP hD⟩, hS.F ht⟩) hS.2.2 dX9_isLetter_52
      · refine lv_iload_n hx hb dX9_isLetter_35 rfl (lv_at hl 0 rfl) ?_
        refine lv_bipush (v := 65) hx hb dX9_isLetter_36 (by decide) ?_
        refine lv_icmp_lt (tgt := 51) hx hb dX9_isLetter_38 (by decide) (fun c_7 => ?_) (fun c_7 => ?_)
        · refine lv_iconst (v := 0) hx hb dX9_isLetter_51 (by decide) ?_
          exact W.zret (v := 0) hx hb hr narrow_b0 (fun t ht hW => ⟨⟨0, (), rfl, (show (0 : Int32) = 0 ∨ (0 : Int32) = 1 by decide), gp_end ht hP hD⟩, hS.F ht⟩) hS.2.2 dX9_isLetter_52
        · refine lv_iload_n hx hb dX9_isLetter_41 rfl (lv_at hl 0 rfl) ?_
          refine lv_bipush (v := 90) hx hb dX9_isLetter_42 (by decide) ?_
          refine lv_icmp_gt (tgt := 51) hx hb dX9_isLetter_44 (by decide) (fun c_8 => ?_) (fun c_8 => ?_)
          · refine lv_iconst (v := 0) hx hb dX9_isLetter_51 (by decide) ?_
            exact W.zret (v := 0) hx hb hr narrow_b0 (fun t ht hW => ⟨⟨0, (), rfl, (show (0 : Int32) = 0 ∨ (0 : Int32) = 1 by decide), gp_end ht hP hD⟩, hS.F ht⟩) hS.2.2 dX9_isLetter_52
          · refine lv_iconst (v := 1) hx hb dX9_isLetter_47 (by decide) ?_
            refine lv_goto (tgt := 52) hx hb dX9_isLetter_48 (by decide) ?_
            exact W.zret (v := 1) hx hb hr narrow_b1 (fun t ht hW => ⟨⟨1, (), rfl, (show (1 : Int32) = 0 ∨ (1 : Int32) = 1 by decide), gp_end ht hP hD⟩, hS.F ht⟩) hS.2.2 dX9_isLetter_52
  · refine lv_iconst (v := 0) hx hb dX9_isLetter_11 (by decide) ?_
    exact W.zret (v := 0) hx hb hr narrow_b0 (fun t ht hW => ⟨⟨0, (), rfl, (show (0 : Int32) = 0 ∨ (0 : Int32) = 1 by decide), gp_end ht hP hD⟩, hS.F ht⟩) hS.2.2 dX9_isLetter_12

theorem lf_sX9_isDigit_1 (tape_length : Int32) (tape_at : Int32) (f_tape_length : sp_in tape_length 0 600) (f_tape_at : sp_in tape_at 0 600) (c_1 : ¬ tape_length ≤ tape_at) : sp_in tape_at 0 599 := by
  first | grind | (simp only [sp_in, sp_pl, sp_far, sp_two] at *; grind)
theorem lf_sX9_isDigit_2 (tape_length : Int32) (tape_at : Int32) (f_tape_length : sp_in tape_length 0 600) (f_tape_at : sp_in tape_at 0 600) (c_1 : ¬ tape_length ≤ tape_at) : sp_in tape_at 0 599 := by
  first | grind | (simp only [sp_in, sp_pl, sp_far, sp_two] at *; grind)
def v_sX9_isDigit : List Cond := .code yX9_isDigit cX9_isDigit 1 (some .boolean) :: (([.fieldLink RX9 25 "GhostPane$Tape" "at" "I", .fieldLink RX9 22 "GhostPane$Tape" "length" "I", .fieldLink RX9 18 "GhostPane$Tape" "bytes" "[B"] : List Cond) ++ wsX90)
set_option maxHeartbeats 4000000 in
set_option maxRecDepth 100000 in
theorem sX9_isDigit (l : Launch) (D : va_G) (cy : Nat → ClassId) (sz : Nat) (xa : Nat → Nat) (tape_length : Int32) (tape_fault : Int32) (tape_faultPlace : Int32) (tape_wordFrom : Int32) (tape_wordTo : Int32) (tape_at : Int32) (bytes : Nat → Int32) (f_tape_length : sp_in tape_length 0 600) (f_tape_wordFrom : sp_in tape_wordFrom 0 600) (f_tape_wordTo : sp_in tape_wordTo 0 600) (f_tape_at : sp_in tape_at 0 600) : Met l yX9_isDigit v_sX9_isDigit ({ frames := 0, cells := 0, slots := 0, locals := 0 } : Room) (va_Pc [.ref (xa 1)] (gp_B D cy sz [(o_tape xa tape_length tape_fault tape_faultPlace tape_wordFrom tape_wordTo tape_at), (aI (xa 2) (cy 0) 600 bytes)])) (va_Qi (fun (r : Int32) (u : Unit) => (r = 0 ∨ r = 1)) (fun u => gp_E D (va_A [(o_tape xa tape_length tape_fault tape_faultPlace tape_wordFrom tape_wordTo tape_at), (aI (xa 2) (cy 0) 600 bytes)] sz) [(o_tape xa tape_length tape_fault tape_faultPlace tape_wordFrom tape_wordTo tape_at), (aI (xa 2) (cy 0) 600 bytes)]) (va_A [(o_tape xa tape_length tape_fault tape_faultPlace tape_wordFrom tape_wordTo tape_at), (aI (xa 2) (cy 0) 600 bytes)] sz)) 0 0 (va_A [(o_tape xa tape_length tape_fault tape_faultPlace tape_wordFrom tape_wordTo tape_at), (aI (xa 2) (cy 0) 600 bytes)] sz) := by
  refine gp_met (Qc := fun A => va_Qi (fun (r : Int32) (u : Unit) => (r = 0 ∨ r = 1)) (fun u => gp_E D A [(o_tape xa tape_length tape_fault tape_faultPlace tape_wordFrom tape_wordTo tape_at), (aI (xa 2) (cy 0) 600 bytes)]) A) (cc := cX9_isDigit) (maxL := 1) (ret := (some .boolean)) (by decide) rfl (Nat.le_of_ble_eq_true rfl) ?_
  intro p e s m below meth c A ls H hx hb hml hr hlocks hts hown hin hK hN hS hP hD hA hl
  have hown : s.vm.findClass RX9 = some m.cls := hown
  have hl : lv_has ls 1 [(0, .ref (xa 1))] := hl
  have hiX9 : ∀ w ∈ u_ws RX9 TX9 7, w ∈ v_sX9_isDigit := fun _ h => List.mem_cons_of_mem _ (List.mem_append_right _ h)
  refine lv_aload_n hx hb dX9_isDigit_0 rfl (lv_at hl 0 rfl) ?_
  refine va_get (D := D) (ci := 9) (v := .int tape_at) (C := RX9) (T := TX9) (N := 7) hx hb hts hiX9 hown hK hP 0 rfl rfl 5 (by decide) (hts (.fieldLink RX9 25 "GhostPane$Tape" "at" "I") (List.mem_of_getElem? (i := 1) rfl)) (fun _ h9 => h9) rfl dX9_isDigit_1 ?_
  refine lv_aload_n hx hb dX9_isDigit_4 rfl (lv_at hl 0 rfl) ?_
  refine va_get (D := D) (ci := 9) (v := .int tape_length) (C := RX9) (T := TX9) (N := 7) hx hb hts hiX9 hown hK hP 0 rfl rfl 0 (by decide) (hts (.fieldLink RX9 22 "GhostPane$Tape" "length" "I") (List.mem_of_getElem? (i := 2) rfl)) (fun _ h9 => h9) rfl dX9_isDigit_5 ?_
  refine lv_icmp_ge (tgt := 43) hx hb dX9_isDigit_8 (by decide) (fun c_1 => ?_) (fun c_1 => ?_)
  · refine lv_iconst (v := 0) hx hb dX9_isDigit_43 (by decide) ?_
    exact W.zret (v := 0) hx hb hr narrow_b0 (fun t ht hW => ⟨⟨0, (), rfl, (show (0 : Int32) = 0 ∨ (0 : Int32) = 1 by decide), gp_end ht hP hD⟩, hS.F ht⟩) hS.2.2 dX9_isDigit_44
  · refine lv_aload_n hx hb dX9_isDigit_11 rfl (lv_at hl 0 rfl) ?_
    refine va_get (D := D) (ci := 9) (v := .ref (xa 2)) (C := RX9) (T := TX9) (N := 7) hx hb hts hiX9 hown hK hP 0 rfl rfl 6 (by decide) (hts (.fieldLink RX9 18 "GhostPane$Tape" "bytes" "[B") (List.mem_of_getElem? (i := 3) rfl)) (fun _ h9 => h9) rfl dX9_isDigit_12 ?_
    refine lv_aload_n hx hb dX9_isDigit_15 rfl (lv_at hl 0 rfl) ?_
    refine va_get (D := D) (ci := 9) (v := .int tape_at) (C := RX9) (T := TX9) (N := 7) hx hb hts hiX9 hown hK hP 0 rfl rfl 5 (by decide) (hts (.fieldLink RX9 25 "GhostPane$Tape" "at" "I") (List.mem_of_getElem? (i := 1) rfl)) (fun _ h9 => h9) rfl dX9_isDigit_16 ?_
    refine va_bald hx hb hK hP 1 0 rfl rfl (gp_in (hi := 599) (lf_sX9_isDigit_1 tape_length tape_at f_tape_length f_tape_at c_1) (by decide)) dX9_isDigit_19 ?_
    refine gp_fi (fun y_2 => ?_)
    refine lv_bipush (v := 48) hx hb dX9_isDigit_20 (by decide) ?_
    refine lv_icmp_lt (tgt := 43) hx hb dX9_isDigit_22 (by decide) (fun c_3 => ?_) (fun c_3 => ?_)
    · refine lv_iconst (v := 0) hx hb dX9_isDigit_43 (by decide) ?_
      exact W.zret (v := 0) hx hb hr narrow_b0 (fun t ht hW => ⟨⟨0, (), rfl, (show (0 : Int32) = 0 ∨ (0 : Int32) = 1 by decide), gp_end ht hP hD⟩, hS.F ht⟩) hS.2.2 dX9_isDigit_44
    · refine lv_aload_n hx hb dX9_isDigit_25 rfl (lv_at hl 0 rfl) ?_
      refine va_get (D := D) (ci := 9) (v := .ref (xa 2)) (C := RX9) (T := TX9) (N := 7) hx hb hts hiX9 hown hK hP 0 rfl rfl 6 (by decide) (hts (.fieldLink RX9 18 "GhostPane$Tape" "bytes" "[B") (List.mem_of_getElem? (i := 3) rfl)) (fun _ h9 => h9) rfl dX9_isDigit_26 ?_
      refine lv_aload_n hx hb dX9_isDigit_29 rfl (lv_at hl 0 rfl) ?_
      refine va_get (D := D) (ci := 9) (v := .int tape_at) (C := RX9) (T := TX9) (N := 7) hx hb hts hiX9 hown hK hP 0 rfl rfl 5 (by decide) (hts (.fieldLink RX9 25 "GhostPane$Tape" "at" "I") (List.mem_of_getElem? (i := 1) rfl)) (fun _ h9 => h9) rfl dX9_isDigit_30 ?_
      refine va_bald hx hb hK hP 1 0 rfl rfl (gp_in (hi := 599) (lf_sX9_isDigit_2 tape_length tape_at f_tape_length f_tape_at c_1) (by decide)) dX9_isDigit_33 ?_
      refine gp_fi (fun y_4 => ?_)
      refine lv_bipush (v := 57) hx hb dX9_isDigit_34 (by decide) ?_
      refine lv_icmp_gt (tgt := 43) hx hb dX9_isDigit_36 (by decide) (fun c_5 => ?_) (fun c_5 => ?_)
      · refine lv_iconst (v := 0) hx hb dX9_isDigit_43 (by decide) ?_
        exact W.zret (v := 0) hx hb hr narrow_b0 (fun t ht hW => ⟨⟨0, (), rfl, (show (0 : Int32) = 0 ∨ (0 : Int32) = 1 by decide), gp_end ht hP hD⟩, hS.F ht⟩) hS.2.2 dX9_isDigit_44
      · refine lv_iconst (v := 1) hx hb dX9_isDigit_39 (by decide) ?_
        refine lv_goto (tgt := 44) hx hb dX9_isDigit_40 (by decide) ?_
        exact W.zret (v := 1) hx hb hr narrow_b1 (fun t ht hW => ⟨⟨1, (), rfl, (show (1 : Int32) = 0 ∨ (1 : Int32) = 1 by decide), gp_end ht hP hD⟩, hS.F ht⟩) hS.2.2 dX9_isDigit_44

theorem lf_sX9_readWord_1 (tape_length : Int32) (tape_at : Int32) (ta : Int32) (f_tape_length : sp_in tape_length 0 600) (f_tape_at : sp_in tape_at 0 600) (h1 : sp_in ta 0 600) (h2 : tape_at ≤ ta) (c_1 : tape_length ≤ ta) : tape_at = tape_at := by
  first | grind | (simp only [sp_in, sp_pl, sp_far, sp_two] at *; grind)
theorem lf_sX9_readWord_2 (tape_length : Int32) (tape_at : Int32) (ta : Int32) (f_tape_length : sp_in tape_length 0 600) (f_tape_at : sp_in tape_at 0 600) (h1 : sp_in ta 0 600) (h2 : tape_at ≤ ta) (c_1 : tape_length ≤ ta) : ta = ta := by
  first | grind | (simp only [sp_in, sp_pl, sp_far, sp_two] at *; grind)
theorem lf_sX9_readWord_3 (tape_length : Int32) (tape_at : Int32) (ta : Int32) (f_tape_length : sp_in tape_length 0 600) (f_tape_at : sp_in tape_at 0 600) (h1 : sp_in ta 0 600) (h2 : tape_at ≤ ta) (c_1 : ¬ tape_length ≤ ta) : tape_at = tape_at := by
  first | grind | (simp only [sp_in, sp_pl, sp_far, sp_two] at *; grind)
theorem lf_sX9_readWord_4 (tape_length : Int32) (tape_at : Int32) (ta : Int32) (f_tape_length : sp_in tape_length 0 600) (f_tape_at : sp_in tape_at 0 600) (h1 : sp_in ta 0 600) (h2 : tape_at ≤ ta) (c_1 : ¬ tape_length ≤ ta) : ta = ta := by
  first | grind | (simp only [sp_in, sp_pl, sp_far, sp_two] at *; grind)
theorem lf_sX9_readWord_5 (tape_length : Int32) (tape_at : Int32) (ta : Int32) (f_tape_length : sp_in tape_length 0 600) (f_tape_at : sp_in tape_at 0 600) (h1 : sp_in ta 0 600) (h2 : tape_at ≤ ta) (c_1 : ¬ tape_length ≤ ta) : sp_in (ta + 1) 0 600 := by
  first | grind | (simp only [sp_in, sp_pl, sp_far, sp_two] at *; grind)
theorem lf_sX9_readWord_6 (tape_length : Int32) (tape_at : Int32) (ta : Int32) (f_tape_length : sp_in tape_length 0 600) (f_tape_at : sp_in tape_at 0 600) (h1 : sp_in ta 0 600) (h2 : tape_at ≤ ta) (c_1 : ¬ tape_length ≤ ta) : tape_at ≤ (ta + 1) := by
  first | grind | (simp only [sp_in, sp_pl, sp_far, sp_two] at *; grind)
theorem lf_sX9_readWord_7 (tape_length : Int32) (tape_at : Int32) (ta : Int32) (f_tape_length : sp_in tape_length 0 600) (f_tape_at : sp_in tape_at 0 600) (h1 : sp_in ta 0 600) (h2 : tape_at ≤ ta) (c_1 : ¬ tape_length ≤ ta) : ta < tape_length := by
  first | grind | (simp only [sp_in, sp_pl, sp_far, sp_two] at *; grind)
theorem lf_sX9_readWord_8 (tape_at : Int32) (f_tape_at : sp_in tape_at 0 600) : tape_at ≤ tape_at := by
  first | grind | (simp only [sp_in, sp_pl, sp_far, sp_two] at *; grind)
def v_sX9_readWord : List Cond := .code yX9_readWord cX9_readWord 1 none :: (([.fieldLink RX9 25 "GhostPane$Tape" "at" "I", .fieldLink RX9 39 "GhostPane$Tape" "wordFrom" "I", .fieldLink RX9 22 "GhostPane$Tape" "length" "I", .fieldLink RX9 46 "GhostPane$Tape" "wordTo" "I", .code yX9_isLetter cX9_isLetter 2 (some .boolean), .fieldLink RX9 18 "GhostPane$Tape" "bytes" "[B", .methodLink RX9 42 yX9_isLetter, .instanceMethod yX9_isLetter, .selects RX9 yX9_isLetter yX9_isLetter, .initialized RX9] : List Cond) ++ wsX90)
set_option maxRecDepth 20000 in
theorem gg_sX9_readWord_sX9_isLetter : GoodIn v_sX9_readWord v_sX9_isLetter := goodIn_ca (goodIn_r (.code yX9_isLetter cX9_isLetter 2 (some .boolean) :: [.fieldLink RX9 25 "GhostPane$Tape" "at" "I", .fieldLink RX9 22 "GhostPane$Tape" "length" "I", .fieldLink RX9 18 "GhostPane$Tape" "bytes" "[B"]) [5, 1, 3, 6] (by first | rfl | decide +kernel) (by decide +kernel)) (goodIn_sub (fun _ h => List.mem_cons_of_mem _ (List.mem_append_right _ h)) gwX9)
set_option maxRecDepth 20000 in
theorem g_sX9_readWord_sX9_isLetter_0 : GoodIn v_sX9_readWord (wsV RX9 42 RX9 yX9_isLetter v_sX9_isLetter) := goodIn_app (goodIn_r [.methodLink RX9 42 yX9_isLetter, .instanceMethod yX9_isLetter, .selects RX9 yX9_isLetter yX9_isLetter, .initialized RX9] [7, 8, 9, 10] rfl (by decide +kernel)) gg_sX9_readWord_sX9_isLetter
set_option maxHeartbeats 4000000 in
set_option maxRecDepth 100000 in
theorem sX9_readWord (l : Launch) (D : va_G) (cy : Nat → ClassId) (sz : Nat) (xa : Nat → Nat) (tape_length : Int32) (tape_fault : Int32) (tape_faultPlace : Int32) (tape_wordFrom : Int32) (tape_wordTo : Int32) (tape_at : Int32) (bytes : Nat → Int32) (f_tape_length : sp_in tape_length 0 600) (f_tape_wordFrom : sp_in tape_wordFrom 0 600) (f_tape_wordTo : sp_in tape_wordTo 0 600) (f_tape_at : sp_in tape_at 0 600) : Met l yX9_readWord v_sX9_readWord ({ frames := 1, cells := 0, slots := 0, locals := 21 } : Room) (va_Pc [.ref (xa 1)] (gp_B D cy sz [(o_tape xa tape_length tape_fault tape_faultPlace tape_wordFrom tape_wordTo tape_at), (aI (xa 2) (cy 0) 600 bytes)])) (va_Qv (fun (u : (Int32) × (Int32) × (Int32)) => (sp_in u.1 0 600) ∧ (sp_in u.2.1 0 600) ∧ (sp_in u.2.2 0 600) ∧ (tape_at ≤ u.2.2) ∧ (u.1 = tape_at) ∧ (u.2.1 = u.2.2)) (fun u => gp_E D (va_A [(o_tape xa tape_length tape_fault tape_faultPlace tape_wordFrom tape_wordTo tape_at), (aI (xa 2) (cy 0) 600 bytes)] sz) [(o_tape xa tape_length tape_fault tape_faultPlace u.1 u.2.1 u.2.2), (aI (xa 2) (cy 0) 600 bytes)]) (va_A [(o_tape xa tape_length tape_fault tape_faultPlace tape_wordFrom tape_wordTo tape_at), (aI (xa 2) (cy 0) 600 bytes)] sz)) 0 0 (va_A [(o_tape xa tape_length tape_fault tape_faultPlace tape_wordFrom tape_wordTo tape_at), (aI (xa 2) (cy 0) 600 bytes)] sz) := by
  refine gp_met (Qc := fun A => va_Qv (fun (u : (Int32) × (Int32) × (Int32)) => (sp_in u.1 0 600) ∧ (sp_in u.2.1 0 600) ∧ (sp_in u.2.2 0 600) ∧ (tape_at ≤ u.2.2) ∧ (u.1 = tape_at) ∧ (u.2.1 = u.2.2)) (fun u => gp_E D A [(o_tape xa tape_length tape_fault tape_faultPlace u.1 u.2.1 u.2.2), (aI (xa 2) (cy 0) 600 bytes)]) A) (cc := cX9_readWord) (maxL := 1) (ret := none) (by decide) rfl (Nat.le_of_ble_eq_true rfl) ?_
  intro p e s m below meth c A ls H hx hb hml hr hlocks hts hown hin hK hN hS hP hD hA hl
  have hown : s.vm.findClass RX9 = some m.cls := hown
  have hl : lv_has ls 1 [(0, .ref (xa 1))] := hl
  have hiX9 : ∀ w ∈ u_ws RX9 TX9 7, w ∈ v_sX9_readWord := fun _ h => List.mem_cons_of_mem _ (List.mem_append_right _ h)
  refine lv_aload_n hx hb dX9_readWord_0 rfl (lv_at hl 0 rfl) ?_
  refine lv_aload_n hx hb dX9_readWord_1 rfl (lv_at hl 0 rfl) ?_
  refine va_get (D := D) (ci := 9) (v := .int tape_at) (C := RX9) (T := TX9) (N := 7) hx hb hts hiX9 hown hK hP 0 rfl rfl 5 (by decide) (hts (.fieldLink RX9 25 "GhostPane$Tape" "at" "I") (List.mem_of_getElem? (i := 1) rfl)) (fun _ h9 => h9) rfl dX9_readWord_2 ?_
  refine va_put (D := D) (ci := 9) (v := .int tape_at) (ty := .int) (C := RX9) (T := TX9) (N := 7) hx hb hts hiX9 tyX9 tyX9_ok nmX9 hown hK hP hD hS 0 rfl rfl 3 (by decide) (hts (.fieldLink RX9 39 "GhostPane$Tape" "wordFrom" "I") (List.mem_of_getElem? (i := 2) rfl)) (fun _ h9 => h9) rfl (by decide +kernel) rfl rfl (Nat.le_of_ble_eq_true rfl) dX9_readWord_5 (fun H locs hP hD hS => ?_)
  have hP : va_P D vwCl [(o_tape xa tape_length tape_fault tape_faultPlace tape_at tape_wordTo tape_at), (aI (xa 2) (cy 0) 600 bytes)] H := hP
  have hD := gp_sD hP hD
  have key8 : ∀ (fu : Nat) (ta : Int32) (H : Heap) (locs : List Loc) (ls : Array Slot), (h1 : sp_in ta 0 600) → (h2 : tape_at ≤ ta) → (tape_length.toInt - ta.toInt).toNat < fu → va_P D vwCl [(o_tape xa tape_length tape_fault tape_faultPlace tape_at tape_wordTo ta), (aI (xa 2) (cy 0) 600 bytes)] H → va_D A [(o_tape xa tape_length tape_fault tape_faultPlace tape_at tape_wordTo ta), (aI (xa 2) (cy 0) 600 bytes)] → va_S A s.heap H locs → lv_has ls 1 [(0, .ref (xa 1))] → W p l e (headSpec v_sX9_readWord (({ frames := 1, cells := 0, slots := 0, locals := 21 } : Room))).room s m [.ref (xa 1)].toArray below meth c H locs 0 0 (MQ below (va_Qv (fun (u : (Int32) × (Int32) × (Int32)) => (sp_in u.1 0 600) ∧ (sp_in u.2.1 0 600) ∧ (sp_in u.2.2 0 600) ∧ (tape_at ≤ u.2.2) ∧ (u.1 = tape_at) ∧ (u.2.1 = u.2.2)) (fun u => gp_E D A [(o_tape xa tape_length tape_fault tape_faultPlace u.1 u.2.1 u.2.2), (aI (xa 2) (cy 0) 600 bytes)]) A) [.ref (xa 1)].toArray s 0 0 A) (F0 m 8 ls []) := by
    intro fu
    induction fu with
    | zero => intro ta H locs ls h1 h2 hfu; exact absurd hfu (Nat.not_lt_zero _)
    | succ fu ih =>
      intro ta H locs ls h1 h2 hfu hP hD hS hl
      refine lv_aload_n hx hb dX9_readWord_8 rfl (lv_at hl 0 rfl) ?_
      refine va_get (D := D) (ci := 9) (v := .int ta) (C := RX9) (T := TX9) (N := 7) hx hb hts hiX9 hown hK hP 0 rfl rfl 5 (by decide) (hts (.fieldLink RX9 25 "GhostPane$Tape" "at" "I") (List.mem_of_getElem? (i := 1) rfl)) (fun _ h9 => h9) rfl dX9_readWord_9 ?_
      refine lv_aload_n hx hb dX9_readWord_12 rfl (lv_at hl 0 rfl) ?_
      refine va_get (D := D) (ci := 9) (v := .int tape_length) (C := RX9) (T := TX9) (N := 7) hx hb hts hiX9 hown hK hP 0 rfl rfl 0 (by decide) (hts (.fieldLink RX9 22 "GhostPane$Tape" "length" "I") (List.mem_of_getElem? (i := 3) rfl)) (fun _ h9 => h9) rfl dX9_readWord_13 ?_
      refine lv_icmp_ge (tgt := 39) hx hb dX9_readWord_16 (by decide) (fun c_1 => ?_) (fun c_1 => ?_)
      · refine lv_aload_n hx hb dX9_readWord_39 rfl (lv_at hl 0 rfl) ?_
        refine lv_aload_n hx hb dX9_readWord_40 rfl (lv_at hl 0 rfl) ?_
        refine va_get (D := D) (ci := 9) (v := .int ta) (C := RX9) (T := TX9) (N := 7) hx hb hts hiX9 hown hK hP 0 rfl rfl 5 (by decide) (hts (.fieldLink RX9 25 "GhostPane$Tape" "at" "I") (List.mem_of_getElem? (i := 1) rfl)) (fun _ h9 => h9) rfl dX9_readWord_41 ?_
        refine va_put (D := D) (ci := 9) (v := .int ta) (ty := .int) (C := RX9) (T := TX9) (N := 7) hx hb hts hiX9 tyX9 tyX9_ok nmX9 hown hK hP hD hS 0 rfl rfl 4 (by decide) (hts (.fieldLink RX9 46 "GhostPane$Tape" "wordTo" "I") (List.mem_of_getElem? (i := 4) rfl)) (fun _ h9 => h9) rfl (by decide +kernel) rfl rfl (Nat.le_of_ble_eq_true rfl) dX9_readWord_44 (fun H locs hP hD hS => ?_)
        have hP : va_P D vwCl [(o_tape xa tape_length tape_fault tape_faultPlace tape_at ta ta), (aI (xa 2) (cy 0) 600 bytes)] H := hP
        have hD := gp_sD hP hD
        exact W.vret hx hb hr (fun t ht hW => ⟨⟨⟨tape_at, ta, ta⟩, rfl, ⟨f_tape_at, h1, h1, h2, (lf_sX9_readWord_1 tape_length tape_at ta f_tape_length f_tape_at h1 h2 c_1), (lf_sX9_readWord_2 tape_length tape_at ta f_tape_length f_tape_at h1 h2 c_1)⟩, gp_end ht hP hD⟩, hS.F ht⟩) hS.2.2 dX9_readWord_47
      · refine lv_aload_n hx hb dX9_readWord_19 rfl (lv_at hl 0 rfl) ?_
        have hPc := hP.sub (ws' := [(o_tape xa tape_length tape_fault tape_faultPlace tape_at tape_wordTo ta), (aI (xa 2) (cy 0) 600 bytes)]) [0, 1] rfl
        have hDc := hD.sub (ws' := [(o_tape xa tape_length tape_fault tape_faultPlace tape_at tape_wordTo ta), (aI (xa 2) (cy 0) 600 bytes)]) [0, 1] (by decide) rfl
        have hFc := va_free (wc := [(o_tape xa tape_length tape_fault tape_faultPlace tape_at tape_wordTo ta), (aI (xa 2) (cy 0) 600 bytes)]) hD hS hA [0, 1] rfl
        refine va_calli (va_runV (As := []) (rest := []) ⟨hx, hb, hml, hown, hts⟩ (sX9_isLetter l D cy H.size xa tape_length tape_fault tape_faultPlace tape_at tape_wordTo ta bytes f_tape_length f_tape_at f_tape_wordTo h1) (cwV 0 hts g_sX9_readWord_sX9_isLetter_0 rfl rfl rfl (by decide +kernel) ⟨Nat.le_of_ble_eq_true rfl, Nat.le_of_ble_eq_true rfl⟩) (gp_preV (RX9, TX9, 7) 9 0 hPc hDc hK hN rfl rfl) rfl rfl hl.1 rfl (lv_room (Nat.le_of_ble_eq_true rfl)) dX9_readWord_20 ⟨Nat.le_of_ble_eq_true rfl, Nat.le_of_ble_eq_true rfl⟩) hS (fun q _ h => hFc q h) hFc (fun r_2 u t H locs ht hvm hw hB hz1 hk1 hS => ?_)
        have hP := gp_joinU (wc := [(o_tape xa tape_length tape_fault tape_faultPlace tape_at tape_wordTo ta), (aI (xa 2) (cy 0) 600 bytes)]) hP hD [0, 1] rfl hk1 ht hB
        have w_3 := hw
        refine lv_if_eq (tgt := 39) hx hb dX9_readWord_23 (by decide) (fun c_4 => ?_) (fun c_4 => ?_)
        · refine lv_aload_n hx hb dX9_readWord_39 rfl (lv_at hl 0 rfl) ?_
          refine lv_aload_n hx hb dX9_readWord_40 rfl (lv_at hl 0 rfl) ?_
          refine va_get (D := D) (ci := 9) (v := .int ta) (C := RX9) (T := TX9) (N := 7) hx hb hts hiX9 hown hK hP 0 rfl rfl 5 (by decide) (hts (.fieldLink RX9 25 "GhostPane$Tape" "at" "I") (List.mem_of_getElem? (i := 1) rfl)) (fun _ h9 => h9) rfl dX9_readWord_41 ?_
          refine va_put (D := D) (ci := 9) (v := .int ta) (ty := .int) (C := RX9) (T := TX9) (N := 7) hx hb hts hiX9 tyX9 tyX9_ok nmX9 hown hK hP hD hS 0 rfl rfl 4 (by decide) (hts (.fieldLink RX9 46 "GhostPane$Tape" "wordTo" "I") (List.mem_of_getElem? (i := 4) rfl)) (fun _ h9 => h9) rfl (by decide +kernel) rfl rfl (Nat.le_of_ble_eq_true rfl) dX9_readWord_44 (fun H locs hP hD hS => ?_)
          have hP : va_P D vwCl [(o_tape xa tape_length tape_fault tape_faultPlace tape_at ta ta), (aI (xa 2) (cy 0) 600 bytes)] H := hP
          have hD := gp_sD hP hD
          exact W.vret hx hb hr (fun t ht hW => ⟨⟨⟨tape_at, ta, ta⟩, rfl, ⟨f_tape_at, h1, h1, h2, (lf_sX9_readWord_3 tape_length tape_at ta f_tape_length f_tape_at h1 h2 c_1), (lf_sX9_readWord_4 tape_length tape_at ta f_tape_length f_tape_at h1 h2 c_1)⟩, gp_end ht hP hD⟩, hS.F ht⟩) hS.2.2 dX9_readWord_47
        · refine lv_aload_n hx hb dX9_readWord_26 rfl (lv_at hl 0 rfl) ?_
          refine lv_dup hx hb dX9_readWord_27 rfl ?_
          refine va_get (D := D) (ci := 9) (v := .int ta) (C := RX9) (T := TX9) (N := 7) hx hb hts hiX9 hown hK hP 0 rfl rfl 5 (by decide) (hts (.fieldLink RX9 25 "GhostPane$Tape" "at" "I") (List.mem_of_getElem? (i := 1) rfl)) (fun _ h9 => h9) rfl dX9_readWord_28 ?_
          refine lv_iconst (v := 1) hx hb dX9_readWord_31 (by decide) ?_
          refine lv_iadd hx hb dX9_readWord_32 ?_
          refine va_put (D := D) (ci := 9) (v := .int (ta + 1)) (ty := .int) (C := RX9) (T := TX9) (N := 7) hx hb hts hiX9 tyX9 tyX9_ok nmX9 hown hK hP hD hS 0 rfl rfl 5 (by decide) (hts (.fieldLink RX9 25 "GhostPane$Tape" "at" "I") (List.mem_of_getElem? (i := 1) rfl)) (fun _ h9 => h9) rfl (by decide +kernel) rfl rfl (Nat.le_of_ble_eq_true rfl) dX9_readWord_33 (fun H locs hP hD hS => ?_)
          have hP : va_P D vwCl [(o_tape xa tape_length tape_fault tape_faultPlace tape_at tape_wordTo (ta + 1)), (aI (xa 2) (cy 0) 600 bytes)] H := hP
          have hD := gp_sD hP hD
          refine lv_goto (tgt := 8) hx hb dX9_readWord_36 (by decide) ?_
          exact ih (ta + 1) H locs ls (lf_sX9_readWord_5 tape_length tape_at ta f_tape_length f_tape_at h1 h2 c_1) (lf_sX9_readWord_6 tape_length tape_at ta f_tape_length f_tape_at h1 h2 c_1) (Nat.lt_of_lt_of_le (gp_mdec (lf_sX9_readWord_7 tape_length tape_at ta f_tape_length f_tape_at h1 h2 c_1)) (Nat.le_of_lt_succ hfu)) hP hD hS (lv_sub hl [0] rfl)
  exact key8 ((tape_length.toInt - tape_at.toInt).toNat + 1) tape_at H locs ls f_tape_at (lf_sX9_readWord_8 tape_at f_tape_at) (Nat.lt_succ_self _) hP hD hS (lv_sub hl [0] rfl)
