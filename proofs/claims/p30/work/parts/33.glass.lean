theorem gp_ofWF {l : Launch} {y : MethodName} {ws ws' : List Cond} {rm : Room} {Pc : Array Value → State → Prop} {Qc : Array Value → State → Outcome → State → Prop} {mc ms : Nat} {free : Addr → Prop} {cc : ByteArray} {maxL : Nat} {ret : Option FieldType} (hy : plainFor y = true) (hw : ws = Cond.code y cc maxL ret :: ws')
    (body : ∀ p e s m args below meth c s₁, BodyLoose p l y (headSpec ws rm) cc maxL ret e s m args below meth c s₁ → c.maxLocals = maxL → Pc args s →
      W p l e (headSpec ws rm).room s m args below meth c s.heap [] 0 0 (MQ below Qc args s mc ms free) (entryFrame m args maxL)) : Met l y ws rm Pc Qc mc ms free := by
  refine MetFree.of_bodySF (code := cc) (maxLocals := maxL) (ret := ret) hy ?_ ?_
  · intro args s m h hn
    obtain ⟨meth, c, h1, h2, h3, h4, h5, h6, -, -⟩ := Cond.code_spec hn (atoms_spec (ws := ws) h _ (by rw [hw]; exact List.mem_cons_self))
    exact ⟨meth, c, h1, h2, h3, h4, h5, h6⟩
  · intro p e s m args below meth c s₁ B hml hP _
    have hh0 : s₁.heap = s.heap := by rw [B.state]; rfl
    obtain ⟨t, a1, o, b1, b2, b3⟩ := body p e s m args below meth c s₁ B hml hP s₁ hh0 (Stand.of_body B)
    exact ⟨t, o, a1, b1, b2, ⟨b3.1, b3.2⟩⟩
/-- a contract out of the walk of the body -/
theorem gp_metF {l : Launch} {y : MethodName} {ws ws' : List Cond} {rm : Room} {av : List Value} {D : va_G} {cy : Nat → ClassId} {sz : Nat} {W0 : va_W} {Qc : (Nat → Prop) → Array Value → State → Outcome → State → Prop} {mc ms : Nat} {cc : ByteArray} {maxL : Nat} {ret : Option FieldType} (hy : plainFor y = true) (hw : ws = Cond.code y cc maxL ret :: ws') (hlen : (lg_sl av).length ≤ maxL)
    (body : ∀ (p : Program) (e : Env) (s : State) (m : MethodId) (below : List Frame) (meth : Method) (c : Code) (A : Nat → Prop) (ls : Array Slot) (H : Heap), p.tables.exec = Jvm.exec → c.code = cc → c.maxLocals = maxL → meth.sig.returnType = ret → meth.locks = false → (∀ w ∈ ws, w.before av.toArray s = true) → s.vm.findClass y.cls = some m.cls → meth.name = y.name → va_K D vwCl (gp_T cy) s → gp_N s → va_S A s.heap H [] → va_P D vwCl W0 H → va_D A W0 → (∀ q : Nat, s.heap.size ≤ q → A q) → lv_has ls maxL (lv_args 0 av) → W p l e (headSpec ws rm).room s m av.toArray below meth c H [] 0 0 (MQ below (Qc A) av.toArray s mc ms A) (F0 m 0 ls [])) :
    Met l y ws rm (va_Pc av (gp_B D cy sz W0)) (Qc (va_A W0 sz)) mc ms (va_A W0 sz) := by
  refine gp_ofWF (cc := cc) (maxL := maxL) (ret := ret) hy hw ?_
  intro p e s m args below meth c s₁ B hml hv
  obtain ⟨rfl, hsz, hP, hK, hD0, hN⟩ := hv
  subst hsz
  have hl := lv_entry av (n := maxL) hlen
  rw [lg_entry_eq]
  exact body p e s m below meth c _ _ s.heap B.exec B.bytes hml B.returns B.notSynchronized (atoms_spec (ws := ws) B.pre) (findClass_of_methodNamed B.named) (name_of_methodNamed B.named B.method).1 hK hN va_S.rf hP (hD0.self (sz := s.heap.size)) (fun q h => Or.inr h) hl
def v_sJ9_floorDiv : List Cond := .code yJ9_floorDiv_7cf53 cJ9_floorDiv_7cf53 3 (some .int) :: (([] : List Cond))
set_option maxHeartbeats 4000000 in
set_option maxRecDepth 100000 in
theorem sJ9_floorDiv (l : Launch) (D : va_G) (cy : Nat → ClassId) (sz : Nat) (xa : Nat → Nat) (x : Int32) (y : Int32) (q0 : ¬ y = 0) : Met l yJ9_floorDiv_7cf53 v_sJ9_floorDiv ({ frames := 0, cells := 0, slots := 0, locals := 0 } : Room) (va_Pc [.int x, .int y] (gp_B D cy sz [])) (va_Qi (fun (r : Int32) (u : Unit) => True) (fun u => gp_E D (va_A [] sz) []) (va_A [] sz)) 0 0 (va_A [] sz) := by
  refine gp_metF (Qc := fun A => va_Qi (fun (r : Int32) (u : Unit) => True) (fun u => gp_E D A []) A) (cc := cJ9_floorDiv_7cf53) (maxL := 3) (ret := (some .int)) (by decide +kernel) rfl (Nat.le_of_ble_eq_true rfl) ?_
  intro p e s m below meth c A ls H hx hb hml hr hlocks hts hown hin hK hN hS hP hD hA hl
  have hown : s.vm.findClass RJ9 = some m.cls := hown
  have hl : lv_has ls 3 [(0, .int x), (1, .int y)] := hl
  refine lv_iload_n hx hb dJ9_floorDiv_7cf53_0 rfl (lv_at hl 0 rfl) ?_
  refine lv_iload_n hx hb dJ9_floorDiv_7cf53_1 rfl (lv_at hl 1 rfl) ?_
  refine lv_idiv hx hb dJ9_floorDiv_7cf53_2 q0 ?_
  refine gp_fi (fun y_1 => ?_)
  refine lv_istore_n (lv' := [(2, .int y_1), (0, .int x), (1, .int y)]) hx hb dJ9_floorDiv_7cf53_3 rfl hl (by decide) rfl (fun ls hl => ?_)
  refine lv_iload_n hx hb dJ9_floorDiv_7cf53_4 rfl (lv_at hl 1 rfl) ?_
  refine lv_iload_n hx hb dJ9_floorDiv_7cf53_5 rfl (lv_at hl 2 rfl) ?_
  refine lv_ixor hx hb dJ9_floorDiv_7cf53_6 ?_
  refine gp_fi (fun y_2 => ?_)
  refine lv_if_ge (tgt := 21) hx hb dJ9_floorDiv_7cf53_7 (by decide) (fun c_3 => ?_) (fun c_3 => ?_)
  · refine lv_iload_n hx hb dJ9_floorDiv_7cf53_21 rfl (lv_at hl 0 rfl) ?_
    exact W.iret (v := y_1) hx hb hr (fun t ht hW => ⟨⟨y_1, (), rfl, trivial, gp_end ht hP hD⟩, hS.F ht⟩) hS.2.2 dJ9_floorDiv_7cf53_22
  · refine lv_iload_n hx hb dJ9_floorDiv_7cf53_10 rfl (lv_at hl 0 rfl) ?_
    refine lv_iload_n hx hb dJ9_floorDiv_7cf53_11 rfl (lv_at hl 2 rfl) ?_
    refine lv_imul hx hb dJ9_floorDiv_7cf53_12 ?_
    refine gp_fi (fun y_4 => ?_)
    refine lv_iload_n hx hb dJ9_floorDiv_7cf53_13 rfl (lv_at hl 1 rfl) ?_
    refine lv_icmp_eq (tgt := 21) hx hb dJ9_floorDiv_7cf53_14 (by decide) (fun c_5 => ?_) (fun c_5 => ?_)
    · refine lv_iload_n hx hb dJ9_floorDiv_7cf53_21 rfl (lv_at hl 0 rfl) ?_
      exact W.iret (v := y_1) hx hb hr (fun t ht hW => ⟨⟨y_1, (), rfl, trivial, gp_end ht hP hD⟩, hS.F ht⟩) hS.2.2 dJ9_floorDiv_7cf53_22
    · refine lv_iload_n hx hb dJ9_floorDiv_7cf53_17 rfl (lv_at hl 0 rfl) ?_
      refine lv_iconst (v := 1) hx hb dJ9_floorDiv_7cf53_18 (by decide) ?_
      refine lv_isub hx hb dJ9_floorDiv_7cf53_19 ?_
      exact W.iret (v := (y_1 - 1)) hx hb hr (fun t ht hW => ⟨⟨(y_1 - 1), (), rfl, trivial, gp_end ht hP hD⟩, hS.F ht⟩) hS.2.2 dJ9_floorDiv_7cf53_20

theorem lf_sX3_twiceAlong_1 (glass_ax2 : Int64) (glass_ay2 : Int64) (glass_cx : Int64) (glass_cy : Int64) (x2 : Int64) (y2 : Int64) : (((x2 - glass_ax2) * glass_cx) + ((y2 - glass_ay2) * glass_cy)) = ((x2 - glass_ax2) * glass_cx + (y2 - glass_ay2) * glass_cy) := by
  first | grind | (simp only [sp_in, sp_pl, sp_far, sp_two] at *; grind)
def v_sX3_twiceAlong : List Cond := .code yX3_twiceAlong cX3_twiceAlong 5 (some .long) :: (([.fieldLink RX3 28 "GhostPane$Glass" "ax2" "J", .fieldLink RX3 38 "GhostPane$Glass" "cx" "J", .fieldLink RX3 35 "GhostPane$Glass" "ay2" "J", .fieldLink RX3 41 "GhostPane$Glass" "cy" "J"] : List Cond) ++ wsX30)
set_option maxHeartbeats 4000000 in
set_option maxRecDepth 100000 in
theorem sX3_twiceAlong (l : Launch) (D : va_G) (cy : Nat → ClassId) (sz : Nat) (xa : Nat → Nat) (glass_len : Int64) (glass_deep : Int32) (glass_ax2 : Int64) (glass_ay2 : Int64) (glass_cx : Int64) (glass_cy : Int64) (glass_along : Int64) (glass_whole : Int64) (glass_xTimes : Int64) (glass_yTimes : Int64) (glass_fromX2 : Int64) (glass_fromY2 : Int64) (glass_goX : Int64) (glass_goY : Int64) (x2 : Int64) (y2 : Int64) : Met l yX3_twiceAlong v_sX3_twiceAlong ({ frames := 0, cells := 0, slots := 0, locals := 0 } : Room) (va_Pc [.ref (xa 21), .long x2, .long y2] (gp_B D cy sz [(o_glass xa glass_len glass_deep glass_ax2 glass_ay2 glass_cx glass_cy glass_along glass_whole glass_xTimes glass_yTimes glass_fromX2 glass_fromY2 glass_goX glass_goY)])) (va_Ql (fun (r : Int64) (u : Unit) => (r = ((x2 - glass_ax2) * glass_cx + (y2 - glass_ay2) * glass_cy))) (fun u => gp_E D (va_A [(o_glass xa glass_len glass_deep glass_ax2 glass_ay2 glass_cx glass_cy glass_along glass_whole glass_xTimes glass_yTimes glass_fromX2 glass_fromY2 glass_goX glass_goY)] sz) [(o_glass xa glass_len glass_deep glass_ax2 glass_ay2 glass_cx glass_cy glass_along glass_whole glass_xTimes glass_yTimes glass_fromX2 glass_fromY2 glass_goX glass_goY)]) (va_A [(o_glass xa glass_len glass_deep glass_ax2 glass_ay2 glass_cx glass_cy glass_along glass_whole glass_xTimes glass_yTimes glass_fromX2 glass_fromY2 glass_goX glass_goY)] sz)) 0 0 (va_A [(o_glass xa glass_len glass_deep glass_ax2 glass_ay2 glass_cx glass_cy glass_along glass_whole glass_xTimes glass_yTimes glass_fromX2 glass_fromY2 glass_goX glass_goY)] sz) := by
  refine gp_met (Qc := fun A => va_Ql (fun (r : Int64) (u : Unit) => (r = ((x2 - glass_ax2) * glass_cx + (y2 - glass_ay2) * glass_cy))) (fun u => gp_E D A [(o_glass xa glass_len glass_deep glass_ax2 glass_ay2 glass_cx glass_cy glass_along glass_whole glass_xTimes glass_yTimes glass_fromX2 glass_fromY2 glass_goX glass_goY)]) A) (cc := cX3_twiceAlong) (maxL := 5) (ret := (some .long)) (by decide) rfl (Nat.le_of_ble_eq_true rfl) ?_
  intro p e s m below meth c A ls H hx hb hml hr hlocks hts hown hin hK hN hS hP hD hA hl
  have hown : s.vm.findClass RX3 = some m.cls := hown
  have hl : lv_has ls 5 [(0, .ref (xa 21)), (1, .long x2), (3, .long y2)] := hl
  have hiX3 : ∀ w ∈ u_ws RX3 TX3 16, w ∈ v_sX3_twiceAlong := fun _ h => List.mem_cons_of_mem _ (List.mem_append_right _ h)
  refine lv_lload_n hx hb dX3_twiceAlong_0 rfl (lv_at hl 1 rfl) ?_
  refine lv_aload_n hx hb dX3_twiceAlong_1 rfl (lv_at hl 0 rfl) ?_
  refine va_get (D := D) (ci := 3) (v := .long glass_ax2) (C := RX3) (T := TX3) (N := 16) hx hb hts hiX3 hown hK hP 0 rfl rfl 4 (by decide) (hts (.fieldLink RX3 28 "GhostPane$Glass" "ax2" "J") (List.mem_of_getElem? (i := 1) rfl)) (fun _ h9 => h9) rfl dX3_twiceAlong_2 ?_
  refine lv_lsub hx hb dX3_twiceAlong_5 ?_
  refine lv_aload_n hx hb dX3_twiceAlong_6 rfl (lv_at hl 0 rfl) ?_
  refine va_get (D := D) (ci := 3) (v := .long glass_cx) (C := RX3) (T := TX3) (N := 16) hx hb hts hiX3 hown hK hP 0 rfl rfl 6 (by decide) (hts (.fieldLink RX3 38 "GhostPane$Glass" "cx" "J") (List.mem_of_getElem? (i := 2) rfl)) (fun _ h9 => h9) rfl dX3_twiceAlong_7 ?_
  refine lv_lmul hx hb dX3_twiceAlong_10 ?_
  refine lv_lload_n hx hb dX3_twiceAlong_11 rfl (lv_at hl 2 rfl) ?_
  refine lv_aload_n hx hb dX3_twiceAlong_12 rfl (lv_at hl 0 rfl) ?_
  refine va_get (D := D) (ci := 3) (v := .long glass_ay2) (C := RX3) (T := TX3) (N := 16) hx hb hts hiX3 hown hK hP 0 rfl rfl 5 (by decide) (hts (.fieldLink RX3 35 "GhostPane$Glass" "ay2" "J") (List.mem_of_getElem? (i := 3) rfl)) (fun _ h9 => h9) rfl dX3_twiceAlong_13 ?_
  refine lv_lsub hx hb dX3_twiceAlong_16 ?_
  refine lv_aload_n hx hb dX3_twiceAlong_17 rfl (lv_at hl 0 rfl) ?_
  refine va_get (D := D) (ci := 3) (v := .long glass_cy) (C := RX3) (T := TX3) (N := 16) hx hb hts hiX3 hown hK hP 0 rfl rfl 7 (by decide) (hts (.fieldLink RX3 41 "GhostPane$Glass" "cy" "J") (List.mem_of_getElem? (i := 4) rfl)) (fun _ h9 => h9) rfl dX3_twiceAlong_18 ?_
  refine lv_lmul hx hb dX3_twiceAlong_21 ?_
  refine lv_ladd hx hb dX3_twiceAlong_22 ?_
  exact W.lret (v := (((x2 - glass_ax2) * glass_cx) + ((y2 - glass_ay2) * glass_cy))) hx hb hr (fun t ht hW => ⟨⟨(((x2 - glass_ax2) * glass_cx) + ((y2 - glass_ay2) * glass_cy)), (), rfl, (lf_sX3_twiceAlong_1 glass_ax2 glass_ay2 glass_cx glass_cy x2 y2), gp_end ht hP hD⟩, hS.F ht⟩) hS.2.2 dX3_twiceAlong_23

theorem lf_sX3_twiceOff_1 (glass_ax2 : Int64) (glass_ay2 : Int64) (glass_cx : Int64) (glass_cy : Int64) (x2 : Int64) (y2 : Int64) : (((y2 - glass_ay2) * glass_cx) - ((x2 - glass_ax2) * glass_cy)) = ((y2 - glass_ay2) * glass_cx - (x2 - glass_ax2) * glass_cy) := by
  first | grind | (simp only [sp_in, sp_pl, sp_far, sp_two] at *; grind)
def v_sX3_twiceOff : List Cond := .code yX3_twiceOff cX3_twiceOff 5 (some .long) :: (([.fieldLink RX3 35 "GhostPane$Glass" "ay2" "J", .fieldLink RX3 38 "GhostPane$Glass" "cx" "J", .fieldLink RX3 28 "GhostPane$Glass" "ax2" "J", .fieldLink RX3 41 "GhostPane$Glass" "cy" "J"] : List Cond) ++ wsX30)
set_option maxHeartbeats 4000000 in
set_option maxRecDepth 100000 in
theorem sX3_twiceOff (l : Launch) (D : va_G) (cy : Nat → ClassId) (sz : Nat) (xa : Nat → Nat) (glass_len : Int64) (glass_deep : Int32) (glass_ax2 : Int64) (glass_ay2 : Int64) (glass_cx : Int64) (glass_cy : Int64) (glass_along : Int64) (glass_whole : Int64) (glass_xTimes : Int64) (glass_yTimes : Int64) (glass_fromX2 : Int64) (glass_fromY2 : Int64) (glass_goX : Int64) (glass_goY : Int64) (x2 : Int64) (y2 : Int64) : Met l yX3_twiceOff v_sX3_twiceOff ({ frames := 0, cells := 0, slots := 0, locals := 0 } : Room) (va_Pc [.ref (xa 21), .long x2, .long y2] (gp_B D cy sz [(o_glass xa glass_len glass_deep glass_ax2 glass_ay2 glass_cx glass_cy glass_along glass_whole glass_xTimes glass_yTimes glass_fromX2 glass_fromY2 glass_goX glass_goY)])) (va_Ql (fun (r : Int64) (u : Unit) => (r = ((y2 - glass_ay2) * glass_cx - (x2 - glass_ax2) * glass_cy))) (fun u => gp_E D (va_A [(o_glass xa glass_len glass_deep glass_ax2 glass_ay2 glass_cx glass_cy glass_along glass_whole glass_xTimes glass_yTimes glass_fromX2 glass_fromY2 glass_goX glass_goY)] sz) [(o_glass xa glass_len glass_deep glass_ax2 glass_ay2 glass_cx glass_cy glass_along glass_whole glass_xTimes glass_yTimes glass_fromX2 glass_fromY2 glass_goX glass_goY)]) (va_A [(o_glass xa glass_len glass_deep glass_ax2 glass_ay2 glass_cx glass_cy glass_along glass_whole glass_xTimes glass_yTimes glass_fromX2 glass_fromY2 glass_goX glass_goY)] sz)) 0 0 (va_A [(o_glass xa glass_len glass_deep glass_ax2 glass_ay2 glass_cx glass_cy glass_along glass_whole glass_xTimes glass_yTimes glass_fromX2 glass_fromY2 glass_goX glass_goY)] sz) := by
  refine gp_met (Qc := fun A => va_Ql (fun (r : Int64) (u : Unit) => (r = ((y2 - glass_ay2) * glass_cx - (x2 - glass_ax2) * glass_cy))) (fun u => gp_E D A [(o_glass xa glass_len glass_deep glass_ax2 glass_ay2 glass_cx glass_cy glass_along glass_whole glass_xTimes glass_yTimes glass_fromX2 glass_fromY2 glass_goX glass_goY)]) A) (cc := cX3_twiceOff) (maxL := 5) (ret := (some .long)) (by decide) rfl (Nat.le_of_ble_eq_true rfl) ?_
  intro p e s m below meth c A ls H hx hb hml hr hlocks hts hown hin hK hN hS hP hD hA hl
  have hown : s.vm.findClass RX3 = some m.cls := hown
  have hl : lv_has ls 5 [(0, .ref (xa 21)), (1, .long x2), (3, .long y2)] := hl
  have hiX3 : ∀ w ∈ u_ws RX3 TX3 16, w ∈ v_sX3_twiceOff := fun _ h => List.mem_cons_of_mem _ (List.mem_append_right _ h)
  refine lv_lload_n hx hb dX3_twiceOff_0 rfl (lv_at hl 2 rfl) ?_
  refine lv_aload_n hx hb dX3_twiceOff_1 rfl (lv_at hl 0 rfl) ?_
  refine va_get (D := D) (ci := 3) (v := .long glass_ay2) (C := RX3) (T := TX3) (N := 16) hx hb hts hiX3 hown hK hP 0 rfl rfl 5 (by decide) (hts (.fieldLink RX3 35 "GhostPane$Glass" "ay2" "J") (List.mem_of_getElem? (i := 1) rfl)) (fun _ h9 => h9) rfl dX3_twiceOff_2 ?_
  refine lv_lsub hx hb dX3_twiceOff_5 ?_
  refine lv_aload_n hx hb dX3_twiceOff_6 rfl (lv_at hl 0 rfl) ?_
  refine va_get (D := D) (ci := 3) (v := .long glass_cx) (C := RX3) (T := TX3) (N := 16) hx hb hts hiX3 hown hK hP 0 rfl rfl 6 (by decide) (hts (.fieldLink RX3 38 "GhostPane$Glass" "cx" "J") (List.mem_of_getElem? (i := 2) rfl)) (fun _ h9 => h9) rfl dX3_twiceOff_7 ?_
  refine lv_lmul hx hb dX3_twiceOff_10 ?_
  refine lv_lload_n hx hb dX3_twiceOff_11 rfl (lv_at hl 1 rfl) ?_
  refine lv_aload_n hx hb dX3_twiceOff_12 rfl (lv_at hl 0 rfl) ?_
  refine va_get (D := D) (ci := 3) (v := .long glass_ax2) (C := RX3) (T := TX3) (N := 16) hx hb hts hiX3 hown hK hP 0 rfl rfl 4 (by decide) (hts (.fieldLink RX3 28 "GhostPane$Glass" "ax2" "J") (List.mem_of_getElem? (i := 3) rfl)) (fun _ h9 => h9) rfl dX3_twiceOff_13 ?_
  refine lv_lsub hx hb dX3_twiceOff_16 ?_
  refine lv_aload_n hx hb dX3_twiceOff_17 rfl (lv_at hl 0 rfl) ?_
  refine va_get (D := D) (ci := 3) (v := .long glass_cy) (C := RX3) (T := TX3) (N := 16) hx hb hts hiX3 hown hK hP 0 rfl rfl 7 (by decide) (hts (.fieldLink RX3 41 "GhostPane$Glass" "cy" "J") (List.mem_of_getElem? (i := 4) rfl)) (fun _ h9 => h9) rfl dX3_twiceOff_18 ?_
  refine lv_lmul hx hb dX3_twiceOff_21 ?_
  refine lv_lsub hx hb dX3_twiceOff_22 ?_
  exact W.lret (v := (((y2 - glass_ay2) * glass_cx) - ((x2 - glass_ax2) * glass_cy))) hx hb hr (fun t ht hW => ⟨⟨(((y2 - glass_ay2) * glass_cx) - ((x2 - glass_ax2) * glass_cy)), (), rfl, (lf_sX3_twiceOff_1 glass_ax2 glass_ay2 glass_cx glass_cy x2 y2), gp_end ht hP hD⟩, hS.F ht⟩) hS.2.2 dX3_twiceOff_23

theorem lf_sX3_mirroredX_1 (glass_len : Int64) (glass_ax2 : Int64) (glass_ay2 : Int64) (glass_cx : Int64) (glass_cy : Int64) (x : Int32) (y : Int32) (r_1 : Int64) (w_2 : r_1 = (((2 * (Int32.toInt64 y)) - glass_ay2) * glass_cx - ((2 * (Int32.toInt64 x)) - glass_ax2) * glass_cy)) : ((glass_len * (Int32.toInt64 x)) + (r_1 * glass_cy)) = glass_len * Int32.toInt64 x + ((2 * Int32.toInt64 y - glass_ay2) * glass_cx - (2 * Int32.toInt64 x - glass_ax2) * glass_cy) * glass_cy := by
  first | grind | (simp only [sp_in, sp_pl, sp_far, sp_two] at *; grind)
def v_sX3_mirroredX : List Cond := .code yX3_mirroredX cX3_mirroredX 3 (some .long) :: (([.fieldLink RX3 44 "GhostPane$Glass" "len" "J", .constantLong RX3 20 2, .code yX3_twiceOff cX3_twiceOff 5 (some .long), .fieldLink RX3 35 "GhostPane$Glass" "ay2" "J", .fieldLink RX3 38 "GhostPane$Glass" "cx" "J", .fieldLink RX3 28 "GhostPane$Glass" "ax2" "J", .fieldLink RX3 41 "GhostPane$Glass" "cy" "J", .methodLink RX3 60 yX3_twiceOff, .instanceMethod yX3_twiceOff, .selects RX3 yX3_twiceOff yX3_twiceOff, .initialized RX3] : List Cond) ++ wsX30)
set_option maxRecDepth 20000 in
theorem gg_sX3_mirroredX_sX3_twiceOff : GoodIn v_sX3_mirroredX v_sX3_twiceOff := goodIn_ca (goodIn_r (.code yX3_twiceOff cX3_twiceOff 5 (some .long) :: [.fieldLink RX3 35 "GhostPane$Glass" "ay2" "J", .fieldLink RX3 38 "GhostPane$Glass" "cx" "J", .fieldLink RX3 28 "GhostPane$Glass" "ax2" "J", .fieldLink RX3 41 "GhostPane$Glass" "cy" "J"]) [3, 4, 5, 6, 7] (by first | rfl | decide +kernel) (by decide +kernel)) (goodIn_sub (fun _ h => List.mem_cons_of_mem _ (List.mem_append_right _ h)) gwX3)
set_option maxRecDepth 20000 in
theorem g_sX3_mirroredX_sX3_twiceOff_0 : GoodIn v_sX3_mirroredX (wsV RX3 60 RX3 yX3_twiceOff v_sX3_twiceOff) := goodIn_app (goodIn_r [.methodLink RX3 60 yX3_twiceOff, .instanceMethod yX3_twiceOff, .selects RX3 yX3_twiceOff yX3_twiceOff, .initialized RX3] [8, 9, 10, 11] rfl (by decide +kernel)) gg_sX3_mirroredX_sX3_twiceOff
set_option maxHeartbeats 4000000 in
set_option maxRecDepth 100000 in
theorem sX3_mirroredX (l : Launch) (D : va_G) (cy : Nat → ClassId) (sz : Nat) (xa : Nat → Nat) (glass_len : Int64) (glass_deep : Int32) (glass_ax2 : Int64) (glass_ay2 : Int64) (glass_cx : Int64) (glass_cy : Int64) (glass_along : Int64) (glass_whole : Int64) (glass_xTimes : Int64) (glass_yTimes : Int64) (glass_fromX2 : Int64) (glass_fromY2 : Int64) (glass_goX : Int64) (glass_goY : Int64) (x : Int32) (y : Int32) : Met l yX3_mirroredX v_sX3_mirroredX ({ frames := 1, cells := 0, slots := 0, locals := 24 } : Room) (va_Pc [.ref (xa 21), .int x, .int y] (gp_B D cy sz [(o_glass xa glass_len glass_deep glass_ax2 glass_ay2 glass_cx glass_cy glass_along glass_whole glass_xTimes glass_yTimes glass_fromX2 glass_fromY2 glass_goX glass_goY)])) (va_Ql (fun (r : Int64) (u : Unit) => (r = glass_len * Int32.toInt64 x + ((2 * Int32.toInt64 y - glass_ay2) * glass_cx - (2 * Int32.toInt64 x - glass_ax2) * glass_cy) * glass_cy)) (fun u => gp_E D (va_A [(o_glass xa glass_len glass_deep glass_ax2 glass_ay2 glass_cx glass_cy glass_along glass_whole glass_xTimes glass_yTimes glass_fromX2 glass_fromY2 glass_goX glass_goY)] sz) [(o_glass xa glass_len glass_deep glass_ax2 glass_ay2 glass_cx glass_cy glass_along glass_whole glass_xTimes glass_yTimes glass_fromX2 glass_fromY2 glass_goX glass_goY)]) (va_A [(o_glass xa glass_len glass_deep glass_ax2 glass_ay2 glass_cx glass_cy glass_along glass_whole glass_xTimes glass_yTimes glass_fromX2 glass_fromY2 glass_goX glass_goY)] sz)) 0 0 (va_A [(o_glass xa glass_len glass_deep glass_ax2 glass_ay2 glass_cx glass_cy glass_along glass_whole glass_xTimes glass_yTimes glass_fromX2 glass_fromY2 glass_goX glass_goY)] sz) := by
  refine gp_met (Qc := fun A => va_Ql (fun (r : Int64) (u : Unit) => (r = glass_len * Int32.toInt64 x + ((2 * Int32.toInt64 y - glass_ay2) * glass_cx - (2 * Int32.toInt64 x - glass_ax2) * glass_cy) * glass_cy)) (fun u => gp_E D A [(o_glass xa glass_len glass_deep glass_ax2 glass_ay2 glass_cx glass_cy glass_along glass_whole glass_xTimes glass_yTimes glass_fromX2 glass_fromY2 glass_goX glass_goY)]) A) (cc := cX3_mirroredX) (maxL := 3) (ret := (some .long)) (by decide) rfl (Nat.le_of_ble_eq_true rfl) ?_
  intro p e s m below meth c A ls H hx hb hml hr hlocks hts hown hin hK hN hS hP hD hA hl
  have hown : s.vm.findClass RX3 = some m.cls := hown
  have hl : lv_has ls 3 [(0, .ref (xa 21)), (1, .int x), (2, .int y)] := hl
  have hiX3 : ∀ w ∈ u_ws RX3 TX3 16, w ∈ v_sX3_mirroredX := fun _ h => List.mem_cons_of_mem _ (List.mem_append_right _ h)
  refine lv_aload_n hx hb dX3_mirroredX_0 rfl (lv_at hl 0 rfl) ?_
  refine va_get (D := D) (ci := 3) (v := .long glass_len) (C := RX3) (T := TX3) (N := 16) hx hb hts hiX3 hown hK hP 0 rfl rfl 0 (by decide) (hts (.fieldLink RX3 44 "GhostPane$Glass" "len" "J") (List.mem_of_getElem? (i := 1) rfl)) (fun _ h9 => h9) rfl dX3_mirroredX_1 ?_
  refine lv_iload_n hx hb dX3_mirroredX_4 rfl (lv_at hl 1 rfl) ?_
  refine lv_i2l (v := (Int32.toInt64 x)) hx hb dX3_mirroredX_5 rfl ?_
  refine lv_lmul hx hb dX3_mirroredX_6 ?_
  refine lv_aload_n hx hb dX3_mirroredX_7 rfl (lv_at hl 0 rfl) ?_
  refine lv_ldc2 (v := 2) hx hb hown (hts (.constantLong RX3 20 2) (List.mem_of_getElem? (i := 2) rfl)) dX3_mirroredX_8 ?_
  refine lv_iload_n hx hb dX3_mirroredX_11 rfl (lv_at hl 1 rfl) ?_
  refine lv_i2l (v := (Int32.toInt64 x)) hx hb dX3_mirroredX_12 rfl ?_
  refine lv_lmul hx hb dX3_mirroredX_13 ?_
  refine lv_ldc2 (v := 2) hx hb hown (hts (.constantLong RX3 20 2) (List.mem_of_getElem? (i := 2) rfl)) dX3_mirroredX_14 ?_
  refine lv_iload_n hx hb dX3_mirroredX_17 rfl (lv_at hl 2 rfl) ?_
  refine lv_i2l (v := (Int32.toInt64 y)) hx hb dX3_mirroredX_18 rfl ?_
  refine lv_lmul hx hb dX3_mirroredX_19 ?_
  have hPc := hP.sub (ws' := [(o_glass xa glass_len glass_deep glass_ax2 glass_ay2 glass_cx glass_cy glass_along glass_whole glass_xTimes glass_yTimes glass_fromX2 glass_fromY2 glass_goX glass_goY)]) [0] rfl
  have hDc := hD.sub (ws' := [(o_glass xa glass_len glass_deep glass_ax2 glass_ay2 glass_cx glass_cy glass_along glass_whole glass_xTimes glass_yTimes glass_fromX2 glass_fromY2 glass_goX glass_goY)]) [0] (by decide) rfl
  have hFc := va_free (wc := [(o_glass xa glass_len glass_deep glass_ax2 glass_ay2 glass_cx glass_cy glass_along glass_whole glass_xTimes glass_yTimes glass_fromX2 glass_fromY2 glass_goX glass_goY)]) hD hS hA [0] rfl
  refine va_calll (va_runV (As := [.long (2 * (Int32.toInt64 x)), .long (2 * (Int32.toInt64 y))]) (rest := [.long (glass_len * (Int32.toInt64 x))]) ⟨hx, hb, hml, hown, hts⟩ (sX3_twiceOff l D cy H.size xa glass_len glass_deep glass_ax2 glass_ay2 glass_cx glass_cy glass_along glass_whole glass_xTimes glass_yTimes glass_fromX2 glass_fromY2 glass_goX glass_goY (2 * (Int32.toInt64 x)) (2 * (Int32.toInt64 y))) (cwV 2 hts g_sX3_mirroredX_sX3_twiceOff_0 rfl rfl rfl (by decide +kernel) ⟨Nat.le_of_ble_eq_true rfl, Nat.le_of_ble_eq_true rfl⟩) (gp_preV (RX3, TX3, 16) 3 0 hPc hDc hK hN rfl rfl) rfl rfl hl.1 rfl (lv_room (Nat.le_of_ble_eq_true rfl)) dX3_mirroredX_20 ⟨Nat.le_of_ble_eq_true rfl, Nat.le_of_ble_eq_true rfl⟩) hS (fun q _ h => hFc q h) hFc (fun r_1 u t H locs ht hvm hw hB hz1 hk1 hS => ?_)
  have hP := gp_joinU (wc := [(o_glass xa glass_len glass_deep glass_ax2 glass_ay2 glass_cx glass_cy glass_along glass_whole glass_xTimes glass_yTimes glass_fromX2 glass_fromY2 glass_goX glass_goY)]) hP hD [0] rfl hk1 ht hB
  have w_2 := hw
  refine lv_aload_n hx hb dX3_mirroredX_23 rfl (lv_at hl 0 rfl) ?_
  refine va_get (D := D) (ci := 3) (v := .long glass_cy) (C := RX3) (T := TX3) (N := 16) hx hb hts hiX3 hown hK hP 0 rfl rfl 7 (by decide) (hts (.fieldLink RX3 41 "GhostPane$Glass" "cy" "J") (List.mem_of_getElem? (i := 7) rfl)) (fun _ h9 => h9) rfl dX3_mirroredX_24 ?_
  refine lv_lmul hx hb dX3_mirroredX_27 ?_
  refine lv_ladd hx hb dX3_mirroredX_28 ?_
  exact W.lret (v := ((glass_len * (Int32.toInt64 x)) + (r_1 * glass_cy))) hx hb hr (fun t ht hW => ⟨⟨((glass_len * (Int32.toInt64 x)) + (r_1 * glass_cy)), (), rfl, (lf_sX3_mirroredX_1 glass_len glass_ax2 glass_ay2 glass_cx glass_cy x y r_1 w_2), gp_end ht hP hD⟩, hS.F ht⟩) hS.2.2 dX3_mirroredX_29

theorem lf_sX3_mirroredY_1 (glass_len : Int64) (glass_ax2 : Int64) (glass_ay2 : Int64) (glass_cx : Int64) (glass_cy : Int64) (x : Int32) (y : Int32) (r_1 : Int64) (w_2 : r_1 = (((2 * (Int32.toInt64 y)) - glass_ay2) * glass_cx - ((2 * (Int32.toInt64 x)) - glass_ax2) * glass_cy)) : ((glass_len * (Int32.toInt64 y)) - (r_1 * glass_cx)) = glass_len * Int32.toInt64 y - ((2 * Int32.toInt64 y - glass_ay2) * glass_cx - (2 * Int32.toInt64 x - glass_ax2) * glass_cy) * glass_cx := by
  first | grind | (simp only [sp_in, sp_pl, sp_far, sp_two] at *; grind)
def v_sX3_mirroredY : List Cond := .code yX3_mirroredY cX3_mirroredY 3 (some .long) :: (([.fieldLink RX3 44 "GhostPane$Glass" "len" "J", .constantLong RX3 20 2, .code yX3_twiceOff cX3_twiceOff 5 (some .long), .fieldLink RX3 35 "GhostPane$Glass" "ay2" "J", .fieldLink RX3 38 "GhostPane$Glass" "cx" "J", .fieldLink RX3 28 "GhostPane$Glass" "ax2" "J", .fieldLink RX3 41 "GhostPane$Glass" "cy" "J", .methodLink RX3 60 yX3_twiceOff, .instanceMethod yX3_twiceOff, .selects RX3 yX3_twiceOff yX3_twiceOff, .initialized RX3] : List Cond) ++ wsX30)
set_option maxRecDepth 20000 in
theorem gg_sX3_mirroredY_sX3_twiceOff : GoodIn v_sX3_mirroredY v_sX3_twiceOff := goodIn_ca (goodIn_r (.code yX3_twiceOff cX3_twiceOff 5 (some .long) :: [.fieldLink RX3 35 "GhostPane$Glass" "ay2" "J", .fieldLink RX3 38 "GhostPane$Glass" "cx" "J", .fieldLink RX3 28 "GhostPane$Glass" "ax2" "J", .fieldLink RX3 41 "GhostPane$Glass" "cy" "J"]) [3, 4, 5, 6, 7] (by first | rfl | decide +kernel) (by decide +kernel)) (goodIn_sub (fun _ h => List.mem_cons_of_mem _ (List.mem_append_right _ h)) gwX3)
set_option maxRecDepth 20000 in
theorem g_sX3_mirroredY_sX3_twiceOff_0 : GoodIn v_sX3_mirroredY (wsV RX3 60 RX3 yX3_twiceOff v_sX3_twiceOff) := goodIn_app (goodIn_r [.methodLink RX3 60 yX3_twiceOff, .instanceMethod yX3_twiceOff, .selects RX3 yX3_twiceOff yX3_twiceOff, .initialized RX3] [8, 9, 10, 11] rfl (by decide +kernel)) gg_sX3_mirroredY_sX3_twiceOff
set_option maxHeartbeats 4000000 in
set_option maxRecDepth 100000 in
theorem sX3_mirroredY (l : Launch) (D : va_G) (cy : Nat → ClassId) (sz : Nat) (xa : Nat → Nat) (glass_len : Int64) (glass_deep : Int32) (glass_ax2 : Int64) (glass_ay2 : Int64) (glass_cx : Int64) (glass_cy : Int64) (glass_along : Int64) (glass_whole : Int64) (glass_xTimes : Int64) (glass_yTimes : Int64) (glass_fromX2 : Int64) (glass_fromY2 : Int64) (glass_goX : Int64) (glass_goY : Int64) (x : Int32) (y : Int32) : Met l yX3_mirroredY v_sX3_mirroredY ({ frames := 1, cells := 0, slots := 0, locals := 24 } : Room) (va_Pc [.ref (xa 21), .int x, .int y] (gp_B D cy sz [(o_glass xa glass_len glass_deep glass_ax2 glass_ay2 glass_cx glass_cy glass_along glass_whole glass_xTimes glass_yTimes glass_fromX2 glass_fromY2 glass_goX glass_goY)])) (va_Ql (fun (r : Int64) (u : Unit) => (r = glass_len * Int32.toInt64 y - ((2 * Int32.toInt64 y - glass_ay2) * glass_cx - (2 * Int32.toInt64 x - glass_ax2) * glass_cy) * glass_cx)) (fun u => gp_E D (va_A [(o_glass xa glass_len glass_deep glass_ax2 glass_ay2 glass_cx glass_cy glass_along glass_whole glass_xTimes glass_yTimes glass_fromX2 glass_fromY2 glass_goX glass_goY)] sz) [(o_glass xa glass_len glass_deep glass_ax2 glass_ay2 glass_cx glass_cy glass_along glass_whole glass_xTimes glass_yTimes glass_fromX2 glass_fromY2 glass_goX glass_goY)]) (va_A [(o_glass xa glass_len glass_deep glass_ax2 glass_ay2 glass_cx glass_cy glass_along glass_whole glass_xTimes glass_yTimes glass_fromX2 glass_fromY2 glass_goX glass_goY)] sz)) 0 0 (va_A [(o_glass xa glass_len glass_deep glass_ax2 glass_ay2 glass_cx glass_cy glass_along glass_whole glass_xTimes glass_yTimes glass_fromX2 glass_fromY2 glass_goX glass_goY)] sz) := by
  refine gp_met (Qc := fun A => va_Ql (fun (r : Int64) (u : Unit) => (r = glass_len * Int32.toInt64 y - ((2 * Int32.toInt64 y - glass_ay2) * glass_cx - (2 * Int32.toInt64 x - glass_ax2) * glass_cy) * glass_cx)) (fun u => gp_E D A [(o_glass xa glass_len glass_deep glass_ax2 glass_ay2 glass_cx glass_cy glass_along glass_whole glass_xTimes glass_yTimes glass_fromX2 glass_fromY2 glass_goX glass_goY)]) A) (cc := cX3_mirroredY) (maxL := 3) (ret := (some .long)) (by decide) rfl (Nat.le_of_ble_eq_true rfl) ?_
  intro p e s m below meth c A ls H hx hb hml hr hlocks hts hown hin hK hN hS hP hD hA hl
  have hown : s.vm.findClass RX3 = some m.cls := hown
  have hl : lv_has ls 3 [(0, .ref (xa 21)), (1, .int x), (2, .int y)] := hl
  have hiX3 : ∀ w ∈ u_ws RX3 TX3 16, w ∈ v_sX3_mirroredY := fun _ h => List.mem_cons_of_mem _ (List.mem_append_right _ h)
  refine lv_aload_n hx hb dX3_mirroredY_0 rfl (lv_at hl 0 rfl) ?_
  refine va_get (D := D) (ci := 3) (v := .long glass_len) (C := RX3) (T := TX3) (N := 16) hx hb hts hiX3 hown hK hP 0 rfl rfl 0 (by decide) (hts (.fieldLink RX3 44 "GhostPane$Glass" "len" "J") (List.mem_of_getElem? (i := 1) rfl)) (fun _ h9 => h9) rfl dX3_mirroredY_1 ?_
  refine lv_iload_n hx hb dX3_mirroredY_4 rfl (lv_at hl 2 rfl) ?_
  refine lv_i2l (v := (Int32.toInt64 y)) hx hb dX3_mirroredY_5 rfl ?_
  refine lv_lmul hx hb dX3_mirroredY_6 ?_
  refine lv_aload_n hx hb dX3_mirroredY_7 rfl (lv_at hl 0 rfl) ?_
  refine lv_ldc2 (v := 2) hx hb hown (hts (.constantLong RX3 20 2) (List.mem_of_getElem? (i := 2) rfl)) dX3_mirroredY_8 ?_
  refine lv_iload_n hx hb dX3_mirroredY_11 rfl (lv_at hl 1 rfl) ?_
  refine lv_i2l (v := (Int32.toInt64 x)) hx hb dX3_mirroredY_12 rfl ?_
  refine lv_lmul hx hb dX3_mirroredY_13 ?_
  refine lv_ldc2 (v := 2) hx hb hown (hts (.constantLong RX3 20 2) (List.mem_of_getElem? (i := 2) rfl)) dX3_mirroredY_14 ?_
  refine lv_iload_n hx hb dX3_mirroredY_17 rfl (lv_at hl 2 rfl) ?_
  refine lv_i2l (v := (Int32.toInt64 y)) hx hb dX3_mirroredY_18 rfl ?_
  refine lv_lmul hx hb dX3_mirroredY_19 ?_
  have hPc := hP.sub (ws' := [(o_glass xa glass_len glass_deep glass_ax2 glass_ay2 glass_cx glass_cy glass_along glass_whole glass_xTimes glass_yTimes glass_fromX2 glass_fromY2 glass_goX glass_goY)]) [0] rfl
  have hDc := hD.sub (ws' := [(o_glass xa glass_len glass_deep glass_ax2 glass_ay2 glass_cx glass_cy glass_along glass_whole glass_xTimes glass_yTimes glass_fromX2 glass_fromY2 glass_goX glass_goY)]) [0] (by decide) rfl
  have hFc := va_free (wc := [(o_glass xa glass_len glass_deep glass_ax2 glass_ay2 glass_cx glass_cy glass_along glass_whole glass_xTimes glass_yTimes glass_fromX2 glass_fromY2 glass_goX glass_goY)]) hD hS hA [0] rfl
  refine va_calll (va_runV (As := [.long (2 * (Int32.toInt64 x)), .long (2 * (Int32.toInt64 y))]) (rest := [.long (glass_len * (Int32.toInt64 y))]) ⟨hx, hb, hml, hown, hts⟩ (sX3_twiceOff l D cy H.size xa glass_len glass_deep glass_ax2 glass_ay2 glass_cx glass_cy glass_along glass_whole glass_xTimes glass_yTimes glass_fromX2 glass_fromY2 glass_goX glass_goY (2 * (Int32.toInt64 x)) (2 * (Int32.toInt64 y))) (cwV 2 hts g_sX3_mirroredY_sX3_twiceOff_0 rfl rfl rfl (by decide +kernel) ⟨Nat.le_of_ble_eq_true rfl, Nat.le_of_ble_eq_true rfl⟩) (gp_preV (RX3, TX3, 16) 3 0 hPc hDc hK hN rfl rfl) rfl rfl hl.1 rfl (lv_room (Nat.le_of_ble_eq_true rfl)) dX3_mirroredY_20 ⟨Nat.le_of_ble_eq_true rfl, Nat.le_of_ble_eq_true rfl⟩) hS (fun q _ h => hFc q h) hFc (fun r_1 u t H locs ht hvm hw hB hz1 hk1 hS => ?_)
  have hP := gp_joinU (wc := [(o_glass xa glass_len glass_deep glass_ax2 glass_ay2 glass_cx glass_cy glass_along glass_whole glass_xTimes glass_yTimes glass_fromX2 glass_fromY2 glass_goX glass_goY)]) hP hD [0] rfl hk1 ht hB
  have w_2 := hw
  refine lv_aload_n hx hb dX3_mirroredY_23 rfl (lv_at hl 0 rfl) ?_
  refine va_get (D := D) (ci := 3) (v := .long glass_cx) (C := RX3) (T := TX3) (N := 16) hx hb hts hiX3 hown hK hP 0 rfl rfl 6 (by decide) (hts (.fieldLink RX3 38 "GhostPane$Glass" "cx" "J") (List.mem_of_getElem? (i := 5) rfl)) (fun _ h9 => h9) rfl dX3_mirroredY_24 ?_
  refine lv_lmul hx hb dX3_mirroredY_27 ?_
  refine lv_lsub hx hb dX3_mirroredY_28 ?_
  exact W.lret (v := ((glass_len * (Int32.toInt64 y)) - (r_1 * glass_cx))) hx hb hr (fun t ht hW => ⟨⟨((glass_len * (Int32.toInt64 y)) - (r_1 * glass_cx)), (), rfl, (lf_sX3_mirroredY_1 glass_len glass_ax2 glass_ay2 glass_cx glass_cy x y r_1 w_2), gp_end ht hP hD⟩, hS.F ht⟩) hS.2.2 dX3_mirroredY_29

theorem lf_sX3_lay_1 (room_ax : Int32) (room_ay : Int32) (bx : Int32) (b2 : Int32) : (2 * (Int32.toInt64 room_ax)) = 2 * Int32.toInt64 room_ax ∧ (2 * (Int32.toInt64 room_ay)) = 2 * Int32.toInt64 room_ay ∧ (Int32.toInt64 (bx - room_ax)) = Int32.toInt64 (bx - room_ax) ∧ (Int32.toInt64 (b2 - room_ay)) = Int32.toInt64 (b2 - room_ay) ∧ (((Int32.toInt64 (bx - room_ax)) * (Int32.toInt64 (bx - room_ax))) + ((Int32.toInt64 (b2 - room_ay)) * (Int32.toInt64 (b2 - room_ay)))) = Int32.toInt64 (bx - room_ax) * Int32.toInt64 (bx - room_ax) + Int32.toInt64 (b2 - room_ay) * Int32.toInt64 (b2 - room_ay) := by
  first | grind | (simp only [sp_in, sp_pl, sp_far, sp_two] at *; grind)
theorem lf_sX3_lay_2 (ii : Int32) (h1 : sp_in ii 0 12) (c_1 : ¬ 12 ≤ ii) : sp_in ii 0 11 := by
  first | grind | (simp only [sp_in, sp_pl, sp_far, sp_two] at *; grind)
theorem lf_sX3_lay_3 (ii : Int32) (h1 : sp_in ii 0 12) (c_1 : ¬ 12 ≤ ii) : sp_in ii 0 11 := by
  first | grind | (simp only [sp_in, sp_pl, sp_far, sp_two] at *; grind)
theorem lf_sX3_lay_4 (ii : Int32) (h1 : sp_in ii 0 12) (c_1 : ¬ 12 ≤ ii) : sp_in ii 0 11 := by
  first | grind | (simp only [sp_in, sp_pl, sp_far, sp_two] at *; grind)
theorem lf_sX3_lay_5 (ii : Int32) (h1 : sp_in ii 0 12) (c_1 : ¬ 12 ≤ ii) : sp_in ii 0 11 := by
  first | grind | (simp only [sp_in, sp_pl, sp_far, sp_two] at *; grind)
theorem lf_sX3_lay_6 (ii : Int32) (h1 : sp_in ii 0 12) (c_1 : ¬ 12 ≤ ii) : sp_in ii 0 11 := by
  first | grind | (simp only [sp_in, sp_pl, sp_far, sp_two] at *; grind)
theorem lf_sX3_lay_7 (ii : Int32) (h1 : sp_in ii 0 12) (c_1 : ¬ 12 ≤ ii) : sp_in ii 0 11 := by
  first | grind | (simp only [sp_in, sp_pl, sp_far, sp_two] at *; grind)
theorem lf_sX3_lay_8 (ii : Int32) (h1 : sp_in ii 0 12) (c_1 : ¬ 12 ≤ ii) : sp_in ii 0 11 := by
  first | grind | (simp only [sp_in, sp_pl, sp_far, sp_two] at *; grind)
theorem lf_sX3_lay_9 (ii : Int32) (h1 : sp_in ii 0 12) (c_1 : ¬ 12 ≤ ii) : sp_in ii 0 11 := by
  first | grind | (simp only [sp_in, sp_pl, sp_far, sp_two] at *; grind)
theorem lf_sX3_lay_10 (ii : Int32) (h1 : sp_in ii 0 12) (c_1 : ¬ 12 ≤ ii) : sp_in ii 0 11 := by
  first | grind | (simp only [sp_in, sp_pl, sp_far, sp_two] at *; grind)
theorem lf_sX3_lay_11 (ii : Int32) (h1 : sp_in ii 0 12) (c_1 : ¬ 12 ≤ ii) : sp_in ii 0 11 := by
  first | grind | (simp only [sp_in, sp_pl, sp_far, sp_two] at *; grind)
theorem lf_sX3_lay_12 (ii : Int32) (h1 : sp_in ii 0 12) (c_1 : ¬ 12 ≤ ii) : sp_in (ii + 1) 0 12 := by
  first | grind | (simp only [sp_in, sp_pl, sp_far, sp_two] at *; grind)
theorem lf_sX3_lay_13 (ii : Int32) (h1 : sp_in ii 0 12) (c_1 : ¬ 12 ≤ ii) : ii < 12 := by
  first | grind | (simp only [sp_in, sp_pl, sp_far, sp_two] at *; grind)
theorem lf_sX3_lay_14 (ii : Int32) (h1 : sp_in ii 0 12) (c_1 : ¬ 12 ≤ ii) : sp_in ii 0 11 := by
  first | grind | (simp only [sp_in, sp_pl, sp_far, sp_two] at *; grind)
def v_sX3_lay : List Cond := .code yX3_lay cX3_lay 7 none :: (([.constantLong RX3 20 2, .fieldLink RX3 22 "GhostPane$Room" "ax" "I", .fieldLink RX3 28 "GhostPane$Glass" "ax2" "J", .fieldLink RX3 32 "GhostPane$Room" "ay" "I", .fieldLink RX3 35 "GhostPane$Glass" "ay2" "J", .fieldLink RX3 38 "GhostPane$Glass" "cx" "J", .fieldLink RX3 41 "GhostPane$Glass" "cy" "J", .fieldLink RX3 44 "GhostPane$Glass" "len" "J", .fieldLink RX3 47 "GhostPane$Glass" "deep" "I", .fieldLink RX3 16 "GhostPane$Glass" "stands" "[Z", .fieldLink RX3 50 "GhostPane$Room" "wallThere" "[Z", .fieldLink RX3 11 "GhostPane$Glass" "ends2" "[[J", .fieldLink RX3 56 "GhostPane$Room" "wallEnds" "[[I", .fieldLink RX3 53 "GhostPane$Room" "ofPit" "[Z"] : List Cond) ++ wsX70 ++ wsX30)
set_option maxHeartbeats 4000000 in
set_option maxRecDepth 100000 in
theorem sX3_lay (l : Launch) (D : va_G) (cy : Nat → ClassId) (sz : Nat) (xa : Nat → Nat) (glass_len : Int64) (glass_deep : Int32) (glass_ax2 : Int64) (glass_ay2 : Int64) (glass_cx : Int64) (glass_cy : Int64) (glass_along : Int64) (glass_whole : Int64) (glass_xTimes : Int64) (glass_yTimes : Int64) (glass_fromX2 : Int64) (glass_fromY2 : Int64) (glass_goX : Int64) (glass_goY : Int64) (stands : Nat → Int32) (room_ax : Int32) (room_ay : Int32) (room_bx : Int32) (room_by : Int32) (room_cx : Int32) (room_cy : Int32) (room_dx : Int32) (room_dy : Int32) (room_floor : Int32) (room_hand : Int32) (room_deep : Int32) (wallThere : Nat → Int32) (ofPit : Nat → Int32) (rw : Nat → Nat → Int32) (ge : Nat → Nat → Int64) (bx : Int32) (b2 : Int32) (lowered : Int32) : Met l yX3_lay v_sX3_lay ({ frames := 0, cells := 0, slots := 0, locals := 0 } : Room) (va_Pc [.ref (xa 21), .ref (xa 11), .int bx, .int b2, .int lowered] (gp_B D cy sz (([(o_glass xa glass_len glass_deep glass_ax2 glass_ay2 glass_cx glass_cy glass_along glass_whole glass_xTimes glass_yTimes glass_fromX2 glass_fromY2 glass_goX glass_goY), (aI (xa 23) (cy 3) 12 stands), (aR (xa 22) (cy 7) 12 (fun i => if i < 12 then some (xa (140 + i)) else none)), (o_room xa room_ax room_ay room_bx room_by room_cx room_cy room_dx room_dy room_floor room_hand room_deep), (aI (xa 15) (cy 3) 12 wallThere), (aI (xa 17) (cy 3) 12 ofPit), (aR (xa 16) (cy 6) 12 (fun i => if i < 12 then some (xa (100 + i)) else none))] ++ gp_R 12 (fun i => aI (xa (100 + i)) (cy 1) 4 (rw i))) ++ gp_R 12 (fun i => aJ (xa (140 + i)) (cy 2) 4 (ge i))))) (va_Qv (fun (u : (Int64) × (Int32) × (Int64) × (Int64) × (Int64) × (Int64) × (Nat → Int32) × (Nat → Nat → Int64)) => (u.2.2.1 = 2 * Int32.toInt64 room_ax ∧ u.2.2.2.1 = 2 * Int32.toInt64 room_ay ∧ u.2.2.2.2.1 = Int32.toInt64 (bx - room_ax) ∧ u.2.2.2.2.2.1 = Int32.toInt64 (b2 - room_ay) ∧ u.1 = Int32.toInt64 (bx - room_ax) * Int32.toInt64 (bx - room_ax) + Int32.toInt64 (b2 - room_ay) * Int32.toInt64 (b2 - room_ay))) (fun u => gp_E D (va_A (([(o_glass xa glass_len glass_deep glass_ax2 glass_ay2 glass_cx glass_cy glass_along glass_whole glass_xTimes glass_yTimes glass_fromX2 glass_fromY2 glass_goX glass_goY), (aI (xa 23) (cy 3) 12 stands), (aR (xa 22) (cy 7) 12 (fun i => if i < 12 then some (xa (140 + i)) else none)), (o_room xa room_ax room_ay room_bx room_by room_cx room_cy room_dx room_dy room_floor room_hand room_deep), (aI (xa 15) (cy 3) 12 wallThere), (aI (xa 17) (cy 3) 12 ofPit), (aR (xa 16) (cy 6) 12 (fun i => if i < 12 then some (xa (100 + i)) else none))] ++ gp_R 12 (fun i => aI (xa (100 + i)) (cy 1) 4 (rw i))) ++ gp_R 12 (fun i => aJ (xa (140 + i)) (cy 2) 4 (ge i))) sz) (([(o_glass xa u.1 u.2.1 u.2.2.1 u.2.2.2.1 u.2.2.2.2.1 u.2.2.2.2.2.1 glass_along glass_whole glass_xTimes glass_yTimes glass_fromX2 glass_fromY2 glass_goX glass_goY), (aI (xa 23) (cy 3) 12 u.2.2.2.2.2.2.1), (aR (xa 22) (cy 7) 12 (fun i => if i < 12 then some (xa (140 + i)) else none)), (o_room xa room_ax room_ay room_bx room_by room_cx room_cy room_dx room_dy room_floor room_hand room_deep), (aI (xa 15) (cy 3) 12 wallThere), (aI (xa 17) (cy 3) 12 ofPit), (aR (xa 16) (cy 6) 12 (fun i => if i < 12 then some (xa (100 + i)) else none))] ++ gp_R 12 (fun i => aI (xa (100 + i)) (cy 1) 4 (rw i))) ++ gp_R 12 (fun i => aJ (xa (140 + i)) (cy 2) 4 (u.2.2.2.2.2.2.2 i)))) (va_A (([(o_glass xa glass_len glass_deep glass_ax2 glass_ay2 glass_cx glass_cy glass_along glass_whole glass_xTimes glass_yTimes glass_fromX2 glass_fromY2 glass_goX glass_goY), (aI (xa 23) (cy 3) 12 stands), (aR (xa 22) (cy 7) 12 (fun i => if i < 12 then some (xa (140 + i)) else none)), (o_room xa room_ax room_ay room_bx room_by room_cx room_cy room_dx room_dy room_floor room_hand room_deep), (aI (xa 15) (cy 3) 12 wallThere), (aI (xa 17) (cy 3) 12 ofPit), (aR (xa 16) (cy 6) 12 (fun i => if i < 12 then some (xa (100 + i)) else none))] ++ gp_R 12 (fun i => aI (xa (100 + i)) (cy 1) 4 (rw i))) ++ gp_R 12 (fun i => aJ (xa (140 + i)) (cy 2) 4 (ge i))) sz)) 0 0 (va_A (([(o_glass xa glass_len glass_deep glass_ax2 glass_ay2 glass_cx glass_cy glass_along glass_whole glass_xTimes glass_yTimes glass_fromX2 glass_fromY2 glass_goX glass_goY), (aI (xa 23) (cy 3) 12 stands), (aR (xa 22) (cy 7) 12 (fun i => if i < 12 then some (xa (140 + i)) else none)), (o_room xa room_ax room_ay room_bx room_by room_cx room_cy room_dx room_dy room_floor room_hand room_deep), (aI (xa 15) (cy 3) 12 wallThere), (aI (xa 17) (cy 3) 12 ofPit), (aR (xa 16) (cy 6) 12 (fun i => if i < 12 then some (xa (100 + i)) else none))] ++ gp_R 12 (fun i => aI (xa (100 + i)) (cy 1) 4 (rw i))) ++ gp_R 12 (fun i => aJ (xa (140 + i)) (cy 2) 4 (ge i))) sz) := by
  refine gp_met (Qc := fun A => va_Qv (fun (u : (Int64) × (Int32) × (Int64) × (Int64) × (Int64) × (Int64) × (Nat → Int32) × (Nat → Nat → Int64)) => (u.2.2.1 = 2 * Int32.toInt64 room_ax ∧ u.2.2.2.1 = 2 * Int32.toInt64 room_ay ∧ u.2.2.2.2.1 = Int32.toInt64 (bx - room_ax) ∧ u.2.2.2.2.2.1 = Int32.toInt64 (b2 - room_ay) ∧ u.1 = Int32.toInt64 (bx - room_ax) * Int32.toInt64 (bx - room_ax) + Int32.toInt64 (b2 - room_ay) * Int32.toInt64 (b2 - room_ay))) (fun u => gp_E D A (([(o_glass xa u.1 u.2.1 u.2.2.1 u.2.2.2.1 u.2.2.2.2.1 u.2.2.2.2.2.1 glass_along glass_whole glass_xTimes glass_yTimes glass_fromX2 glass_fromY2 glass_goX glass_goY), (aI (xa 23) (cy 3) 12 u.2.2.2.2.2.2.1), (aR (xa 22) (cy 7) 12 (fun i => if i < 12 then some (xa (140 + i)) else none)), (o_room xa room_ax room_ay room_bx room_by room_cx room_cy room_dx room_dy room_floor room_hand room_deep), (aI (xa 15) (cy 3) 12 wallThere), (aI (xa 17) (cy 3) 12 ofPit), (aR (xa 16) (cy 6) 12 (fun i => if i < 12 then some (xa (100 + i)) else none))] ++ gp_R 12 (fun i => aI (xa (100 + i)) (cy 1) 4 (rw i))) ++ gp_R 12 (fun i => aJ (xa (140 + i)) (cy 2) 4 (u.2.2.2.2.2.2.2 i)))) A) (cc := cX3_lay) (maxL := 7) (ret := none) (by decide) rfl (Nat.le_of_ble_eq_true rfl) ?_
  intro p e s m below meth c A ls H hx hb hml hr hlocks hts hown hin hK hN hS hP hD hA hl
  have hown : s.vm.findClass RX3 = some m.cls := hown
  have hl : lv_has ls 7 [(0, .ref (xa 21)), (1, .ref (xa 11)), (2, .int bx), (3, .int b2), (4, .int lowered)] := hl
  have hiX3 : ∀ w ∈ u_ws RX3 TX3 16, w ∈ v_sX3_lay := fun _ h => List.mem_cons_of_mem _ (List.mem_append_right _ h)
  have hiX7 : ∀ w ∈ u_ws RX7 TX7 19, w ∈ v_sX3_lay := fun _ h => List.mem_cons_of_mem _ (List.mem_append_left _ (List.mem_append_right _ h))
  refine lv_aload_n hx hb dX3_lay_0 rfl (lv_at hl 0 rfl) ?_
  refine lv_ldc2 (v := 2) hx hb hown (hts (.constantLong RX3 20 2) (List.mem_of_getElem? (i := 1) rfl)) dX3_lay_1 ?_
  refine lv_aload_n hx hb dX3_lay_4 rfl (lv_at hl 1 rfl) ?_
  refine va_get (D := D) (ci := 7) (v := .int room_ax) (C := RX7) (T := TX7) (N := 19) hx hb hts hiX7 hown hK hP 3 rfl rfl 0 (by decide) (hts (.fieldLink RX3 22 "GhostPane$Room" "ax" "I") (List.mem_of_getElem? (i := 2) rfl)) (fun _ h9 => h9) rfl dX3_lay_5 ?_
  refine lv_i2l (v := (Int32.toInt64 room_ax)) hx hb dX3_lay_8 rfl ?_
  refine lv_lmul hx hb dX3_lay_9 ?_
  refine va_put (D := D) (ci := 3) (v := .long (2 * (Int32.toInt64 room_ax))) (ty := .long) (C := RX3) (T := TX3) (N := 16) hx hb hts hiX3 tyX3 tyX3_ok nmX3 hown hK hP hD hS 0 rfl rfl 4 (by decide) (hts (.fieldLink RX3 28 "GhostPane$Glass" "ax2" "J") (List.mem_of_getElem? (i := 3) rfl)) (fun _ h9 => h9) rfl (by decide +kernel) rfl rfl (Nat.le_of_ble_eq_true rfl) dX3_lay_10 (fun H locs hP hD hS => ?_)
  have hP : va_P D vwCl (([(o_glass xa glass_len glass_deep (2 * (Int32.toInt64 room_ax)) glass_ay2 glass_cx glass_cy glass_along glass_whole glass_xTimes glass_yTimes glass_fromX2 glass_fromY2 glass_goX glass_goY), (aI (xa 23) (cy 3) 12 stands), (aR (xa 22) (cy 7) 12 (fun i => if i < 12 then some (xa (140 + i)) else none)), (o_room xa room_ax room_ay room_bx room_by room_cx room_cy room_dx room_dy room_floor room_hand room_deep), (aI (xa 15) (cy 3) 12 wallThere), (aI (xa 17) (cy 3) 12 ofPit), (aR (xa 16) (cy 6) 12 (fun i => if i < 12 then some (xa (100 + i)) else none))] ++ gp_R 12 (fun i => aI (xa (100 + i)) (cy 1) 4 (rw i))) ++ gp_R 12 (fun i => aJ (xa (140 + i)) (cy 2) 4 (ge i))) H := hP
  have hD := gp_sD hP hD
  refine lv_aload_n hx hb dX3_lay_13 rfl (lv_at hl 0 rfl) ?_
  refine lv_ldc2 (v := 2) hx hb hown (hts (.constantLong RX3 20 2) (List.mem_of_getElem? (i := 1) rfl)) dX3_lay_14 ?_
  refine lv_aload_n hx hb dX3_lay_17 rfl (lv_at hl 1 rfl) ?_
  refine va_get (D := D) (ci := 7) (v := .int room_ay) (C := RX7) (T := TX7) (N := 19) hx hb hts hiX7 hown hK hP 3 rfl rfl 1 (by decide) (hts (.fieldLink RX3 32 "GhostPane$Room" "ay" "I") (List.mem_of_getElem? (i := 4) rfl)) (fun _ h9 => h9) rfl dX3_lay_18 ?_
  refine lv_i2l (v := (Int32.toInt64 room_ay)) hx hb dX3_lay_21 rfl ?_
  refine lv_lmul hx hb dX3_lay_22 ?_
  refine va_put (D := D) (ci := 3) (v := .long (2 * (Int32.toInt64 room_ay))) (ty := .long) (C := RX3) (T := TX3) (N := 16) hx hb hts hiX3 tyX3 tyX3_ok nmX3 hown hK hP hD hS 0 rfl rfl 5 (by decide) (hts (.fieldLink RX3 35 "GhostPane$Glass" "ay2" "J") (List.mem_of_getElem? (i := 5) rfl)) (fun _ h9 => h9) rfl (by decide +kernel) rfl rfl (Nat.le_of_ble_eq_true rfl) dX3_lay_23 (fun H locs hP hD hS => ?_)
  have hP : va_P D vwCl (([(o_glass xa glass_len glass_deep (2 * (Int32.toInt64 room_ax)) (2 * (Int32.toInt64 room_ay)) glass_cx glass_cy glass_along glass_whole glass_xTimes glass_yTimes glass_fromX2 glass_fromY2 glass_goX glass_goY), (aI (xa 23) (cy 3) 12 stands), (aR (xa 22) (cy 7) 12 (fun i => if i < 12 then some (xa (140 + i)) else none)), (o_room xa room_ax room_ay room_bx room_by room_cx room_cy room_dx room_dy room_floor room_hand room_deep), (aI (xa 15) (cy 3) 12 wallThere), (aI (xa 17) (cy 3) 12 ofPit), (aR (xa 16) (cy 6) 12 (fun i => if i < 12 then some (xa (100 + i)) else none))] ++ gp_R 12 (fun i => aI (xa (100 + i)) (cy 1) 4 (rw i))) ++ gp_R 12 (fun i => aJ (xa (140 + i)) (cy 2) 4 (ge i))) H := hP
  have hD := gp_sD hP hD
  refine lv_aload_n hx hb dX3_lay_26 rfl (lv_at hl 0 rfl) ?_
  refine lv_iload_n hx hb dX3_lay_27 rfl (lv_at hl 2 rfl) ?_
  refine lv_aload_n hx hb dX3_lay_28 rfl (lv_at hl 1 rfl) ?_
  refine va_get (D := D) (ci := 7) (v := .int room_ax) (C := RX7) (T := TX7) (N := 19) hx hb hts hiX7 hown hK hP 3 rfl rfl 0 (by decide) (hts (.fieldLink RX3 22 "GhostPane$Room" "ax" "I") (List.mem_of_getElem? (i := 2) rfl)) (fun _ h9 => h9) rfl dX3_lay_29 ?_
  refine lv_isub hx hb dX3_lay_32 ?_
  refine lv_i2l (v := (Int32.toInt64 (bx - room_ax))) hx hb dX3_lay_33 rfl ?_
  refine va_put (D := D) (ci := 3) (v := .long (Int32.toInt64 (bx - room_ax))) (ty := .long) (C := RX3) (T := TX3) (N := 16) hx hb hts hiX3 tyX3 tyX3_ok nmX3 hown hK hP hD hS 0 rfl rfl 6 (by decide) (hts (.fieldLink RX3 38 "GhostPane$Glass" "cx" "J") (List.mem_of_getElem? (i := 6) rfl)) (fun _ h9 => h9) rfl (by decide +kernel) rfl rfl (Nat.le_of_ble_eq_true rfl) dX3_lay_34 (fun H locs hP hD hS => ?_)
  have hP : va_P D vwCl (([(o_glass xa glass_len glass_deep (2 * (Int32.toInt64 room_ax)) (2 * (Int32.toInt64 room_ay)) (Int32.toInt64 (bx - room_ax)) glass_cy glass_along glass_whole glass_xTimes glass_yTimes glass_fromX2 glass_fromY2 glass_goX glass_goY), (aI (xa 23) (cy 3) 12 stands), (aR (xa 22) (cy 7) 12 (fun i => if i < 12 then some (xa (140 + i)) else none)), (o_room xa room_ax room_ay room_bx room_by room_cx room_cy room_dx room_dy room_floor room_hand room_deep), (aI (xa 15) (cy 3) 12 wallThere), (aI (xa 17) (cy 3) 12 ofPit), (aR (xa 16) (cy 6) 12 (fun i => if i < 12 then some (xa (100 + i)) else none))] ++ gp_R 12 (fun i => aI (xa (100 + i)) (cy 1) 4 (rw i))) ++ gp_R 12 (fun i => aJ (xa (140 + i)) (cy 2) 4 (ge i))) H := hP
  have hD := gp_sD hP hD
  refine lv_aload_n hx hb dX3_lay_37 rfl (lv_at hl 0 rfl) ?_
  refine lv_iload_n hx hb dX3_lay_38 rfl (lv_at hl 3 rfl) ?_
  refine lv_aload_n hx hb dX3_lay_39 rfl (lv_at hl 1 rfl) ?_
  refine va_get (D := D) (ci := 7) (v := .int room_ay) (C := RX7) (T := TX7) (N := 19) hx hb hts hiX7 hown hK hP 3 rfl rfl 1 (by decide) (hts (.fieldLink RX3 32 "GhostPane$Room" "ay" "I") (List.mem_of_getElem? (i := 4) rfl)) (fun _ h9 => h9) rfl dX3_lay_40 ?_
  refine lv_isub hx hb dX3_lay_43 ?_
  refine lv_i2l (v := (Int32.toInt64 (b2 - room_ay))) hx hb dX3_lay_44 rfl ?_
  refine va_put (D := D) (ci := 3) (v := .long (Int32.toInt64 (b2 - room_ay))) (ty := .long) (C := RX3) (T := TX3) (N := 16) hx hb hts hiX3 tyX3 tyX3_ok nmX3 hown hK hP hD hS 0 rfl rfl 7 (by decide) (hts (.fieldLink RX3 41 "GhostPane$Glass" "cy" "J") (List.mem_of_getElem? (i := 7) rfl)) (fun _ h9 => h9) rfl (by decide +kernel) rfl rfl (Nat.le_of_ble_eq_true rfl) dX3_lay_45 (fun H locs hP hD hS => ?_)
  have hP : va_P D vwCl (([(o_glass xa glass_len glass_deep (2 * (Int32.toInt64 room_ax)) (2 * (Int32.toInt64 room_ay)) (Int32.toInt64 (bx - room_ax)) (Int32.toInt64 (b2 - room_ay)) glass_along glass_whole glass_xTimes glass_yTimes glass_fromX2 glass_fromY2 glass_goX glass_goY), (aI (xa 23) (cy 3) 12 stands), (aR (xa 22) (cy 7) 12 (fun i => if i < 12 then some (xa (140 + i)) else none)), (o_room xa room_ax room_ay room_bx room_by room_cx room_cy room_dx room_dy room_floor room_hand room_deep), (aI (xa 15) (cy 3) 12 wallThere), (aI (xa 17) (cy 3) 12 ofPit), (aR (xa 16) (cy 6) 12 (fun i => if i < 12 then some (xa (100 + i)) else none))] ++ gp_R 12 (fun i => aI (xa (100 + i)) (cy 1) 4 (rw i))) ++ gp_R 12 (fun i => aJ (xa (140 + i)) (cy 2) 4 (ge i))) H := hP
  have hD := gp_sD hP hD
  refine lv_aload_n hx hb dX3_lay_48 rfl (lv_at hl 0 rfl) ?_
  refine lv_aload_n hx hb dX3_lay_49 rfl (lv_at hl 0 rfl) ?_
  refine va_get (D := D) (ci := 3) (v := .long (Int32.toInt64 (bx - room_ax))) (C := RX3) (T := TX3) (N := 16) hx hb hts hiX3 hown hK hP 0 rfl rfl 6 (by decide) (hts (.fieldLink RX3 38 "GhostPane$Glass" "cx" "J") (List.mem_of_getElem? (i := 6) rfl)) (fun _ h9 => h9) rfl dX3_lay_50 ?_
  refine lv_aload_n hx hb dX3_lay_53 rfl (lv_at hl 0 rfl) ?_
  refine va_get (D := D) (ci := 3) (v := .long (Int32.toInt64 (bx - room_ax))) (C := RX3) (T := TX3) (N := 16) hx hb hts hiX3 hown hK hP 0 rfl rfl 6 (by decide) (hts (.fieldLink RX3 38 "GhostPane$Glass" "cx" "J") (List.mem_of_getElem? (i := 6) rfl)) (fun _ h9 => h9) rfl dX3_lay_54 ?_
  refine lv_lmul hx hb dX3_lay_57 ?_
  refine lv_aload_n hx hb dX3_lay_58 rfl (lv_at hl 0 rfl) ?_
  refine va_get (D := D) (ci := 3) (v := .long (Int32.toInt64 (b2 - room_ay))) (C := RX3) (T := TX3) (N := 16) hx hb hts hiX3 hown hK hP 0 rfl rfl 7 (by decide) (hts (.fieldLink RX3 41 "GhostPane$Glass" "cy" "J") (List.mem_of_getElem? (i := 7) rfl)) (fun _ h9 => h9) rfl dX3_lay_59 ?_
  refine lv_aload_n hx hb dX3_lay_62 rfl (lv_at hl 0 rfl) ?_
  refine va_get (D := D) (ci := 3) (v := .long (Int32.toInt64 (b2 - room_ay))) (C := RX3) (T := TX3) (N := 16) hx hb hts hiX3 hown hK hP 0 rfl rfl 7 (by decide) (hts (.fieldLink RX3 41 "GhostPane$Glass" "cy" "J") (List.mem_of_getElem? (i := 7) rfl)) (fun _ h9 => h9) rfl dX3_lay_63 ?_
  refine lv_lmul hx hb dX3_lay_66 ?_
  refine lv_ladd hx hb dX3_lay_67 ?_
  refine va_put (D := D) (ci := 3) (v := .long (((Int32.toInt64 (bx - room_ax)) * (Int32.toInt64 (bx - room_ax))) + ((Int32.toInt64 (b2 - room_ay)) * (Int32.toInt64 (b2 - room_ay))))) (ty := .long) (C := RX3) (T := TX3) (N := 16) hx hb hts hiX3 tyX3 tyX3_ok nmX3 hown hK hP hD hS 0 rfl rfl 0 (by decide) (hts (.fieldLink RX3 44 "GhostPane$Glass" "len" "J") (List.mem_of_getElem? (i := 8) rfl)) (fun _ h9 => h9) rfl (by decide +kernel) rfl rfl (Nat.le_of_ble_eq_true rfl) dX3_lay_68 (fun H locs hP hD hS => ?_)
  have hP : va_P D vwCl (([(o_glass xa (((Int32.toInt64 (bx - room_ax)) * (Int32.toInt64 (bx - room_ax))) + ((Int32.toInt64 (b2 - room_ay)) * (Int32.toInt64 (b2 - room_ay)))) glass_deep (2 * (Int32.toInt64 room_ax)) (2 * (Int32.toInt64 room_ay)) (Int32.toInt64 (bx - room_ax)) (Int32.toInt64 (b2 - room_ay)) glass_along glass_whole glass_xTimes glass_yTimes glass_fromX2 glass_fromY2 glass_goX glass_goY), (aI (xa 23) (cy 3) 12 stands), (aR (xa 22) (cy 7) 12 (fun i => if i < 12 then some (xa (140 + i)) else none)), (o_room xa room_ax room_ay room_bx room_by room_cx room_cy room_dx room_dy room_floor room_hand room_deep), (aI (xa 15) (cy 3) 12 wallThere), (aI (xa 17) (cy 3) 12 ofPit), (aR (xa 16) (cy 6) 12 (fun i => if i < 12 then some (xa (100 + i)) else none))] ++ gp_R 12 (fun i => aI (xa (100 + i)) (cy 1) 4 (rw i))) ++ gp_R 12 (fun i => aJ (xa (140 + i)) (cy 2) 4 (ge i))) H := hP
  have hD := gp_sD hP hD
  refine lv_aload_n hx hb dX3_lay_71 rfl (lv_at hl 0 rfl) ?_
  refine lv_iload hx hb dX3_lay_72 (lv_at hl 4 rfl) ?_
  refine va_put (D := D) (ci := 3) (v := .int lowered) (ty := .int) (C := RX3) (T := TX3) (N := 16) hx hb hts hiX3 tyX3 tyX3_ok nmX3 hown hK hP hD hS 0 rfl rfl 1 (by decide) (hts (.fieldLink RX3 47 "GhostPane$Glass" "deep" "I") (List.mem_of_getElem? (i := 9) rfl)) (fun _ h9 => h9) rfl (by decide +kernel) rfl rfl (Nat.le_of_ble_eq_true rfl) dX3_lay_74 (fun H locs hP hD hS => ?_)
  have hP : va_P D vwCl (([(o_glass xa (((Int32.toInt64 (bx - room_ax)) * (Int32.toInt64 (bx - room_ax))) + ((Int32.toInt64 (b2 - room_ay)) * (Int32.toInt64 (b2 - room_ay)))) lowered (2 * (Int32.toInt64 room_ax)) (2 * (Int32.toInt64 room_ay)) (Int32.toInt64 (bx - room_ax)) (Int32.toInt64 (b2 - room_ay)) glass_along glass_whole glass_xTimes glass_yTimes glass_fromX2 glass_fromY2 glass_goX glass_goY), (aI (xa 23) (cy 3) 12 stands), (aR (xa 22) (cy 7) 12 (fun i => if i < 12 then some (xa (140 + i)) else none)), (o_room xa room_ax room_ay room_bx room_by room_cx room_cy room_dx room_dy room_floor room_hand room_deep), (aI (xa 15) (cy 3) 12 wallThere), (aI (xa 17) (cy 3) 12 ofPit), (aR (xa 16) (cy 6) 12 (fun i => if i < 12 then some (xa (100 + i)) else none))] ++ gp_R 12 (fun i => aI (xa (100 + i)) (cy 1) 4 (rw i))) ++ gp_R 12 (fun i => aJ (xa (140 + i)) (cy 2) 4 (ge i))) H := hP
  have hD := gp_sD hP hD
  refine lv_iconst (v := 0) hx hb dX3_lay_77 (by decide) ?_
  refine lv_istore (lv' := [(5, .int 0), (0, .ref (xa 21)), (1, .ref (xa 11)), (2, .int bx), (3, .int b2), (4, .int lowered)]) hx hb dX3_lay_78 hl (by decide) rfl (fun ls hl => ?_)
  have key80 : ∀ (fu : Nat) (ii : Int32) (gs : Nat → Int32) (gf : Nat → Nat → Int64) (H : Heap) (locs : List Loc) (ls : Array Slot), (h1 : sp_in ii 0 12) → (12 - ii.toInt).toNat < fu → va_P D vwCl (([(o_glass xa (((Int32.toInt64 (bx - room_ax)) * (Int32.toInt64 (bx - room_ax))) + ((Int32.toInt64 (b2 - room_ay)) * (Int32.toInt64 (b2 - room_ay)))) lowered (2 * (Int32.toInt64 room_ax)) (2 * (Int32.toInt64 room_ay)) (Int32.toInt64 (bx - room_ax)) (Int32.toInt64 (b2 - room_ay)) glass_along glass_whole glass_xTimes glass_yTimes glass_fromX2 glass_fromY2 glass_goX glass_goY), (aI (xa 23) (cy 3) 12 gs), (aR (xa 22) (cy 7) 12 (fun i => if i < 12 then some (xa (140 + i)) else none)), (o_room xa room_ax room_ay room_bx room_by room_cx room_cy room_dx room_dy room_floor room_hand room_deep), (aI (xa 15) (cy 3) 12 wallThere), (aI (xa 17) (cy 3) 12 ofPit), (aR (xa 16) (cy 6) 12 (fun i => if i < 12 then some (xa (100 + i)) else none))] ++ gp_R 12 (fun i => aI (xa (100 + i)) (cy 1) 4 (rw i))) ++ gp_R 12 (fun i => aJ (xa (140 + i)) (cy 2) 4 (gf i))) H → va_D A (([(o_glass xa (((Int32.toInt64 (bx - room_ax)) * (Int32.toInt64 (bx - room_ax))) + ((Int32.toInt64 (b2 - room_ay)) * (Int32.toInt64 (b2 - room_ay)))) lowered (2 * (Int32.toInt64 room_ax)) (2 * (Int32.toInt64 room_ay)) (Int32.toInt64 (bx - room_ax)) (Int32.toInt64 (b2 - room_ay)) glass_along glass_whole glass_xTimes glass_yTimes glass_fromX2 glass_fromY2 glass_goX glass_goY), (aI (xa 23) (cy 3) 12 gs), (aR (xa 22) (cy 7) 12 (fun i => if i < 12 then some (xa (140 + i)) else none)), (o_room xa room_ax room_ay room_bx room_by room_cx room_cy room_dx room_dy room_floor room_hand room_deep), (aI (xa 15) (cy 3) 12 wallThere), (aI (xa 17) (cy 3) 12 ofPit), (aR (xa 16) (cy 6) 12 (fun i => if i < 12 then some (xa (100 + i)) else none))] ++ gp_R 12 (fun i => aI (xa (100 + i)) (cy 1) 4 (rw i))) ++ gp_R 12 (fun i => aJ (xa (140 + i)) (cy 2) 4 (gf i))) → va_S A s.heap H locs → lv_has ls 7 [(5, .int ii), (0, .ref (xa 21)), (1, .ref (xa 11)), (2, .int bx), (3, .int b2), (4, .int lowered)] → W p l e (headSpec v_sX3_lay (({ frames := 0, cells := 0, slots := 0, locals := 0 } : Room))).room s m [.ref (xa 21), .ref (xa 11), .int bx, .int b2, .int lowered].toArray below meth c H locs 0 0 (MQ below (va_Qv (fun (u : (Int64) × (Int32) × (Int64) × (Int64) × (Int64) × (Int64) × (Nat → Int32) × (Nat → Nat → Int64)) => (u.2.2.1 = 2 * Int32.toInt64 room_ax ∧ u.2.2.2.1 = 2 * Int32.toInt64 room_ay ∧ u.2.2.2.2.1 = Int32.toInt64 (bx - room_ax) ∧ u.2.2.2.2.2.1 = Int32.toInt64 (b2 - room_ay) ∧ u.1 = Int32.toInt64 (bx - room_ax) * Int32.toInt64 (bx - room_ax) + Int32.toInt64 (b2 - room_ay) * Int32.toInt64 (b2 - room_ay))) (fun u => gp_E D A (([(o_glass xa u.1 u.2.1 u.2.2.1 u.2.2.2.1 u.2.2.2.2.1 u.2.2.2.2.2.1 glass_along glass_whole glass_xTimes glass_yTimes glass_fromX2 glass_fromY2 glass_goX glass_goY), (aI (xa 23) (cy 3) 12 u.2.2.2.2.2.2.1), (aR (xa 22) (cy 7) 12 (fun i => if i < 12 then some (xa (140 + i)) else none)), (o_room xa room_ax room_ay room_bx room_by room_cx room_cy room_dx room_dy room_floor room_hand room_deep), (aI (xa 15) (cy 3) 12 wallThere), (aI (xa 17) (cy 3) 12 ofPit), (aR (xa 16) (cy 6) 12 (fun i => if i < 12 then some (xa (100 + i)) else none))] ++ gp_R 12 (fun i => aI (xa (100 + i)) (cy 1) 4 (rw i))) ++ gp_R 12 (fun i => aJ (xa (140 + i)) (cy 2) 4 (u.2.2.2.2.2.2.2 i)))) A) [.ref (xa 21), .ref (xa 11), .int bx, .int b2, .int lowered].toArray s 0 0 A) (F0 m 80 ls []) := by
    intro fu
    induction fu with
    | zero => intro ii gs gf H locs ls h1 hfu; exact absurd hfu (Nat.not_lt_zero _)
    | succ fu ih =>
      intro ii gs gf H locs ls h1 hfu hP hD hS hl
      refine lv_iload hx hb dX3_lay_80 (lv_at hl 0 rfl) ?_
      refine lv_bipush (v := 12) hx hb dX3_lay_82 (by decide) ?_
      refine lv_icmp_ge (tgt := 223) hx hb dX3_lay_84 (by decide) (fun c_1 => ?_) (fun c_1 => ?_)
      · exact W.vret hx hb hr (fun t ht hW => ⟨⟨⟨(((Int32.toInt64 (bx - room_ax)) * (Int32.toInt64 (bx - room_ax))) + ((Int32.toInt64 (b2 - room_ay)) * (Int32.toInt64 (b2 - room_ay)))), lowered, (2 * (Int32.toInt64 room_ax)), (2 * (Int32.toInt64 room_ay)), (Int32.toInt64 (bx - room_ax)), (Int32.toInt64 (b2 - room_ay)), gs, gf⟩, rfl, (lf_sX3_lay_1 room_ax room_ay bx b2), gp_end ht hP hD⟩, hS.F ht⟩) hS.2.2 dX3_lay_223
      · refine lv_aload_n hx hb dX3_lay_87 rfl (lv_at hl 1 rfl) ?_
        refine va_get (D := D) (ci := 3) (v := .ref (xa 23)) (C := RX3) (T := TX3) (N := 16) hx hb hts hiX3 hown hK hP 0 rfl rfl 3 (by decide) (hts (.fieldLink RX3 16 "GhostPane$Glass" "stands" "[Z") (List.mem_of_getElem? (i := 10) rfl)) (fun _ h9 => h9) rfl dX3_lay_88 ?_
        refine lv_iload hx hb dX3_lay_91 (lv_at hl 0 rfl) ?_
        refine lv_aload_n hx hb dX3_lay_93 rfl (lv_at hl 2 rfl) ?_
        refine va_get (D := D) (ci := 7) (v := .ref (xa 15)) (C := RX7) (T := TX7) (N := 19) hx hb hts hiX7 hown hK hP 3 rfl rfl 14 (by decide) (hts (.fieldLink RX3 50 "GhostPane$Room" "wallThere" "[Z") (List.mem_of_getElem? (i := 11) rfl)) (fun _ h9 => h9) rfl dX3_lay_94 ?_
        refine lv_iload hx hb dX3_lay_97 (lv_at hl 0 rfl) ?_
        refine va_zald hx hb hK hP 4 3 rfl rfl (gp_in (hi := 11) (lf_sX3_lay_2 ii h1 c_1) (by decide)) dX3_lay_99 ?_
        refine gp_fi (fun y_2 => ?_)
        refine va_zast hx hb hK hP hD hS 1 3 rfl rfl (gp_in (hi := 11) (lf_sX3_lay_3 ii h1 c_1) (by decide)) dX3_lay_100 (fun H locs hP hD hS => ?_)
        obtain ⟨gs_3, hP, hD⟩ : ∃ gs_3 : Nat → Int32, va_P D vwCl (([(o_glass xa (((Int32.toInt64 (bx - room_ax)) * (Int32.toInt64 (bx - room_ax))) + ((Int32.toInt64 (b2 - room_ay)) * (Int32.toInt64 (b2 - room_ay)))) lowered (2 * (Int32.toInt64 room_ax)) (2 * (Int32.toInt64 room_ay)) (Int32.toInt64 (bx - room_ax)) (Int32.toInt64 (b2 - room_ay)) glass_along glass_whole glass_xTimes glass_yTimes glass_fromX2 glass_fromY2 glass_goX glass_goY), (aI (xa 23) (cy 3) 12 gs_3), (aR (xa 22) (cy 7) 12 (fun i => if i < 12 then some (xa (140 + i)) else none)), (o_room xa room_ax room_ay room_bx room_by room_cx room_cy room_dx room_dy room_floor room_hand room_deep), (aI (xa 15) (cy 3) 12 wallThere), (aI (xa 17) (cy 3) 12 ofPit), (aR (xa 16) (cy 6) 12 (fun i => if i < 12 then some (xa (100 + i)) else none))] ++ gp_R 12 (fun i => aI (xa (100 + i)) (cy 1) 4 (rw i))) ++ gp_R 12 (fun i => aJ (xa (140 + i)) (cy 2) 4 (gf i))) H ∧ va_D A (([(o_glass xa (((Int32.toInt64 (bx - room_ax)) * (Int32.toInt64 (bx - room_ax))) + ((Int32.toInt64 (b2 - room_ay)) * (Int32.toInt64 (b2 - room_ay)))) lowered (2 * (Int32.toInt64 room_ax)) (2 * (Int32.toInt64 room_ay)) (Int32.toInt64 (bx - room_ax)) (Int32.toInt64 (b2 - room_ay)) glass_along glass_whole glass_xTimes glass_yTimes glass_fromX2 glass_fromY2 glass_goX glass_goY), (aI (xa 23) (cy 3) 12 gs_3), (aR (xa 22) (cy 7) 12 (fun i => if i < 12 then some (xa (140 + i)) else none)), (o_room xa room_ax room_ay room_bx room_by room_cx room_cy room_dx room_dy room_floor room_hand room_deep), (aI (xa 15) (cy 3) 12 wallThere), (aI (xa 17) (cy 3) 12 ofPit), (aR (xa 16) (cy 6) 12 (fun i => if i < 12 then some (xa (100 + i)) else none))] ++ gp_R 12 (fun i => aI (xa (100 + i)) (cy 1) 4 (rw i))) ++ gp_R 12 (fun i => aJ (xa (140 + i)) (cy 2) 4 (gf i))) := ⟨_, hP, hD⟩
        have cut117 : ∀ (dn : Int32) (H : Heap) (locs : List Loc) (ls : Array Slot), va_P D vwCl (([(o_glass xa (((Int32.toInt64 (bx - room_ax)) * (Int32.toInt64 (bx - room_ax))) + ((Int32.toInt64 (b2 - room_ay)) * (Int32.toInt64 (b2 - room_ay)))) lowered (2 * (Int32.toInt64 room_ax)) (2 * (Int32.toInt64 room_ay)) (Int32.toInt64 (bx - room_ax)) (Int32.toInt64 (b2 - room_ay)) glass_along glass_whole glass_xTimes glass_yTimes glass_fromX2 glass_fromY2 glass_goX glass_goY), (aI (xa 23) (cy 3) 12 gs_3), (aR (xa 22) (cy 7) 12 (fun i => if i < 12 then some (xa (140 + i)) else none)), (o_room xa room_ax room_ay room_bx room_by room_cx room_cy room_dx room_dy room_floor room_hand room_deep), (aI (xa 15) (cy 3) 12 wallThere), (aI (xa 17) (cy 3) 12 ofPit), (aR (xa 16) (cy 6) 12 (fun i => if i < 12 then some (xa (100 + i)) else none))] ++ gp_R 12 (fun i => aI (xa (100 + i)) (cy 1) 4 (rw i))) ++ gp_R 12 (fun i => aJ (xa (140 + i)) (cy 2) 4 (gf i))) H → va_D A (([(o_glass xa (((Int32.toInt64 (bx - room_ax)) * (Int32.toInt64 (bx - room_ax))) + ((Int32.toInt64 (b2 - room_ay)) * (Int32.toInt64 (b2 - room_ay)))) lowered (2 * (Int32.toInt64 room_ax)) (2 * (Int32.toInt64 room_ay)) (Int32.toInt64 (bx - room_ax)) (Int32.toInt64 (b2 - room_ay)) glass_along glass_whole glass_xTimes glass_yTimes glass_fromX2 glass_fromY2 glass_goX glass_goY), (aI (xa 23) (cy 3) 12 gs_3), (aR (xa 22) (cy 7) 12 (fun i => if i < 12 then some (xa (140 + i)) else none)), (o_room xa room_ax room_ay room_bx room_by room_cx room_cy room_dx room_dy room_floor room_hand room_deep), (aI (xa 15) (cy 3) 12 wallThere), (aI (xa 17) (cy 3) 12 ofPit), (aR (xa 16) (cy 6) 12 (fun i => if i < 12 then some (xa (100 + i)) else none))] ++ gp_R 12 (fun i => aI (xa (100 + i)) (cy 1) 4 (rw i))) ++ gp_R 12 (fun i => aJ (xa (140 + i)) (cy 2) 4 (gf i))) → va_S A s.heap H locs → lv_has ls 7 [(5, .int ii), (0, .ref (xa 21)), (1, .ref (xa 11)), (2, .int bx), (3, .int b2), (4, .int lowered)] → W p l e (headSpec v_sX3_lay (({ frames := 0, cells := 0, slots := 0, locals := 0 } : Room))).room s m [.ref (xa 21), .ref (xa 11), .int bx, .int b2, .int lowered].toArray below meth c H locs 0 0 (MQ below (va_Qv (fun (u : (Int64) × (Int32) × (Int64) × (Int64) × (Int64) × (Int64) × (Nat → Int32) × (Nat → Nat → Int64)) => (u.2.2.1 = 2 * Int32.toInt64 room_ax ∧ u.2.2.2.1 = 2 * Int32.toInt64 room_ay ∧ u.2.2.2.2.1 = Int32.toInt64 (bx - room_ax) ∧ u.2.2.2.2.2.1 = Int32.toInt64 (b2 - room_ay) ∧ u.1 = Int32.toInt64 (bx - room_ax) * Int32.toInt64 (bx - room_ax) + Int32.toInt64 (b2 - room_ay) * Int32.toInt64 (b2 - room_ay))) (fun u => gp_E D A (([(o_glass xa u.1 u.2.1 u.2.2.1 u.2.2.2.1 u.2.2.2.2.1 u.2.2.2.2.2.1 glass_along glass_whole glass_xTimes glass_yTimes glass_fromX2 glass_fromY2 glass_goX glass_goY), (aI (xa 23) (cy 3) 12 u.2.2.2.2.2.2.1), (aR (xa 22) (cy 7) 12 (fun i => if i < 12 then some (xa (140 + i)) else none)), (o_room xa room_ax room_ay room_bx room_by room_cx room_cy room_dx room_dy room_floor room_hand room_deep), (aI (xa 15) (cy 3) 12 wallThere), (aI (xa 17) (cy 3) 12 ofPit), (aR (xa 16) (cy 6) 12 (fun i => if i < 12 then some (xa (100 + i)) else none))] ++ gp_R 12 (fun i => aI (xa (100 + i)) (cy 1) 4 (rw i))) ++ gp_R 12 (fun i => aJ (xa (140 + i)) (cy 2) 4 (u.2.2.2.2.2.2.2 i)))) A) [.ref (xa 21), .ref (xa 11), .int bx, .int b2, .int lowered].toArray s 0 0 A) (F0 m 117 ls [.int dn]) := by
          intro dn H locs ls  hP hD hS hl
          refine lv_istore (lv' := [(6, .int dn), (5, .int ii), (0, .ref (xa 21)), (1, .ref (xa 11)), (2, .int bx), (3, .int b2), (4, .int lowered)]) hx hb dX3_lay_117 hl (by decide) rfl (fun ls hl => ?_)
          refine lv_aload_n hx hb dX3_lay_119 rfl (lv_at hl 2 rfl) ?_
          refine va_get (D := D) (ci := 3) (v := .ref (xa 22)) (C := RX3) (T := TX3) (N := 16) hx hb hts hiX3 hown hK hP 0 rfl rfl 2 (by decide) (hts (.fieldLink RX3 11 "GhostPane$Glass" "ends2" "[[J") (List.mem_of_getElem? (i := 12) rfl)) (fun _ h9 => h9) rfl dX3_lay_120 ?_
          refine lv_iload hx hb dX3_lay_123 (lv_at hl 1 rfl) ?_
          have hw_4 : ii.toNatClampNeg < 12 := gp_clamp (gp_in (hi := 11) (lf_sX3_lay_4 ii h1 c_1) (by decide))
          refine gp_aldA hx hb hK hP 2 7 rfl rfl (gp_in (hi := 11) (lf_sX3_lay_4 ii h1 c_1) (by decide)) dX3_lay_125 ?_
          refine gp_nr (.ref (xa (140 + ii.toNatClampNeg))) (gp_rf (g := fun i => xa (140 + i)) hw_4) ?_
          refine lv_iconst (v := 0) hx hb dX3_lay_126 (by decide) ?_
          refine lv_ldc2 (v := 2) hx hb hown (hts (.constantLong RX3 20 2) (List.mem_of_getElem? (i := 1) rfl)) dX3_lay_127 ?_
          refine lv_aload_n hx hb dX3_lay_130 rfl (lv_at hl 3 rfl) ?_
          refine va_get (D := D) (ci := 7) (v := .ref (xa 16)) (C := RX7) (T := TX7) (N := 19) hx hb hts hiX7 hown hK hP 3 rfl rfl 15 (by decide) (hts (.fieldLink RX3 56 "GhostPane$Room" "wallEnds" "[[I") (List.mem_of_getElem? (i := 13) rfl)) (fun _ h9 => h9) rfl dX3_lay_131 ?_
          refine lv_iload hx hb dX3_lay_134 (lv_at hl 1 rfl) ?_
          have hw_5 : ii.toNatClampNeg < 12 := gp_clamp (gp_in (hi := 11) (lf_sX3_lay_5 ii h1 c_1) (by decide))
          refine gp_aldA hx hb hK hP 6 6 rfl rfl (gp_in (hi := 11) (lf_sX3_lay_5 ii h1 c_1) (by decide)) dX3_lay_136 ?_
          refine gp_nr (.ref (xa (100 + ii.toNatClampNeg))) (gp_rf (g := fun i => xa (100 + i)) hw_5) ?_
          refine lv_iconst (v := 0) hx hb dX3_lay_137 (by decide) ?_
          refine va_iald (n := 4) (f := rw ii.toNatClampNeg) hx hb hK hP (7 + ii.toNatClampNeg) 1 (gp_appL (gp_Rget0 (X := [(o_glass xa (((Int32.toInt64 (bx - room_ax)) * (Int32.toInt64 (bx - room_ax))) + ((Int32.toInt64 (b2 - room_ay)) * (Int32.toInt64 (b2 - room_ay)))) lowered (2 * (Int32.toInt64 room_ax)) (2 * (Int32.toInt64 room_ay)) (Int32.toInt64 (bx - room_ax)) (Int32.toInt64 (b2 - room_ay)) glass_along glass_whole glass_xTimes glass_yTimes glass_fromX2 glass_fromY2 glass_goX glass_goY), (aI (xa 23) (cy 3) 12 gs_3), (aR (xa 22) (cy 7) 12 (fun i => if i < 12 then some (xa (140 + i)) else none)), (o_room xa room_ax room_ay room_bx room_by room_cx room_cy room_dx room_dy room_floor room_hand room_deep), (aI (xa 15) (cy 3) 12 wallThere), (aI (xa 17) (cy 3) 12 ofPit), (aR (xa 16) (cy 6) 12 (fun i => if i < 12 then some (xa (100 + i)) else none))]) (g := (fun i => aI (xa (100 + i)) (cy 1) 4 (rw i))) (k := 7) (w := ii.toNatClampNeg) (by first | rfl | simp) hw_5)) rfl (by unfold vp_in; decide) dX3_lay_138 ?_
          refine gp_fi (fun y_6 => ?_)
          refine lv_i2l (v := (Int32.toInt64 y_6)) hx hb dX3_lay_139 rfl ?_
          refine gp_fl (fun y_7 => ?_)
          refine lv_lmul hx hb dX3_lay_140 ?_
          refine gp_fl (fun y_8 => ?_)
          refine va_last (n := 4) (f := gf ii.toNatClampNeg) hx hb hK hP hD hS (19 + ii.toNatClampNeg) 2 (gp_Rget0 (X := ([(o_glass xa (((Int32.toInt64 (bx - room_ax)) * (Int32.toInt64 (bx - room_ax))) + ((Int32.toInt64 (b2 - room_ay)) * (Int32.toInt64 (b2 - room_ay)))) lowered (2 * (Int32.toInt64 room_ax)) (2 * (Int32.toInt64 room_ay)) (Int32.toInt64 (bx - room_ax)) (Int32.toInt64 (b2 - room_ay)) glass_along glass_whole glass_xTimes glass_yTimes glass_fromX2 glass_fromY2 glass_goX glass_goY), (aI (xa 23) (cy 3) 12 gs_3), (aR (xa 22) (cy 7) 12 (fun i => if i < 12 then some (xa (140 + i)) else none)), (o_room xa room_ax room_ay room_bx room_by room_cx room_cy room_dx room_dy room_floor room_hand room_deep), (aI (xa 15) (cy 3) 12 wallThere), (aI (xa 17) (cy 3) 12 ofPit), (aR (xa 16) (cy 6) 12 (fun i => if i < 12 then some (xa (100 + i)) else none))] ++ gp_R 12 (fun i => aI (xa (100 + i)) (cy 1) 4 (rw i)))) (g := (fun i => aJ (xa (140 + i)) (cy 2) 4 (gf i))) (k := 19) (w := ii.toNatClampNeg) (by first | rfl | simp) hw_5) rfl (by unfold vp_in; decide) dX3_lay_141 (fun H locs hP hD hS => ?_)
          have e_9 := gp_RsetJ (X := ([(o_glass xa (((Int32.toInt64 (bx - room_ax)) * (Int32.toInt64 (bx - room_ax))) + ((Int32.toInt64 (b2 - room_ay)) * (Int32.toInt64 (b2 - room_ay)))) lowered (2 * (Int32.toInt64 room_ax)) (2 * (Int32.toInt64 room_ay)) (Int32.toInt64 (bx - room_ax)) (Int32.toInt64 (b2 - room_ay)) glass_along glass_whole glass_xTimes glass_yTimes glass_fromX2 glass_fromY2 glass_goX glass_goY), (aI (xa 23) (cy 3) 12 gs_3), (aR (xa 22) (cy 7) 12 (fun i => if i < 12 then some (xa (140 + i)) else none)), (o_room xa room_ax room_ay room_bx room_by room_cx room_cy room_dx room_dy room_floor room_hand room_deep), (aI (xa 15) (cy 3) 12 wallThere), (aI (xa 17) (cy 3) 12 ofPit), (aR (xa 16) (cy 6) 12 (fun i => if i < 12 then some (xa (100 + i)) else none))] ++ gp_R 12 (fun i => aI (xa (100 + i)) (cy 1) 4 (rw i)))) (n := 12) (k := 19) (w := ii.toNatClampNeg) (b := 140) (c := cy 2) (xa := xa) (F := gf) (r := vp_updL (gf ii.toNatClampNeg) (0 : Int32).toNatClampNeg y_8) (by first | rfl | simp) hw_5
          obtain ⟨F_10, u_11, hP, hD⟩ : ∃ F, F = va_up gf ii.toNatClampNeg (vp_updL (gf ii.toNatClampNeg) (0 : Int32).toNatClampNeg y_8) ∧ va_P D vwCl (([(o_glass xa (((Int32.toInt64 (bx - room_ax)) * (Int32.toInt64 (bx - room_ax))) + ((Int32.toInt64 (b2 - room_ay)) * (Int32.toInt64 (b2 - room_ay)))) lowered (2 * (Int32.toInt64 room_ax)) (2 * (Int32.toInt64 room_ay)) (Int32.toInt64 (bx - room_ax)) (Int32.toInt64 (b2 - room_ay)) glass_along glass_whole glass_xTimes glass_yTimes glass_fromX2 glass_fromY2 glass_goX glass_goY), (aI (xa 23) (cy 3) 12 gs_3), (aR (xa 22) (cy 7) 12 (fun i => if i < 12 then some (xa (140 + i)) else none)), (o_room xa room_ax room_ay room_bx room_by room_cx room_cy room_dx room_dy room_floor room_hand room_deep), (aI (xa 15) (cy 3) 12 wallThere), (aI (xa 17) (cy 3) 12 ofPit), (aR (xa 16) (cy 6) 12 (fun i => if i < 12 then some (xa (100 + i)) else none))] ++ gp_R 12 (fun i => aI (xa (100 + i)) (cy 1) 4 (rw i))) ++ gp_R 12 (fun i => aJ (xa (140 + i)) (cy 2) 4 (F i))) H ∧ va_D A (([(o_glass xa (((Int32.toInt64 (bx - room_ax)) * (Int32.toInt64 (bx - room_ax))) + ((Int32.toInt64 (b2 - room_ay)) * (Int32.toInt64 (b2 - room_ay)))) lowered (2 * (Int32.toInt64 room_ax)) (2 * (Int32.toInt64 room_ay)) (Int32.toInt64 (bx - room_ax)) (Int32.toInt64 (b2 - room_ay)) glass_along glass_whole glass_xTimes glass_yTimes glass_fromX2 glass_fromY2 glass_goX glass_goY), (aI (xa 23) (cy 3) 12 gs_3), (aR (xa 22) (cy 7) 12 (fun i => if i < 12 then some (xa (140 + i)) else none)), (o_room xa room_ax room_ay room_bx room_by room_cx room_cy room_dx room_dy room_floor room_hand room_deep), (aI (xa 15) (cy 3) 12 wallThere), (aI (xa 17) (cy 3) 12 ofPit), (aR (xa 16) (cy 6) 12 (fun i => if i < 12 then some (xa (100 + i)) else none))] ++ gp_R 12 (fun i => aI (xa (100 + i)) (cy 1) 4 (rw i))) ++ gp_R 12 (fun i => aJ (xa (140 + i)) (cy 2) 4 (F i))) := ⟨_, rfl, e_9 ▸ hP, e_9 ▸ hD⟩
          refine lv_aload_n hx hb dX3_lay_142 rfl (lv_at hl 2 rfl) ?_
          refine va_get (D := D) (ci := 3) (v := .ref (xa 22)) (C := RX3) (T := TX3) (N := 16) hx hb hts hiX3 hown hK hP 0 rfl rfl 2 (by decide) (hts (.fieldLink RX3 11 "GhostPane$Glass" "ends2" "[[J") (List.mem_of_getElem? (i := 12) rfl)) (fun _ h9 => h9) rfl dX3_lay_143 ?_
          refine lv_iload hx hb dX3_lay_146 (lv_at hl 1 rfl) ?_
          have hw_12 : ii.toNatClampNeg < 12 := gp_clamp (gp_in (hi := 11) (lf_sX3_lay_6 ii h1 c_1) (by decide))
          refine gp_aldA hx hb hK hP 2 7 rfl rfl (gp_in (hi := 11) (lf_sX3_lay_6 ii h1 c_1) (by decide)) dX3_lay_148 ?_
          refine gp_nr (.ref (xa (140 + ii.toNatClampNeg))) (gp_rf (g := fun i => xa (140 + i)) hw_12) ?_
          refine lv_iconst (v := 1) hx hb dX3_lay_149 (by decide) ?_
          refine lv_ldc2 (v := 2) hx hb hown (hts (.constantLong RX3 20 2) (List.mem_of_getElem? (i := 1) rfl)) dX3_lay_150 ?_
          refine lv_aload_n hx hb dX3_lay_153 rfl (lv_at hl 3 rfl) ?_
          refine va_get (D := D) (ci := 7) (v := .ref (xa 16)) (C := RX7) (T := TX7) (N := 19) hx hb hts hiX7 hown hK hP 3 rfl rfl 15 (by decide) (hts (.fieldLink RX3 56 "GhostPane$Room" "wallEnds" "[[I") (List.mem_of_getElem? (i := 13) rfl)) (fun _ h9 => h9) rfl dX3_lay_154 ?_
          refine lv_iload hx hb dX3_lay_157 (lv_at hl 1 rfl) ?_
          have hw_13 : ii.toNatClampNeg < 12 := gp_clamp (gp_in (hi := 11) (lf_sX3_lay_7 ii h1 c_1) (by decide))
          refine gp_aldA hx hb hK hP 6 6 rfl rfl (gp_in (hi := 11) (lf_sX3_lay_7 ii h1 c_1) (by decide)) dX3_lay_159 ?_
          refine gp_nr (.ref (xa (100 + ii.toNatClampNeg))) (gp_rf (g := fun i => xa (100 + i)) hw_13) ?_
          refine lv_iconst (v := 1) hx hb dX3_lay_160 (by decide) ?_
          refine va_iald (n := 4) (f := rw ii.toNatClampNeg) hx hb hK hP (7 + ii.toNatClampNeg) 1 (gp_appL (gp_Rget0 (X := [(o_glass xa (((Int32.toInt64 (bx - room_ax)) * (Int32.toInt64 (bx - room_ax))) + ((Int32.toInt64 (b2 - room_ay)) * (Int32.toInt64 (b2 - room_ay)))) lowered (2 * (Int32.toInt64 room_ax)) (2 * (Int32.toInt64 room_ay)) (Int32.toInt64 (bx - room_ax)) (Int32.toInt64 (b2 - room_ay)) glass_along glass_whole glass_xTimes glass_yTimes glass_fromX2 glass_fromY2 glass_goX glass_goY), (aI (xa 23) (cy 3) 12 gs_3), (aR (xa 22) (cy 7) 12 (fun i => if i < 12 then some (xa (140 + i)) else none)), (o_room xa room_ax room_ay room_bx room_by room_cx room_cy room_dx room_dy room_floor room_hand room_deep), (aI (xa 15) (cy 3) 12 wallThere), (aI (xa 17) (cy 3) 12 ofPit), (aR (xa 16) (cy 6) 12 (fun i => if i < 12 then some (xa (100 + i)) else none))]) (g := (fun i => aI (xa (100 + i)) (cy 1) 4 (rw i))) (k := 7) (w := ii.toNatClampNeg) (by first | rfl | simp) hw_13)) rfl (by unfold vp_in; decide) dX3_lay_161 ?_
          refine gp_fi (fun y_14 => ?_)
          refine lv_iload hx hb dX3_lay_162 (lv_at hl 0 rfl) ?_
          refine lv_isub hx hb dX3_lay_164 ?_
          refine lv_i2l (v := (Int32.toInt64 (y_14 - dn))) hx hb dX3_lay_165 rfl ?_
          refine gp_fl (fun y_15 => ?_)
          refine lv_lmul hx hb dX3_lay_166 ?_
          refine gp_fl (fun y_16 => ?_)
          refine va_last (n := 4) (f := F_10 ii.toNatClampNeg) hx hb hK hP hD hS (19 + ii.toNatClampNeg) 2 (gp_Rget0 (X := ([(o_glass xa (((Int32.toInt64 (bx - room_ax)) * (Int32.toInt64 (bx - room_ax))) + ((Int32.toInt64 (b2 - room_ay)) * (Int32.toInt64 (b2 - room_ay)))) lowered (2 * (Int32.toInt64 room_ax)) (2 * (Int32.toInt64 room_ay)) (Int32.toInt64 (bx - room_ax)) (Int32.toInt64 (b2 - room_ay)) glass_along glass_whole glass_xTimes glass_yTimes glass_fromX2 glass_fromY2 glass_goX glass_goY), (aI (xa 23) (cy 3) 12 gs_3), (aR (xa 22) (cy 7) 12 (fun i => if i < 12 then some (xa (140 + i)) else none)), (o_room xa room_ax room_ay room_bx room_by room_cx room_cy room_dx room_dy room_floor room_hand room_deep), (aI (xa 15) (cy 3) 12 wallThere), (aI (xa 17) (cy 3) 12 ofPit), (aR (xa 16) (cy 6) 12 (fun i => if i < 12 then some (xa (100 + i)) else none))] ++ gp_R 12 (fun i => aI (xa (100 + i)) (cy 1) 4 (rw i)))) (g := (fun i => aJ (xa (140 + i)) (cy 2) 4 (F_10 i))) (k := 19) (w := ii.toNatClampNeg) (by first | rfl | simp) hw_13) rfl (by unfold vp_in; decide) dX3_lay_167 (fun H locs hP hD hS => ?_)
          have e_17 := gp_RsetJ (X := ([(o_glass xa (((Int32.toInt64 (bx - room_ax)) * (Int32.toInt64 (bx - room_ax))) + ((Int32.toInt64 (b2 - room_ay)) * (Int32.toInt64 (b2 - room_ay)))) lowered (2 * (Int32.toInt64 room_ax)) (2 * (Int32.toInt64 room_ay)) (Int32.toInt64 (bx - room_ax)) (Int32.toInt64 (b2 - room_ay)) glass_along glass_whole glass_xTimes glass_yTimes glass_fromX2 glass_fromY2 glass_goX glass_goY), (aI (xa 23) (cy 3) 12 gs_3), (aR (xa 22) (cy 7) 12 (fun i => if i < 12 then some (xa (140 + i)) else none)), (o_room xa room_ax room_ay room_bx room_by room_cx room_cy room_dx room_dy room_floor room_hand room_deep), (aI (xa 15) (cy 3) 12 wallThere), (aI (xa 17) (cy 3) 12 ofPit), (aR (xa 16) (cy 6) 12 (fun i => if i < 12 then some (xa (100 + i)) else none))] ++ gp_R 12 (fun i => aI (xa (100 + i)) (cy 1) 4 (rw i)))) (n := 12) (k := 19) (w := ii.toNatClampNeg) (b := 140) (c := cy 2) (xa := xa) (F := F_10) (r := vp_updL (F_10 ii.toNatClampNeg) (1 : Int32).toNatClampNeg y_16) (by first | rfl | simp) hw_13
          obtain ⟨F_18, u_19, hP, hD⟩ : ∃ F, F = va_up F_10 ii.toNatClampNeg (vp_updL (F_10 ii.toNatClampNeg) (1 : Int32).toNatClampNeg y_16) ∧ va_P D vwCl (([(o_glass xa (((Int32.toInt64 (bx - room_ax)) * (Int32.toInt64 (bx - room_ax))) + ((Int32.toInt64 (b2 - room_ay)) * (Int32.toInt64 (b2 - room_ay)))) lowered (2 * (Int32.toInt64 room_ax)) (2 * (Int32.toInt64 room_ay)) (Int32.toInt64 (bx - room_ax)) (Int32.toInt64 (b2 - room_ay)) glass_along glass_whole glass_xTimes glass_yTimes glass_fromX2 glass_fromY2 glass_goX glass_goY), (aI (xa 23) (cy 3) 12 gs_3), (aR (xa 22) (cy 7) 12 (fun i => if i < 12 then some (xa (140 + i)) else none)), (o_room xa room_ax room_ay room_bx room_by room_cx room_cy room_dx room_dy room_floor room_hand room_deep), (aI (xa 15) (cy 3) 12 wallThere), (aI (xa 17) (cy 3) 12 ofPit), (aR (xa 16) (cy 6) 12 (fun i => if i < 12 then some (xa (100 + i)) else none))] ++ gp_R 12 (fun i => aI (xa (100 + i)) (cy 1) 4 (rw i))) ++ gp_R 12 (fun i => aJ (xa (140 + i)) (cy 2) 4 (F i))) H ∧ va_D A (([(o_glass xa (((Int32.toInt64 (bx - room_ax)) * (Int32.toInt64 (bx - room_ax))) + ((Int32.toInt64 (b2 - room_ay)) * (Int32.toInt64 (b2 - room_ay)))) lowered (2 * (Int32.toInt64 room_ax)) (2 * (Int32.toInt64 room_ay)) (Int32.toInt64 (bx - room_ax)) (Int32.toInt64 (b2 - room_ay)) glass_along glass_whole glass_xTimes glass_yTimes glass_fromX2 glass_fromY2 glass_goX glass_goY), (aI (xa 23) (cy 3) 12 gs_3), (aR (xa 22) (cy 7) 12 (fun i => if i < 12 then some (xa (140 + i)) else none)), (o_room xa room_ax room_ay room_bx room_by room_cx room_cy room_dx room_dy room_floor room_hand room_deep), (aI (xa 15) (cy 3) 12 wallThere), (aI (xa 17) (cy 3) 12 ofPit), (aR (xa 16) (cy 6) 12 (fun i => if i < 12 then some (xa (100 + i)) else none))] ++ gp_R 12 (fun i => aI (xa (100 + i)) (cy 1) 4 (rw i))) ++ gp_R 12 (fun i => aJ (xa (140 + i)) (cy 2) 4 (F i))) := ⟨_, rfl, e_17 ▸ hP, e_17 ▸ hD⟩
          refine lv_aload_n hx hb dX3_lay_168 rfl (lv_at hl 2 rfl) ?_
          refine va_get (D := D) (ci := 3) (v := .ref (xa 22)) (C := RX3) (T := TX3) (N := 16) hx hb hts hiX3 hown hK hP 0 rfl rfl 2 (by decide) (hts (.fieldLink RX3 11 "GhostPane$Glass" "ends2" "[[J") (List.mem_of_getElem? (i := 12) rfl)) (fun _ h9 => h9) rfl dX3_lay_169 ?_
          refine lv_iload hx hb dX3_lay_172 (lv_at hl 1 rfl) ?_
          have hw_20 : ii.toNatClampNeg < 12 := gp_clamp (gp_in (hi := 11) (lf_sX3_lay_8 ii h1 c_1) (by decide))
          refine gp_aldA hx hb hK hP 2 7 rfl rfl (gp_in (hi := 11) (lf_sX3_lay_8 ii h1 c_1) (by decide)) dX3_lay_174 ?_
          refine gp_nr (.ref (xa (140 + ii.toNatClampNeg))) (gp_rf (g := fun i => xa (140 + i)) hw_20) ?_
          refine lv_iconst (v := 2) hx hb dX3_lay_175 (by decide) ?_
          refine lv_ldc2 (v := 2) hx hb hown (hts (.constantLong RX3 20 2) (List.mem_of_getElem? (i := 1) rfl)) dX3_lay_176 ?_
          refine lv_aload_n hx hb dX3_lay_179 rfl (lv_at hl 3 rfl) ?_
          refine va_get (D := D) (ci := 7) (v := .ref (xa 16)) (C := RX7) (T := TX7) (N := 19) hx hb hts hiX7 hown hK hP 3 rfl rfl 15 (by decide) (hts (.fieldLink RX3 56 "GhostPane$Room" "wallEnds" "[[I") (List.mem_of_getElem? (i := 13) rfl)) (fun _ h9 => h9) rfl dX3_lay_180 ?_
          refine lv_iload hx hb dX3_lay_183 (lv_at hl 1 rfl) ?_
          have hw_21 : ii.toNatClampNeg < 12 := gp_clamp (gp_in (hi := 11) (lf_sX3_lay_9 ii h1 c_1) (by decide))
          refine gp_aldA hx hb hK hP 6 6 rfl rfl (gp_in (hi := 11) (lf_sX3_lay_9 ii h1 c_1) (by decide)) dX3_lay_185 ?_
          refine gp_nr (.ref (xa (100 + ii.toNatClampNeg))) (gp_rf (g := fun i => xa (100 + i)) hw_21) ?_
          refine lv_iconst (v := 2) hx hb dX3_lay_186 (by decide) ?_
          refine va_iald (n := 4) (f := rw ii.toNatClampNeg) hx hb hK hP (7 + ii.toNatClampNeg) 1 (gp_appL (gp_Rget0 (X := [(o_glass xa (((Int32.toInt64 (bx - room_ax)) * (Int32.toInt64 (bx - room_ax))) + ((Int32.toInt64 (b2 - room_ay)) * (Int32.toInt64 (b2 - room_ay)))) lowered (2 * (Int32.toInt64 room_ax)) (2 * (Int32.toInt64 room_ay)) (Int32.toInt64 (bx - room_ax)) (Int32.toInt64 (b2 - room_ay)) glass_along glass_whole glass_xTimes glass_yTimes glass_fromX2 glass_fromY2 glass_goX glass_goY), (aI (xa 23) (cy 3) 12 gs_3), (aR (xa 22) (cy 7) 12 (fun i => if i < 12 then some (xa (140 + i)) else none)), (o_room xa room_ax room_ay room_bx room_by room_cx room_cy room_dx room_dy room_floor room_hand room_deep), (aI (xa 15) (cy 3) 12 wallThere), (aI (xa 17) (cy 3) 12 ofPit), (aR (xa 16) (cy 6) 12 (fun i => if i < 12 then some (xa (100 + i)) else none))]) (g := (fun i => aI (xa (100 + i)) (cy 1) 4 (rw i))) (k := 7) (w := ii.toNatClampNeg) (by first | rfl | simp) hw_21)) rfl (by unfold vp_in; decide) dX3_lay_187 ?_
          refine gp_fi (fun y_22 => ?_)
          refine lv_i2l (v := (Int32.toInt64 y_22)) hx hb dX3_lay_188 rfl ?_
          refine gp_fl (fun y_23 => ?_)
          refine lv_lmul hx hb dX3_lay_189 ?_
          refine gp_fl (fun y_24 => ?_)
          refine va_last (n := 4) (f := F_18 ii.toNatClampNeg) hx hb hK hP hD hS (19 + ii.toNatClampNeg) 2 (gp_Rget0 (X := ([(o_glass xa (((Int32.toInt64 (bx - room_ax)) * (Int32.toInt64 (bx - room_ax))) + ((Int32.toInt64 (b2 - room_ay)) * (Int32.toInt64 (b2 - room_ay)))) lowered (2 * (Int32.toInt64 room_ax)) (2 * (Int32.toInt64 room_ay)) (Int32.toInt64 (bx - room_ax)) (Int32.toInt64 (b2 - room_ay)) glass_along glass_whole glass_xTimes glass_yTimes glass_fromX2 glass_fromY2 glass_goX glass_goY), (aI (xa 23) (cy 3) 12 gs_3), (aR (xa 22) (cy 7) 12 (fun i => if i < 12 then some (xa (140 + i)) else none)), (o_room xa room_ax room_ay room_bx room_by room_cx room_cy room_dx room_dy room_floor room_hand room_deep), (aI (xa 15) (cy 3) 12 wallThere), (aI (xa 17) (cy 3) 12 ofPit), (aR (xa 16) (cy 6) 12 (fun i => if i < 12 then some (xa (100 + i)) else none))] ++ gp_R 12 (fun i => aI (xa (100 + i)) (cy 1) 4 (rw i)))) (g := (fun i => aJ (xa (140 + i)) (cy 2) 4 (F_18 i))) (k := 19) (w := ii.toNatClampNeg) (by first | rfl | simp) hw_21) rfl (by unfold vp_in; decide) dX3_lay_190 (fun H locs hP hD hS => ?_)
          have e_25 := gp_RsetJ (X := ([(o_glass xa (((Int32.toInt64 (bx - room_ax)) * (Int32.toInt64 (bx - room_ax))) + ((Int32.toInt64 (b2 - room_ay)) * (Int32.toInt64 (b2 - room_ay)))) lowered (2 * (Int32.toInt64 room_ax)) (2 * (Int32.toInt64 room_ay)) (Int32.toInt64 (bx - room_ax)) (Int32.toInt64 (b2 - room_ay)) glass_along glass_whole glass_xTimes glass_yTimes glass_fromX2 glass_fromY2 glass_goX glass_goY), (aI (xa 23) (cy 3) 12 gs_3), (aR (xa 22) (cy 7) 12 (fun i => if i < 12 then some (xa (140 + i)) else none)), (o_room xa room_ax room_ay room_bx room_by room_cx room_cy room_dx room_dy room_floor room_hand room_deep), (aI (xa 15) (cy 3) 12 wallThere), (aI (xa 17) (cy 3) 12 ofPit), (aR (xa 16) (cy 6) 12 (fun i => if i < 12 then some (xa (100 + i)) else none))] ++ gp_R 12 (fun i => aI (xa (100 + i)) (cy 1) 4 (rw i)))) (n := 12) (k := 19) (w := ii.toNatClampNeg) (b := 140) (c := cy 2) (xa := xa) (F := F_18) (r := vp_updL (F_18 ii.toNatClampNeg) (2 : Int32).toNatClampNeg y_24) (by first | rfl | simp) hw_21
          obtain ⟨F_26, u_27, hP, hD⟩ : ∃ F, F = va_up F_18 ii.toNatClampNeg (vp_updL (F_18 ii.toNatClampNeg) (2 : Int32).toNatClampNeg y_24) ∧ va_P D vwCl (([(o_glass xa (((Int32.toInt64 (bx - room_ax)) * (Int32.toInt64 (bx - room_ax))) + ((Int32.toInt64 (b2 - room_ay)) * (Int32.toInt64 (b2 - room_ay)))) lowered (2 * (Int32.toInt64 room_ax)) (2 * (Int32.toInt64 room_ay)) (Int32.toInt64 (bx - room_ax)) (Int32.toInt64 (b2 - room_ay)) glass_along glass_whole glass_xTimes glass_yTimes glass_fromX2 glass_fromY2 glass_goX glass_goY), (aI (xa 23) (cy 3) 12 gs_3), (aR (xa 22) (cy 7) 12 (fun i => if i < 12 then some (xa (140 + i)) else none)), (o_room xa room_ax room_ay room_bx room_by room_cx room_cy room_dx room_dy room_floor room_hand room_deep), (aI (xa 15) (cy 3) 12 wallThere), (aI (xa 17) (cy 3) 12 ofPit), (aR (xa 16) (cy 6) 12 (fun i => if i < 12 then some (xa (100 + i)) else none))] ++ gp_R 12 (fun i => aI (xa (100 + i)) (cy 1) 4 (rw i))) ++ gp_R 12 (fun i => aJ (xa (140 + i)) (cy 2) 4 (F i))) H ∧ va_D A (([(o_glass xa (((Int32.toInt64 (bx - room_ax)) * (Int32.toInt64 (bx - room_ax))) + ((Int32.toInt64 (b2 - room_ay)) * (Int32.toInt64 (b2 - room_ay)))) lowered (2 * (Int32.toInt64 room_ax)) (2 * (Int32.toInt64 room_ay)) (Int32.toInt64 (bx - room_ax)) (Int32.toInt64 (b2 - room_ay)) glass_along glass_whole glass_xTimes glass_yTimes glass_fromX2 glass_fromY2 glass_goX glass_goY), (aI (xa 23) (cy 3) 12 gs_3), (aR (xa 22) (cy 7) 12 (fun i => if i < 12 then some (xa (140 + i)) else none)), (o_room xa room_ax room_ay room_bx room_by room_cx room_cy room_dx room_dy room_floor room_hand room_deep), (aI (xa 15) (cy 3) 12 wallThere), (aI (xa 17) (cy 3) 12 ofPit), (aR (xa 16) (cy 6) 12 (fun i => if i < 12 then some (xa (100 + i)) else none))] ++ gp_R 12 (fun i => aI (xa (100 + i)) (cy 1) 4 (rw i))) ++ gp_R 12 (fun i => aJ (xa (140 + i)) (cy 2) 4 (F i))) := ⟨_, rfl, e_25 ▸ hP, e_25 ▸ hD⟩
          refine lv_aload_n hx hb dX3_lay_191 rfl (lv_at hl 2 rfl) ?_
          refine va_get (D := D) (ci := 3) (v := .ref (xa 22)) (C := RX3) (T := TX3) (N := 16) hx hb hts hiX3 hown hK hP 0 rfl rfl 2 (by decide) (hts (.fieldLink RX3 11 "GhostPane$Glass" "ends2" "[[J") (List.mem_of_getElem? (i := 12) rfl)) (fun _ h9 => h9) rfl dX3_lay_192 ?_
          refine lv_iload hx hb dX3_lay_195 (lv_at hl 1 rfl) ?_
          have hw_28 : ii.toNatClampNeg < 12 := gp_clamp (gp_in (hi := 11) (lf_sX3_lay_10 ii h1 c_1) (by decide))
          refine gp_aldA hx hb hK hP 2 7 rfl rfl (gp_in (hi := 11) (lf_sX3_lay_10 ii h1 c_1) (by decide)) dX3_lay_197 ?_
          refine gp_nr (.ref (xa (140 + ii.toNatClampNeg))) (gp_rf (g := fun i => xa (140 + i)) hw_28) ?_
          refine lv_iconst (v := 3) hx hb dX3_lay_198 (by decide) ?_
          refine lv_ldc2 (v := 2) hx hb hown (hts (.constantLong RX3 20 2) (List.mem_of_getElem? (i := 1) rfl)) dX3_lay_199 ?_
          refine lv_aload_n hx hb dX3_lay_202 rfl (lv_at hl 3 rfl) ?_
          refine va_get (D := D) (ci := 7) (v := .ref (xa 16)) (C := RX7) (T := TX7) (N := 19) hx hb hts hiX7 hown hK hP 3 rfl rfl 15 (by decide) (hts (.fieldLink RX3 56 "GhostPane$Room" "wallEnds" "[[I") (List.mem_of_getElem? (i := 13) rfl)) (fun _ h9 => h9) rfl dX3_lay_203 ?_
          refine lv_iload hx hb dX3_lay_206 (lv_at hl 1 rfl) ?_
          have hw_29 : ii.toNatClampNeg < 12 := gp_clamp (gp_in (hi := 11) (lf_sX3_lay_11 ii h1 c_1) (by decide))
          refine gp_aldA hx hb hK hP 6 6 rfl rfl (gp_in (hi := 11) (lf_sX3_lay_11 ii h1 c_1) (by decide)) dX3_lay_208 ?_
          refine gp_nr (.ref (xa (100 + ii.toNatClampNeg))) (gp_rf (g := fun i => xa (100 + i)) hw_29) ?_
          refine lv_iconst (v := 3) hx hb dX3_lay_209 (by decide) ?_
          refine va_iald (n := 4) (f := rw ii.toNatClampNeg) hx hb hK hP (7 + ii.toNatClampNeg) 1 (gp_appL (gp_Rget0 (X := [(o_glass xa (((Int32.toInt64 (bx - room_ax)) * (Int32.toInt64 (bx - room_ax))) + ((Int32.toInt64 (b2 - room_ay)) * (Int32.toInt64 (b2 - room_ay)))) lowered (2 * (Int32.toInt64 room_ax)) (2 * (Int32.toInt64 room_ay)) (Int32.toInt64 (bx - room_ax)) (Int32.toInt64 (b2 - room_ay)) glass_along glass_whole glass_xTimes glass_yTimes glass_fromX2 glass_fromY2 glass_goX glass_goY), (aI (xa 23) (cy 3) 12 gs_3), (aR (xa 22) (cy 7) 12 (fun i => if i < 12 then some (xa (140 + i)) else none)), (o_room xa room_ax room_ay room_bx room_by room_cx room_cy room_dx room_dy room_floor room_hand room_deep), (aI (xa 15) (cy 3) 12 wallThere), (aI (xa 17) (cy 3) 12 ofPit), (aR (xa 16) (cy 6) 12 (fun i => if i < 12 then some (xa (100 + i)) else none))]) (g := (fun i => aI (xa (100 + i)) (cy 1) 4 (rw i))) (k := 7) (w := ii.toNatClampNeg) (by first | rfl | simp) hw_29)) rfl (by unfold vp_in; decide) dX3_lay_210 ?_
          refine gp_fi (fun y_30 => ?_)
          refine lv_iload hx hb dX3_lay_211 (lv_at hl 0 rfl) ?_
          refine lv_isub hx hb dX3_lay_213 ?_
          refine gp_fi (fun y_31 => ?_)
          refine lv_i2l (v := (Int32.toInt64 y_31)) hx hb dX3_lay_214 rfl ?_
          refine gp_fl (fun y_32 => ?_)
          refine lv_lmul hx hb dX3_lay_215 ?_
          refine gp_fl (fun y_33 => ?_)
          refine va_last (n := 4) (f := F_26 ii.toNatClampNeg) hx hb hK hP hD hS (19 + ii.toNatClampNeg) 2 (gp_Rget0 (X := ([(o_glass xa (((Int32.toInt64 (bx - room_ax)) * (Int32.toInt64 (bx - room_ax))) + ((Int32.toInt64 (b2 - room_ay)) * (Int32.toInt64 (b2 - room_ay)))) lowered (2 * (Int32.toInt64 room_ax)) (2 * (Int32.toInt64 room_ay)) (Int32.toInt64 (bx - room_ax)) (Int32.toInt64 (b2 - room_ay)) glass_along glass_whole glass_xTimes glass_yTimes glass_fromX2 glass_fromY2 glass_goX glass_goY), (aI (xa 23) (cy 3) 12 gs_3), (aR (xa 22) (cy 7) 12 (fun i => if i < 12 then some (xa (140 + i)) else none)), (o_room xa room_ax room_ay room_bx room_by room_cx room_cy room_dx room_dy room_floor room_hand room_deep), (aI (xa 15) (cy 3) 12 wallThere), (aI (xa 17) (cy 3) 12 ofPit), (aR (xa 16) (cy 6) 12 (fun i => if i < 12 then some (xa (100 + i)) else none))] ++ gp_R 12 (fun i => aI (xa (100 + i)) (cy 1) 4 (rw i)))) (g := (fun i => aJ (xa (140 + i)) (cy 2) 4 (F_26 i))) (k := 19) (w := ii.toNatClampNeg) (by first | rfl | simp) hw_29) rfl (by unfold vp_in; decide) dX3_lay_216 (fun H locs hP hD hS => ?_)
          have e_34 := gp_RsetJ (X := ([(o_glass xa (((Int32.toInt64 (bx - room_ax)) * (Int32.toInt64 (bx - room_ax))) + ((Int32.toInt64 (b2 - room_ay)) * (Int32.toInt64 (b2 - room_ay)))) lowered (2 * (Int32.toInt64 room_ax)) (2 * (Int32.toInt64 room_ay)) (Int32.toInt64 (bx - room_ax)) (Int32.toInt64 (b2 - room_ay)) glass_along glass_whole glass_xTimes glass_yTimes glass_fromX2 glass_fromY2 glass_goX glass_goY), (aI (xa 23) (cy 3) 12 gs_3), (aR (xa 22) (cy 7) 12 (fun i => if i < 12 then some (xa (140 + i)) else none)), (o_room xa room_ax room_ay room_bx room_by room_cx room_cy room_dx room_dy room_floor room_hand room_deep), (aI (xa 15) (cy 3) 12 wallThere), (aI (xa 17) (cy 3) 12 ofPit), (aR (xa 16) (cy 6) 12 (fun i => if i < 12 then some (xa (100 + i)) else none))] ++ gp_R 12 (fun i => aI (xa (100 + i)) (cy 1) 4 (rw i)))) (n := 12) (k := 19) (w := ii.toNatClampNeg) (b := 140) (c := cy 2) (xa := xa) (F := F_26) (r := vp_updL (F_26 ii.toNatClampNeg) (3 : Int32).toNatClampNeg y_33) (by first | rfl | simp) hw_29
          obtain ⟨F_35, u_36, hP, hD⟩ : ∃ F, F = va_up F_26 ii.toNatClampNeg (vp_updL (F_26 ii.toNatClampNeg) (3 : Int32).toNatClampNeg y_33) ∧ va_P D vwCl (([(o_glass xa (((Int32.toInt64 (bx - room_ax)) * (Int32.toInt64 (bx - room_ax))) + ((Int32.toInt64 (b2 - room_ay)) * (Int32.toInt64 (b2 - room_ay)))) lowered (2 * (Int32.toInt64 room_ax)) (2 * (Int32.toInt64 room_ay)) (Int32.toInt64 (bx - room_ax)) (Int32.toInt64 (b2 - room_ay)) glass_along glass_whole glass_xTimes glass_yTimes glass_fromX2 glass_fromY2 glass_goX glass_goY), (aI (xa 23) (cy 3) 12 gs_3), (aR (xa 22) (cy 7) 12 (fun i => if i < 12 then some (xa (140 + i)) else none)), (o_room xa room_ax room_ay room_bx room_by room_cx room_cy room_dx room_dy room_floor room_hand room_deep), (aI (xa 15) (cy 3) 12 wallThere), (aI (xa 17) (cy 3) 12 ofPit), (aR (xa 16) (cy 6) 12 (fun i => if i < 12 then some (xa (100 + i)) else none))] ++ gp_R 12 (fun i => aI (xa (100 + i)) (cy 1) 4 (rw i))) ++ gp_R 12 (fun i => aJ (xa (140 + i)) (cy 2) 4 (F i))) H ∧ va_D A (([(o_glass xa (((Int32.toInt64 (bx - room_ax)) * (Int32.toInt64 (bx - room_ax))) + ((Int32.toInt64 (b2 - room_ay)) * (Int32.toInt64 (b2 - room_ay)))) lowered (2 * (Int32.toInt64 room_ax)) (2 * (Int32.toInt64 room_ay)) (Int32.toInt64 (bx - room_ax)) (Int32.toInt64 (b2 - room_ay)) glass_along glass_whole glass_xTimes glass_yTimes glass_fromX2 glass_fromY2 glass_goX glass_goY), (aI (xa 23) (cy 3) 12 gs_3), (aR (xa 22) (cy 7) 12 (fun i => if i < 12 then some (xa (140 + i)) else none)), (o_room xa room_ax room_ay room_bx room_by room_cx room_cy room_dx room_dy room_floor room_hand room_deep), (aI (xa 15) (cy 3) 12 wallThere), (aI (xa 17) (cy 3) 12 ofPit), (aR (xa 16) (cy 6) 12 (fun i => if i < 12 then some (xa (100 + i)) else none))] ++ gp_R 12 (fun i => aI (xa (100 + i)) (cy 1) 4 (rw i))) ++ gp_R 12 (fun i => aJ (xa (140 + i)) (cy 2) 4 (F i))) := ⟨_, rfl, e_34 ▸ hP, e_34 ▸ hD⟩
          refine lv_iinc (v := (ii + 1)) (lv' := [(5, .int (ii + 1)), (6, .int dn), (0, .ref (xa 21)), (1, .ref (xa 11)), (2, .int bx), (3, .int b2), (4, .int lowered)]) hx hb dX3_lay_217 hl (k := 1) rfl rfl (by decide) rfl (fun ls hl => ?_)
          refine lv_goto (tgt := 80) hx hb dX3_lay_220 (by decide) ?_
          exact ih (ii + 1) gs_3 F_35 H locs ls (lf_sX3_lay_12 ii h1 c_1) (Nat.lt_of_lt_of_le (gp_mdec (b := 12) (lf_sX3_lay_13 ii h1 c_1)) (Nat.le_of_lt_succ hfu)) hP hD hS (lv_sub hl [0, 2, 3, 4, 5, 6] rfl)
        refine lv_aload_n hx hb dX3_lay_101 rfl (lv_at hl 2 rfl) ?_
        refine va_get (D := D) (ci := 7) (v := .ref (xa 17)) (C := RX7) (T := TX7) (N := 19) hx hb hts hiX7 hown hK hP 3 rfl rfl 16 (by decide) (hts (.fieldLink RX3 53 "GhostPane$Room" "ofPit" "[Z") (List.mem_of_getElem? (i := 14) rfl)) (fun _ h9 => h9) rfl dX3_lay_102 ?_
        refine lv_iload hx hb dX3_lay_105 (lv_at hl 0 rfl) ?_
        refine va_zald hx hb hK hP 5 3 rfl rfl (gp_in (hi := 11) (lf_sX3_lay_14 ii h1 c_1) (by decide)) dX3_lay_107 ?_
        refine gp_fi (fun y_37 => ?_)
        refine lv_if_eq (tgt := 116) hx hb dX3_lay_108 (by decide) (fun c_38 => ?_) (fun c_38 => ?_)
        · refine lv_iconst (v := 0) hx hb dX3_lay_116 (by decide) ?_
          exact cut117 0 H locs ls hP hD hS (lv_sub hl [0, 1, 2, 3, 4, 5] rfl)
        · refine lv_iload hx hb dX3_lay_111 (lv_at hl 5 rfl) ?_
          refine lv_goto (tgt := 117) hx hb dX3_lay_113 (by decide) ?_
          exact cut117 lowered H locs ls hP hD hS (lv_sub hl [0, 1, 2, 3, 4, 5] rfl)
  exact key80 ((12 - (0 : Int32).toInt).toNat + 1) 0 stands ge H locs ls (show sp_in 0 0 12 by decide) (Nat.lt_succ_self _) hP hD hS (lv_sub hl [0, 1, 2, 3, 4, 5] rfl)

def v_sX3_meets : List Cond := .code yX3_meets cX3_meets 15 (some .boolean) :: (([.code yX3_twiceOff cX3_twiceOff 5 (some .long), .fieldLink RX3 35 "GhostPane$Glass" "ay2" "J", .fieldLink RX3 38 "GhostPane$Glass" "cx" "J", .fieldLink RX3 28 "GhostPane$Glass" "ax2" "J", .fieldLink RX3 41 "GhostPane$Glass" "cy" "J", .methodLink RX3 60 yX3_twiceOff, .instanceMethod yX3_twiceOff, .selects RX3 yX3_twiceOff yX3_twiceOff, .initialized RX3, .code yX3_twiceAlong cX3_twiceAlong 5 (some .long), .methodLink RX3 64 yX3_twiceAlong, .instanceMethod yX3_twiceAlong, .selects RX3 yX3_twiceAlong yX3_twiceAlong, .fieldLink RX3 67 "GhostPane$Glass" "along" "J", .constantLong RX3 20 2, .fieldLink RX3 44 "GhostPane$Glass" "len" "J", .fieldLink RX3 70 "GhostPane$Glass" "whole" "J", .fieldLink RX3 73 "GhostPane$Glass" "xTimes" "J", .fieldLink RX3 76 "GhostPane$Glass" "yTimes" "J"] : List Cond) ++ wsX30)
set_option maxRecDepth 20000 in
theorem gg_sX3_meets_sX3_twiceOff : GoodIn v_sX3_meets v_sX3_twiceOff := goodIn_ca (goodIn_r (.code yX3_twiceOff cX3_twiceOff 5 (some .long) :: [.fieldLink RX3 35 "GhostPane$Glass" "ay2" "J", .fieldLink RX3 38 "GhostPane$Glass" "cx" "J", .fieldLink RX3 28 "GhostPane$Glass" "ax2" "J", .fieldLink RX3 41 "GhostPane$Glass" "cy" "J"]) [1, 2, 3, 4, 5] (by first | rfl | decide +kernel) (by decide +kernel)) (goodIn_sub (fun _ h => List.mem_cons_of_mem _ (List.mem_append_right _ h)) gwX3)
set_option maxRecDepth 20000 in
theorem g_sX3_meets_sX3_twiceOff_0 : GoodIn v_sX3_meets (wsV RX3 60 RX3 yX3_twiceOff v_sX3_twiceOff) := goodIn_app (goodIn_r [.methodLink RX3 60 yX3_twiceOff, .instanceMethod yX3_twiceOff, .selects RX3 yX3_twiceOff yX3_twiceOff, .initialized RX3] [6, 7, 8, 9] rfl (by decide +kernel)) gg_sX3_meets_sX3_twiceOff
set_option maxRecDepth 20000 in
theorem gg_sX3_meets_sX3_twiceAlong : GoodIn v_sX3_meets v_sX3_twiceAlong := goodIn_ca (goodIn_r (.code yX3_twiceAlong cX3_twiceAlong 5 (some .long) :: [.fieldLink RX3 28 "GhostPane$Glass" "ax2" "J", .fieldLink RX3 38 "GhostPane$Glass" "cx" "J", .fieldLink RX3 35 "GhostPane$Glass" "ay2" "J", .fieldLink RX3 41 "GhostPane$Glass" "cy" "J"]) [10, 4, 3, 2, 5] (by first | rfl | decide +kernel) (by decide +kernel)) (goodIn_sub (fun _ h => List.mem_cons_of_mem _ (List.mem_append_right _ h)) gwX3)
set_option maxRecDepth 20000 in
theorem g_sX3_meets_sX3_twiceAlong_1 : GoodIn v_sX3_meets (wsV RX3 64 RX3 yX3_twiceAlong v_sX3_twiceAlong) := goodIn_app (goodIn_r [.methodLink RX3 64 yX3_twiceAlong, .instanceMethod yX3_twiceAlong, .selects RX3 yX3_twiceAlong yX3_twiceAlong, .initialized RX3] [11, 12, 13, 9] rfl (by decide +kernel)) gg_sX3_meets_sX3_twiceAlong
set_option maxHeartbeats 4000000 in
set_option maxRecDepth 100000 in
theorem sX3_meets (l : Launch) (D : va_G) (cy : Nat → ClassId) (sz : Nat) (xa : Nat → Nat) (glass_len : Int64) (glass_deep : Int32) (glass_ax2 : Int64) (glass_ay2 : Int64) (glass_cx : Int64) (glass_cy : Int64) (glass_along : Int64) (glass_whole : Int64) (glass_xTimes : Int64) (glass_yTimes : Int64) (glass_fromX2 : Int64) (glass_fromY2 : Int64) (glass_goX : Int64) (glass_goY : Int64) (ex2 : Int64) (ey2 : Int64) (qx2 : Int64) (qy2 : Int64) : Met l yX3_meets v_sX3_meets ({ frames := 1, cells := 0, slots := 0, locals := 24 } : Room) (va_Pc [.ref (xa 21), .long ex2, .long ey2, .long qx2, .long qy2] (gp_B D cy sz [(o_glass xa glass_len glass_deep glass_ax2 glass_ay2 glass_cx glass_cy glass_along glass_whole glass_xTimes glass_yTimes glass_fromX2 glass_fromY2 glass_goX glass_goY)])) (va_Qi (fun (r : Int32) (u : (Int64) × (Int64) × (Int64) × (Int64)) => (r = 0 ∨ r = 1)) (fun u => gp_E D (va_A [(o_glass xa glass_len glass_deep glass_ax2 glass_ay2 glass_cx glass_cy glass_along glass_whole glass_xTimes glass_yTimes glass_fromX2 glass_fromY2 glass_goX glass_goY)] sz) [(o_glass xa glass_len glass_deep glass_ax2 glass_ay2 glass_cx glass_cy u.1 u.2.1 u.2.2.1 u.2.2.2 glass_fromX2 glass_fromY2 glass_goX glass_goY)]) (va_A [(o_glass xa glass_len glass_deep glass_ax2 glass_ay2 glass_cx glass_cy glass_along glass_whole glass_xTimes glass_yTimes glass_fromX2 glass_fromY2 glass_goX glass_goY)] sz)) 0 0 (va_A [(o_glass xa glass_len glass_deep glass_ax2 glass_ay2 glass_cx glass_cy glass_along glass_whole glass_xTimes glass_yTimes glass_fromX2 glass_fromY2 glass_goX glass_goY)] sz) := by
  refine gp_met (Qc := fun A => va_Qi (fun (r : Int32) (u : (Int64) × (Int64) × (Int64) × (Int64)) => (r = 0 ∨ r = 1)) (fun u => gp_E D A [(o_glass xa glass_len glass_deep glass_ax2 glass_ay2 glass_cx glass_cy u.1 u.2.1 u.2.2.1 u.2.2.2 glass_fromX2 glass_fromY2 glass_goX glass_goY)]) A) (cc := cX3_meets) (maxL := 15) (ret := (some .boolean)) (by decide) rfl (Nat.le_of_ble_eq_true rfl) ?_
  intro p e s m below meth c A ls H hx hb hml hr hlocks hts hown hin hK hN hS hP hD hA hl
  have hown : s.vm.findClass RX3 = some m.cls := hown
  have hl : lv_has ls 15 [(0, .ref (xa 21)), (1, .long ex2), (3, .long ey2), (5, .long qx2), (7, .long qy2)] := hl
  have hiX3 : ∀ w ∈ u_ws RX3 TX3 16, w ∈ v_sX3_meets := fun _ h => List.mem_cons_of_mem _ (List.mem_append_right _ h)
  refine lv_aload_n hx hb dX3_meets_0 rfl (lv_at hl 0 rfl) ?_
  refine lv_lload_n hx hb dX3_meets_1 rfl (lv_at hl 1 rfl) ?_
  refine lv_lload_n hx hb dX3_meets_2 rfl (lv_at hl 2 rfl) ?_
  have hPc := hP.sub (ws' := [(o_glass xa glass_len glass_deep glass_ax2 glass_ay2 glass_cx glass_cy glass_along glass_whole glass_xTimes glass_yTimes glass_fromX2 glass_fromY2 glass_goX glass_goY)]) [0] rfl
  have hDc := hD.sub (ws' := [(o_glass xa glass_len glass_deep glass_ax2 glass_ay2 glass_cx glass_cy glass_along glass_whole glass_xTimes glass_yTimes glass_fromX2 glass_fromY2 glass_goX glass_goY)]) [0] (by decide) rfl
  have hFc := va_free (wc := [(o_glass xa glass_len glass_deep glass_ax2 glass_ay2 glass_cx glass_cy glass_along glass_whole glass_xTimes glass_yTimes glass_fromX2 glass_fromY2 glass_goX glass_goY)]) hD hS hA [0] rfl
  refine va_calll (va_runV (As := [.long ex2, .long ey2]) (rest := []) ⟨hx, hb, hml, hown, hts⟩ (sX3_twiceOff l D cy H.size xa glass_len glass_deep glass_ax2 glass_ay2 glass_cx glass_cy glass_along glass_whole glass_xTimes glass_yTimes glass_fromX2 glass_fromY2 glass_goX glass_goY ex2 ey2) (cwV 2 hts g_sX3_meets_sX3_twiceOff_0 rfl rfl rfl (by decide +kernel) ⟨Nat.le_of_ble_eq_true rfl, Nat.le_of_ble_eq_true rfl⟩) (gp_preV (RX3, TX3, 16) 3 0 hPc hDc hK hN rfl rfl) rfl rfl hl.1 rfl (lv_room (Nat.le_of_ble_eq_true rfl)) dX3_meets_3 ⟨Nat.le_of_ble_eq_true rfl, Nat.le_of_ble_eq_true rfl⟩) hS (fun q _ h => hFc q h) hFc (fun r_1 u t H locs ht hvm hw hB hz1 hk1 hS => ?_)
  have hP := gp_joinU (wc := [(o_glass xa glass_len glass_deep glass_ax2 glass_ay2 glass_cx glass_cy glass_along glass_whole glass_xTimes glass_yTimes glass_fromX2 glass_fromY2 glass_goX glass_goY)]) hP hD [0] rfl hk1 ht hB
  have w_2 := hw
  refine lv_lstore (lv' := [(9, .long r_1), (0, .ref (xa 21)), (1, .long ex2), (3, .long ey2), (5, .long qx2), (7, .long qy2)]) hx hb dX3_meets_6 hl (by decide) rfl (fun ls hl => ?_)
  refine lv_aload_n hx hb dX3_meets_8 rfl (lv_at hl 1 rfl) ?_
  refine lv_lload hx hb dX3_meets_9 (lv_at hl 4 rfl) ?_
  refine lv_lload hx hb dX3_meets_11 (lv_at hl 5 rfl) ?_
  have hPc := hP.sub (ws' := [(o_glass xa glass_len glass_deep glass_ax2 glass_ay2 glass_cx glass_cy glass_along glass_whole glass_xTimes glass_yTimes glass_fromX2 glass_fromY2 glass_goX glass_goY)]) [0] rfl
  have hDc := hD.sub (ws' := [(o_glass xa glass_len glass_deep glass_ax2 glass_ay2 glass_cx glass_cy glass_along glass_whole glass_xTimes glass_yTimes glass_fromX2 glass_fromY2 glass_goX glass_goY)]) [0] (by decide) rfl
  have hFc := va_free (wc := [(o_glass xa glass_len glass_deep glass_ax2 glass_ay2 glass_cx glass_cy glass_along glass_whole glass_xTimes glass_yTimes glass_fromX2 glass_fromY2 glass_goX glass_goY)]) hD hS hA [0] rfl
  refine va_calll (va_runV (As := [.long qx2, .long qy2]) (rest := []) ⟨hx, hb, hml, hown, hts⟩ (sX3_twiceOff l D cy H.size xa glass_len glass_deep glass_ax2 glass_ay2 glass_cx glass_cy glass_along glass_whole glass_xTimes glass_yTimes glass_fromX2 glass_fromY2 glass_goX glass_goY qx2 qy2) (cwV 2 hts g_sX3_meets_sX3_twiceOff_0 rfl rfl rfl (by decide +kernel) ⟨Nat.le_of_ble_eq_true rfl, Nat.le_of_ble_eq_true rfl⟩) (gp_preV (RX3, TX3, 16) 3 0 hPc hDc hK hN rfl rfl) rfl rfl hl.1 rfl (lv_room (Nat.le_of_ble_eq_true rfl)) dX3_meets_13 ⟨Nat.le_of_ble_eq_true rfl, Nat.le_of_ble_eq_true rfl⟩) hS (fun q _ h => hFc q h) hFc (fun r_3 u t H locs ht hvm hw hB hz1 hk1 hS => ?_)
  have hP := gp_joinU (wc := [(o_glass xa glass_len glass_deep glass_ax2 glass_ay2 glass_cx glass_cy glass_along glass_whole glass_xTimes glass_yTimes glass_fromX2 glass_fromY2 glass_goX glass_goY)]) hP hD [0] rfl hk1 ht hB
  have w_4 := hw
  refine lv_lstore (lv' := [(11, .long r_3), (9, .long r_1), (0, .ref (xa 21)), (1, .long ex2), (3, .long ey2), (5, .long qx2), (7, .long qy2)]) hx hb dX3_meets_16 hl (by decide) rfl (fun ls hl => ?_)
  have cut72 : ∀ (b13 : Int32) (b14 : Int32) (H : Heap) (locs : List Loc) (ls : Array Slot), va_P D vwCl [(o_glass xa glass_len glass_deep glass_ax2 glass_ay2 glass_cx glass_cy glass_along glass_whole glass_xTimes glass_yTimes glass_fromX2 glass_fromY2 glass_goX glass_goY)] H → va_D A [(o_glass xa glass_len glass_deep glass_ax2 glass_ay2 glass_cx glass_cy glass_along glass_whole glass_xTimes glass_yTimes glass_fromX2 glass_fromY2 glass_goX glass_goY)] → va_S A s.heap H locs → lv_has ls 15 [(14, .int b14), (13, .int b13), (11, .long r_3), (9, .long r_1), (0, .ref (xa 21)), (1, .long ex2), (3, .long ey2), (5, .long qx2), (7, .long qy2)] → W p l e (headSpec v_sX3_meets (({ frames := 1, cells := 0, slots := 0, locals := 24 } : Room))).room s m [.ref (xa 21), .long ex2, .long ey2, .long qx2, .long qy2].toArray below meth c H locs 0 0 (MQ below (va_Qi (fun (r : Int32) (u : (Int64) × (Int64) × (Int64) × (Int64)) => (r = 0 ∨ r = 1)) (fun u => gp_E D A [(o_glass xa glass_len glass_deep glass_ax2 glass_ay2 glass_cx glass_cy u.1 u.2.1 u.2.2.1 u.2.2.2 glass_fromX2 glass_fromY2 glass_goX glass_goY)]) A) [.ref (xa 21), .long ex2, .long ey2, .long qx2, .long qy2].toArray s 0 0 A) (F0 m 72 ls []) := by
    intro b13 b14 H locs ls  hP hD hS hl
    refine lv_aload_n hx hb dX3_meets_72 rfl (lv_at hl 4 rfl) ?_
    refine lv_aload_n hx hb dX3_meets_73 rfl (lv_at hl 4 rfl) ?_
    refine lv_lload_n hx hb dX3_meets_74 rfl (lv_at hl 5 rfl) ?_
    refine lv_lload_n hx hb dX3_meets_75 rfl (lv_at hl 6 rfl) ?_
    have hPc := hP.sub (ws' := [(o_glass xa glass_len glass_deep glass_ax2 glass_ay2 glass_cx glass_cy glass_along glass_whole glass_xTimes glass_yTimes glass_fromX2 glass_fromY2 glass_goX glass_goY)]) [0] rfl
    have hDc := hD.sub (ws' := [(o_glass xa glass_len glass_deep glass_ax2 glass_ay2 glass_cx glass_cy glass_along glass_whole glass_xTimes glass_yTimes glass_fromX2 glass_fromY2 glass_goX glass_goY)]) [0] (by decide) rfl
    have hFc := va_free (wc := [(o_glass xa glass_len glass_deep glass_ax2 glass_ay2 glass_cx glass_cy glass_along glass_whole glass_xTimes glass_yTimes glass_fromX2 glass_fromY2 glass_goX glass_goY)]) hD hS hA [0] rfl
    refine va_calll (va_runV (As := [.long ex2, .long ey2]) (rest := [.ref (xa 21)]) ⟨hx, hb, hml, hown, hts⟩ (sX3_twiceAlong l D cy H.size xa glass_len glass_deep glass_ax2 glass_ay2 glass_cx glass_cy glass_along glass_whole glass_xTimes glass_yTimes glass_fromX2 glass_fromY2 glass_goX glass_goY ex2 ey2) (cwV 2 hts g_sX3_meets_sX3_twiceAlong_1 rfl rfl rfl (by decide +kernel) ⟨Nat.le_of_ble_eq_true rfl, Nat.le_of_ble_eq_true rfl⟩) (gp_preV (RX3, TX3, 16) 3 0 hPc hDc hK hN rfl rfl) rfl rfl hl.1 rfl (lv_room (Nat.le_of_ble_eq_true rfl)) dX3_meets_76 ⟨Nat.le_of_ble_eq_true rfl, Nat.le_of_ble_eq_true rfl⟩) hS (fun q _ h => hFc q h) hFc (fun r_5 u t H locs ht hvm hw hB hz1 hk1 hS => ?_)
    have hP := gp_joinU (wc := [(o_glass xa glass_len glass_deep glass_ax2 glass_ay2 glass_cx glass_cy glass_along glass_whole glass_xTimes glass_yTimes glass_fromX2 glass_fromY2 glass_goX glass_goY)]) hP hD [0] rfl hk1 ht hB
    have w_6 := hw
    refine lv_lload hx hb dX3_meets_79 (lv_at hl 2 rfl) ?_
    refine lv_lmul hx hb dX3_meets_81 ?_
    refine gp_fl (fun y_7 => ?_)
    refine lv_aload_n hx hb dX3_meets_82 rfl (lv_at hl 4 rfl) ?_
    refine lv_lload hx hb dX3_meets_83 (lv_at hl 7 rfl) ?_
    refine lv_lload hx hb dX3_meets_85 (lv_at hl 8 rfl) ?_
    have hPc := hP.sub (ws' := [(o_glass xa glass_len glass_deep glass_ax2 glass_ay2 glass_cx glass_cy glass_along glass_whole glass_xTimes glass_yTimes glass_fromX2 glass_fromY2 glass_goX glass_goY)]) [0] rfl
    have hDc := hD.sub (ws' := [(o_glass xa glass_len glass_deep glass_ax2 glass_ay2 glass_cx glass_cy glass_along glass_whole glass_xTimes glass_yTimes glass_fromX2 glass_fromY2 glass_goX glass_goY)]) [0] (by decide) rfl
    have hFc := va_free (wc := [(o_glass xa glass_len glass_deep glass_ax2 glass_ay2 glass_cx glass_cy glass_along glass_whole glass_xTimes glass_yTimes glass_fromX2 glass_fromY2 glass_goX glass_goY)]) hD hS hA [0] rfl
    refine va_calll (va_runV (As := [.long qx2, .long qy2]) (rest := [.long y_7, .ref (xa 21)]) ⟨hx, hb, hml, hown, hts⟩ (sX3_twiceAlong l D cy H.size xa glass_len glass_deep glass_ax2 glass_ay2 glass_cx glass_cy glass_along glass_whole glass_xTimes glass_yTimes glass_fromX2 glass_fromY2 glass_goX glass_goY qx2 qy2) (cwV 2 hts g_sX3_meets_sX3_twiceAlong_1 rfl rfl rfl (by decide +kernel) ⟨Nat.le_of_ble_eq_true rfl, Nat.le_of_ble_eq_true rfl⟩) (gp_preV (RX3, TX3, 16) 3 0 hPc hDc hK hN rfl rfl) rfl rfl hl.1 rfl (lv_room (Nat.le_of_ble_eq_true rfl)) dX3_meets_87 ⟨Nat.le_of_ble_eq_true rfl, Nat.le_of_ble_eq_true rfl⟩) hS (fun q _ h => hFc q h) hFc (fun r_8 u t H locs ht hvm hw hB hz1 hk1 hS => ?_)
    have hP := gp_joinU (wc := [(o_glass xa glass_len glass_deep glass_ax2 glass_ay2 glass_cx glass_cy glass_along glass_whole glass_xTimes glass_yTimes glass_fromX2 glass_fromY2 glass_goX glass_goY)]) hP hD [0] rfl hk1 ht hB
    have w_9 := hw
    refine lv_lload hx hb dX3_meets_90 (lv_at hl 3 rfl) ?_
    refine lv_lmul hx hb dX3_meets_92 ?_
    refine gp_fl (fun y_10 => ?_)
    refine lv_ladd hx hb dX3_meets_93 ?_
    refine gp_fl (fun y_11 => ?_)
    refine va_put (D := D) (ci := 3) (v := .long y_11) (ty := .long) (C := RX3) (T := TX3) (N := 16) hx hb hts hiX3 tyX3 tyX3_ok nmX3 hown hK hP hD hS 0 rfl rfl 8 (by decide) (hts (.fieldLink RX3 67 "GhostPane$Glass" "along" "J") (List.mem_of_getElem? (i := 14) rfl)) (fun _ h9 => h9) rfl (by decide +kernel) rfl rfl (Nat.le_of_ble_eq_true rfl) dX3_meets_94 (fun H locs hP hD hS => ?_)
    have hP : va_P D vwCl [(o_glass xa glass_len glass_deep glass_ax2 glass_ay2 glass_cx glass_cy y_11 glass_whole glass_xTimes glass_yTimes glass_fromX2 glass_fromY2 glass_goX glass_goY)] H := hP
    have hD := gp_sD hP hD
    refine lv_aload_n hx hb dX3_meets_97 rfl (lv_at hl 4 rfl) ?_
    refine lv_ldc2 (v := 2) hx hb hown (hts (.constantLong RX3 20 2) (List.mem_of_getElem? (i := 15) rfl)) dX3_meets_98 ?_
    refine lv_aload_n hx hb dX3_meets_101 rfl (lv_at hl 4 rfl) ?_
    refine va_get (D := D) (ci := 3) (v := .long glass_len) (C := RX3) (T := TX3) (N := 16) hx hb hts hiX3 hown hK hP 0 rfl rfl 0 (by decide) (hts (.fieldLink RX3 44 "GhostPane$Glass" "len" "J") (List.mem_of_getElem? (i := 16) rfl)) (fun _ h9 => h9) rfl dX3_meets_102 ?_
    refine lv_lmul hx hb dX3_meets_105 ?_
    refine gp_fl (fun y_12 => ?_)
    refine lv_lload hx hb dX3_meets_106 (lv_at hl 3 rfl) ?_
    refine lv_lload hx hb dX3_meets_108 (lv_at hl 2 rfl) ?_
    refine lv_ladd hx hb dX3_meets_110 ?_
    refine gp_fl (fun y_13 => ?_)
    refine lv_lmul hx hb dX3_meets_111 ?_
    refine gp_fl (fun y_14 => ?_)
    refine va_put (D := D) (ci := 3) (v := .long y_14) (ty := .long) (C := RX3) (T := TX3) (N := 16) hx hb hts hiX3 tyX3 tyX3_ok nmX3 hown hK hP hD hS 0 rfl rfl 9 (by decide) (hts (.fieldLink RX3 70 "GhostPane$Glass" "whole" "J") (List.mem_of_getElem? (i := 17) rfl)) (fun _ h9 => h9) rfl (by decide +kernel) rfl rfl (Nat.le_of_ble_eq_true rfl) dX3_meets_112 (fun H locs hP hD hS => ?_)
    have hP : va_P D vwCl [(o_glass xa glass_len glass_deep glass_ax2 glass_ay2 glass_cx glass_cy y_11 y_14 glass_xTimes glass_yTimes glass_fromX2 glass_fromY2 glass_goX glass_goY)] H := hP
    have hD := gp_sD hP hD
    have cut138 : ∀ (al : Int64) (wh : Int64) (H : Heap) (locs : List Loc) (ls : Array Slot), va_P D vwCl [(o_glass xa glass_len glass_deep glass_ax2 glass_ay2 glass_cx glass_cy al wh glass_xTimes glass_yTimes glass_fromX2 glass_fromY2 glass_goX glass_goY)] H → va_D A [(o_glass xa glass_len glass_deep glass_ax2 glass_ay2 glass_cx glass_cy al wh glass_xTimes glass_yTimes glass_fromX2 glass_fromY2 glass_goX glass_goY)] → va_S A s.heap H locs → lv_has ls 15 [(14, .int b14), (13, .int b13), (11, .long r_3), (9, .long r_1), (0, .ref (xa 21)), (1, .long ex2), (3, .long ey2), (5, .long qx2), (7, .long qy2)] → W p l e (headSpec v_sX3_meets (({ frames := 1, cells := 0, slots := 0, locals := 24 } : Room))).room s m [.ref (xa 21), .long ex2, .long ey2, .long qx2, .long qy2].toArray below meth c H locs 0 0 (MQ below (va_Qi (fun (r : Int32) (u : (Int64) × (Int64) × (Int64) × (Int64)) => (r = 0 ∨ r = 1)) (fun u => gp_E D A [(o_glass xa glass_len glass_deep glass_ax2 glass_ay2 glass_cx glass_cy u.1 u.2.1 u.2.2.1 u.2.2.2 glass_fromX2 glass_fromY2 glass_goX glass_goY)]) A) [.ref (xa 21), .long ex2, .long ey2, .long qx2, .long qy2].toArray s 0 0 A) (F0 m 138 ls []) := by
      intro al wh H locs ls  hP hD hS hl
      refine lv_aload_n hx hb dX3_meets_138 rfl (lv_at hl 4 rfl) ?_
      refine va_get (D := D) (ci := 3) (v := .long al) (C := RX3) (T := TX3) (N := 16) hx hb hts hiX3 hown hK hP 0 rfl rfl 8 (by decide) (hts (.fieldLink RX3 67 "GhostPane$Glass" "along" "J") (List.mem_of_getElem? (i := 14) rfl)) (fun _ h9 => h9) rfl dX3_meets_139 ?_
      refine lv_lconst (v := 0) hx hb dX3_meets_142 (by decide) ?_
      refine W.lcmp hx hb dX3_meets_143 ?_
      refine lv_if_lt (tgt := 159) hx hb dX3_meets_144 (by decide) (fun c_15 => ?_) (fun c_15 => ?_)
      · have c_15 : al < 0 := gp_lcT.2.1.mp c_15
        refine lv_iconst (v := 0) hx hb dX3_meets_159 (by decide) ?_
        exact W.zret (v := 0) hx hb hr narrow_b0 (fun t ht hW => ⟨⟨0, ⟨al, wh, glass_xTimes, glass_yTimes⟩, rfl, (show (0 : Int32) = 0 ∨ (0 : Int32) = 1 by decide), gp_end ht hP hD⟩, hS.F ht⟩) hS.2.2 dX3_meets_160
      · have c_15 : ¬ al < 0 := fun z => c_15 (gp_lcT.2.1.mpr z)
        refine lv_aload_n hx hb dX3_meets_147 rfl (lv_at hl 4 rfl) ?_
        refine va_get (D := D) (ci := 3) (v := .long al) (C := RX3) (T := TX3) (N := 16) hx hb hts hiX3 hown hK hP 0 rfl rfl 8 (by decide) (hts (.fieldLink RX3 67 "GhostPane$Glass" "along" "J") (List.mem_of_getElem? (i := 14) rfl)) (fun _ h9 => h9) rfl dX3_meets_148 ?_
        refine lv_aload_n hx hb dX3_meets_151 rfl (lv_at hl 4 rfl) ?_
        refine va_get (D := D) (ci := 3) (v := .long wh) (C := RX3) (T := TX3) (N := 16) hx hb hts hiX3 hown hK hP 0 rfl rfl 9 (by decide) (hts (.fieldLink RX3 70 "GhostPane$Glass" "whole" "J") (List.mem_of_getElem? (i := 17) rfl)) (fun _ h9 => h9) rfl dX3_meets_152 ?_
        refine W.lcmp hx hb dX3_meets_155 ?_
        refine lv_if_le (tgt := 161) hx hb dX3_meets_156 (by decide) (fun c_16 => ?_) (fun c_16 => ?_)
        · have c_16 : al ≤ wh := gp_lcT.2.2.2.1.mp c_16
          refine lv_aload_n hx hb dX3_meets_161 rfl (lv_at hl 4 rfl) ?_
          refine lv_aload_n hx hb dX3_meets_162 rfl (lv_at hl 4 rfl) ?_
          refine va_get (D := D) (ci := 3) (v := .long glass_ax2) (C := RX3) (T := TX3) (N := 16) hx hb hts hiX3 hown hK hP 0 rfl rfl 4 (by decide) (hts (.fieldLink RX3 28 "GhostPane$Glass" "ax2" "J") (List.mem_of_getElem? (i := 4) rfl)) (fun _ h9 => h9) rfl dX3_meets_163 ?_
          refine lv_aload_n hx hb dX3_meets_166 rfl (lv_at hl 4 rfl) ?_
          refine va_get (D := D) (ci := 3) (v := .long wh) (C := RX3) (T := TX3) (N := 16) hx hb hts hiX3 hown hK hP 0 rfl rfl 9 (by decide) (hts (.fieldLink RX3 70 "GhostPane$Glass" "whole" "J") (List.mem_of_getElem? (i := 17) rfl)) (fun _ h9 => h9) rfl dX3_meets_167 ?_
          refine lv_lmul hx hb dX3_meets_170 ?_
          refine gp_fl (fun y_17 => ?_)
          refine lv_ldc2 (v := 2) hx hb hown (hts (.constantLong RX3 20 2) (List.mem_of_getElem? (i := 15) rfl)) dX3_meets_171 ?_
          refine lv_aload_n hx hb dX3_meets_174 rfl (lv_at hl 4 rfl) ?_
          refine va_get (D := D) (ci := 3) (v := .long glass_cx) (C := RX3) (T := TX3) (N := 16) hx hb hts hiX3 hown hK hP 0 rfl rfl 6 (by decide) (hts (.fieldLink RX3 38 "GhostPane$Glass" "cx" "J") (List.mem_of_getElem? (i := 3) rfl)) (fun _ h9 => h9) rfl dX3_meets_175 ?_
          refine lv_lmul hx hb dX3_meets_178 ?_
          refine gp_fl (fun y_18 => ?_)
          refine lv_aload_n hx hb dX3_meets_179 rfl (lv_at hl 4 rfl) ?_
          refine va_get (D := D) (ci := 3) (v := .long al) (C := RX3) (T := TX3) (N := 16) hx hb hts hiX3 hown hK hP 0 rfl rfl 8 (by decide) (hts (.fieldLink RX3 67 "GhostPane$Glass" "along" "J") (List.mem_of_getElem? (i := 14) rfl)) (fun _ h9 => h9) rfl dX3_meets_180 ?_
          refine lv_lmul hx hb dX3_meets_183 ?_
          refine gp_fl (fun y_19 => ?_)
          refine lv_ladd hx hb dX3_meets_184 ?_
          refine gp_fl (fun y_20 => ?_)
          refine va_put (D := D) (ci := 3) (v := .long y_20) (ty := .long) (C := RX3) (T := TX3) (N := 16) hx hb hts hiX3 tyX3 tyX3_ok nmX3 hown hK hP hD hS 0 rfl rfl 10 (by decide) (hts (.fieldLink RX3 73 "GhostPane$Glass" "xTimes" "J") (List.mem_of_getElem? (i := 18) rfl)) (fun _ h9 => h9) rfl (by decide +kernel) rfl rfl (Nat.le_of_ble_eq_true rfl) dX3_meets_185 (fun H locs hP hD hS => ?_)
          have hP : va_P D vwCl [(o_glass xa glass_len glass_deep glass_ax2 glass_ay2 glass_cx glass_cy al wh y_20 glass_yTimes glass_fromX2 glass_fromY2 glass_goX glass_goY)] H := hP
          have hD := gp_sD hP hD
          refine lv_aload_n hx hb dX3_meets_188 rfl (lv_at hl 4 rfl) ?_
          refine lv_aload_n hx hb dX3_meets_189 rfl (lv_at hl 4 rfl) ?_
          refine va_get (D := D) (ci := 3) (v := .long glass_ay2) (C := RX3) (T := TX3) (N := 16) hx hb hts hiX3 hown hK hP 0 rfl rfl 5 (by decide) (hts (.fieldLink RX3 35 "GhostPane$Glass" "ay2" "J") (List.mem_of_getElem? (i := 2) rfl)) (fun _ h9 => h9) rfl dX3_meets_190 ?_
          refine lv_aload_n hx hb dX3_meets_193 rfl (lv_at hl 4 rfl) ?_
          refine va_get (D := D) (ci := 3) (v := .long wh) (C := RX3) (T := TX3) (N := 16) hx hb hts hiX3 hown hK hP 0 rfl rfl 9 (by decide) (hts (.fieldLink RX3 70 "GhostPane$Glass" "whole" "J") (List.mem_of_getElem? (i := 17) rfl)) (fun _ h9 => h9) rfl dX3_meets_194 ?_
          refine lv_lmul hx hb dX3_meets_197 ?_
          refine gp_fl (fun y_21 => ?_)
          refine lv_ldc2 (v := 2) hx hb hown (hts (.constantLong RX3 20 2) (List.mem_of_getElem? (i := 15) rfl)) dX3_meets_198 ?_
          refine lv_aload_n hx hb dX3_meets_201 rfl (lv_at hl 4 rfl) ?_
          refine va_get (D := D) (ci := 3) (v := .long glass_cy) (C := RX3) (T := TX3) (N := 16) hx hb hts hiX3 hown hK hP 0 rfl rfl 7 (by decide) (hts (.fieldLink RX3 41 "GhostPane$Glass" "cy" "J") (List.mem_of_getElem? (i := 5) rfl)) (fun _ h9 => h9) rfl dX3_meets_202 ?_
          refine lv_lmul hx hb dX3_meets_205 ?_
          refine gp_fl (fun y_22 => ?_)
          refine lv_aload_n hx hb dX3_meets_206 rfl (lv_at hl 4 rfl) ?_
          refine va_get (D := D) (ci := 3) (v := .long al) (C := RX3) (T := TX3) (N := 16) hx hb hts hiX3 hown hK hP 0 rfl rfl 8 (by decide) (hts (.fieldLink RX3 67 "GhostPane$Glass" "along" "J") (List.mem_of_getElem? (i := 14) rfl)) (fun _ h9 => h9) rfl dX3_meets_207 ?_
          refine lv_lmul hx hb dX3_meets_210 ?_
          refine gp_fl (fun y_23 => ?_)
          refine lv_ladd hx hb dX3_meets_211 ?_
          refine gp_fl (fun y_24 => ?_)
          refine va_put (D := D) (ci := 3) (v := .long y_24) (ty := .long) (C := RX3) (T := TX3) (N := 16) hx hb hts hiX3 tyX3 tyX3_ok nmX3 hown hK hP hD hS 0 rfl rfl 11 (by decide) (hts (.fieldLink RX3 76 "GhostPane$Glass" "yTimes" "J") (List.mem_of_getElem? (i := 19) rfl)) (fun _ h9 => h9) rfl (by decide +kernel) rfl rfl (Nat.le_of_ble_eq_true rfl) dX3_meets_212 (fun H locs hP hD hS => ?_)
          have hP : va_P D vwCl [(o_glass xa glass_len glass_deep glass_ax2 glass_ay2 glass_cx glass_cy al wh y_20 y_24 glass_fromX2 glass_fromY2 glass_goX glass_goY)] H := hP
          have hD := gp_sD hP hD
          refine lv_iconst (v := 1) hx hb dX3_meets_215 (by decide) ?_
          exact W.zret (v := 1) hx hb hr narrow_b1 (fun t ht hW => ⟨⟨1, ⟨al, wh, y_20, y_24⟩, rfl, (show (1 : Int32) = 0 ∨ (1 : Int32) = 1 by decide), gp_end ht hP hD⟩, hS.F ht⟩) hS.2.2 dX3_meets_216
        · have c_16 : ¬ al ≤ wh := fun z => c_16 (gp_lcT.2.2.2.1.mpr z)
          refine lv_iconst (v := 0) hx hb dX3_meets_159 (by decide) ?_
          exact W.zret (v := 0) hx hb hr narrow_b0 (fun t ht hW => ⟨⟨0, ⟨al, wh, glass_xTimes, glass_yTimes⟩, rfl, (show (0 : Int32) = 0 ∨ (0 : Int32) = 1 by decide), gp_end ht hP hD⟩, hS.F ht⟩) hS.2.2 dX3_meets_160
    refine lv_iload hx hb dX3_meets_115 (lv_at hl 0 rfl) ?_
    refine lv_if_eq (tgt := 138) hx hb dX3_meets_117 (by decide) (fun c_25 => ?_) (fun c_25 => ?_)
    · exact cut138 y_11 y_14 H locs ls hP hD hS (lv_sub hl [0, 1, 2, 3, 4, 5, 6, 7, 8] rfl)
    · refine lv_aload_n hx hb dX3_meets_120 rfl (lv_at hl 4 rfl) ?_
      refine lv_aload_n hx hb dX3_meets_121 rfl (lv_at hl 4 rfl) ?_
      refine va_get (D := D) (ci := 3) (v := .long y_11) (C := RX3) (T := TX3) (N := 16) hx hb hts hiX3 hown hK hP 0 rfl rfl 8 (by decide) (hts (.fieldLink RX3 67 "GhostPane$Glass" "along" "J") (List.mem_of_getElem? (i := 14) rfl)) (fun _ h9 => h9) rfl dX3_meets_122 ?_
      refine lv_lneg hx hb dX3_meets_125 ?_
      refine gp_fl (fun y_26 => ?_)
      refine va_put (D := D) (ci := 3) (v := .long y_26) (ty := .long) (C := RX3) (T := TX3) (N := 16) hx hb hts hiX3 tyX3 tyX3_ok nmX3 hown hK hP hD hS 0 rfl rfl 8 (by decide) (hts (.fieldLink RX3 67 "GhostPane$Glass" "along" "J") (List.mem_of_getElem? (i := 14) rfl)) (fun _ h9 => h9) rfl (by decide +kernel) rfl rfl (Nat.le_of_ble_eq_true rfl) dX3_meets_126 (fun H locs hP hD hS => ?_)
      have hP : va_P D vwCl [(o_glass xa glass_len glass_deep glass_ax2 glass_ay2 glass_cx glass_cy y_26 y_14 glass_xTimes glass_yTimes glass_fromX2 glass_fromY2 glass_goX glass_goY)] H := hP
      have hD := gp_sD hP hD
      refine lv_aload_n hx hb dX3_meets_129 rfl (lv_at hl 4 rfl) ?_
      refine lv_aload_n hx hb dX3_meets_130 rfl (lv_at hl 4 rfl) ?_
      refine va_get (D := D) (ci := 3) (v := .long y_14) (C := RX3) (T := TX3) (N := 16) hx hb hts hiX3 hown hK hP 0 rfl rfl 9 (by decide) (hts (.fieldLink RX3 70 "GhostPane$Glass" "whole" "J") (List.mem_of_getElem? (i := 17) rfl)) (fun _ h9 => h9) rfl dX3_meets_131 ?_
      refine lv_lneg hx hb dX3_meets_134 ?_
      refine gp_fl (fun y_27 => ?_)
      refine va_put (D := D) (ci := 3) (v := .long y_27) (ty := .long) (C := RX3) (T := TX3) (N := 16) hx hb hts hiX3 tyX3 tyX3_ok nmX3 hown hK hP hD hS 0 rfl rfl 9 (by decide) (hts (.fieldLink RX3 70 "GhostPane$Glass" "whole" "J") (List.mem_of_getElem? (i := 17) rfl)) (fun _ h9 => h9) rfl (by decide +kernel) rfl rfl (Nat.le_of_ble_eq_true rfl) dX3_meets_135 (fun H locs hP hD hS => ?_)
      have hP : va_P D vwCl [(o_glass xa glass_len glass_deep glass_ax2 glass_ay2 glass_cx glass_cy y_26 y_27 glass_xTimes glass_yTimes glass_fromX2 glass_fromY2 glass_goX glass_goY)] H := hP
      have hD := gp_sD hP hD
      exact cut138 y_26 y_27 H locs ls hP hD hS (lv_sub hl [0, 1, 2, 3, 4, 5, 6, 7, 8] rfl)
  refine lv_lload hx hb dX3_meets_18 (lv_at hl 1 rfl) ?_
  refine lv_lconst (v := 0) hx hb dX3_meets_20 (by decide) ?_
  refine W.lcmp hx hb dX3_meets_21 ?_
  refine lv_if_le (tgt := 36) hx hb dX3_meets_22 (by decide) (fun c_28 => ?_) (fun c_28 => ?_)
  · have c_28 : r_1 ≤ 0 := gp_lcT.2.2.2.1.mp c_28
    refine lv_iconst (v := 0) hx hb dX3_meets_36 (by decide) ?_
    refine lv_istore (lv' := [(13, .int 0), (11, .long r_3), (9, .long r_1), (0, .ref (xa 21)), (1, .long ex2), (3, .long ey2), (5, .long qx2), (7, .long qy2)]) hx hb dX3_meets_37 hl (by decide) rfl (fun ls hl => ?_)
    refine lv_lload hx hb dX3_meets_39 (lv_at hl 2 rfl) ?_
    refine lv_lconst (v := 0) hx hb dX3_meets_41 (by decide) ?_
    refine W.lcmp hx hb dX3_meets_42 ?_
    refine lv_if_ge (tgt := 57) hx hb dX3_meets_43 (by decide) (fun c_29 => ?_) (fun c_29 => ?_)
    · have c_29 : 0 ≤ r_1 := gp_lcT.2.2.2.2.mp c_29
      refine lv_iconst (v := 0) hx hb dX3_meets_57 (by decide) ?_
      refine lv_istore (lv' := [(14, .int 0), (13, .int 0), (11, .long r_3), (9, .long r_1), (0, .ref (xa 21)), (1, .long ex2), (3, .long ey2), (5, .long qx2), (7, .long qy2)]) hx hb dX3_meets_58 hl (by decide) rfl (fun ls hl => ?_)
      refine lv_iload hx hb dX3_meets_60 (lv_at hl 1 rfl) ?_
      refine lv_if_ne (tgt := 72) hx hb dX3_meets_62 (by decide) (fun c_30 => absurd (by decide) c_30) (fun c_30 => ?_)
      refine lv_iload hx hb dX3_meets_65 (lv_at hl 0 rfl) ?_
      refine lv_if_ne (tgt := 72) hx hb dX3_meets_67 (by decide) (fun c_31 => absurd (by decide) c_31) (fun c_31 => ?_)
      refine lv_iconst (v := 0) hx hb dX3_meets_70 (by decide) ?_
      exact W.zret (v := 0) hx hb hr narrow_b0 (fun t ht hW => ⟨⟨0, ⟨glass_along, glass_whole, glass_xTimes, glass_yTimes⟩, rfl, (show (0 : Int32) = 0 ∨ (0 : Int32) = 1 by decide), gp_end ht hP hD⟩, hS.F ht⟩) hS.2.2 dX3_meets_71
    · have c_29 : ¬ 0 ≤ r_1 := fun z => c_29 (gp_lcT.2.2.2.2.mpr z)
      refine lv_lload hx hb dX3_meets_46 (lv_at hl 1 rfl) ?_
      refine lv_lconst (v := 0) hx hb dX3_meets_48 (by decide) ?_
      refine W.lcmp hx hb dX3_meets_49 ?_
      refine lv_if_ge (tgt := 57) hx hb dX3_meets_50 (by decide) (fun c_32 => ?_) (fun c_32 => ?_)
      · have c_32 : 0 ≤ r_3 := gp_lcT.2.2.2.2.mp c_32
        refine lv_iconst (v := 0) hx hb dX3_meets_57 (by decide) ?_
        refine lv_istore (lv' := [(14, .int 0), (13, .int 0), (11, .long r_3), (9, .long r_1), (0, .ref (xa 21)), (1, .long ex2), (3, .long ey2), (5, .long qx2), (7, .long qy2)]) hx hb dX3_meets_58 hl (by decide) rfl (fun ls hl => ?_)
        refine lv_iload hx hb dX3_meets_60 (lv_at hl 1 rfl) ?_
        refine lv_if_ne (tgt := 72) hx hb dX3_meets_62 (by decide) (fun c_33 => absurd (by decide) c_33) (fun c_33 => ?_)
        refine lv_iload hx hb dX3_meets_65 (lv_at hl 0 rfl) ?_
        refine lv_if_ne (tgt := 72) hx hb dX3_meets_67 (by decide) (fun c_34 => absurd (by decide) c_34) (fun c_34 => ?_)
        refine lv_iconst (v := 0) hx hb dX3_meets_70 (by decide) ?_
        exact W.zret (v := 0) hx hb hr narrow_b0 (fun t ht hW => ⟨⟨0, ⟨glass_along, glass_whole, glass_xTimes, glass_yTimes⟩, rfl, (show (0 : Int32) = 0 ∨ (0 : Int32) = 1 by decide), gp_end ht hP hD⟩, hS.F ht⟩) hS.2.2 dX3_meets_71
      · have c_32 : ¬ 0 ≤ r_3 := fun z => c_32 (gp_lcT.2.2.2.2.mpr z)
        refine lv_iconst (v := 1) hx hb dX3_meets_53 (by decide) ?_
        refine lv_goto (tgt := 58) hx hb dX3_meets_54 (by decide) ?_
        refine lv_istore (lv' := [(14, .int 1), (13, .int 0), (11, .long r_3), (9, .long r_1), (0, .ref (xa 21)), (1, .long ex2), (3, .long ey2), (5, .long qx2), (7, .long qy2)]) hx hb dX3_meets_58 hl (by decide) rfl (fun ls hl => ?_)
        refine lv_iload hx hb dX3_meets_60 (lv_at hl 1 rfl) ?_
        refine lv_if_ne (tgt := 72) hx hb dX3_meets_62 (by decide) (fun c_35 => absurd (by decide) c_35) (fun c_35 => ?_)
        refine lv_iload hx hb dX3_meets_65 (lv_at hl 0 rfl) ?_
        refine lv_if_ne (tgt := 72) hx hb dX3_meets_67 (by decide) (fun c_36 => ?_) (fun c_36 => absurd c_36 (by decide))
        exact cut72 0 1 H locs ls hP hD hS (lv_sub hl [0, 1, 2, 3, 4, 5, 6, 7, 8] rfl)
  · have c_28 : ¬ r_1 ≤ 0 := fun z => c_28 (gp_lcT.2.2.2.1.mpr z)
    refine lv_lload hx hb dX3_meets_25 (lv_at hl 0 rfl) ?_
    refine lv_lconst (v := 0) hx hb dX3_meets_27 (by decide) ?_
    refine W.lcmp hx hb dX3_meets_28 ?_
    refine lv_if_le (tgt := 36) hx hb dX3_meets_29 (by decide) (fun c_37 => ?_) (fun c_37 => ?_)
    · have c_37 : r_3 ≤ 0 := gp_lcT.2.2.2.1.mp c_37
      refine lv_iconst (v := 0) hx hb dX3_meets_36 (by decide) ?_
      refine lv_istore (lv' := [(13, .int 0), (11, .long r_3), (9, .long r_1), (0, .ref (xa 21)), (1, .long ex2), (3, .long ey2), (5, .long qx2), (7, .long qy2)]) hx hb dX3_meets_37 hl (by decide) rfl (fun ls hl => ?_)
      refine lv_lload hx hb dX3_meets_39 (lv_at hl 2 rfl) ?_
      refine lv_lconst (v := 0) hx hb dX3_meets_41 (by decide) ?_
      refine W.lcmp hx hb dX3_meets_42 ?_
      refine lv_if_ge (tgt := 57) hx hb dX3_meets_43 (by decide) (fun c_38 => ?_) (fun c_38 => ?_)
      · have c_38 : 0 ≤ r_1 := gp_lcT.2.2.2.2.mp c_38
        refine lv_iconst (v := 0) hx hb dX3_meets_57 (by decide) ?_
        refine lv_istore (lv' := [(14, .int 0), (13, .int 0), (11, .long r_3), (9, .long r_1), (0, .ref (xa 21)), (1, .long ex2), (3, .long ey2), (5, .long qx2), (7, .long qy2)]) hx hb dX3_meets_58 hl (by decide) rfl (fun ls hl => ?_)
        refine lv_iload hx hb dX3_meets_60 (lv_at hl 1 rfl) ?_
        refine lv_if_ne (tgt := 72) hx hb dX3_meets_62 (by decide) (fun c_39 => absurd (by decide) c_39) (fun c_39 => ?_)
        refine lv_iload hx hb dX3_meets_65 (lv_at hl 0 rfl) ?_
        refine lv_if_ne (tgt := 72) hx hb dX3_meets_67 (by decide) (fun c_40 => absurd (by decide) c_40) (fun c_40 => ?_)
        refine lv_iconst (v := 0) hx hb dX3_meets_70 (by decide) ?_
        exact W.zret (v := 0) hx hb hr narrow_b0 (fun t ht hW => ⟨⟨0, ⟨glass_along, glass_whole, glass_xTimes, glass_yTimes⟩, rfl, (show (0 : Int32) = 0 ∨ (0 : Int32) = 1 by decide), gp_end ht hP hD⟩, hS.F ht⟩) hS.2.2 dX3_meets_71
      · have c_38 : ¬ 0 ≤ r_1 := fun z => c_38 (gp_lcT.2.2.2.2.mpr z)
        refine lv_lload hx hb dX3_meets_46 (lv_at hl 1 rfl) ?_
        refine lv_lconst (v := 0) hx hb dX3_meets_48 (by decide) ?_
        refine W.lcmp hx hb dX3_meets_49 ?_
        refine lv_if_ge (tgt := 57) hx hb dX3_meets_50 (by decide) (fun c_41 => ?_) (fun c_41 => ?_)
        · have c_41 : 0 ≤ r_3 := gp_lcT.2.2.2.2.mp c_41
          refine lv_iconst (v := 0) hx hb dX3_meets_57 (by decide) ?_
          refine lv_istore (lv' := [(14, .int 0), (13, .int 0), (11, .long r_3), (9, .long r_1), (0, .ref (xa 21)), (1, .long ex2), (3, .long ey2), (5, .long qx2), (7, .long qy2)]) hx hb dX3_meets_58 hl (by decide) rfl (fun ls hl => ?_)
          refine lv_iload hx hb dX3_meets_60 (lv_at hl 1 rfl) ?_
          refine lv_if_ne (tgt := 72) hx hb dX3_meets_62 (by decide) (fun c_42 => absurd (by decide) c_42) (fun c_42 => ?_)
          refine lv_iload hx hb dX3_meets_65 (lv_at hl 0 rfl) ?_
          refine lv_if_ne (tgt := 72) hx hb dX3_meets_67 (by decide) (fun c_43 => absurd (by decide) c_43) (fun c_43 => ?_)
          refine lv_iconst (v := 0) hx hb dX3_meets_70 (by decide) ?_
          exact W.zret (v := 0) hx hb hr narrow_b0 (fun t ht hW => ⟨⟨0, ⟨glass_along, glass_whole, glass_xTimes, glass_yTimes⟩, rfl, (show (0 : Int32) = 0 ∨ (0 : Int32) = 1 by decide), gp_end ht hP hD⟩, hS.F ht⟩) hS.2.2 dX3_meets_71
        · have c_41 : ¬ 0 ≤ r_3 := fun z => c_41 (gp_lcT.2.2.2.2.mpr z)
          refine lv_iconst (v := 1) hx hb dX3_meets_53 (by decide) ?_
          refine lv_goto (tgt := 58) hx hb dX3_meets_54 (by decide) ?_
          refine lv_istore (lv' := [(14, .int 1), (13, .int 0), (11, .long r_3), (9, .long r_1), (0, .ref (xa 21)), (1, .long ex2), (3, .long ey2), (5, .long qx2), (7, .long qy2)]) hx hb dX3_meets_58 hl (by decide) rfl (fun ls hl => ?_)
          refine lv_iload hx hb dX3_meets_60 (lv_at hl 1 rfl) ?_
          refine lv_if_ne (tgt := 72) hx hb dX3_meets_62 (by decide) (fun c_44 => absurd (by decide) c_44) (fun c_44 => ?_)
          refine lv_iload hx hb dX3_meets_65 (lv_at hl 0 rfl) ?_
          refine lv_if_ne (tgt := 72) hx hb dX3_meets_67 (by decide) (fun c_45 => ?_) (fun c_45 => absurd c_45 (by decide))
          exact cut72 0 1 H locs ls hP hD hS (lv_sub hl [0, 1, 2, 3, 4, 5, 6, 7, 8] rfl)
    · have c_37 : ¬ r_3 ≤ 0 := fun z => c_37 (gp_lcT.2.2.2.1.mpr z)
      refine lv_iconst (v := 1) hx hb dX3_meets_32 (by decide) ?_
      refine lv_goto (tgt := 37) hx hb dX3_meets_33 (by decide) ?_
      refine lv_istore (lv' := [(13, .int 1), (11, .long r_3), (9, .long r_1), (0, .ref (xa 21)), (1, .long ex2), (3, .long ey2), (5, .long qx2), (7, .long qy2)]) hx hb dX3_meets_37 hl (by decide) rfl (fun ls hl => ?_)
      refine lv_lload hx hb dX3_meets_39 (lv_at hl 2 rfl) ?_
      refine lv_lconst (v := 0) hx hb dX3_meets_41 (by decide) ?_
      refine W.lcmp hx hb dX3_meets_42 ?_
      refine lv_if_ge (tgt := 57) hx hb dX3_meets_43 (by decide) (fun c_46 => ?_) (fun c_46 => ?_)
      · have c_46 : 0 ≤ r_1 := gp_lcT.2.2.2.2.mp c_46
        refine lv_iconst (v := 0) hx hb dX3_meets_57 (by decide) ?_
        refine lv_istore (lv' := [(14, .int 0), (13, .int 1), (11, .long r_3), (9, .long r_1), (0, .ref (xa 21)), (1, .long ex2), (3, .long ey2), (5, .long qx2), (7, .long qy2)]) hx hb dX3_meets_58 hl (by decide) rfl (fun ls hl => ?_)
        refine lv_iload hx hb dX3_meets_60 (lv_at hl 1 rfl) ?_
        refine lv_if_ne (tgt := 72) hx hb dX3_meets_62 (by decide) (fun c_47 => ?_) (fun c_47 => absurd c_47 (by decide))
        exact cut72 1 0 H locs ls hP hD hS (lv_sub hl [0, 1, 2, 3, 4, 5, 6, 7, 8] rfl)
      · have c_46 : ¬ 0 ≤ r_1 := fun z => c_46 (gp_lcT.2.2.2.2.mpr z)
        refine lv_lload hx hb dX3_meets_46 (lv_at hl 1 rfl) ?_
        refine lv_lconst (v := 0) hx hb dX3_meets_48 (by decide) ?_
        refine W.lcmp hx hb dX3_meets_49 ?_
        refine lv_if_ge (tgt := 57) hx hb dX3_meets_50 (by decide) (fun c_48 => ?_) (fun c_48 => ?_)
        · have c_48 : 0 ≤ r_3 := gp_lcT.2.2.2.2.mp c_48
          refine lv_iconst (v := 0) hx hb dX3_meets_57 (by decide) ?_
          refine lv_istore (lv' := [(14, .int 0), (13, .int 1), (11, .long r_3), (9, .long r_1), (0, .ref (xa 21)), (1, .long ex2), (3, .long ey2), (5, .long qx2), (7, .long qy2)]) hx hb dX3_meets_58 hl (by decide) rfl (fun ls hl => ?_)
          refine lv_iload hx hb dX3_meets_60 (lv_at hl 1 rfl) ?_
          refine lv_if_ne (tgt := 72) hx hb dX3_meets_62 (by decide) (fun c_49 => ?_) (fun c_49 => absurd c_49 (by decide))
          exact cut72 1 0 H locs ls hP hD hS (lv_sub hl [0, 1, 2, 3, 4, 5, 6, 7, 8] rfl)
        · have c_48 : ¬ 0 ≤ r_3 := fun z => c_48 (gp_lcT.2.2.2.2.mpr z)
          refine lv_iconst (v := 1) hx hb dX3_meets_53 (by decide) ?_
          refine lv_goto (tgt := 58) hx hb dX3_meets_54 (by decide) ?_
          refine lv_istore (lv' := [(14, .int 1), (13, .int 1), (11, .long r_3), (9, .long r_1), (0, .ref (xa 21)), (1, .long ex2), (3, .long ey2), (5, .long qx2), (7, .long qy2)]) hx hb dX3_meets_58 hl (by decide) rfl (fun ls hl => ?_)
          refine lv_iload hx hb dX3_meets_60 (lv_at hl 1 rfl) ?_
          refine lv_if_ne (tgt := 72) hx hb dX3_meets_62 (by decide) (fun c_50 => ?_) (fun c_50 => absurd c_50 (by decide))
          exact cut72 1 1 H locs ls hP hD hS (lv_sub hl [0, 1, 2, 3, 4, 5, 6, 7, 8] rfl)

theorem lf_sX3_thousandth_1 (glass_whole : Int64) (c_1 : ¬ glass_whole ≤ 0) : ¬ glass_whole = 0 := by
  first | grind | (simp only [sp_in, sp_pl, sp_far, sp_two] at *; grind)
def v_sX3_thousandth : List Cond := .code yX3_thousandth cX3_thousandth 1 (some .int) :: (([.fieldLink RX3 70 "GhostPane$Glass" "whole" "J", .constantLong RX3 79 1000, .fieldLink RX3 67 "GhostPane$Glass" "along" "J"] : List Cond) ++ wsX30)
set_option maxHeartbeats 4000000 in
set_option maxRecDepth 100000 in
theorem sX3_thousandth (l : Launch) (D : va_G) (cy : Nat → ClassId) (sz : Nat) (xa : Nat → Nat) (glass_len : Int64) (glass_deep : Int32) (glass_ax2 : Int64) (glass_ay2 : Int64) (glass_cx : Int64) (glass_cy : Int64) (glass_along : Int64) (glass_whole : Int64) (glass_xTimes : Int64) (glass_yTimes : Int64) (glass_fromX2 : Int64) (glass_fromY2 : Int64) (glass_goX : Int64) (glass_goY : Int64) : Met l yX3_thousandth v_sX3_thousandth ({ frames := 0, cells := 0, slots := 0, locals := 0 } : Room) (va_Pc [.ref (xa 21)] (gp_B D cy sz [(o_glass xa glass_len glass_deep glass_ax2 glass_ay2 glass_cx glass_cy glass_along glass_whole glass_xTimes glass_yTimes glass_fromX2 glass_fromY2 glass_goX glass_goY)])) (va_Qi (fun (r : Int32) (u : Unit) => True) (fun u => gp_E D (va_A [(o_glass xa glass_len glass_deep glass_ax2 glass_ay2 glass_cx glass_cy glass_along glass_whole glass_xTimes glass_yTimes glass_fromX2 glass_fromY2 glass_goX glass_goY)] sz) [(o_glass xa glass_len glass_deep glass_ax2 glass_ay2 glass_cx glass_cy glass_along glass_whole glass_xTimes glass_yTimes glass_fromX2 glass_fromY2 glass_goX glass_goY)]) (va_A [(o_glass xa glass_len glass_deep glass_ax2 glass_ay2 glass_cx glass_cy glass_along glass_whole glass_xTimes glass_yTimes glass_fromX2 glass_fromY2 glass_goX glass_goY)] sz)) 0 0 (va_A [(o_glass xa glass_len glass_deep glass_ax2 glass_ay2 glass_cx glass_cy glass_along glass_whole glass_xTimes glass_yTimes glass_fromX2 glass_fromY2 glass_goX glass_goY)] sz) := by
  refine gp_met (Qc := fun A => va_Qi (fun (r : Int32) (u : Unit) => True) (fun u => gp_E D A [(o_glass xa glass_len glass_deep glass_ax2 glass_ay2 glass_cx glass_cy glass_along glass_whole glass_xTimes glass_yTimes glass_fromX2 glass_fromY2 glass_goX glass_goY)]) A) (cc := cX3_thousandth) (maxL := 1) (ret := (some .int)) (by decide) rfl (Nat.le_of_ble_eq_true rfl) ?_
  intro p e s m below meth c A ls H hx hb hml hr hlocks hts hown hin hK hN hS hP hD hA hl
  have hown : s.vm.findClass RX3 = some m.cls := hown
  have hl : lv_has ls 1 [(0, .ref (xa 21))] := hl
  have hiX3 : ∀ w ∈ u_ws RX3 TX3 16, w ∈ v_sX3_thousandth := fun _ h => List.mem_cons_of_mem _ (List.mem_append_right _ h)
  refine lv_aload_n hx hb dX3_thousandth_0 rfl (lv_at hl 0 rfl) ?_
  refine va_get (D := D) (ci := 3) (v := .long glass_whole) (C := RX3) (T := TX3) (N := 16) hx hb hts hiX3 hown hK hP 0 rfl rfl 9 (by decide) (hts (.fieldLink RX3 70 "GhostPane$Glass" "whole" "J") (List.mem_of_getElem? (i := 1) rfl)) (fun _ h9 => h9) rfl dX3_thousandth_1 ?_
  refine lv_lconst (v := 0) hx hb dX3_thousandth_4 (by decide) ?_
  refine W.lcmp hx hb dX3_thousandth_5 ?_
  refine lv_if_le (tgt := 26) hx hb dX3_thousandth_6 (by decide) (fun c_1 => ?_) (fun c_1 => ?_)
  · have c_1 : glass_whole ≤ 0 := gp_lcT.2.2.2.1.mp c_1
    refine lv_iconst (v := (-1)) hx hb dX3_thousandth_26 (by decide) ?_
    exact W.iret (v := (-1)) hx hb hr (fun t ht hW => ⟨⟨(-1), (), rfl, trivial, gp_end ht hP hD⟩, hS.F ht⟩) hS.2.2 dX3_thousandth_27
  · have c_1 : ¬ glass_whole ≤ 0 := fun z => c_1 (gp_lcT.2.2.2.1.mpr z)
    refine lv_ldc2 (v := 1000) hx hb hown (hts (.constantLong RX3 79 1000) (List.mem_of_getElem? (i := 2) rfl)) dX3_thousandth_9 ?_
    refine lv_aload_n hx hb dX3_thousandth_12 rfl (lv_at hl 0 rfl) ?_
    refine va_get (D := D) (ci := 3) (v := .long glass_along) (C := RX3) (T := TX3) (N := 16) hx hb hts hiX3 hown hK hP 0 rfl rfl 8 (by decide) (hts (.fieldLink RX3 67 "GhostPane$Glass" "along" "J") (List.mem_of_getElem? (i := 3) rfl)) (fun _ h9 => h9) rfl dX3_thousandth_13 ?_
    refine lv_lmul hx hb dX3_thousandth_16 ?_
    refine gp_fl (fun y_2 => ?_)
    refine lv_aload_n hx hb dX3_thousandth_17 rfl (lv_at hl 0 rfl) ?_
    refine va_get (D := D) (ci := 3) (v := .long glass_whole) (C := RX3) (T := TX3) (N := 16) hx hb hts hiX3 hown hK hP 0 rfl rfl 9 (by decide) (hts (.fieldLink RX3 70 "GhostPane$Glass" "whole" "J") (List.mem_of_getElem? (i := 1) rfl)) (fun _ h9 => h9) rfl dX3_thousandth_18 ?_
    refine lv_ldiv hx hb dX3_thousandth_21 (lf_sX3_thousandth_1 glass_whole c_1) ?_
    refine gp_fl (fun y_3 => ?_)
    refine lv_l2i (v := y_3.toInt32) hx hb dX3_thousandth_22 rfl ?_
    refine gp_fi (fun y_4 => ?_)
    refine lv_goto (tgt := 27) hx hb dX3_thousandth_23 (by decide) ?_
    exact W.iret (v := y_4) hx hb hr (fun t ht hW => ⟨⟨y_4, (), rfl, trivial, gp_end ht hP hD⟩, hS.F ht⟩) hS.2.2 dX3_thousandth_27

def v_sX3_look : List Cond := .code yX3_look cX3_look 5 none :: (([.fieldLink RX3 97 "GhostPane$Glass" "fromX2" "J", .fieldLink RX3 100 "GhostPane$Glass" "fromY2" "J", .fieldLink RX3 73 "GhostPane$Glass" "xTimes" "J", .fieldLink RX3 70 "GhostPane$Glass" "whole" "J", .fieldLink RX3 103 "GhostPane$Glass" "goX" "J", .fieldLink RX3 76 "GhostPane$Glass" "yTimes" "J", .fieldLink RX3 106 "GhostPane$Glass" "goY" "J"] : List Cond) ++ wsX30)
set_option maxHeartbeats 4000000 in
set_option maxRecDepth 100000 in
theorem sX3_look (l : Launch) (D : va_G) (cy : Nat → ClassId) (sz : Nat) (xa : Nat → Nat) (glass_len : Int64) (glass_deep : Int32) (glass_ax2 : Int64) (glass_ay2 : Int64) (glass_cx : Int64) (glass_cy : Int64) (glass_along : Int64) (glass_whole : Int64) (glass_xTimes : Int64) (glass_yTimes : Int64) (glass_fromX2 : Int64) (glass_fromY2 : Int64) (glass_goX : Int64) (glass_goY : Int64) (x2 : Int64) (y2 : Int64) : Met l yX3_look v_sX3_look ({ frames := 0, cells := 0, slots := 0, locals := 0 } : Room) (va_Pc [.ref (xa 21), .long x2, .long y2] (gp_B D cy sz [(o_glass xa glass_len glass_deep glass_ax2 glass_ay2 glass_cx glass_cy glass_along glass_whole glass_xTimes glass_yTimes glass_fromX2 glass_fromY2 glass_goX glass_goY)])) (va_Qv (fun (u : (Int64) × (Int64) × (Int64) × (Int64)) => True) (fun u => gp_E D (va_A [(o_glass xa glass_len glass_deep glass_ax2 glass_ay2 glass_cx glass_cy glass_along glass_whole glass_xTimes glass_yTimes glass_fromX2 glass_fromY2 glass_goX glass_goY)] sz) [(o_glass xa glass_len glass_deep glass_ax2 glass_ay2 glass_cx glass_cy glass_along glass_whole glass_xTimes glass_yTimes u.1 u.2.1 u.2.2.1 u.2.2.2)]) (va_A [(o_glass xa glass_len glass_deep glass_ax2 glass_ay2 glass_cx glass_cy glass_along glass_whole glass_xTimes glass_yTimes glass_fromX2 glass_fromY2 glass_goX glass_goY)] sz)) 0 0 (va_A [(o_glass xa glass_len glass_deep glass_ax2 glass_ay2 glass_cx glass_cy glass_along glass_whole glass_xTimes glass_yTimes glass_fromX2 glass_fromY2 glass_goX glass_goY)] sz) := by
  refine gp_met (Qc := fun A => va_Qv (fun (u : (Int64) × (Int64) × (Int64) × (Int64)) => True) (fun u => gp_E D A [(o_glass xa glass_len glass_deep glass_ax2 glass_ay2 glass_cx glass_cy glass_along glass_whole glass_xTimes glass_yTimes u.1 u.2.1 u.2.2.1 u.2.2.2)]) A) (cc := cX3_look) (maxL := 5) (ret := none) (by decide) rfl (Nat.le_of_ble_eq_true rfl) ?_
  intro p e s m below meth c A ls H hx hb hml hr hlocks hts hown hin hK hN hS hP hD hA hl
  have hown : s.vm.findClass RX3 = some m.cls := hown
  have hl : lv_has ls 5 [(0, .ref (xa 21)), (1, .long x2), (3, .long y2)] := hl
  have hiX3 : ∀ w ∈ u_ws RX3 TX3 16, w ∈ v_sX3_look := fun _ h => List.mem_cons_of_mem _ (List.mem_append_right _ h)
  refine lv_aload_n hx hb dX3_look_0 rfl (lv_at hl 0 rfl) ?_
  refine lv_lload_n hx hb dX3_look_1 rfl (lv_at hl 1 rfl) ?_
  refine va_put (D := D) (ci := 3) (v := .long x2) (ty := .long) (C := RX3) (T := TX3) (N := 16) hx hb hts hiX3 tyX3 tyX3_ok nmX3 hown hK hP hD hS 0 rfl rfl 12 (by decide) (hts (.fieldLink RX3 97 "GhostPane$Glass" "fromX2" "J") (List.mem_of_getElem? (i := 1) rfl)) (fun _ h9 => h9) rfl (by decide +kernel) rfl rfl (Nat.le_of_ble_eq_true rfl) dX3_look_2 (fun H locs hP hD hS => ?_)
  have hP : va_P D vwCl [(o_glass xa glass_len glass_deep glass_ax2 glass_ay2 glass_cx glass_cy glass_along glass_whole glass_xTimes glass_yTimes x2 glass_fromY2 glass_goX glass_goY)] H := hP
  have hD := gp_sD hP hD
  refine lv_aload_n hx hb dX3_look_5 rfl (lv_at hl 0 rfl) ?_
  refine lv_lload_n hx hb dX3_look_6 rfl (lv_at hl 2 rfl) ?_
  refine va_put (D := D) (ci := 3) (v := .long y2) (ty := .long) (C := RX3) (T := TX3) (N := 16) hx hb hts hiX3 tyX3 tyX3_ok nmX3 hown hK hP hD hS 0 rfl rfl 13 (by decide) (hts (.fieldLink RX3 100 "GhostPane$Glass" "fromY2" "J") (List.mem_of_getElem? (i := 2) rfl)) (fun _ h9 => h9) rfl (by decide +kernel) rfl rfl (Nat.le_of_ble_eq_true rfl) dX3_look_7 (fun H locs hP hD hS => ?_)
  have hP : va_P D vwCl [(o_glass xa glass_len glass_deep glass_ax2 glass_ay2 glass_cx glass_cy glass_along glass_whole glass_xTimes glass_yTimes x2 y2 glass_goX glass_goY)] H := hP
  have hD := gp_sD hP hD
  refine lv_aload_n hx hb dX3_look_10 rfl (lv_at hl 0 rfl) ?_
  refine lv_aload_n hx hb dX3_look_11 rfl (lv_at hl 0 rfl) ?_
  refine va_get (D := D) (ci := 3) (v := .long glass_xTimes) (C := RX3) (T := TX3) (N := 16) hx hb hts hiX3 hown hK hP 0 rfl rfl 10 (by decide) (hts (.fieldLink RX3 73 "GhostPane$Glass" "xTimes" "J") (List.mem_of_getElem? (i := 3) rfl)) (fun _ h9 => h9) rfl dX3_look_12 ?_
  refine lv_lload_n hx hb dX3_look_15 rfl (lv_at hl 1 rfl) ?_
  refine lv_aload_n hx hb dX3_look_16 rfl (lv_at hl 0 rfl) ?_
  refine va_get (D := D) (ci := 3) (v := .long glass_whole) (C := RX3) (T := TX3) (N := 16) hx hb hts hiX3 hown hK hP 0 rfl rfl 9 (by decide) (hts (.fieldLink RX3 70 "GhostPane$Glass" "whole" "J") (List.mem_of_getElem? (i := 4) rfl)) (fun _ h9 => h9) rfl dX3_look_17 ?_
  refine lv_lmul hx hb dX3_look_20 ?_
  refine gp_fl (fun y_1 => ?_)
  refine lv_lsub hx hb dX3_look_21 ?_
  refine gp_fl (fun y_2 => ?_)
  refine va_put (D := D) (ci := 3) (v := .long y_2) (ty := .long) (C := RX3) (T := TX3) (N := 16) hx hb hts hiX3 tyX3 tyX3_ok nmX3 hown hK hP hD hS 0 rfl rfl 14 (by decide) (hts (.fieldLink RX3 103 "GhostPane$Glass" "goX" "J") (List.mem_of_getElem? (i := 5) rfl)) (fun _ h9 => h9) rfl (by decide +kernel) rfl rfl (Nat.le_of_ble_eq_true rfl) dX3_look_22 (fun H locs hP hD hS => ?_)
  have hP : va_P D vwCl [(o_glass xa glass_len glass_deep glass_ax2 glass_ay2 glass_cx glass_cy glass_along glass_whole glass_xTimes glass_yTimes x2 y2 y_2 glass_goY)] H := hP
  have hD := gp_sD hP hD
  refine lv_aload_n hx hb dX3_look_25 rfl (lv_at hl 0 rfl) ?_
  refine lv_aload_n hx hb dX3_look_26 rfl (lv_at hl 0 rfl) ?_
  refine va_get (D := D) (ci := 3) (v := .long glass_yTimes) (C := RX3) (T := TX3) (N := 16) hx hb hts hiX3 hown hK hP 0 rfl rfl 11 (by decide) (hts (.fieldLink RX3 76 "GhostPane$Glass" "yTimes" "J") (List.mem_of_getElem? (i := 6) rfl)) (fun _ h9 => h9) rfl dX3_look_27 ?_
  refine lv_lload_n hx hb dX3_look_30 rfl (lv_at hl 2 rfl) ?_
  refine lv_aload_n hx hb dX3_look_31 rfl (lv_at hl 0 rfl) ?_
  refine va_get (D := D) (ci := 3) (v := .long glass_whole) (C := RX3) (T := TX3) (N := 16) hx hb hts hiX3 hown hK hP 0 rfl rfl 9 (by decide) (hts (.fieldLink RX3 70 "GhostPane$Glass" "whole" "J") (List.mem_of_getElem? (i := 4) rfl)) (fun _ h9 => h9) rfl dX3_look_32 ?_
  refine lv_lmul hx hb dX3_look_35 ?_
  refine gp_fl (fun y_3 => ?_)
  refine lv_lsub hx hb dX3_look_36 ?_
  refine gp_fl (fun y_4 => ?_)
  refine va_put (D := D) (ci := 3) (v := .long y_4) (ty := .long) (C := RX3) (T := TX3) (N := 16) hx hb hts hiX3 tyX3 tyX3_ok nmX3 hown hK hP hD hS 0 rfl rfl 15 (by decide) (hts (.fieldLink RX3 106 "GhostPane$Glass" "goY" "J") (List.mem_of_getElem? (i := 7) rfl)) (fun _ h9 => h9) rfl (by decide +kernel) rfl rfl (Nat.le_of_ble_eq_true rfl) dX3_look_37 (fun H locs hP hD hS => ?_)
  have hP : va_P D vwCl [(o_glass xa glass_len glass_deep glass_ax2 glass_ay2 glass_cx glass_cy glass_along glass_whole glass_xTimes glass_yTimes x2 y2 y_2 y_4)] H := hP
  have hD := gp_sD hP hD
  exact W.vret hx hb hr (fun t ht hW => ⟨⟨⟨x2, y2, y_2, y_4⟩, rfl, trivial, gp_end ht hP hD⟩, hS.F ht⟩) hS.2.2 dX3_look_40

def v_sX3_overlaps : List Cond := .code yX3_overlaps cX3_overlaps 11 (some .boolean) :: (([.fieldLink RX3 70 "GhostPane$Glass" "whole" "J"] : List Cond) ++ wsX30)
set_option maxHeartbeats 4000000 in
set_option maxRecDepth 100000 in
theorem sX3_overlaps (l : Launch) (D : va_G) (cy : Nat → ClassId) (sz : Nat) (xa : Nat → Nat) (glass_len : Int64) (glass_deep : Int32) (glass_ax2 : Int64) (glass_ay2 : Int64) (glass_cx : Int64) (glass_cy : Int64) (glass_along : Int64) (glass_whole : Int64) (glass_xTimes : Int64) (glass_yTimes : Int64) (glass_fromX2 : Int64) (glass_fromY2 : Int64) (glass_goX : Int64) (glass_goY : Int64) (one : Int64) (other : Int64) (go : Int64) : Met l yX3_overlaps v_sX3_overlaps ({ frames := 0, cells := 0, slots := 0, locals := 0 } : Room) (va_Pc [.ref (xa 21), .long one, .long other, .long go] (gp_B D cy sz [(o_glass xa glass_len glass_deep glass_ax2 glass_ay2 glass_cx glass_cy glass_along glass_whole glass_xTimes glass_yTimes glass_fromX2 glass_fromY2 glass_goX glass_goY)])) (va_Qi (fun (r : Int32) (u : Unit) => (r = 0 ∨ r = 1)) (fun u => gp_E D (va_A [(o_glass xa glass_len glass_deep glass_ax2 glass_ay2 glass_cx glass_cy glass_along glass_whole glass_xTimes glass_yTimes glass_fromX2 glass_fromY2 glass_goX glass_goY)] sz) [(o_glass xa glass_len glass_deep glass_ax2 glass_ay2 glass_cx glass_cy glass_along glass_whole glass_xTimes glass_yTimes glass_fromX2 glass_fromY2 glass_goX glass_goY)]) (va_A [(o_glass xa glass_len glass_deep glass_ax2 glass_ay2 glass_cx glass_cy glass_along glass_whole glass_xTimes glass_yTimes glass_fromX2 glass_fromY2 glass_goX glass_goY)] sz)) 0 0 (va_A [(o_glass xa glass_len glass_deep glass_ax2 glass_ay2 glass_cx glass_cy glass_along glass_whole glass_xTimes glass_yTimes glass_fromX2 glass_fromY2 glass_goX glass_goY)] sz) := by
  refine gp_met (Qc := fun A => va_Qi (fun (r : Int32) (u : Unit) => (r = 0 ∨ r = 1)) (fun u => gp_E D A [(o_glass xa glass_len glass_deep glass_ax2 glass_ay2 glass_cx glass_cy glass_along glass_whole glass_xTimes glass_yTimes glass_fromX2 glass_fromY2 glass_goX glass_goY)]) A) (cc := cX3_overlaps) (maxL := 11) (ret := (some .boolean)) (by decide) rfl (Nat.le_of_ble_eq_true rfl) ?_
  intro p e s m below meth c A ls H hx hb hml hr hlocks hts hown hin hK hN hS hP hD hA hl
  have hown : s.vm.findClass RX3 = some m.cls := hown
  have hl : lv_has ls 11 [(0, .ref (xa 21)), (1, .long one), (3, .long other), (5, .long go)] := hl
  have hiX3 : ∀ w ∈ u_ws RX3 TX3 16, w ∈ v_sX3_overlaps := fun _ h => List.mem_cons_of_mem _ (List.mem_append_right _ h)
  have cut11 : ∀ (lo : Int64) (H : Heap) (locs : List Loc) (ls : Array Slot), va_P D vwCl [(o_glass xa glass_len glass_deep glass_ax2 glass_ay2 glass_cx glass_cy glass_along glass_whole glass_xTimes glass_yTimes glass_fromX2 glass_fromY2 glass_goX glass_goY)] H → va_D A [(o_glass xa glass_len glass_deep glass_ax2 glass_ay2 glass_cx glass_cy glass_along glass_whole glass_xTimes glass_yTimes glass_fromX2 glass_fromY2 glass_goX glass_goY)] → va_S A s.heap H locs → lv_has ls 11 [(0, .ref (xa 21)), (1, .long one), (3, .long other), (5, .long go)] → W p l e (headSpec v_sX3_overlaps (({ frames := 0, cells := 0, slots := 0, locals := 0 } : Room))).room s m [.ref (xa 21), .long one, .long other, .long go].toArray below meth c H locs 0 0 (MQ below (va_Qi (fun (r : Int32) (u : Unit) => (r = 0 ∨ r = 1)) (fun u => gp_E D A [(o_glass xa glass_len glass_deep glass_ax2 glass_ay2 glass_cx glass_cy glass_along glass_whole glass_xTimes glass_yTimes glass_fromX2 glass_fromY2 glass_goX glass_goY)]) A) [.ref (xa 21), .long one, .long other, .long go].toArray s 0 0 A) (F0 m 11 ls [.long lo]) := by
    intro lo H locs ls  hP hD hS hl
    refine lv_lstore (lv' := [(7, .long lo), (0, .ref (xa 21)), (1, .long one), (3, .long other), (5, .long go)]) hx hb dX3_overlaps_11 hl (by decide) rfl (fun ls hl => ?_)
    have cut24 : ∀ (hi0 : Int64) (H : Heap) (locs : List Loc) (ls : Array Slot), va_P D vwCl [(o_glass xa glass_len glass_deep glass_ax2 glass_ay2 glass_cx glass_cy glass_along glass_whole glass_xTimes glass_yTimes glass_fromX2 glass_fromY2 glass_goX glass_goY)] H → va_D A [(o_glass xa glass_len glass_deep glass_ax2 glass_ay2 glass_cx glass_cy glass_along glass_whole glass_xTimes glass_yTimes glass_fromX2 glass_fromY2 glass_goX glass_goY)] → va_S A s.heap H locs → lv_has ls 11 [(7, .long lo), (0, .ref (xa 21)), (1, .long one), (3, .long other), (5, .long go)] → W p l e (headSpec v_sX3_overlaps (({ frames := 0, cells := 0, slots := 0, locals := 0 } : Room))).room s m [.ref (xa 21), .long one, .long other, .long go].toArray below meth c H locs 0 0 (MQ below (va_Qi (fun (r : Int32) (u : Unit) => (r = 0 ∨ r = 1)) (fun u => gp_E D A [(o_glass xa glass_len glass_deep glass_ax2 glass_ay2 glass_cx glass_cy glass_along glass_whole glass_xTimes glass_yTimes glass_fromX2 glass_fromY2 glass_goX glass_goY)]) A) [.ref (xa 21), .long one, .long other, .long go].toArray s 0 0 A) (F0 m 24 ls [.long hi0]) := by
      intro hi0 H locs ls  hP hD hS hl
      refine lv_lstore (lv' := [(9, .long hi0), (7, .long lo), (0, .ref (xa 21)), (1, .long one), (3, .long other), (5, .long go)]) hx hb dX3_overlaps_24 hl (by decide) rfl (fun ls hl => ?_)
      refine lv_lload hx hb dX3_overlaps_26 (lv_at hl 5 rfl) ?_
      refine lv_lconst (v := 0) hx hb dX3_overlaps_28 (by decide) ?_
      refine W.lcmp hx hb dX3_overlaps_29 ?_
      refine lv_if_le (tgt := 59) hx hb dX3_overlaps_30 (by decide) (fun c_1 => ?_) (fun c_1 => ?_)
      · have c_1 : go ≤ 0 := gp_lcT.2.2.2.1.mp c_1
        refine lv_lload hx hb dX3_overlaps_59 (lv_at hl 1 rfl) ?_
        refine lv_lconst (v := 0) hx hb dX3_overlaps_61 (by decide) ?_
        refine W.lcmp hx hb dX3_overlaps_62 ?_
        refine lv_if_ge (tgt := 83) hx hb dX3_overlaps_63 (by decide) (fun c_2 => ?_) (fun c_2 => ?_)
        · have c_2 : 0 ≤ lo := gp_lcT.2.2.2.2.mp c_2
          refine lv_iconst (v := 0) hx hb dX3_overlaps_83 (by decide) ?_
          exact W.zret (v := 0) hx hb hr narrow_b0 (fun t ht hW => ⟨⟨0, (), rfl, (show (0 : Int32) = 0 ∨ (0 : Int32) = 1 by decide), gp_end ht hP hD⟩, hS.F ht⟩) hS.2.2 dX3_overlaps_84
        · have c_2 : ¬ 0 ≤ lo := fun z => c_2 (gp_lcT.2.2.2.2.mpr z)
          refine lv_lload hx hb dX3_overlaps_66 (lv_at hl 0 rfl) ?_
          refine lv_aload_n hx hb dX3_overlaps_68 rfl (lv_at hl 2 rfl) ?_
          refine va_get (D := D) (ci := 3) (v := .long glass_whole) (C := RX3) (T := TX3) (N := 16) hx hb hts hiX3 hown hK hP 0 rfl rfl 9 (by decide) (hts (.fieldLink RX3 70 "GhostPane$Glass" "whole" "J") (List.mem_of_getElem? (i := 1) rfl)) (fun _ h9 => h9) rfl dX3_overlaps_69 ?_
          refine lv_lmul hx hb dX3_overlaps_72 ?_
          refine gp_fl (fun y_3 => ?_)
          refine lv_lload hx hb dX3_overlaps_73 (lv_at hl 5 rfl) ?_
          refine W.lcmp hx hb dX3_overlaps_75 ?_
          refine lv_if_le (tgt := 83) hx hb dX3_overlaps_76 (by decide) (fun c_4 => ?_) (fun c_4 => ?_)
          · have c_4 : y_3 ≤ go := gp_lcT.2.2.2.1.mp c_4
            refine lv_iconst (v := 0) hx hb dX3_overlaps_83 (by decide) ?_
            exact W.zret (v := 0) hx hb hr narrow_b0 (fun t ht hW => ⟨⟨0, (), rfl, (show (0 : Int32) = 0 ∨ (0 : Int32) = 1 by decide), gp_end ht hP hD⟩, hS.F ht⟩) hS.2.2 dX3_overlaps_84
          · have c_4 : ¬ y_3 ≤ go := fun z => c_4 (gp_lcT.2.2.2.1.mpr z)
            refine lv_iconst (v := 1) hx hb dX3_overlaps_79 (by decide) ?_
            refine lv_goto (tgt := 84) hx hb dX3_overlaps_80 (by decide) ?_
            exact W.zret (v := 1) hx hb hr narrow_b1 (fun t ht hW => ⟨⟨1, (), rfl, (show (1 : Int32) = 0 ∨ (1 : Int32) = 1 by decide), gp_end ht hP hD⟩, hS.F ht⟩) hS.2.2 dX3_overlaps_84
      · have c_1 : ¬ go ≤ 0 := fun z => c_1 (gp_lcT.2.2.2.1.mpr z)
        refine lv_lload hx hb dX3_overlaps_33 (lv_at hl 0 rfl) ?_
        refine lv_lconst (v := 0) hx hb dX3_overlaps_35 (by decide) ?_
        refine W.lcmp hx hb dX3_overlaps_36 ?_
        refine lv_if_le (tgt := 57) hx hb dX3_overlaps_37 (by decide) (fun c_5 => ?_) (fun c_5 => ?_)
        · have c_5 : hi0 ≤ 0 := gp_lcT.2.2.2.1.mp c_5
          refine lv_iconst (v := 0) hx hb dX3_overlaps_57 (by decide) ?_
          exact W.zret (v := 0) hx hb hr narrow_b0 (fun t ht hW => ⟨⟨0, (), rfl, (show (0 : Int32) = 0 ∨ (0 : Int32) = 1 by decide), gp_end ht hP hD⟩, hS.F ht⟩) hS.2.2 dX3_overlaps_58
        · have c_5 : ¬ hi0 ≤ 0 := fun z => c_5 (gp_lcT.2.2.2.1.mpr z)
          refine lv_lload hx hb dX3_overlaps_40 (lv_at hl 1 rfl) ?_
          refine lv_aload_n hx hb dX3_overlaps_42 rfl (lv_at hl 2 rfl) ?_
          refine va_get (D := D) (ci := 3) (v := .long glass_whole) (C := RX3) (T := TX3) (N := 16) hx hb hts hiX3 hown hK hP 0 rfl rfl 9 (by decide) (hts (.fieldLink RX3 70 "GhostPane$Glass" "whole" "J") (List.mem_of_getElem? (i := 1) rfl)) (fun _ h9 => h9) rfl dX3_overlaps_43 ?_
          refine lv_lmul hx hb dX3_overlaps_46 ?_
          refine gp_fl (fun y_6 => ?_)
          refine lv_lload hx hb dX3_overlaps_47 (lv_at hl 5 rfl) ?_
          refine W.lcmp hx hb dX3_overlaps_49 ?_
          refine lv_if_ge (tgt := 57) hx hb dX3_overlaps_50 (by decide) (fun c_7 => ?_) (fun c_7 => ?_)
          · have c_7 : go ≤ y_6 := gp_lcT.2.2.2.2.mp c_7
            refine lv_iconst (v := 0) hx hb dX3_overlaps_57 (by decide) ?_
            exact W.zret (v := 0) hx hb hr narrow_b0 (fun t ht hW => ⟨⟨0, (), rfl, (show (0 : Int32) = 0 ∨ (0 : Int32) = 1 by decide), gp_end ht hP hD⟩, hS.F ht⟩) hS.2.2 dX3_overlaps_58
          · have c_7 : ¬ go ≤ y_6 := fun z => c_7 (gp_lcT.2.2.2.2.mpr z)
            refine lv_iconst (v := 1) hx hb dX3_overlaps_53 (by decide) ?_
            refine lv_goto (tgt := 58) hx hb dX3_overlaps_54 (by decide) ?_
            exact W.zret (v := 1) hx hb hr narrow_b1 (fun t ht hW => ⟨⟨1, (), rfl, (show (1 : Int32) = 0 ∨ (1 : Int32) = 1 by decide), gp_end ht hP hD⟩, hS.F ht⟩) hS.2.2 dX3_overlaps_58
    refine lv_lload_n hx hb dX3_overlaps_13 rfl (lv_at hl 2 rfl) ?_
    refine lv_lload_n hx hb dX3_overlaps_14 rfl (lv_at hl 3 rfl) ?_
    refine W.lcmp hx hb dX3_overlaps_15 ?_
    refine lv_if_ge (tgt := 23) hx hb dX3_overlaps_16 (by decide) (fun c_8 => ?_) (fun c_8 => ?_)
    · have c_8 : other ≤ one := gp_lcT.2.2.2.2.mp c_8
      refine lv_lload_n hx hb dX3_overlaps_23 rfl (lv_at hl 2 rfl) ?_
      exact cut24 one H locs ls hP hD hS (lv_sub hl [0, 1, 2, 3, 4] rfl)
    · have c_8 : ¬ other ≤ one := fun z => c_8 (gp_lcT.2.2.2.2.mpr z)
      refine lv_lload_n hx hb dX3_overlaps_19 rfl (lv_at hl 3 rfl) ?_
      refine lv_goto (tgt := 24) hx hb dX3_overlaps_20 (by decide) ?_
      exact cut24 other H locs ls hP hD hS (lv_sub hl [0, 1, 2, 3, 4] rfl)
  refine lv_lload_n hx hb dX3_overlaps_0 rfl (lv_at hl 1 rfl) ?_
  refine lv_lload_n hx hb dX3_overlaps_1 rfl (lv_at hl 2 rfl) ?_
  refine W.lcmp hx hb dX3_overlaps_2 ?_
  refine lv_if_ge (tgt := 10) hx hb dX3_overlaps_3 (by decide) (fun c_9 => ?_) (fun c_9 => ?_)
  · have c_9 : other ≤ one := gp_lcT.2.2.2.2.mp c_9
    refine lv_lload_n hx hb dX3_overlaps_10 rfl (lv_at hl 2 rfl) ?_
    exact cut11 other H [] ls hP hD hS (lv_sub hl [0, 1, 2, 3] rfl)
  · have c_9 : ¬ other ≤ one := fun z => c_9 (gp_lcT.2.2.2.2.mpr z)
    refine lv_lload_n hx hb dX3_overlaps_6 rfl (lv_at hl 1 rfl) ?_
    refine lv_goto (tgt := 11) hx hb dX3_overlaps_7 (by decide) ?_
    exact cut11 one H [] ls hP hD hS (lv_sub hl [0, 1, 2, 3] rfl)

def v_sX3_isInWay : List Cond := .code yX3_isInWay cX3_isInWay 18 (some .boolean) :: (([.fieldLink RX3 97 "GhostPane$Glass" "fromX2" "J", .fieldLink RX3 100 "GhostPane$Glass" "fromY2" "J", .fieldLink RX3 103 "GhostPane$Glass" "goX" "J", .fieldLink RX3 106 "GhostPane$Glass" "goY" "J", .fieldLink RX3 70 "GhostPane$Glass" "whole" "J", .code yX3_overlaps cX3_overlaps 11 (some .boolean), .methodLink RX3 109 yX3_overlaps, .instanceMethod yX3_overlaps, .selects RX3 yX3_overlaps yX3_overlaps, .initialized RX3] : List Cond) ++ wsX30)
set_option maxRecDepth 20000 in
theorem gg_sX3_isInWay_sX3_overlaps : GoodIn v_sX3_isInWay v_sX3_overlaps := goodIn_ca (goodIn_r (.code yX3_overlaps cX3_overlaps 11 (some .boolean) :: [.fieldLink RX3 70 "GhostPane$Glass" "whole" "J"]) [6, 5] (by first | rfl | decide +kernel) (by decide +kernel)) (goodIn_sub (fun _ h => List.mem_cons_of_mem _ (List.mem_append_right _ h)) gwX3)
set_option maxRecDepth 20000 in
theorem g_sX3_isInWay_sX3_overlaps_0 : GoodIn v_sX3_isInWay (wsV RX3 109 RX3 yX3_overlaps v_sX3_overlaps) := goodIn_app (goodIn_r [.methodLink RX3 109 yX3_overlaps, .instanceMethod yX3_overlaps, .selects RX3 yX3_overlaps yX3_overlaps, .initialized RX3] [7, 8, 9, 10] rfl (by decide +kernel)) gg_sX3_isInWay_sX3_overlaps
set_option maxHeartbeats 4000000 in
set_option maxRecDepth 100000 in
theorem sX3_isInWay (l : Launch) (D : va_G) (cy : Nat → ClassId) (sz : Nat) (xa : Nat → Nat) (glass_len : Int64) (glass_deep : Int32) (glass_ax2 : Int64) (glass_ay2 : Int64) (glass_cx : Int64) (glass_cy : Int64) (glass_along : Int64) (glass_whole : Int64) (glass_xTimes : Int64) (glass_yTimes : Int64) (glass_fromX2 : Int64) (glass_fromY2 : Int64) (glass_goX : Int64) (glass_goY : Int64) (rf : Nat → Int64) (ra : Nat) : Met l yX3_isInWay v_sX3_isInWay ({ frames := 1, cells := 0, slots := 0, locals := 30 } : Room) (va_Pc [.ref (xa 21), .ref ra] (gp_B D cy sz [(o_glass xa glass_len glass_deep glass_ax2 glass_ay2 glass_cx glass_cy glass_along glass_whole glass_xTimes glass_yTimes glass_fromX2 glass_fromY2 glass_goX glass_goY), (aJ ra (cy 2) 4 rf)])) (va_Qi (fun (r : Int32) (u : Unit) => (r = 0 ∨ r = 1)) (fun u => gp_E D (va_A [(o_glass xa glass_len glass_deep glass_ax2 glass_ay2 glass_cx glass_cy glass_along glass_whole glass_xTimes glass_yTimes glass_fromX2 glass_fromY2 glass_goX glass_goY), (aJ ra (cy 2) 4 rf)] sz) [(o_glass xa glass_len glass_deep glass_ax2 glass_ay2 glass_cx glass_cy glass_along glass_whole glass_xTimes glass_yTimes glass_fromX2 glass_fromY2 glass_goX glass_goY), (aJ ra (cy 2) 4 rf)]) (va_A [(o_glass xa glass_len glass_deep glass_ax2 glass_ay2 glass_cx glass_cy glass_along glass_whole glass_xTimes glass_yTimes glass_fromX2 glass_fromY2 glass_goX glass_goY), (aJ ra (cy 2) 4 rf)] sz)) 0 0 (va_A [(o_glass xa glass_len glass_deep glass_ax2 glass_ay2 glass_cx glass_cy glass_along glass_whole glass_xTimes glass_yTimes glass_fromX2 glass_fromY2 glass_goX glass_goY), (aJ ra (cy 2) 4 rf)] sz) := by
  refine gp_met (Qc := fun A => va_Qi (fun (r : Int32) (u : Unit) => (r = 0 ∨ r = 1)) (fun u => gp_E D A [(o_glass xa glass_len glass_deep glass_ax2 glass_ay2 glass_cx glass_cy glass_along glass_whole glass_xTimes glass_yTimes glass_fromX2 glass_fromY2 glass_goX glass_goY), (aJ ra (cy 2) 4 rf)]) A) (cc := cX3_isInWay) (maxL := 18) (ret := (some .boolean)) (by decide) rfl (Nat.le_of_ble_eq_true rfl) ?_
  intro p e s m below meth c A ls H hx hb hml hr hlocks hts hown hin hK hN hS hP hD hA hl
  have hown : s.vm.findClass RX3 = some m.cls := hown
  have hl : lv_has ls 18 [(0, .ref (xa 21)), (1, .ref ra)] := hl
  have hiX3 : ∀ w ∈ u_ws RX3 TX3 16, w ∈ v_sX3_isInWay := fun _ h => List.mem_cons_of_mem _ (List.mem_append_right _ h)
  refine lv_aload_n hx hb dX3_isInWay_0 rfl (lv_at hl 1 rfl) ?_
  refine lv_iconst (v := 0) hx hb dX3_isInWay_1 (by decide) ?_
  refine va_lald hx hb hK hP 1 2 rfl rfl (by unfold vp_in; decide) dX3_isInWay_2 ?_
  refine gp_fl (fun y_1 => ?_)
  refine lv_aload_n hx hb dX3_isInWay_3 rfl (lv_at hl 0 rfl) ?_
  refine va_get (D := D) (ci := 3) (v := .long glass_fromX2) (C := RX3) (T := TX3) (N := 16) hx hb hts hiX3 hown hK hP 0 rfl rfl 12 (by decide) (hts (.fieldLink RX3 97 "GhostPane$Glass" "fromX2" "J") (List.mem_of_getElem? (i := 1) rfl)) (fun _ h9 => h9) rfl dX3_isInWay_4 ?_
  refine lv_lsub hx hb dX3_isInWay_7 ?_
  refine gp_fl (fun y_2 => ?_)
  refine lv_lstore_n (lv' := [(2, .long y_2), (0, .ref (xa 21)), (1, .ref ra)]) hx hb dX3_isInWay_8 rfl hl (by decide) rfl (fun ls hl => ?_)
  refine lv_aload_n hx hb dX3_isInWay_9 rfl (lv_at hl 2 rfl) ?_
  refine lv_iconst (v := 1) hx hb dX3_isInWay_10 (by decide) ?_
  refine va_lald hx hb hK hP 1 2 rfl rfl (by unfold vp_in; decide) dX3_isInWay_11 ?_
  refine gp_fl (fun y_3 => ?_)
  refine lv_aload_n hx hb dX3_isInWay_12 rfl (lv_at hl 1 rfl) ?_
  refine va_get (D := D) (ci := 3) (v := .long glass_fromY2) (C := RX3) (T := TX3) (N := 16) hx hb hts hiX3 hown hK hP 0 rfl rfl 13 (by decide) (hts (.fieldLink RX3 100 "GhostPane$Glass" "fromY2" "J") (List.mem_of_getElem? (i := 2) rfl)) (fun _ h9 => h9) rfl dX3_isInWay_13 ?_
  refine lv_lsub hx hb dX3_isInWay_16 ?_
  refine gp_fl (fun y_4 => ?_)
  refine lv_lstore (lv' := [(4, .long y_4), (2, .long y_2), (0, .ref (xa 21)), (1, .ref ra)]) hx hb dX3_isInWay_17 hl (by decide) rfl (fun ls hl => ?_)
  refine lv_aload_n hx hb dX3_isInWay_19 rfl (lv_at hl 3 rfl) ?_
  refine lv_iconst (v := 2) hx hb dX3_isInWay_20 (by decide) ?_
  refine va_lald hx hb hK hP 1 2 rfl rfl (by unfold vp_in; decide) dX3_isInWay_21 ?_
  refine gp_fl (fun y_5 => ?_)
  refine lv_aload_n hx hb dX3_isInWay_22 rfl (lv_at hl 2 rfl) ?_
  refine va_get (D := D) (ci := 3) (v := .long glass_fromX2) (C := RX3) (T := TX3) (N := 16) hx hb hts hiX3 hown hK hP 0 rfl rfl 12 (by decide) (hts (.fieldLink RX3 97 "GhostPane$Glass" "fromX2" "J") (List.mem_of_getElem? (i := 1) rfl)) (fun _ h9 => h9) rfl dX3_isInWay_23 ?_
  refine lv_lsub hx hb dX3_isInWay_26 ?_
  refine gp_fl (fun y_6 => ?_)
  refine lv_lstore (lv' := [(6, .long y_6), (4, .long y_4), (2, .long y_2), (0, .ref (xa 21)), (1, .ref ra)]) hx hb dX3_isInWay_27 hl (by decide) rfl (fun ls hl => ?_)
  refine lv_aload_n hx hb dX3_isInWay_29 rfl (lv_at hl 4 rfl) ?_
  refine lv_iconst (v := 3) hx hb dX3_isInWay_30 (by decide) ?_
  refine va_lald hx hb hK hP 1 2 rfl rfl (by unfold vp_in; decide) dX3_isInWay_31 ?_
  refine gp_fl (fun y_7 => ?_)
  refine lv_aload_n hx hb dX3_isInWay_32 rfl (lv_at hl 3 rfl) ?_
  refine va_get (D := D) (ci := 3) (v := .long glass_fromY2) (C := RX3) (T := TX3) (N := 16) hx hb hts hiX3 hown hK hP 0 rfl rfl 13 (by decide) (hts (.fieldLink RX3 100 "GhostPane$Glass" "fromY2" "J") (List.mem_of_getElem? (i := 2) rfl)) (fun _ h9 => h9) rfl dX3_isInWay_33 ?_
  refine lv_lsub hx hb dX3_isInWay_36 ?_
  refine gp_fl (fun y_8 => ?_)
  refine lv_lstore (lv' := [(8, .long y_8), (6, .long y_6), (4, .long y_4), (2, .long y_2), (0, .ref (xa 21)), (1, .ref ra)]) hx hb dX3_isInWay_37 hl (by decide) rfl (fun ls hl => ?_)
  refine lv_aload_n hx hb dX3_isInWay_39 rfl (lv_at hl 4 rfl) ?_
  refine va_get (D := D) (ci := 3) (v := .long glass_goX) (C := RX3) (T := TX3) (N := 16) hx hb hts hiX3 hown hK hP 0 rfl rfl 14 (by decide) (hts (.fieldLink RX3 103 "GhostPane$Glass" "goX" "J") (List.mem_of_getElem? (i := 3) rfl)) (fun _ h9 => h9) rfl dX3_isInWay_40 ?_
  refine lv_lload hx hb dX3_isInWay_43 (lv_at hl 2 rfl) ?_
  refine lv_lmul hx hb dX3_isInWay_45 ?_
  refine gp_fl (fun y_9 => ?_)
  refine lv_aload_n hx hb dX3_isInWay_46 rfl (lv_at hl 4 rfl) ?_
  refine va_get (D := D) (ci := 3) (v := .long glass_goY) (C := RX3) (T := TX3) (N := 16) hx hb hts hiX3 hown hK hP 0 rfl rfl 15 (by decide) (hts (.fieldLink RX3 106 "GhostPane$Glass" "goY" "J") (List.mem_of_getElem? (i := 4) rfl)) (fun _ h9 => h9) rfl dX3_isInWay_47 ?_
  refine lv_lload_n hx hb dX3_isInWay_50 rfl (lv_at hl 3 rfl) ?_
  refine lv_lmul hx hb dX3_isInWay_51 ?_
  refine gp_fl (fun y_10 => ?_)
  refine lv_lsub hx hb dX3_isInWay_52 ?_
  refine gp_fl (fun y_11 => ?_)
  refine lv_lstore (lv' := [(10, .long y_11), (8, .long y_8), (6, .long y_6), (4, .long y_4), (2, .long y_2), (0, .ref (xa 21)), (1, .ref ra)]) hx hb dX3_isInWay_53 hl (by decide) rfl (fun ls hl => ?_)
  refine lv_aload_n hx hb dX3_isInWay_55 rfl (lv_at hl 5 rfl) ?_
  refine va_get (D := D) (ci := 3) (v := .long glass_goX) (C := RX3) (T := TX3) (N := 16) hx hb hts hiX3 hown hK hP 0 rfl rfl 14 (by decide) (hts (.fieldLink RX3 103 "GhostPane$Glass" "goX" "J") (List.mem_of_getElem? (i := 3) rfl)) (fun _ h9 => h9) rfl dX3_isInWay_56 ?_
  refine lv_lload hx hb dX3_isInWay_59 (lv_at hl 1 rfl) ?_
  refine lv_lmul hx hb dX3_isInWay_61 ?_
  refine gp_fl (fun y_12 => ?_)
  refine lv_aload_n hx hb dX3_isInWay_62 rfl (lv_at hl 5 rfl) ?_
  refine va_get (D := D) (ci := 3) (v := .long glass_goY) (C := RX3) (T := TX3) (N := 16) hx hb hts hiX3 hown hK hP 0 rfl rfl 15 (by decide) (hts (.fieldLink RX3 106 "GhostPane$Glass" "goY" "J") (List.mem_of_getElem? (i := 4) rfl)) (fun _ h9 => h9) rfl dX3_isInWay_63 ?_
  refine lv_lload hx hb dX3_isInWay_66 (lv_at hl 2 rfl) ?_
  refine lv_lmul hx hb dX3_isInWay_68 ?_
  refine gp_fl (fun y_13 => ?_)
  refine lv_lsub hx hb dX3_isInWay_69 ?_
  refine gp_fl (fun y_14 => ?_)
  refine lv_lstore (lv' := [(12, .long y_14), (10, .long y_11), (8, .long y_8), (6, .long y_6), (4, .long y_4), (2, .long y_2), (0, .ref (xa 21)), (1, .ref ra)]) hx hb dX3_isInWay_70 hl (by decide) rfl (fun ls hl => ?_)
  have cut102 : ∀  (H : Heap) (locs : List Loc) (ls : Array Slot), va_P D vwCl [(o_glass xa glass_len glass_deep glass_ax2 glass_ay2 glass_cx glass_cy glass_along glass_whole glass_xTimes glass_yTimes glass_fromX2 glass_fromY2 glass_goX glass_goY), (aJ ra (cy 2) 4 rf)] H → va_D A [(o_glass xa glass_len glass_deep glass_ax2 glass_ay2 glass_cx glass_cy glass_along glass_whole glass_xTimes glass_yTimes glass_fromX2 glass_fromY2 glass_goX glass_goY), (aJ ra (cy 2) 4 rf)] → va_S A s.heap H locs → lv_has ls 18 [(12, .long y_14), (10, .long y_11), (8, .long y_8), (6, .long y_6), (4, .long y_4), (2, .long y_2), (0, .ref (xa 21)), (1, .ref ra)] → W p l e (headSpec v_sX3_isInWay (({ frames := 1, cells := 0, slots := 0, locals := 30 } : Room))).room s m [.ref (xa 21), .ref ra].toArray below meth c H locs 0 0 (MQ below (va_Qi (fun (r : Int32) (u : Unit) => (r = 0 ∨ r = 1)) (fun u => gp_E D A [(o_glass xa glass_len glass_deep glass_ax2 glass_ay2 glass_cx glass_cy glass_along glass_whole glass_xTimes glass_yTimes glass_fromX2 glass_fromY2 glass_goX glass_goY), (aJ ra (cy 2) 4 rf)]) A) [.ref (xa 21), .ref ra].toArray s 0 0 A) (F0 m 102 ls []) := by
    intro  H locs ls  hP hD hS hl
    have cut152 : ∀  (H : Heap) (locs : List Loc) (ls : Array Slot), va_P D vwCl [(o_glass xa glass_len glass_deep glass_ax2 glass_ay2 glass_cx glass_cy glass_along glass_whole glass_xTimes glass_yTimes glass_fromX2 glass_fromY2 glass_goX glass_goY), (aJ ra (cy 2) 4 rf)] H → va_D A [(o_glass xa glass_len glass_deep glass_ax2 glass_ay2 glass_cx glass_cy glass_along glass_whole glass_xTimes glass_yTimes glass_fromX2 glass_fromY2 glass_goX glass_goY), (aJ ra (cy 2) 4 rf)] → va_S A s.heap H locs → lv_has ls 18 [(12, .long y_14), (10, .long y_11), (8, .long y_8), (6, .long y_6), (4, .long y_4), (2, .long y_2), (0, .ref (xa 21)), (1, .ref ra)] → W p l e (headSpec v_sX3_isInWay (({ frames := 1, cells := 0, slots := 0, locals := 30 } : Room))).room s m [.ref (xa 21), .ref ra].toArray below meth c H locs 0 0 (MQ below (va_Qi (fun (r : Int32) (u : Unit) => (r = 0 ∨ r = 1)) (fun u => gp_E D A [(o_glass xa glass_len glass_deep glass_ax2 glass_ay2 glass_cx glass_cy glass_along glass_whole glass_xTimes glass_yTimes glass_fromX2 glass_fromY2 glass_goX glass_goY), (aJ ra (cy 2) 4 rf)]) A) [.ref (xa 21), .ref ra].toArray s 0 0 A) (F0 m 152 ls []) := by
      intro  H locs ls  hP hD hS hl
      refine lv_aload_n hx hb dX3_isInWay_152 rfl (lv_at hl 6 rfl) ?_
      refine va_get (D := D) (ci := 3) (v := .long glass_whole) (C := RX3) (T := TX3) (N := 16) hx hb hts hiX3 hown hK hP 0 rfl rfl 9 (by decide) (hts (.fieldLink RX3 70 "GhostPane$Glass" "whole" "J") (List.mem_of_getElem? (i := 5) rfl)) (fun _ h9 => h9) rfl dX3_isInWay_153 ?_
      refine lv_lload_n hx hb dX3_isInWay_156 rfl (lv_at hl 5 rfl) ?_
      refine lv_lload hx hb dX3_isInWay_157 (lv_at hl 2 rfl) ?_
      refine lv_lmul hx hb dX3_isInWay_159 ?_
      refine gp_fl (fun y_15 => ?_)
      refine lv_lload hx hb dX3_isInWay_160 (lv_at hl 4 rfl) ?_
      refine lv_lload hx hb dX3_isInWay_162 (lv_at hl 3 rfl) ?_
      refine lv_lmul hx hb dX3_isInWay_164 ?_
      refine gp_fl (fun y_16 => ?_)
      refine lv_lsub hx hb dX3_isInWay_165 ?_
      refine gp_fl (fun y_17 => ?_)
      refine lv_lmul hx hb dX3_isInWay_166 ?_
      refine gp_fl (fun y_18 => ?_)
      refine lv_lstore (lv' := [(14, .long y_18), (12, .long y_14), (10, .long y_11), (8, .long y_8), (6, .long y_6), (4, .long y_4), (2, .long y_2), (0, .ref (xa 21)), (1, .ref ra)]) hx hb dX3_isInWay_167 hl (by decide) rfl (fun ls hl => ?_)
      refine lv_lload hx hb dX3_isInWay_169 (lv_at hl 0 rfl) ?_
      refine lv_lload hx hb dX3_isInWay_171 (lv_at hl 2 rfl) ?_
      refine lv_ladd hx hb dX3_isInWay_173 ?_
      refine gp_fl (fun y_19 => ?_)
      refine lv_lload hx hb dX3_isInWay_174 (lv_at hl 1 rfl) ?_
      refine lv_lsub hx hb dX3_isInWay_176 ?_
      refine gp_fl (fun y_20 => ?_)
      refine lv_lstore (lv' := [(16, .long y_20), (14, .long y_18), (12, .long y_14), (10, .long y_11), (8, .long y_8), (6, .long y_6), (4, .long y_4), (2, .long y_2), (0, .ref (xa 21)), (1, .ref ra)]) hx hb dX3_isInWay_177 hl (by decide) rfl (fun ls hl => ?_)
      refine lv_lload hx hb dX3_isInWay_179 (lv_at hl 1 rfl) ?_
      refine lv_lconst (v := 0) hx hb dX3_isInWay_181 (by decide) ?_
      refine W.lcmp hx hb dX3_isInWay_182 ?_
      refine lv_if_le (tgt := 193) hx hb dX3_isInWay_183 (by decide) (fun c_21 => ?_) (fun c_21 => ?_)
      · have c_21 : y_18 ≤ 0 := gp_lcT.2.2.2.1.mp c_21
        refine lv_lload hx hb dX3_isInWay_193 (lv_at hl 1 rfl) ?_
        refine lv_lconst (v := 0) hx hb dX3_isInWay_195 (by decide) ?_
        refine W.lcmp hx hb dX3_isInWay_196 ?_
        refine lv_if_ge (tgt := 211) hx hb dX3_isInWay_197 (by decide) (fun c_22 => ?_) (fun c_22 => ?_)
        · have c_22 : 0 ≤ y_18 := gp_lcT.2.2.2.2.mp c_22
          refine lv_iconst (v := 0) hx hb dX3_isInWay_211 (by decide) ?_
          exact W.zret (v := 0) hx hb hr narrow_b0 (fun t ht hW => ⟨⟨0, (), rfl, (show (0 : Int32) = 0 ∨ (0 : Int32) = 1 by decide), gp_end ht hP hD⟩, hS.F ht⟩) hS.2.2 dX3_isInWay_212
        · have c_22 : ¬ 0 ≤ y_18 := fun z => c_22 (gp_lcT.2.2.2.2.mpr z)
          refine lv_lload hx hb dX3_isInWay_200 (lv_at hl 0 rfl) ?_
          refine lv_lconst (v := 0) hx hb dX3_isInWay_202 (by decide) ?_
          refine W.lcmp hx hb dX3_isInWay_203 ?_
          refine lv_if_le (tgt := 211) hx hb dX3_isInWay_204 (by decide) (fun c_23 => ?_) (fun c_23 => ?_)
          · have c_23 : y_20 ≤ 0 := gp_lcT.2.2.2.1.mp c_23
            refine lv_iconst (v := 0) hx hb dX3_isInWay_211 (by decide) ?_
            exact W.zret (v := 0) hx hb hr narrow_b0 (fun t ht hW => ⟨⟨0, (), rfl, (show (0 : Int32) = 0 ∨ (0 : Int32) = 1 by decide), gp_end ht hP hD⟩, hS.F ht⟩) hS.2.2 dX3_isInWay_212
          · have c_23 : ¬ y_20 ≤ 0 := fun z => c_23 (gp_lcT.2.2.2.1.mpr z)
            refine lv_iconst (v := 1) hx hb dX3_isInWay_207 (by decide) ?_
            refine lv_goto (tgt := 212) hx hb dX3_isInWay_208 (by decide) ?_
            exact W.zret (v := 1) hx hb hr narrow_b1 (fun t ht hW => ⟨⟨1, (), rfl, (show (1 : Int32) = 0 ∨ (1 : Int32) = 1 by decide), gp_end ht hP hD⟩, hS.F ht⟩) hS.2.2 dX3_isInWay_212
      · have c_21 : ¬ y_18 ≤ 0 := fun z => c_21 (gp_lcT.2.2.2.1.mpr z)
        refine lv_lload hx hb dX3_isInWay_186 (lv_at hl 0 rfl) ?_
        refine lv_lconst (v := 0) hx hb dX3_isInWay_188 (by decide) ?_
        refine W.lcmp hx hb dX3_isInWay_189 ?_
        refine lv_if_lt (tgt := 207) hx hb dX3_isInWay_190 (by decide) (fun c_24 => ?_) (fun c_24 => ?_)
        · have c_24 : y_20 < 0 := gp_lcT.2.1.mp c_24
          refine lv_iconst (v := 1) hx hb dX3_isInWay_207 (by decide) ?_
          refine lv_goto (tgt := 212) hx hb dX3_isInWay_208 (by decide) ?_
          exact W.zret (v := 1) hx hb hr narrow_b1 (fun t ht hW => ⟨⟨1, (), rfl, (show (1 : Int32) = 0 ∨ (1 : Int32) = 1 by decide), gp_end ht hP hD⟩, hS.F ht⟩) hS.2.2 dX3_isInWay_212
        · have c_24 : ¬ y_20 < 0 := fun z => c_24 (gp_lcT.2.1.mpr z)
          refine lv_lload hx hb dX3_isInWay_193 (lv_at hl 1 rfl) ?_
          refine lv_lconst (v := 0) hx hb dX3_isInWay_195 (by decide) ?_
          refine W.lcmp hx hb dX3_isInWay_196 ?_
          refine lv_if_ge (tgt := 211) hx hb dX3_isInWay_197 (by decide) (fun c_25 => ?_) (fun c_25 => ?_)
          · have c_25 : 0 ≤ y_18 := gp_lcT.2.2.2.2.mp c_25
            refine lv_iconst (v := 0) hx hb dX3_isInWay_211 (by decide) ?_
            exact W.zret (v := 0) hx hb hr narrow_b0 (fun t ht hW => ⟨⟨0, (), rfl, (show (0 : Int32) = 0 ∨ (0 : Int32) = 1 by decide), gp_end ht hP hD⟩, hS.F ht⟩) hS.2.2 dX3_isInWay_212
          · have c_25 : ¬ 0 ≤ y_18 := fun z => c_25 (gp_lcT.2.2.2.2.mpr z)
            refine lv_lload hx hb dX3_isInWay_200 (lv_at hl 0 rfl) ?_
            refine lv_lconst (v := 0) hx hb dX3_isInWay_202 (by decide) ?_
            refine W.lcmp hx hb dX3_isInWay_203 ?_
            refine lv_if_le (tgt := 211) hx hb dX3_isInWay_204 (by decide) (fun c_26 => ?_) (fun c_26 => ?_)
            · have c_26 : y_20 ≤ 0 := gp_lcT.2.2.2.1.mp c_26
              refine lv_iconst (v := 0) hx hb dX3_isInWay_211 (by decide) ?_
              exact W.zret (v := 0) hx hb hr narrow_b0 (fun t ht hW => ⟨⟨0, (), rfl, (show (0 : Int32) = 0 ∨ (0 : Int32) = 1 by decide), gp_end ht hP hD⟩, hS.F ht⟩) hS.2.2 dX3_isInWay_212
            · have c_26 : ¬ y_20 ≤ 0 := fun z => c_26 (gp_lcT.2.2.2.1.mpr z)
              refine lv_iconst (v := 1) hx hb dX3_isInWay_207 (by decide) ?_
              refine lv_goto (tgt := 212) hx hb dX3_isInWay_208 (by decide) ?_
              exact W.zret (v := 1) hx hb hr narrow_b1 (fun t ht hW => ⟨⟨1, (), rfl, (show (1 : Int32) = 0 ∨ (1 : Int32) = 1 by decide), gp_end ht hP hD⟩, hS.F ht⟩) hS.2.2 dX3_isInWay_212
    refine lv_lload hx hb dX3_isInWay_102 (lv_at hl 1 rfl) ?_
    refine lv_lconst (v := 0) hx hb dX3_isInWay_104 (by decide) ?_
    refine W.lcmp hx hb dX3_isInWay_105 ?_
    refine lv_if_ne (tgt := 152) hx hb dX3_isInWay_106 (by decide) (fun c_27 => ?_) (fun c_27 => ?_)
    · have c_27 : ¬ y_11 = 0 := fun z => c_27 (gp_lcT.1.mpr z)
      exact cut152 H locs ls hP hD hS (lv_sub hl [0, 1, 2, 3, 4, 5, 6, 7] rfl)
    · have c_27 : y_11 = 0 := gp_lcT.1.mp c_27
      refine lv_lload hx hb dX3_isInWay_109 (lv_at hl 0 rfl) ?_
      refine lv_lconst (v := 0) hx hb dX3_isInWay_111 (by decide) ?_
      refine W.lcmp hx hb dX3_isInWay_112 ?_
      refine lv_if_ne (tgt := 152) hx hb dX3_isInWay_113 (by decide) (fun c_28 => ?_) (fun c_28 => ?_)
      · have c_28 : ¬ y_14 = 0 := fun z => c_28 (gp_lcT.1.mpr z)
        exact cut152 H locs ls hP hD hS (lv_sub hl [0, 1, 2, 3, 4, 5, 6, 7] rfl)
      · have c_28 : y_14 = 0 := gp_lcT.1.mp c_28
        refine lv_aload_n hx hb dX3_isInWay_116 rfl (lv_at hl 6 rfl) ?_
        refine va_get (D := D) (ci := 3) (v := .long glass_goX) (C := RX3) (T := TX3) (N := 16) hx hb hts hiX3 hown hK hP 0 rfl rfl 14 (by decide) (hts (.fieldLink RX3 103 "GhostPane$Glass" "goX" "J") (List.mem_of_getElem? (i := 3) rfl)) (fun _ h9 => h9) rfl dX3_isInWay_117 ?_
        refine lv_lconst (v := 0) hx hb dX3_isInWay_120 (by decide) ?_
        refine W.lcmp hx hb dX3_isInWay_121 ?_
        refine lv_if_eq (tgt := 139) hx hb dX3_isInWay_122 (by decide) (fun c_29 => ?_) (fun c_29 => ?_)
        · have c_29 : glass_goX = 0 := gp_lcT.1.mp c_29
          refine lv_aload_n hx hb dX3_isInWay_139 rfl (lv_at hl 6 rfl) ?_
          refine lv_lload hx hb dX3_isInWay_140 (lv_at hl 4 rfl) ?_
          refine lv_lload hx hb dX3_isInWay_142 (lv_at hl 2 rfl) ?_
          refine lv_aload_n hx hb dX3_isInWay_144 rfl (lv_at hl 6 rfl) ?_
          refine va_get (D := D) (ci := 3) (v := .long glass_goY) (C := RX3) (T := TX3) (N := 16) hx hb hts hiX3 hown hK hP 0 rfl rfl 15 (by decide) (hts (.fieldLink RX3 106 "GhostPane$Glass" "goY" "J") (List.mem_of_getElem? (i := 4) rfl)) (fun _ h9 => h9) rfl dX3_isInWay_145 ?_
          have hPc := hP.sub (ws' := [(o_glass xa glass_len glass_deep glass_ax2 glass_ay2 glass_cx glass_cy glass_along glass_whole glass_xTimes glass_yTimes glass_fromX2 glass_fromY2 glass_goX glass_goY)]) [0] rfl
          have hDc := hD.sub (ws' := [(o_glass xa glass_len glass_deep glass_ax2 glass_ay2 glass_cx glass_cy glass_along glass_whole glass_xTimes glass_yTimes glass_fromX2 glass_fromY2 glass_goX glass_goY)]) [0] (by decide) rfl
          have hFc := va_free (wc := [(o_glass xa glass_len glass_deep glass_ax2 glass_ay2 glass_cx glass_cy glass_along glass_whole glass_xTimes glass_yTimes glass_fromX2 glass_fromY2 glass_goX glass_goY)]) hD hS hA [0] rfl
          refine va_calli (va_runV (As := [.long y_4, .long y_8, .long glass_goY]) (rest := []) ⟨hx, hb, hml, hown, hts⟩ (sX3_overlaps l D cy H.size xa glass_len glass_deep glass_ax2 glass_ay2 glass_cx glass_cy glass_along glass_whole glass_xTimes glass_yTimes glass_fromX2 glass_fromY2 glass_goX glass_goY y_4 y_8 glass_goY) (cwV 3 hts g_sX3_isInWay_sX3_overlaps_0 rfl rfl rfl (by decide +kernel) ⟨Nat.le_of_ble_eq_true rfl, Nat.le_of_ble_eq_true rfl⟩) (gp_preV (RX3, TX3, 16) 3 0 hPc hDc hK hN rfl rfl) rfl rfl hl.1 rfl (lv_room (Nat.le_of_ble_eq_true rfl)) dX3_isInWay_148 ⟨Nat.le_of_ble_eq_true rfl, Nat.le_of_ble_eq_true rfl⟩) hS (fun q _ h => hFc q h) hFc (fun r_30 u t H locs ht hvm hw hB hz1 hk1 hS => ?_)
          have hP := gp_joinU (wc := [(o_glass xa glass_len glass_deep glass_ax2 glass_ay2 glass_cx glass_cy glass_along glass_whole glass_xTimes glass_yTimes glass_fromX2 glass_fromY2 glass_goX glass_goY)]) hP hD [0] rfl hk1 ht hB
          have w_31 := hw
          exact W.zret (v := r_30) hx hb hr (gp_nz w_31) (fun t ht hW => ⟨⟨r_30, (), rfl, w_31, gp_end ht hP hD⟩, hS.F ht⟩) hS.2.2 dX3_isInWay_151
        · have c_29 : ¬ glass_goX = 0 := fun z => c_29 (gp_lcT.1.mpr z)
          refine lv_aload_n hx hb dX3_isInWay_125 rfl (lv_at hl 6 rfl) ?_
          refine lv_lload_n hx hb dX3_isInWay_126 rfl (lv_at hl 5 rfl) ?_
          refine lv_lload hx hb dX3_isInWay_127 (lv_at hl 3 rfl) ?_
          refine lv_aload_n hx hb dX3_isInWay_129 rfl (lv_at hl 6 rfl) ?_
          refine va_get (D := D) (ci := 3) (v := .long glass_goX) (C := RX3) (T := TX3) (N := 16) hx hb hts hiX3 hown hK hP 0 rfl rfl 14 (by decide) (hts (.fieldLink RX3 103 "GhostPane$Glass" "goX" "J") (List.mem_of_getElem? (i := 3) rfl)) (fun _ h9 => h9) rfl dX3_isInWay_130 ?_
          have hPc := hP.sub (ws' := [(o_glass xa glass_len glass_deep glass_ax2 glass_ay2 glass_cx glass_cy glass_along glass_whole glass_xTimes glass_yTimes glass_fromX2 glass_fromY2 glass_goX glass_goY)]) [0] rfl
          have hDc := hD.sub (ws' := [(o_glass xa glass_len glass_deep glass_ax2 glass_ay2 glass_cx glass_cy glass_along glass_whole glass_xTimes glass_yTimes glass_fromX2 glass_fromY2 glass_goX glass_goY)]) [0] (by decide) rfl
          have hFc := va_free (wc := [(o_glass xa glass_len glass_deep glass_ax2 glass_ay2 glass_cx glass_cy glass_along glass_whole glass_xTimes glass_yTimes glass_fromX2 glass_fromY2 glass_goX glass_goY)]) hD hS hA [0] rfl
          refine va_calli (va_runV (As := [.long y_2, .long y_6, .long glass_goX]) (rest := []) ⟨hx, hb, hml, hown, hts⟩ (sX3_overlaps l D cy H.size xa glass_len glass_deep glass_ax2 glass_ay2 glass_cx glass_cy glass_along glass_whole glass_xTimes glass_yTimes glass_fromX2 glass_fromY2 glass_goX glass_goY y_2 y_6 glass_goX) (cwV 3 hts g_sX3_isInWay_sX3_overlaps_0 rfl rfl rfl (by decide +kernel) ⟨Nat.le_of_ble_eq_true rfl, Nat.le_of_ble_eq_true rfl⟩) (gp_preV (RX3, TX3, 16) 3 0 hPc hDc hK hN rfl rfl) rfl rfl hl.1 rfl (lv_room (Nat.le_of_ble_eq_true rfl)) dX3_isInWay_133 ⟨Nat.le_of_ble_eq_true rfl, Nat.le_of_ble_eq_true rfl⟩) hS (fun q _ h => hFc q h) hFc (fun r_32 u t H locs ht hvm hw hB hz1 hk1 hS => ?_)
          have hP := gp_joinU (wc := [(o_glass xa glass_len glass_deep glass_ax2 glass_ay2 glass_cx glass_cy glass_along glass_whole glass_xTimes glass_yTimes glass_fromX2 glass_fromY2 glass_goX glass_goY)]) hP hD [0] rfl hk1 ht hB
          have w_33 := hw
          refine lv_goto (tgt := 151) hx hb dX3_isInWay_136 (by decide) ?_
          exact W.zret (v := r_32) hx hb hr (gp_nz w_33) (fun t ht hW => ⟨⟨r_32, (), rfl, w_33, gp_end ht hP hD⟩, hS.F ht⟩) hS.2.2 dX3_isInWay_151
  refine lv_lload hx hb dX3_isInWay_72 (lv_at hl 1 rfl) ?_
  refine lv_lconst (v := 0) hx hb dX3_isInWay_74 (by decide) ?_
  refine W.lcmp hx hb dX3_isInWay_75 ?_
  refine lv_if_le (tgt := 86) hx hb dX3_isInWay_76 (by decide) (fun c_34 => ?_) (fun c_34 => ?_)
  · have c_34 : y_11 ≤ 0 := gp_lcT.2.2.2.1.mp c_34
    refine lv_lload hx hb dX3_isInWay_86 (lv_at hl 1 rfl) ?_
    refine lv_lconst (v := 0) hx hb dX3_isInWay_88 (by decide) ?_
    refine W.lcmp hx hb dX3_isInWay_89 ?_
    refine lv_if_ge (tgt := 102) hx hb dX3_isInWay_90 (by decide) (fun c_35 => ?_) (fun c_35 => ?_)
    · have c_35 : 0 ≤ y_11 := gp_lcT.2.2.2.2.mp c_35
      exact cut102 H [] ls hP hD hS (lv_sub hl [0, 1, 2, 3, 4, 5, 6, 7] rfl)
    · have c_35 : ¬ 0 ≤ y_11 := fun z => c_35 (gp_lcT.2.2.2.2.mpr z)
      refine lv_lload hx hb dX3_isInWay_93 (lv_at hl 0 rfl) ?_
      refine lv_lconst (v := 0) hx hb dX3_isInWay_95 (by decide) ?_
      refine W.lcmp hx hb dX3_isInWay_96 ?_
      refine lv_if_ge (tgt := 102) hx hb dX3_isInWay_97 (by decide) (fun c_36 => ?_) (fun c_36 => ?_)
      · have c_36 : 0 ≤ y_14 := gp_lcT.2.2.2.2.mp c_36
        exact cut102 H [] ls hP hD hS (lv_sub hl [0, 1, 2, 3, 4, 5, 6, 7] rfl)
      · have c_36 : ¬ 0 ≤ y_14 := fun z => c_36 (gp_lcT.2.2.2.2.mpr z)
        refine lv_iconst (v := 0) hx hb dX3_isInWay_100 (by decide) ?_
        exact W.zret (v := 0) hx hb hr narrow_b0 (fun t ht hW => ⟨⟨0, (), rfl, (show (0 : Int32) = 0 ∨ (0 : Int32) = 1 by decide), gp_end ht hP hD⟩, hS.F ht⟩) hS.2.2 dX3_isInWay_101
  · have c_34 : ¬ y_11 ≤ 0 := fun z => c_34 (gp_lcT.2.2.2.1.mpr z)
    refine lv_lload hx hb dX3_isInWay_79 (lv_at hl 0 rfl) ?_
    refine lv_lconst (v := 0) hx hb dX3_isInWay_81 (by decide) ?_
    refine W.lcmp hx hb dX3_isInWay_82 ?_
    refine lv_if_gt (tgt := 100) hx hb dX3_isInWay_83 (by decide) (fun c_37 => ?_) (fun c_37 => ?_)
    · have c_37 : 0 < y_14 := gp_lcT.2.2.1.mp c_37
      refine lv_iconst (v := 0) hx hb dX3_isInWay_100 (by decide) ?_
      exact W.zret (v := 0) hx hb hr narrow_b0 (fun t ht hW => ⟨⟨0, (), rfl, (show (0 : Int32) = 0 ∨ (0 : Int32) = 1 by decide), gp_end ht hP hD⟩, hS.F ht⟩) hS.2.2 dX3_isInWay_101
    · have c_37 : ¬ 0 < y_14 := fun z => c_37 (gp_lcT.2.2.1.mpr z)
      refine lv_lload hx hb dX3_isInWay_86 (lv_at hl 1 rfl) ?_
      refine lv_lconst (v := 0) hx hb dX3_isInWay_88 (by decide) ?_
      refine W.lcmp hx hb dX3_isInWay_89 ?_
      refine lv_if_ge (tgt := 102) hx hb dX3_isInWay_90 (by decide) (fun c_38 => ?_) (fun c_38 => ?_)
      · have c_38 : 0 ≤ y_11 := gp_lcT.2.2.2.2.mp c_38
        exact cut102 H [] ls hP hD hS (lv_sub hl [0, 1, 2, 3, 4, 5, 6, 7] rfl)
      · have c_38 : ¬ 0 ≤ y_11 := fun z => c_38 (gp_lcT.2.2.2.2.mpr z)
        refine lv_lload hx hb dX3_isInWay_93 (lv_at hl 0 rfl) ?_
        refine lv_lconst (v := 0) hx hb dX3_isInWay_95 (by decide) ?_
        refine W.lcmp hx hb dX3_isInWay_96 ?_
        refine lv_if_ge (tgt := 102) hx hb dX3_isInWay_97 (by decide) (fun c_39 => ?_) (fun c_39 => ?_)
        · have c_39 : 0 ≤ y_14 := gp_lcT.2.2.2.2.mp c_39
          exact cut102 H [] ls hP hD hS (lv_sub hl [0, 1, 2, 3, 4, 5, 6, 7] rfl)
        · have c_39 : ¬ 0 ≤ y_14 := fun z => c_39 (gp_lcT.2.2.2.2.mpr z)
          refine lv_iconst (v := 0) hx hb dX3_isInWay_100 (by decide) ?_
          exact W.zret (v := 0) hx hb hr narrow_b0 (fun t ht hW => ⟨⟨0, (), rfl, (show (0 : Int32) = 0 ∨ (0 : Int32) = 1 by decide), gp_end ht hP hD⟩, hS.F ht⟩) hS.2.2 dX3_isInWay_101

theorem lf_sX3_isOpen_1 (w : Int32) (h1 : sp_in w 0 12) (c_5 : ¬ 12 ≤ w) : sp_in w 0 11 := by
  first | grind | (simp only [sp_in, sp_pl, sp_far, sp_two] at *; grind)
theorem lf_sX3_isOpen_2 (w : Int32) (h1 : sp_in w 0 12) (c_5 : ¬ 12 ≤ w) : sp_in (w + 1) 0 12 := by
  first | grind | (simp only [sp_in, sp_pl, sp_far, sp_two] at *; grind)
theorem lf_sX3_isOpen_3 (w : Int32) (h1 : sp_in w 0 12) (c_5 : ¬ 12 ≤ w) : w < 12 := by
  first | grind | (simp only [sp_in, sp_pl, sp_far, sp_two] at *; grind)
theorem lf_sX3_isOpen_4 (w : Int32) (h1 : sp_in w 0 12) (c_5 : ¬ 12 ≤ w) : sp_in w 0 11 := by
  first | grind | (simp only [sp_in, sp_pl, sp_far, sp_two] at *; grind)
theorem lf_sX3_isOpen_5 (w : Int32) (h1 : sp_in w 0 12) (c_5 : ¬ 12 ≤ w) : sp_in (w + 1) 0 12 := by
  first | grind | (simp only [sp_in, sp_pl, sp_far, sp_two] at *; grind)
theorem lf_sX3_isOpen_6 (w : Int32) (h1 : sp_in w 0 12) (c_5 : ¬ 12 ≤ w) : w < 12 := by
  first | grind | (simp only [sp_in, sp_pl, sp_far, sp_two] at *; grind)
def v_sX3_isOpen : List Cond := .code yX3_isOpen cX3_isOpen 6 (some .boolean) :: (([.code yX3_look cX3_look 5 none, .fieldLink RX3 97 "GhostPane$Glass" "fromX2" "J", .fieldLink RX3 100 "GhostPane$Glass" "fromY2" "J", .fieldLink RX3 73 "GhostPane$Glass" "xTimes" "J", .fieldLink RX3 70 "GhostPane$Glass" "whole" "J", .fieldLink RX3 103 "GhostPane$Glass" "goX" "J", .fieldLink RX3 76 "GhostPane$Glass" "yTimes" "J", .fieldLink RX3 106 "GhostPane$Glass" "goY" "J", .methodLink RX3 89 yX3_look, .instanceMethod yX3_look, .selects RX3 yX3_look yX3_look, .initialized RX3, .fieldLink RX3 16 "GhostPane$Glass" "stands" "[Z", .fieldLink RX3 11 "GhostPane$Glass" "ends2" "[[J", .code yX3_isInWay cX3_isInWay 18 (some .boolean), .code yX3_overlaps cX3_overlaps 11 (some .boolean), .methodLink RX3 109 yX3_overlaps, .instanceMethod yX3_overlaps, .selects RX3 yX3_overlaps yX3_overlaps, .methodLink RX3 93 yX3_isInWay, .instanceMethod yX3_isInWay, .selects RX3 yX3_isInWay yX3_isInWay] : List Cond) ++ wsX30)
set_option maxRecDepth 20000 in
theorem gg_sX3_isOpen_sX3_look : GoodIn v_sX3_isOpen v_sX3_look := goodIn_ca (goodIn_r (.code yX3_look cX3_look 5 none :: [.fieldLink RX3 97 "GhostPane$Glass" "fromX2" "J", .fieldLink RX3 100 "GhostPane$Glass" "fromY2" "J", .fieldLink RX3 73 "GhostPane$Glass" "xTimes" "J", .fieldLink RX3 70 "GhostPane$Glass" "whole" "J", .fieldLink RX3 103 "GhostPane$Glass" "goX" "J", .fieldLink RX3 76 "GhostPane$Glass" "yTimes" "J", .fieldLink RX3 106 "GhostPane$Glass" "goY" "J"]) [1, 2, 3, 4, 5, 6, 7, 8] (by first | rfl | decide +kernel) (by decide +kernel)) (goodIn_sub (fun _ h => List.mem_cons_of_mem _ (List.mem_append_right _ h)) gwX3)
set_option maxRecDepth 20000 in
theorem g_sX3_isOpen_sX3_look_0 : GoodIn v_sX3_isOpen (wsV RX3 89 RX3 yX3_look v_sX3_look) := goodIn_app (goodIn_r [.methodLink RX3 89 yX3_look, .instanceMethod yX3_look, .selects RX3 yX3_look yX3_look, .initialized RX3] [9, 10, 11, 12] rfl (by decide +kernel)) gg_sX3_isOpen_sX3_look
set_option maxRecDepth 20000 in
theorem gg_sX3_isOpen_sX3_isInWay : GoodIn v_sX3_isOpen v_sX3_isInWay := goodIn_ca (goodIn_r (.code yX3_isInWay cX3_isInWay 18 (some .boolean) :: [.fieldLink RX3 97 "GhostPane$Glass" "fromX2" "J", .fieldLink RX3 100 "GhostPane$Glass" "fromY2" "J", .fieldLink RX3 103 "GhostPane$Glass" "goX" "J", .fieldLink RX3 106 "GhostPane$Glass" "goY" "J", .fieldLink RX3 70 "GhostPane$Glass" "whole" "J", .code yX3_overlaps cX3_overlaps 11 (some .boolean), .methodLink RX3 109 yX3_overlaps, .instanceMethod yX3_overlaps, .selects RX3 yX3_overlaps yX3_overlaps, .initialized RX3]) [15, 2, 3, 6, 8, 5, 16, 17, 18, 19, 12] (by first | rfl | decide +kernel) (by decide +kernel)) (goodIn_sub (fun _ h => List.mem_cons_of_mem _ (List.mem_append_right _ h)) gwX3)
set_option maxRecDepth 20000 in
theorem g_sX3_isOpen_sX3_isInWay_1 : GoodIn v_sX3_isOpen (wsV RX3 93 RX3 yX3_isInWay v_sX3_isInWay) := goodIn_app (goodIn_r [.methodLink RX3 93 yX3_isInWay, .instanceMethod yX3_isInWay, .selects RX3 yX3_isInWay yX3_isInWay, .initialized RX3] [20, 21, 22, 12] rfl (by decide +kernel)) gg_sX3_isOpen_sX3_isInWay
set_option maxHeartbeats 4000000 in
set_option maxRecDepth 100000 in
theorem sX3_isOpen (l : Launch) (D : va_G) (cy : Nat → ClassId) (sz : Nat) (xa : Nat → Nat) (glass_len : Int64) (glass_deep : Int32) (glass_ax2 : Int64) (glass_ay2 : Int64) (glass_cx : Int64) (glass_cy : Int64) (glass_along : Int64) (glass_whole : Int64) (glass_xTimes : Int64) (glass_yTimes : Int64) (glass_fromX2 : Int64) (glass_fromY2 : Int64) (glass_goX : Int64) (glass_goY : Int64) (stands : Nat → Int32) (ge : Nat → Nat → Int64) (x2 : Int64) (y2 : Int64) : Met l yX3_isOpen v_sX3_isOpen ({ frames := 2, cells := 0, slots := 0, locals := 67 } : Room) (va_Pc [.ref (xa 21), .long x2, .long y2] (gp_B D cy sz ([(o_glass xa glass_len glass_deep glass_ax2 glass_ay2 glass_cx glass_cy glass_along glass_whole glass_xTimes glass_yTimes glass_fromX2 glass_fromY2 glass_goX glass_goY), (aI (xa 23) (cy 3) 12 stands), (aR (xa 22) (cy 7) 12 (fun i => if i < 12 then some (xa (140 + i)) else none))] ++ gp_R 12 (fun i => aJ (xa (140 + i)) (cy 2) 4 (ge i))))) (va_Qi (fun (r : Int32) (u : (Int64) × (Int64) × (Int64) × (Int64)) => (r = 0 ∨ r = 1)) (fun u => gp_E D (va_A ([(o_glass xa glass_len glass_deep glass_ax2 glass_ay2 glass_cx glass_cy glass_along glass_whole glass_xTimes glass_yTimes glass_fromX2 glass_fromY2 glass_goX glass_goY), (aI (xa 23) (cy 3) 12 stands), (aR (xa 22) (cy 7) 12 (fun i => if i < 12 then some (xa (140 + i)) else none))] ++ gp_R 12 (fun i => aJ (xa (140 + i)) (cy 2) 4 (ge i))) sz) ([(o_glass xa glass_len glass_deep glass_ax2 glass_ay2 glass_cx glass_cy glass_along glass_whole glass_xTimes glass_yTimes u.1 u.2.1 u.2.2.1 u.2.2.2), (aI (xa 23) (cy 3) 12 stands), (aR (xa 22) (cy 7) 12 (fun i => if i < 12 then some (xa (140 + i)) else none))] ++ gp_R 12 (fun i => aJ (xa (140 + i)) (cy 2) 4 (ge i)))) (va_A ([(o_glass xa glass_len glass_deep glass_ax2 glass_ay2 glass_cx glass_cy glass_along glass_whole glass_xTimes glass_yTimes glass_fromX2 glass_fromY2 glass_goX glass_goY), (aI (xa 23) (cy 3) 12 stands), (aR (xa 22) (cy 7) 12 (fun i => if i < 12 then some (xa (140 + i)) else none))] ++ gp_R 12 (fun i => aJ (xa (140 + i)) (cy 2) 4 (ge i))) sz)) 0 0 (va_A ([(o_glass xa glass_len glass_deep glass_ax2 glass_ay2 glass_cx glass_cy glass_along glass_whole glass_xTimes glass_yTimes glass_fromX2 glass_fromY2 glass_goX glass_goY), (aI (xa 23) (cy 3) 12 stands), (aR (xa 22) (cy 7) 12 (fun i => if i < 12 then some (xa (140 + i)) else none))] ++ gp_R 12 (fun i => aJ (xa (140 + i)) (cy 2) 4 (ge i))) sz) := by
  refine gp_met (Qc := fun A => va_Qi (fun (r : Int32) (u : (Int64) × (Int64) × (Int64) × (Int64)) => (r = 0 ∨ r = 1)) (fun u => gp_E D A ([(o_glass xa glass_len glass_deep glass_ax2 glass_ay2 glass_cx glass_cy glass_along glass_whole glass_xTimes glass_yTimes u.1 u.2.1 u.2.2.1 u.2.2.2), (aI (xa 23) (cy 3) 12 stands), (aR (xa 22) (cy 7) 12 (fun i => if i < 12 then some (xa (140 + i)) else none))] ++ gp_R 12 (fun i => aJ (xa (140 + i)) (cy 2) 4 (ge i)))) A) (cc := cX3_isOpen) (maxL := 6) (ret := (some .boolean)) (by decide) rfl (Nat.le_of_ble_eq_true rfl) ?_
  intro p e s m below meth c A ls H hx hb hml hr hlocks hts hown hin hK hN hS hP hD hA hl
  have hown : s.vm.findClass RX3 = some m.cls := hown
  have hl : lv_has ls 6 [(0, .ref (xa 21)), (1, .long x2), (3, .long y2)] := hl
  have hiX3 : ∀ w ∈ u_ws RX3 TX3 16, w ∈ v_sX3_isOpen := fun _ h => List.mem_cons_of_mem _ (List.mem_append_right _ h)
  refine lv_aload_n hx hb dX3_isOpen_0 rfl (lv_at hl 0 rfl) ?_
  refine lv_lload_n hx hb dX3_isOpen_1 rfl (lv_at hl 1 rfl) ?_
  refine lv_lload_n hx hb dX3_isOpen_2 rfl (lv_at hl 2 rfl) ?_
  have hC : [0].map (fun i => ([(o_glass xa glass_len glass_deep glass_ax2 glass_ay2 glass_cx glass_cy glass_along glass_whole glass_xTimes glass_yTimes glass_fromX2 glass_fromY2 glass_goX glass_goY), (aI (xa 23) (cy 3) 12 stands), (aR (xa 22) (cy 7) 12 (fun i => if i < 12 then some (xa (140 + i)) else none))] ++ gp_R 12 (fun i => aJ (xa (140 + i)) (cy 2) 4 (ge i)))[i]?) = ([(o_glass xa glass_len glass_deep glass_ax2 glass_ay2 glass_cx glass_cy glass_along glass_whole glass_xTimes glass_yTimes glass_fromX2 glass_fromY2 glass_goX glass_goY)]).map some := (gp_hCX (show [0].map (fun i => ([(o_glass xa glass_len glass_deep glass_ax2 glass_ay2 glass_cx glass_cy glass_along glass_whole glass_xTimes glass_yTimes glass_fromX2 glass_fromY2 glass_goX glass_goY), (aI (xa 23) (cy 3) 12 stands), (aR (xa 22) (cy 7) 12 (fun i => if i < 12 then some (xa (140 + i)) else none))])[i]?) = ([(o_glass xa glass_len glass_deep glass_ax2 glass_ay2 glass_cx glass_cy glass_along glass_whole glass_xTimes glass_yTimes glass_fromX2 glass_fromY2 glass_goX glass_goY)]).map some from rfl))
  have hPc := gp_subP (wc := [(o_glass xa glass_len glass_deep glass_ax2 glass_ay2 glass_cx glass_cy glass_along glass_whole glass_xTimes glass_yTimes glass_fromX2 glass_fromY2 glass_goX glass_goY)]) hP [0] hC
  have hDc := hD.sub (ws' := [(o_glass xa glass_len glass_deep glass_ax2 glass_ay2 glass_cx glass_cy glass_along glass_whole glass_xTimes glass_yTimes glass_fromX2 glass_fromY2 glass_goX glass_goY)]) [0] (by decide) hC
  have hFc := va_free (wc := [(o_glass xa glass_len glass_deep glass_ax2 glass_ay2 glass_cx glass_cy glass_along glass_whole glass_xTimes glass_yTimes glass_fromX2 glass_fromY2 glass_goX glass_goY)]) hD hS hA [0] hC
  refine va_callv (va_runV (As := [.long x2, .long y2]) (rest := []) ⟨hx, hb, hml, hown, hts⟩ (sX3_look l D cy H.size xa glass_len glass_deep glass_ax2 glass_ay2 glass_cx glass_cy glass_along glass_whole glass_xTimes glass_yTimes glass_fromX2 glass_fromY2 glass_goX glass_goY x2 y2) (cwV 2 hts g_sX3_isOpen_sX3_look_0 rfl rfl rfl (by decide +kernel) ⟨Nat.le_of_ble_eq_true rfl, Nat.le_of_ble_eq_true rfl⟩) (gp_preV (RX3, TX3, 16) 3 0 hPc hDc hK hN rfl rfl) rfl rfl hl.1 rfl (lv_room (Nat.le_of_ble_eq_true rfl)) dX3_isOpen_3 ⟨Nat.le_of_ble_eq_true rfl, Nat.le_of_ble_eq_true rfl⟩) hS (fun q _ h => hFc q h) hFc (fun u t H locs ht hvm hw hB hz1 hk1 hS => ?_)
  obtain ⟨glass_fromX2_1, glass_fromY2_2, glass_goX_3, glass_goY_4⟩ := u
  obtain ⟨hP, hD⟩ := gp_joinM (wc := [(o_glass xa glass_len glass_deep glass_ax2 glass_ay2 glass_cx glass_cy glass_along glass_whole glass_xTimes glass_yTimes glass_fromX2 glass_fromY2 glass_goX glass_goY)]) (w1 := [(o_glass xa glass_len glass_deep glass_ax2 glass_ay2 glass_cx glass_cy glass_along glass_whole glass_xTimes glass_yTimes glass_fromX2_1 glass_fromY2_2 glass_goX_3 glass_goY_4)]) (wr := ([(aI (xa 23) (cy 3) 12 stands), (aR (xa 22) (cy 7) 12 (fun i => if i < 12 then some (xa (140 + i)) else none))] ++ gp_R 12 (fun i => aJ (xa (140 + i)) (cy 2) 4 (ge i)))) (nws := ([(o_glass xa glass_len glass_deep glass_ax2 glass_ay2 glass_cx glass_cy glass_along glass_whole glass_xTimes glass_yTimes glass_fromX2_1 glass_fromY2_2 glass_goX_3 glass_goY_4), (aI (xa 23) (cy 3) 12 stands), (aR (xa 22) (cy 7) 12 (fun i => if i < 12 then some (xa (140 + i)) else none))] ++ gp_R 12 (fun i => aJ (xa (140 + i)) (cy 2) 4 (ge i)))) hP hD [0] ([1, 2] ++ gp_rg 3 12) 15 (gp_hCX (Y := gp_R 12 (fun i => aJ (xa (140 + i)) (cy 2) 4 (ge i))) (show [0].map (fun i => ([(o_glass xa glass_len glass_deep glass_ax2 glass_ay2 glass_cx glass_cy glass_along glass_whole glass_xTimes glass_yTimes glass_fromX2 glass_fromY2 glass_goX glass_goY), (aI (xa 23) (cy 3) 12 stands), (aR (xa 22) (cy 7) 12 (fun i => if i < 12 then some (xa (140 + i)) else none))])[i]?) = ([(o_glass xa glass_len glass_deep glass_ax2 glass_ay2 glass_cx glass_cy glass_along glass_whole glass_xTimes glass_yTimes glass_fromX2 glass_fromY2 glass_goX glass_goY)]).map some from rfl)) rfl hk1 ht hB rfl (gp_hCX (Y := gp_R 12 (fun i => aJ (xa (140 + i)) (cy 2) 4 (ge i))) (show [0].map (fun i => ([(o_glass xa glass_len glass_deep glass_ax2 glass_ay2 glass_cx glass_cy glass_along glass_whole glass_xTimes glass_yTimes glass_fromX2_1 glass_fromY2_2 glass_goX_3 glass_goY_4), (aI (xa 23) (cy 3) 12 stands), (aR (xa 22) (cy 7) 12 (fun i => if i < 12 then some (xa (140 + i)) else none))])[i]?) = ([(o_glass xa glass_len glass_deep glass_ax2 glass_ay2 glass_cx glass_cy glass_along glass_whole glass_xTimes glass_yTimes glass_fromX2_1 glass_fromY2_2 glass_goX_3 glass_goY_4)]).map some from rfl)) (gp_hCB (k := 3) (n := 12) (g := (fun i => aJ (xa (140 + i)) (cy 2) 4 (ge i))) (gp_hCX (Y := gp_R 12 (fun i => aJ (xa (140 + i)) (cy 2) 4 (ge i))) (show [1, 2].map (fun i => ([(o_glass xa glass_len glass_deep glass_ax2 glass_ay2 glass_cx glass_cy glass_along glass_whole glass_xTimes glass_yTimes glass_fromX2 glass_fromY2 glass_goX glass_goY), (aI (xa 23) (cy 3) 12 stands), (aR (xa 22) (cy 7) 12 (fun i => if i < 12 then some (xa (140 + i)) else none))])[i]?) = ([(aI (xa 23) (cy 3) 12 stands), (aR (xa 22) (cy 7) 12 (fun i => if i < 12 then some (xa (140 + i)) else none))]).map some from rfl)) (fun w hw => (gp_Rget0 (X := [(o_glass xa glass_len glass_deep glass_ax2 glass_ay2 glass_cx glass_cy glass_along glass_whole glass_xTimes glass_yTimes glass_fromX2 glass_fromY2 glass_goX glass_goY), (aI (xa 23) (cy 3) 12 stands), (aR (xa 22) (cy 7) 12 (fun i => if i < 12 then some (xa (140 + i)) else none))]) (k := 3) rfl hw))) (gp_hCB (k := 3) (n := 12) (g := (fun i => aJ (xa (140 + i)) (cy 2) 4 (ge i))) (gp_hCX (Y := gp_R 12 (fun i => aJ (xa (140 + i)) (cy 2) 4 (ge i))) (show [1, 2].map (fun i => ([(o_glass xa glass_len glass_deep glass_ax2 glass_ay2 glass_cx glass_cy glass_along glass_whole glass_xTimes glass_yTimes glass_fromX2_1 glass_fromY2_2 glass_goX_3 glass_goY_4), (aI (xa 23) (cy 3) 12 stands), (aR (xa 22) (cy 7) 12 (fun i => if i < 12 then some (xa (140 + i)) else none))])[i]?) = ([(aI (xa 23) (cy 3) 12 stands), (aR (xa 22) (cy 7) 12 (fun i => if i < 12 then some (xa (140 + i)) else none))]).map some from rfl)) (fun w hw => (gp_Rget0 (X := [(o_glass xa glass_len glass_deep glass_ax2 glass_ay2 glass_cx glass_cy glass_along glass_whole glass_xTimes glass_yTimes glass_fromX2_1 glass_fromY2_2 glass_goX_3 glass_goY_4), (aI (xa 23) (cy 3) 12 stands), (aR (xa 22) (cy 7) 12 (fun i => if i < 12 then some (xa (140 + i)) else none))]) (k := 3) rfl hw))) (by decide)
  refine lv_iconst (v := 0) hx hb dX3_isOpen_6 (by decide) ?_
  refine lv_istore (lv' := [(5, .int 0), (0, .ref (xa 21)), (1, .long x2), (3, .long y2)]) hx hb dX3_isOpen_7 hl (by decide) rfl (fun ls hl => ?_)
  have key9 : ∀ (fu : Nat) (w : Int32) (H : Heap) (locs : List Loc) (ls : Array Slot), (h1 : sp_in w 0 12) → (12 - w.toInt).toNat < fu → va_P D vwCl ([(o_glass xa glass_len glass_deep glass_ax2 glass_ay2 glass_cx glass_cy glass_along glass_whole glass_xTimes glass_yTimes glass_fromX2_1 glass_fromY2_2 glass_goX_3 glass_goY_4), (aI (xa 23) (cy 3) 12 stands), (aR (xa 22) (cy 7) 12 (fun i => if i < 12 then some (xa (140 + i)) else none))] ++ gp_R 12 (fun i => aJ (xa (140 + i)) (cy 2) 4 (ge i))) H → va_D A ([(o_glass xa glass_len glass_deep glass_ax2 glass_ay2 glass_cx glass_cy glass_along glass_whole glass_xTimes glass_yTimes glass_fromX2_1 glass_fromY2_2 glass_goX_3 glass_goY_4), (aI (xa 23) (cy 3) 12 stands), (aR (xa 22) (cy 7) 12 (fun i => if i < 12 then some (xa (140 + i)) else none))] ++ gp_R 12 (fun i => aJ (xa (140 + i)) (cy 2) 4 (ge i))) → va_S A s.heap H locs → lv_has ls 6 [(5, .int w), (0, .ref (xa 21)), (1, .long x2), (3, .long y2)] → W p l e (headSpec v_sX3_isOpen (({ frames := 2, cells := 0, slots := 0, locals := 67 } : Room))).room s m [.ref (xa 21), .long x2, .long y2].toArray below meth c H locs 0 0 (MQ below (va_Qi (fun (r : Int32) (u : (Int64) × (Int64) × (Int64) × (Int64)) => (r = 0 ∨ r = 1)) (fun u => gp_E D A ([(o_glass xa glass_len glass_deep glass_ax2 glass_ay2 glass_cx glass_cy glass_along glass_whole glass_xTimes glass_yTimes u.1 u.2.1 u.2.2.1 u.2.2.2), (aI (xa 23) (cy 3) 12 stands), (aR (xa 22) (cy 7) 12 (fun i => if i < 12 then some (xa (140 + i)) else none))] ++ gp_R 12 (fun i => aJ (xa (140 + i)) (cy 2) 4 (ge i)))) A) [.ref (xa 21), .long x2, .long y2].toArray s 0 0 A) (F0 m 9 ls []) := by
    intro fu
    induction fu with
    | zero => intro w H locs ls h1 hfu; exact absurd hfu (Nat.not_lt_zero _)
    | succ fu ih =>
      intro w H locs ls h1 hfu hP hD hS hl
      refine lv_iload hx hb dX3_isOpen_9 (lv_at hl 0 rfl) ?_
      refine lv_bipush (v := 12) hx hb dX3_isOpen_11 (by decide) ?_
      refine lv_icmp_ge (tgt := 48) hx hb dX3_isOpen_13 (by decide) (fun c_5 => ?_) (fun c_5 => ?_)
      · refine lv_iconst (v := 1) hx hb dX3_isOpen_48 (by decide) ?_
        exact W.zret (v := 1) hx hb hr narrow_b1 (fun t ht hW => ⟨⟨1, ⟨glass_fromX2_1, glass_fromY2_2, glass_goX_3, glass_goY_4⟩, rfl, (show (1 : Int32) = 0 ∨ (1 : Int32) = 1 by decide), gp_end ht hP hD⟩, hS.F ht⟩) hS.2.2 dX3_isOpen_49
      · refine lv_aload_n hx hb dX3_isOpen_16 rfl (lv_at hl 1 rfl) ?_
        refine va_get (D := D) (ci := 3) (v := .ref (xa 23)) (C := RX3) (T := TX3) (N := 16) hx hb hts hiX3 hown hK hP 0 rfl rfl 3 (by decide) (hts (.fieldLink RX3 16 "GhostPane$Glass" "stands" "[Z") (List.mem_of_getElem? (i := 13) rfl)) (fun _ h9 => h9) rfl dX3_isOpen_17 ?_
        refine lv_iload hx hb dX3_isOpen_20 (lv_at hl 0 rfl) ?_
        refine va_zald hx hb hK hP 1 3 rfl rfl (gp_in (hi := 11) (lf_sX3_isOpen_1 w h1 c_5) (by decide)) dX3_isOpen_22 ?_
        refine gp_fi (fun y_6 => ?_)
        refine lv_if_eq (tgt := 42) hx hb dX3_isOpen_23 (by decide) (fun c_7 => ?_) (fun c_7 => ?_)
        · refine lv_iinc (v := (w + 1)) (lv' := [(5, .int (w + 1)), (0, .ref (xa 21)), (1, .long x2), (3, .long y2)]) hx hb dX3_isOpen_42 hl (k := 0) rfl rfl (by decide) rfl (fun ls hl => ?_)
          refine lv_goto (tgt := 9) hx hb dX3_isOpen_45 (by decide) ?_
          exact ih (w + 1) H locs ls (lf_sX3_isOpen_2 w h1 c_5) (Nat.lt_of_lt_of_le (gp_mdec (b := 12) (lf_sX3_isOpen_3 w h1 c_5)) (Nat.le_of_lt_succ hfu)) hP hD hS (lv_sub hl [0, 1, 2, 3] rfl)
        · refine lv_aload_n hx hb dX3_isOpen_26 rfl (lv_at hl 1 rfl) ?_
          refine lv_aload_n hx hb dX3_isOpen_27 rfl (lv_at hl 1 rfl) ?_
          refine va_get (D := D) (ci := 3) (v := .ref (xa 22)) (C := RX3) (T := TX3) (N := 16) hx hb hts hiX3 hown hK hP 0 rfl rfl 2 (by decide) (hts (.fieldLink RX3 11 "GhostPane$Glass" "ends2" "[[J") (List.mem_of_getElem? (i := 14) rfl)) (fun _ h9 => h9) rfl dX3_isOpen_28 ?_
          refine lv_iload hx hb dX3_isOpen_31 (lv_at hl 0 rfl) ?_
          have hw_8 : w.toNatClampNeg < 12 := gp_clamp (gp_in (hi := 11) (lf_sX3_isOpen_4 w h1 c_5) (by decide))
          refine gp_aldA hx hb hK hP 2 7 rfl rfl (gp_in (hi := 11) (lf_sX3_isOpen_4 w h1 c_5) (by decide)) dX3_isOpen_33 ?_
          refine gp_nr (.ref (xa (140 + w.toNatClampNeg))) (gp_rf (g := fun i => xa (140 + i)) hw_8) ?_
          have hRc := (gp_Rget0 (X := [(o_glass xa glass_len glass_deep glass_ax2 glass_ay2 glass_cx glass_cy glass_along glass_whole glass_xTimes glass_yTimes glass_fromX2_1 glass_fromY2_2 glass_goX_3 glass_goY_4), (aI (xa 23) (cy 3) 12 stands), (aR (xa 22) (cy 7) 12 (fun i => if i < 12 then some (xa (140 + i)) else none))]) (g := (fun i => aJ (xa (140 + i)) (cy 2) 4 (ge i))) (k := 3) (w := w.toNatClampNeg) (by first | rfl | simp) hw_8)
          have hPc : va_P D vwCl [(o_glass xa glass_len glass_deep glass_ax2 glass_ay2 glass_cx glass_cy glass_along glass_whole glass_xTimes glass_yTimes glass_fromX2_1 glass_fromY2_2 glass_goX_3 glass_goY_4), (aJ (xa (140 + w.toNatClampNeg)) (cy 2) 4 (ge w.toNatClampNeg))] H := gp_subP hP [0, (3 + w.toNatClampNeg)] (gp_hC2 (ws := ([(o_glass xa glass_len glass_deep glass_ax2 glass_ay2 glass_cx glass_cy glass_along glass_whole glass_xTimes glass_yTimes glass_fromX2_1 glass_fromY2_2 glass_goX_3 glass_goY_4), (aI (xa 23) (cy 3) 12 stands), (aR (xa 22) (cy 7) 12 (fun i => if i < 12 then some (xa (140 + i)) else none))] ++ gp_R 12 (fun i => aJ (xa (140 + i)) (cy 2) 4 (ge i)))) (a := (o_glass xa glass_len glass_deep glass_ax2 glass_ay2 glass_cx glass_cy glass_along glass_whole glass_xTimes glass_yTimes glass_fromX2_1 glass_fromY2_2 glass_goX_3 glass_goY_4)) (b := (aJ (xa (140 + w.toNatClampNeg)) (cy 2) 4 (ge w.toNatClampNeg))) rfl hRc)
          have hDc : va_D A [(o_glass xa glass_len glass_deep glass_ax2 glass_ay2 glass_cx glass_cy glass_along glass_whole glass_xTimes glass_yTimes glass_fromX2_1 glass_fromY2_2 glass_goX_3 glass_goY_4), (aJ (xa (140 + w.toNatClampNeg)) (cy 2) 4 (ge w.toNatClampNeg))] := gp_D2 hD (by omega) (i := 0) rfl hRc
          have hFc := va_free (wc := [(o_glass xa glass_len glass_deep glass_ax2 glass_ay2 glass_cx glass_cy glass_along glass_whole glass_xTimes glass_yTimes glass_fromX2_1 glass_fromY2_2 glass_goX_3 glass_goY_4), (aJ (xa (140 + w.toNatClampNeg)) (cy 2) 4 (ge w.toNatClampNeg))]) hD hS hA [0, (3 + w.toNatClampNeg)] (gp_hC2 (ws := ([(o_glass xa glass_len glass_deep glass_ax2 glass_ay2 glass_cx glass_cy glass_along glass_whole glass_xTimes glass_yTimes glass_fromX2_1 glass_fromY2_2 glass_goX_3 glass_goY_4), (aI (xa 23) (cy 3) 12 stands), (aR (xa 22) (cy 7) 12 (fun i => if i < 12 then some (xa (140 + i)) else none))] ++ gp_R 12 (fun i => aJ (xa (140 + i)) (cy 2) 4 (ge i)))) (a := (o_glass xa glass_len glass_deep glass_ax2 glass_ay2 glass_cx glass_cy glass_along glass_whole glass_xTimes glass_yTimes glass_fromX2_1 glass_fromY2_2 glass_goX_3 glass_goY_4)) (b := (aJ (xa (140 + w.toNatClampNeg)) (cy 2) 4 (ge w.toNatClampNeg))) rfl hRc)
          refine va_calli (va_runV (As := [.ref (xa (140 + w.toNatClampNeg))]) (rest := []) ⟨hx, hb, hml, hown, hts⟩ (sX3_isInWay l D cy H.size xa glass_len glass_deep glass_ax2 glass_ay2 glass_cx glass_cy glass_along glass_whole glass_xTimes glass_yTimes glass_fromX2_1 glass_fromY2_2 glass_goX_3 glass_goY_4 (ge w.toNatClampNeg) (xa (140 + w.toNatClampNeg))) (cwV 1 hts g_sX3_isOpen_sX3_isInWay_1 rfl rfl rfl (by decide +kernel) ⟨Nat.le_of_ble_eq_true rfl, Nat.le_of_ble_eq_true rfl⟩) (gp_preV (RX3, TX3, 16) 3 0 hPc hDc hK hN rfl rfl) rfl rfl hl.1 rfl (lv_room (Nat.le_of_ble_eq_true rfl)) dX3_isOpen_34 ⟨Nat.le_of_ble_eq_true rfl, Nat.le_of_ble_eq_true rfl⟩) hS (fun q _ h => hFc q h) hFc (fun r_9 u t H locs ht hvm hw hB hz1 hk1 hS => ?_)
          have hP := gp_joinU (wc := [(o_glass xa glass_len glass_deep glass_ax2 glass_ay2 glass_cx glass_cy glass_along glass_whole glass_xTimes glass_yTimes glass_fromX2_1 glass_fromY2_2 glass_goX_3 glass_goY_4), (aJ (xa (140 + w.toNatClampNeg)) (cy 2) 4 (ge w.toNatClampNeg))]) hP hD [0, (3 + w.toNatClampNeg)] (gp_hC2 (ws := ([(o_glass xa glass_len glass_deep glass_ax2 glass_ay2 glass_cx glass_cy glass_along glass_whole glass_xTimes glass_yTimes glass_fromX2_1 glass_fromY2_2 glass_goX_3 glass_goY_4), (aI (xa 23) (cy 3) 12 stands), (aR (xa 22) (cy 7) 12 (fun i => if i < 12 then some (xa (140 + i)) else none))] ++ gp_R 12 (fun i => aJ (xa (140 + i)) (cy 2) 4 (ge i)))) (a := (o_glass xa glass_len glass_deep glass_ax2 glass_ay2 glass_cx glass_cy glass_along glass_whole glass_xTimes glass_yTimes glass_fromX2_1 glass_fromY2_2 glass_goX_3 glass_goY_4)) (b := (aJ (xa (140 + w.toNatClampNeg)) (cy 2) 4 (ge w.toNatClampNeg))) rfl hRc) hk1 ht hB
          have w_10 := hw
          refine lv_if_eq (tgt := 42) hx hb dX3_isOpen_37 (by decide) (fun c_11 => ?_) (fun c_11 => ?_)
          · refine lv_iinc (v := (w + 1)) (lv' := [(5, .int (w + 1)), (0, .ref (xa 21)), (1, .long x2), (3, .long y2)]) hx hb dX3_isOpen_42 hl (k := 0) rfl rfl (by decide) rfl (fun ls hl => ?_)
            refine lv_goto (tgt := 9) hx hb dX3_isOpen_45 (by decide) ?_
            exact ih (w + 1) H locs ls (lf_sX3_isOpen_5 w h1 c_5) (Nat.lt_of_lt_of_le (gp_mdec (b := 12) (lf_sX3_isOpen_6 w h1 c_5)) (Nat.le_of_lt_succ hfu)) hP hD hS (lv_sub hl [0, 1, 2, 3] rfl)
          · refine lv_iconst (v := 0) hx hb dX3_isOpen_40 (by decide) ?_
            exact W.zret (v := 0) hx hb hr narrow_b0 (fun t ht hW => ⟨⟨0, ⟨glass_fromX2_1, glass_fromY2_2, glass_goX_3, glass_goY_4⟩, rfl, (show (0 : Int32) = 0 ∨ (0 : Int32) = 1 by decide), gp_end ht hP hD⟩, hS.F ht⟩) hS.2.2 dX3_isOpen_41
  exact key9 ((12 - (0 : Int32).toInt).toNat + 1) 0 H locs ls (show sp_in 0 0 12 by decide) (Nat.lt_succ_self _) hP hD hS (lv_sub hl [0, 1, 2, 3] rfl)

theorem lf_sX3_blockers_1 (w : Int32) (h1 : sp_in w 0 12) (c_5 : ¬ 12 ≤ w) : sp_in w 0 11 := by
  first | grind | (simp only [sp_in, sp_pl, sp_far, sp_two] at *; grind)
theorem lf_sX3_blockers_2 (w : Int32) (h1 : sp_in w 0 12) (c_5 : ¬ 12 ≤ w) : sp_in (w + 1) 0 12 := by
  first | grind | (simp only [sp_in, sp_pl, sp_far, sp_two] at *; grind)
theorem lf_sX3_blockers_3 (w : Int32) (h1 : sp_in w 0 12) (c_5 : ¬ 12 ≤ w) : w < 12 := by
  first | grind | (simp only [sp_in, sp_pl, sp_far, sp_two] at *; grind)
theorem lf_sX3_blockers_4 (w : Int32) (h1 : sp_in w 0 12) (c_5 : ¬ 12 ≤ w) : sp_in w 0 11 := by
  first | grind | (simp only [sp_in, sp_pl, sp_far, sp_two] at *; grind)
theorem lf_sX3_blockers_5 (w : Int32) (h1 : sp_in w 0 12) (c_5 : ¬ 12 ≤ w) : sp_in (w + 1) 0 12 := by
  first | grind | (simp only [sp_in, sp_pl, sp_far, sp_two] at *; grind)
theorem lf_sX3_blockers_6 (w : Int32) (h1 : sp_in w 0 12) (c_5 : ¬ 12 ≤ w) : w < 12 := by
  first | grind | (simp only [sp_in, sp_pl, sp_far, sp_two] at *; grind)
theorem lf_sX3_blockers_7 (w : Int32) (h1 : sp_in w 0 12) (c_5 : ¬ 12 ≤ w) : sp_in (w + 1) 0 12 := by
  first | grind | (simp only [sp_in, sp_pl, sp_far, sp_two] at *; grind)
theorem lf_sX3_blockers_8 (w : Int32) (h1 : sp_in w 0 12) (c_5 : ¬ 12 ≤ w) : w < 12 := by
  first | grind | (simp only [sp_in, sp_pl, sp_far, sp_two] at *; grind)
def v_sX3_blockers : List Cond := .code yX3_blockers cX3_blockers 7 (some .int) :: (([.code yX3_look cX3_look 5 none, .fieldLink RX3 97 "GhostPane$Glass" "fromX2" "J", .fieldLink RX3 100 "GhostPane$Glass" "fromY2" "J", .fieldLink RX3 73 "GhostPane$Glass" "xTimes" "J", .fieldLink RX3 70 "GhostPane$Glass" "whole" "J", .fieldLink RX3 103 "GhostPane$Glass" "goX" "J", .fieldLink RX3 76 "GhostPane$Glass" "yTimes" "J", .fieldLink RX3 106 "GhostPane$Glass" "goY" "J", .methodLink RX3 89 yX3_look, .instanceMethod yX3_look, .selects RX3 yX3_look yX3_look, .initialized RX3, .fieldLink RX3 16 "GhostPane$Glass" "stands" "[Z", .fieldLink RX3 11 "GhostPane$Glass" "ends2" "[[J", .code yX3_isInWay cX3_isInWay 18 (some .boolean), .code yX3_overlaps cX3_overlaps 11 (some .boolean), .methodLink RX3 109 yX3_overlaps, .instanceMethod yX3_overlaps, .selects RX3 yX3_overlaps yX3_overlaps, .methodLink RX3 93 yX3_isInWay, .instanceMethod yX3_isInWay, .selects RX3 yX3_isInWay yX3_isInWay] : List Cond) ++ wsX30)
set_option maxRecDepth 20000 in
theorem gg_sX3_blockers_sX3_look : GoodIn v_sX3_blockers v_sX3_look := goodIn_ca (goodIn_r (.code yX3_look cX3_look 5 none :: [.fieldLink RX3 97 "GhostPane$Glass" "fromX2" "J", .fieldLink RX3 100 "GhostPane$Glass" "fromY2" "J", .fieldLink RX3 73 "GhostPane$Glass" "xTimes" "J", .fieldLink RX3 70 "GhostPane$Glass" "whole" "J", .fieldLink RX3 103 "GhostPane$Glass" "goX" "J", .fieldLink RX3 76 "GhostPane$Glass" "yTimes" "J", .fieldLink RX3 106 "GhostPane$Glass" "goY" "J"]) [1, 2, 3, 4, 5, 6, 7, 8] (by first | rfl | decide +kernel) (by decide +kernel)) (goodIn_sub (fun _ h => List.mem_cons_of_mem _ (List.mem_append_right _ h)) gwX3)
set_option maxRecDepth 20000 in
theorem g_sX3_blockers_sX3_look_0 : GoodIn v_sX3_blockers (wsV RX3 89 RX3 yX3_look v_sX3_look) := goodIn_app (goodIn_r [.methodLink RX3 89 yX3_look, .instanceMethod yX3_look, .selects RX3 yX3_look yX3_look, .initialized RX3] [9, 10, 11, 12] rfl (by decide +kernel)) gg_sX3_blockers_sX3_look
set_option maxRecDepth 20000 in
theorem gg_sX3_blockers_sX3_isInWay : GoodIn v_sX3_blockers v_sX3_isInWay := goodIn_ca (goodIn_r (.code yX3_isInWay cX3_isInWay 18 (some .boolean) :: [.fieldLink RX3 97 "GhostPane$Glass" "fromX2" "J", .fieldLink RX3 100 "GhostPane$Glass" "fromY2" "J", .fieldLink RX3 103 "GhostPane$Glass" "goX" "J", .fieldLink RX3 106 "GhostPane$Glass" "goY" "J", .fieldLink RX3 70 "GhostPane$Glass" "whole" "J", .code yX3_overlaps cX3_overlaps 11 (some .boolean), .methodLink RX3 109 yX3_overlaps, .instanceMethod yX3_overlaps, .selects RX3 yX3_overlaps yX3_overlaps, .initialized RX3]) [15, 2, 3, 6, 8, 5, 16, 17, 18, 19, 12] (by first | rfl | decide +kernel) (by decide +kernel)) (goodIn_sub (fun _ h => List.mem_cons_of_mem _ (List.mem_append_right _ h)) gwX3)
set_option maxRecDepth 20000 in
theorem g_sX3_blockers_sX3_isInWay_1 : GoodIn v_sX3_blockers (wsV RX3 93 RX3 yX3_isInWay v_sX3_isInWay) := goodIn_app (goodIn_r [.methodLink RX3 93 yX3_isInWay, .instanceMethod yX3_isInWay, .selects RX3 yX3_isInWay yX3_isInWay, .initialized RX3] [20, 21, 22, 12] rfl (by decide +kernel)) gg_sX3_blockers_sX3_isInWay
set_option maxHeartbeats 4000000 in
set_option maxRecDepth 100000 in
theorem sX3_blockers (l : Launch) (D : va_G) (cy : Nat → ClassId) (sz : Nat) (xa : Nat → Nat) (glass_len : Int64) (glass_deep : Int32) (glass_ax2 : Int64) (glass_ay2 : Int64) (glass_cx : Int64) (glass_cy : Int64) (glass_along : Int64) (glass_whole : Int64) (glass_xTimes : Int64) (glass_yTimes : Int64) (glass_fromX2 : Int64) (glass_fromY2 : Int64) (glass_goX : Int64) (glass_goY : Int64) (stands : Nat → Int32) (ge : Nat → Nat → Int64) (x2 : Int64) (y2 : Int64) : Met l yX3_blockers v_sX3_blockers ({ frames := 2, cells := 0, slots := 0, locals := 67 } : Room) (va_Pc [.ref (xa 21), .long x2, .long y2] (gp_B D cy sz ([(o_glass xa glass_len glass_deep glass_ax2 glass_ay2 glass_cx glass_cy glass_along glass_whole glass_xTimes glass_yTimes glass_fromX2 glass_fromY2 glass_goX glass_goY), (aI (xa 23) (cy 3) 12 stands), (aR (xa 22) (cy 7) 12 (fun i => if i < 12 then some (xa (140 + i)) else none))] ++ gp_R 12 (fun i => aJ (xa (140 + i)) (cy 2) 4 (ge i))))) (va_Qi (fun (r : Int32) (u : (Int64) × (Int64) × (Int64) × (Int64)) => True) (fun u => gp_E D (va_A ([(o_glass xa glass_len glass_deep glass_ax2 glass_ay2 glass_cx glass_cy glass_along glass_whole glass_xTimes glass_yTimes glass_fromX2 glass_fromY2 glass_goX glass_goY), (aI (xa 23) (cy 3) 12 stands), (aR (xa 22) (cy 7) 12 (fun i => if i < 12 then some (xa (140 + i)) else none))] ++ gp_R 12 (fun i => aJ (xa (140 + i)) (cy 2) 4 (ge i))) sz) ([(o_glass xa glass_len glass_deep glass_ax2 glass_ay2 glass_cx glass_cy glass_along glass_whole glass_xTimes glass_yTimes u.1 u.2.1 u.2.2.1 u.2.2.2), (aI (xa 23) (cy 3) 12 stands), (aR (xa 22) (cy 7) 12 (fun i => if i < 12 then some (xa (140 + i)) else none))] ++ gp_R 12 (fun i => aJ (xa (140 + i)) (cy 2) 4 (ge i)))) (va_A ([(o_glass xa glass_len glass_deep glass_ax2 glass_ay2 glass_cx glass_cy glass_along glass_whole glass_xTimes glass_yTimes glass_fromX2 glass_fromY2 glass_goX glass_goY), (aI (xa 23) (cy 3) 12 stands), (aR (xa 22) (cy 7) 12 (fun i => if i < 12 then some (xa (140 + i)) else none))] ++ gp_R 12 (fun i => aJ (xa (140 + i)) (cy 2) 4 (ge i))) sz)) 0 0 (va_A ([(o_glass xa glass_len glass_deep glass_ax2 glass_ay2 glass_cx glass_cy glass_along glass_whole glass_xTimes glass_yTimes glass_fromX2 glass_fromY2 glass_goX glass_goY), (aI (xa 23) (cy 3) 12 stands), (aR (xa 22) (cy 7) 12 (fun i => if i < 12 then some (xa (140 + i)) else none))] ++ gp_R 12 (fun i => aJ (xa (140 + i)) (cy 2) 4 (ge i))) sz) := by
  refine gp_met (Qc := fun A => va_Qi (fun (r : Int32) (u : (Int64) × (Int64) × (Int64) × (Int64)) => True) (fun u => gp_E D A ([(o_glass xa glass_len glass_deep glass_ax2 glass_ay2 glass_cx glass_cy glass_along glass_whole glass_xTimes glass_yTimes u.1 u.2.1 u.2.2.1 u.2.2.2), (aI (xa 23) (cy 3) 12 stands), (aR (xa 22) (cy 7) 12 (fun i => if i < 12 then some (xa (140 + i)) else none))] ++ gp_R 12 (fun i => aJ (xa (140 + i)) (cy 2) 4 (ge i)))) A) (cc := cX3_blockers) (maxL := 7) (ret := (some .int)) (by decide) rfl (Nat.le_of_ble_eq_true rfl) ?_
  intro p e s m below meth c A ls H hx hb hml hr hlocks hts hown hin hK hN hS hP hD hA hl
  have hown : s.vm.findClass RX3 = some m.cls := hown
  have hl : lv_has ls 7 [(0, .ref (xa 21)), (1, .long x2), (3, .long y2)] := hl
  have hiX3 : ∀ w ∈ u_ws RX3 TX3 16, w ∈ v_sX3_blockers := fun _ h => List.mem_cons_of_mem _ (List.mem_append_right _ h)
  refine lv_aload_n hx hb dX3_blockers_0 rfl (lv_at hl 0 rfl) ?_
  refine lv_lload_n hx hb dX3_blockers_1 rfl (lv_at hl 1 rfl) ?_
  refine lv_lload_n hx hb dX3_blockers_2 rfl (lv_at hl 2 rfl) ?_
  have hC : [0].map (fun i => ([(o_glass xa glass_len glass_deep glass_ax2 glass_ay2 glass_cx glass_cy glass_along glass_whole glass_xTimes glass_yTimes glass_fromX2 glass_fromY2 glass_goX glass_goY), (aI (xa 23) (cy 3) 12 stands), (aR (xa 22) (cy 7) 12 (fun i => if i < 12 then some (xa (140 + i)) else none))] ++ gp_R 12 (fun i => aJ (xa (140 + i)) (cy 2) 4 (ge i)))[i]?) = ([(o_glass xa glass_len glass_deep glass_ax2 glass_ay2 glass_cx glass_cy glass_along glass_whole glass_xTimes glass_yTimes glass_fromX2 glass_fromY2 glass_goX glass_goY)]).map some := (gp_hCX (show [0].map (fun i => ([(o_glass xa glass_len glass_deep glass_ax2 glass_ay2 glass_cx glass_cy glass_along glass_whole glass_xTimes glass_yTimes glass_fromX2 glass_fromY2 glass_goX glass_goY), (aI (xa 23) (cy 3) 12 stands), (aR (xa 22) (cy 7) 12 (fun i => if i < 12 then some (xa (140 + i)) else none))])[i]?) = ([(o_glass xa glass_len glass_deep glass_ax2 glass_ay2 glass_cx glass_cy glass_along glass_whole glass_xTimes glass_yTimes glass_fromX2 glass_fromY2 glass_goX glass_goY)]).map some from rfl))
  have hPc := gp_subP (wc := [(o_glass xa glass_len glass_deep glass_ax2 glass_ay2 glass_cx glass_cy glass_along glass_whole glass_xTimes glass_yTimes glass_fromX2 glass_fromY2 glass_goX glass_goY)]) hP [0] hC
  have hDc := hD.sub (ws' := [(o_glass xa glass_len glass_deep glass_ax2 glass_ay2 glass_cx glass_cy glass_along glass_whole glass_xTimes glass_yTimes glass_fromX2 glass_fromY2 glass_goX glass_goY)]) [0] (by decide) hC
  have hFc := va_free (wc := [(o_glass xa glass_len glass_deep glass_ax2 glass_ay2 glass_cx glass_cy glass_along glass_whole glass_xTimes glass_yTimes glass_fromX2 glass_fromY2 glass_goX glass_goY)]) hD hS hA [0] hC
  refine va_callv (va_runV (As := [.long x2, .long y2]) (rest := []) ⟨hx, hb, hml, hown, hts⟩ (sX3_look l D cy H.size xa glass_len glass_deep glass_ax2 glass_ay2 glass_cx glass_cy glass_along glass_whole glass_xTimes glass_yTimes glass_fromX2 glass_fromY2 glass_goX glass_goY x2 y2) (cwV 2 hts g_sX3_blockers_sX3_look_0 rfl rfl rfl (by decide +kernel) ⟨Nat.le_of_ble_eq_true rfl, Nat.le_of_ble_eq_true rfl⟩) (gp_preV (RX3, TX3, 16) 3 0 hPc hDc hK hN rfl rfl) rfl rfl hl.1 rfl (lv_room (Nat.le_of_ble_eq_true rfl)) dX3_blockers_3 ⟨Nat.le_of_ble_eq_true rfl, Nat.le_of_ble_eq_true rfl⟩) hS (fun q _ h => hFc q h) hFc (fun u t H locs ht hvm hw hB hz1 hk1 hS => ?_)
  obtain ⟨glass_fromX2_1, glass_fromY2_2, glass_goX_3, glass_goY_4⟩ := u
  obtain ⟨hP, hD⟩ := gp_joinM (wc := [(o_glass xa glass_len glass_deep glass_ax2 glass_ay2 glass_cx glass_cy glass_along glass_whole glass_xTimes glass_yTimes glass_fromX2 glass_fromY2 glass_goX glass_goY)]) (w1 := [(o_glass xa glass_len glass_deep glass_ax2 glass_ay2 glass_cx glass_cy glass_along glass_whole glass_xTimes glass_yTimes glass_fromX2_1 glass_fromY2_2 glass_goX_3 glass_goY_4)]) (wr := ([(aI (xa 23) (cy 3) 12 stands), (aR (xa 22) (cy 7) 12 (fun i => if i < 12 then some (xa (140 + i)) else none))] ++ gp_R 12 (fun i => aJ (xa (140 + i)) (cy 2) 4 (ge i)))) (nws := ([(o_glass xa glass_len glass_deep glass_ax2 glass_ay2 glass_cx glass_cy glass_along glass_whole glass_xTimes glass_yTimes glass_fromX2_1 glass_fromY2_2 glass_goX_3 glass_goY_4), (aI (xa 23) (cy 3) 12 stands), (aR (xa 22) (cy 7) 12 (fun i => if i < 12 then some (xa (140 + i)) else none))] ++ gp_R 12 (fun i => aJ (xa (140 + i)) (cy 2) 4 (ge i)))) hP hD [0] ([1, 2] ++ gp_rg 3 12) 15 (gp_hCX (Y := gp_R 12 (fun i => aJ (xa (140 + i)) (cy 2) 4 (ge i))) (show [0].map (fun i => ([(o_glass xa glass_len glass_deep glass_ax2 glass_ay2 glass_cx glass_cy glass_along glass_whole glass_xTimes glass_yTimes glass_fromX2 glass_fromY2 glass_goX glass_goY), (aI (xa 23) (cy 3) 12 stands), (aR (xa 22) (cy 7) 12 (fun i => if i < 12 then some (xa (140 + i)) else none))])[i]?) = ([(o_glass xa glass_len glass_deep glass_ax2 glass_ay2 glass_cx glass_cy glass_along glass_whole glass_xTimes glass_yTimes glass_fromX2 glass_fromY2 glass_goX glass_goY)]).map some from rfl)) rfl hk1 ht hB rfl (gp_hCX (Y := gp_R 12 (fun i => aJ (xa (140 + i)) (cy 2) 4 (ge i))) (show [0].map (fun i => ([(o_glass xa glass_len glass_deep glass_ax2 glass_ay2 glass_cx glass_cy glass_along glass_whole glass_xTimes glass_yTimes glass_fromX2_1 glass_fromY2_2 glass_goX_3 glass_goY_4), (aI (xa 23) (cy 3) 12 stands), (aR (xa 22) (cy 7) 12 (fun i => if i < 12 then some (xa (140 + i)) else none))])[i]?) = ([(o_glass xa glass_len glass_deep glass_ax2 glass_ay2 glass_cx glass_cy glass_along glass_whole glass_xTimes glass_yTimes glass_fromX2_1 glass_fromY2_2 glass_goX_3 glass_goY_4)]).map some from rfl)) (gp_hCB (k := 3) (n := 12) (g := (fun i => aJ (xa (140 + i)) (cy 2) 4 (ge i))) (gp_hCX (Y := gp_R 12 (fun i => aJ (xa (140 + i)) (cy 2) 4 (ge i))) (show [1, 2].map (fun i => ([(o_glass xa glass_len glass_deep glass_ax2 glass_ay2 glass_cx glass_cy glass_along glass_whole glass_xTimes glass_yTimes glass_fromX2 glass_fromY2 glass_goX glass_goY), (aI (xa 23) (cy 3) 12 stands), (aR (xa 22) (cy 7) 12 (fun i => if i < 12 then some (xa (140 + i)) else none))])[i]?) = ([(aI (xa 23) (cy 3) 12 stands), (aR (xa 22) (cy 7) 12 (fun i => if i < 12 then some (xa (140 + i)) else none))]).map some from rfl)) (fun w hw => (gp_Rget0 (X := [(o_glass xa glass_len glass_deep glass_ax2 glass_ay2 glass_cx glass_cy glass_along glass_whole glass_xTimes glass_yTimes glass_fromX2 glass_fromY2 glass_goX glass_goY), (aI (xa 23) (cy 3) 12 stands), (aR (xa 22) (cy 7) 12 (fun i => if i < 12 then some (xa (140 + i)) else none))]) (k := 3) rfl hw))) (gp_hCB (k := 3) (n := 12) (g := (fun i => aJ (xa (140 + i)) (cy 2) 4 (ge i))) (gp_hCX (Y := gp_R 12 (fun i => aJ (xa (140 + i)) (cy 2) 4 (ge i))) (show [1, 2].map (fun i => ([(o_glass xa glass_len glass_deep glass_ax2 glass_ay2 glass_cx glass_cy glass_along glass_whole glass_xTimes glass_yTimes glass_fromX2_1 glass_fromY2_2 glass_goX_3 glass_goY_4), (aI (xa 23) (cy 3) 12 stands), (aR (xa 22) (cy 7) 12 (fun i => if i < 12 then some (xa (140 + i)) else none))])[i]?) = ([(aI (xa 23) (cy 3) 12 stands), (aR (xa 22) (cy 7) 12 (fun i => if i < 12 then some (xa (140 + i)) else none))]).map some from rfl)) (fun w hw => (gp_Rget0 (X := [(o_glass xa glass_len glass_deep glass_ax2 glass_ay2 glass_cx glass_cy glass_along glass_whole glass_xTimes glass_yTimes glass_fromX2_1 glass_fromY2_2 glass_goX_3 glass_goY_4), (aI (xa 23) (cy 3) 12 stands), (aR (xa 22) (cy 7) 12 (fun i => if i < 12 then some (xa (140 + i)) else none))]) (k := 3) rfl hw))) (by decide)
  refine lv_iconst (v := 0) hx hb dX3_blockers_6 (by decide) ?_
  refine lv_istore (lv' := [(5, .int 0), (0, .ref (xa 21)), (1, .long x2), (3, .long y2)]) hx hb dX3_blockers_7 hl (by decide) rfl (fun ls hl => ?_)
  refine lv_iconst (v := 0) hx hb dX3_blockers_9 (by decide) ?_
  refine lv_istore (lv' := [(6, .int 0), (5, .int 0), (0, .ref (xa 21)), (1, .long x2), (3, .long y2)]) hx hb dX3_blockers_10 hl (by decide) rfl (fun ls hl => ?_)
  have key12 : ∀ (fu : Nat) (w : Int32) (bits : Int32) (H : Heap) (locs : List Loc) (ls : Array Slot), (h1 : sp_in w 0 12) → (12 - w.toInt).toNat < fu → va_P D vwCl ([(o_glass xa glass_len glass_deep glass_ax2 glass_ay2 glass_cx glass_cy glass_along glass_whole glass_xTimes glass_yTimes glass_fromX2_1 glass_fromY2_2 glass_goX_3 glass_goY_4), (aI (xa 23) (cy 3) 12 stands), (aR (xa 22) (cy 7) 12 (fun i => if i < 12 then some (xa (140 + i)) else none))] ++ gp_R 12 (fun i => aJ (xa (140 + i)) (cy 2) 4 (ge i))) H → va_D A ([(o_glass xa glass_len glass_deep glass_ax2 glass_ay2 glass_cx glass_cy glass_along glass_whole glass_xTimes glass_yTimes glass_fromX2_1 glass_fromY2_2 glass_goX_3 glass_goY_4), (aI (xa 23) (cy 3) 12 stands), (aR (xa 22) (cy 7) 12 (fun i => if i < 12 then some (xa (140 + i)) else none))] ++ gp_R 12 (fun i => aJ (xa (140 + i)) (cy 2) 4 (ge i))) → va_S A s.heap H locs → lv_has ls 7 [(6, .int w), (5, .int bits), (0, .ref (xa 21)), (1, .long x2), (3, .long y2)] → W p l e (headSpec v_sX3_blockers (({ frames := 2, cells := 0, slots := 0, locals := 67 } : Room))).room s m [.ref (xa 21), .long x2, .long y2].toArray below meth c H locs 0 0 (MQ below (va_Qi (fun (r : Int32) (u : (Int64) × (Int64) × (Int64) × (Int64)) => True) (fun u => gp_E D A ([(o_glass xa glass_len glass_deep glass_ax2 glass_ay2 glass_cx glass_cy glass_along glass_whole glass_xTimes glass_yTimes u.1 u.2.1 u.2.2.1 u.2.2.2), (aI (xa 23) (cy 3) 12 stands), (aR (xa 22) (cy 7) 12 (fun i => if i < 12 then some (xa (140 + i)) else none))] ++ gp_R 12 (fun i => aJ (xa (140 + i)) (cy 2) 4 (ge i)))) A) [.ref (xa 21), .long x2, .long y2].toArray s 0 0 A) (F0 m 12 ls []) := by
    intro fu
    induction fu with
    | zero => intro w bits H locs ls h1 hfu; exact absurd hfu (Nat.not_lt_zero _)
    | succ fu ih =>
      intro w bits H locs ls h1 hfu hP hD hS hl
      refine lv_iload hx hb dX3_blockers_12 (lv_at hl 0 rfl) ?_
      refine lv_bipush (v := 12) hx hb dX3_blockers_14 (by decide) ?_
      refine lv_icmp_ge (tgt := 58) hx hb dX3_blockers_16 (by decide) (fun c_5 => ?_) (fun c_5 => ?_)
      · refine lv_iload hx hb dX3_blockers_58 (lv_at hl 1 rfl) ?_
        exact W.iret (v := bits) hx hb hr (fun t ht hW => ⟨⟨bits, ⟨glass_fromX2_1, glass_fromY2_2, glass_goX_3, glass_goY_4⟩, rfl, trivial, gp_end ht hP hD⟩, hS.F ht⟩) hS.2.2 dX3_blockers_60
      · refine lv_aload_n hx hb dX3_blockers_19 rfl (lv_at hl 2 rfl) ?_
        refine va_get (D := D) (ci := 3) (v := .ref (xa 23)) (C := RX3) (T := TX3) (N := 16) hx hb hts hiX3 hown hK hP 0 rfl rfl 3 (by decide) (hts (.fieldLink RX3 16 "GhostPane$Glass" "stands" "[Z") (List.mem_of_getElem? (i := 13) rfl)) (fun _ h9 => h9) rfl dX3_blockers_20 ?_
        refine lv_iload hx hb dX3_blockers_23 (lv_at hl 0 rfl) ?_
        refine va_zald hx hb hK hP 1 3 rfl rfl (gp_in (hi := 11) (lf_sX3_blockers_1 w h1 c_5) (by decide)) dX3_blockers_25 ?_
        refine gp_fi (fun y_6 => ?_)
        refine lv_if_eq (tgt := 52) hx hb dX3_blockers_26 (by decide) (fun c_7 => ?_) (fun c_7 => ?_)
        · refine lv_iinc (v := (w + 1)) (lv' := [(6, .int (w + 1)), (5, .int bits), (0, .ref (xa 21)), (1, .long x2), (3, .long y2)]) hx hb dX3_blockers_52 hl (k := 0) rfl rfl (by decide) rfl (fun ls hl => ?_)
          refine lv_goto (tgt := 12) hx hb dX3_blockers_55 (by decide) ?_
          exact ih (w + 1) bits H locs ls (lf_sX3_blockers_2 w h1 c_5) (Nat.lt_of_lt_of_le (gp_mdec (b := 12) (lf_sX3_blockers_3 w h1 c_5)) (Nat.le_of_lt_succ hfu)) hP hD hS (lv_sub hl [0, 1, 2, 3, 4] rfl)
        · refine lv_aload_n hx hb dX3_blockers_29 rfl (lv_at hl 2 rfl) ?_
          refine lv_aload_n hx hb dX3_blockers_30 rfl (lv_at hl 2 rfl) ?_
          refine va_get (D := D) (ci := 3) (v := .ref (xa 22)) (C := RX3) (T := TX3) (N := 16) hx hb hts hiX3 hown hK hP 0 rfl rfl 2 (by decide) (hts (.fieldLink RX3 11 "GhostPane$Glass" "ends2" "[[J") (List.mem_of_getElem? (i := 14) rfl)) (fun _ h9 => h9) rfl dX3_blockers_31 ?_
          refine lv_iload hx hb dX3_blockers_34 (lv_at hl 0 rfl) ?_
          have hw_8 : w.toNatClampNeg < 12 := gp_clamp (gp_in (hi := 11) (lf_sX3_blockers_4 w h1 c_5) (by decide))
          refine gp_aldA hx hb hK hP 2 7 rfl rfl (gp_in (hi := 11) (lf_sX3_blockers_4 w h1 c_5) (by decide)) dX3_blockers_36 ?_
          refine gp_nr (.ref (xa (140 + w.toNatClampNeg))) (gp_rf (g := fun i => xa (140 + i)) hw_8) ?_
          have hRc := (gp_Rget0 (X := [(o_glass xa glass_len glass_deep glass_ax2 glass_ay2 glass_cx glass_cy glass_along glass_whole glass_xTimes glass_yTimes glass_fromX2_1 glass_fromY2_2 glass_goX_3 glass_goY_4), (aI (xa 23) (cy 3) 12 stands), (aR (xa 22) (cy 7) 12 (fun i => if i < 12 then some (xa (140 + i)) else none))]) (g := (fun i => aJ (xa (140 + i)) (cy 2) 4 (ge i))) (k := 3) (w := w.toNatClampNeg) (by first | rfl | simp) hw_8)
          have hPc : va_P D vwCl [(o_glass xa glass_len glass_deep glass_ax2 glass_ay2 glass_cx glass_cy glass_along glass_whole glass_xTimes glass_yTimes glass_fromX2_1 glass_fromY2_2 glass_goX_3 glass_goY_4), (aJ (xa (140 + w.toNatClampNeg)) (cy 2) 4 (ge w.toNatClampNeg))] H := gp_subP hP [0, (3 + w.toNatClampNeg)] (gp_hC2 (ws := ([(o_glass xa glass_len glass_deep glass_ax2 glass_ay2 glass_cx glass_cy glass_along glass_whole glass_xTimes glass_yTimes glass_fromX2_1 glass_fromY2_2 glass_goX_3 glass_goY_4), (aI (xa 23) (cy 3) 12 stands), (aR (xa 22) (cy 7) 12 (fun i => if i < 12 then some (xa (140 + i)) else none))] ++ gp_R 12 (fun i => aJ (xa (140 + i)) (cy 2) 4 (ge i)))) (a := (o_glass xa glass_len glass_deep glass_ax2 glass_ay2 glass_cx glass_cy glass_along glass_whole glass_xTimes glass_yTimes glass_fromX2_1 glass_fromY2_2 glass_goX_3 glass_goY_4)) (b := (aJ (xa (140 + w.toNatClampNeg)) (cy 2) 4 (ge w.toNatClampNeg))) rfl hRc)
          have hDc : va_D A [(o_glass xa glass_len glass_deep glass_ax2 glass_ay2 glass_cx glass_cy glass_along glass_whole glass_xTimes glass_yTimes glass_fromX2_1 glass_fromY2_2 glass_goX_3 glass_goY_4), (aJ (xa (140 + w.toNatClampNeg)) (cy 2) 4 (ge w.toNatClampNeg))] := gp_D2 hD (by omega) (i := 0) rfl hRc
          have hFc := va_free (wc := [(o_glass xa glass_len glass_deep glass_ax2 glass_ay2 glass_cx glass_cy glass_along glass_whole glass_xTimes glass_yTimes glass_fromX2_1 glass_fromY2_2 glass_goX_3 glass_goY_4), (aJ (xa (140 + w.toNatClampNeg)) (cy 2) 4 (ge w.toNatClampNeg))]) hD hS hA [0, (3 + w.toNatClampNeg)] (gp_hC2 (ws := ([(o_glass xa glass_len glass_deep glass_ax2 glass_ay2 glass_cx glass_cy glass_along glass_whole glass_xTimes glass_yTimes glass_fromX2_1 glass_fromY2_2 glass_goX_3 glass_goY_4), (aI (xa 23) (cy 3) 12 stands), (aR (xa 22) (cy 7) 12 (fun i => if i < 12 then some (xa (140 + i)) else none))] ++ gp_R 12 (fun i => aJ (xa (140 + i)) (cy 2) 4 (ge i)))) (a := (o_glass xa glass_len glass_deep glass_ax2 glass_ay2 glass_cx glass_cy glass_along glass_whole glass_xTimes glass_yTimes glass_fromX2_1 glass_fromY2_2 glass_goX_3 glass_goY_4)) (b := (aJ (xa (140 + w.toNatClampNeg)) (cy 2) 4 (ge w.toNatClampNeg))) rfl hRc)
          refine va_calli (va_runV (As := [.ref (xa (140 + w.toNatClampNeg))]) (rest := []) ⟨hx, hb, hml, hown, hts⟩ (sX3_isInWay l D cy H.size xa glass_len glass_deep glass_ax2 glass_ay2 glass_cx glass_cy glass_along glass_whole glass_xTimes glass_yTimes glass_fromX2_1 glass_fromY2_2 glass_goX_3 glass_goY_4 (ge w.toNatClampNeg) (xa (140 + w.toNatClampNeg))) (cwV 1 hts g_sX3_blockers_sX3_isInWay_1 rfl rfl rfl (by decide +kernel) ⟨Nat.le_of_ble_eq_true rfl, Nat.le_of_ble_eq_true rfl⟩) (gp_preV (RX3, TX3, 16) 3 0 hPc hDc hK hN rfl rfl) rfl rfl hl.1 rfl (lv_room (Nat.le_of_ble_eq_true rfl)) dX3_blockers_37 ⟨Nat.le_of_ble_eq_true rfl, Nat.le_of_ble_eq_true rfl⟩) hS (fun q _ h => hFc q h) hFc (fun r_9 u t H locs ht hvm hw hB hz1 hk1 hS => ?_)
          have hP := gp_joinU (wc := [(o_glass xa glass_len glass_deep glass_ax2 glass_ay2 glass_cx glass_cy glass_along glass_whole glass_xTimes glass_yTimes glass_fromX2_1 glass_fromY2_2 glass_goX_3 glass_goY_4), (aJ (xa (140 + w.toNatClampNeg)) (cy 2) 4 (ge w.toNatClampNeg))]) hP hD [0, (3 + w.toNatClampNeg)] (gp_hC2 (ws := ([(o_glass xa glass_len glass_deep glass_ax2 glass_ay2 glass_cx glass_cy glass_along glass_whole glass_xTimes glass_yTimes glass_fromX2_1 glass_fromY2_2 glass_goX_3 glass_goY_4), (aI (xa 23) (cy 3) 12 stands), (aR (xa 22) (cy 7) 12 (fun i => if i < 12 then some (xa (140 + i)) else none))] ++ gp_R 12 (fun i => aJ (xa (140 + i)) (cy 2) 4 (ge i)))) (a := (o_glass xa glass_len glass_deep glass_ax2 glass_ay2 glass_cx glass_cy glass_along glass_whole glass_xTimes glass_yTimes glass_fromX2_1 glass_fromY2_2 glass_goX_3 glass_goY_4)) (b := (aJ (xa (140 + w.toNatClampNeg)) (cy 2) 4 (ge w.toNatClampNeg))) rfl hRc) hk1 ht hB
          have w_10 := hw
          refine lv_if_eq (tgt := 52) hx hb dX3_blockers_40 (by decide) (fun c_11 => ?_) (fun c_11 => ?_)
          · refine lv_iinc (v := (w + 1)) (lv' := [(6, .int (w + 1)), (5, .int bits), (0, .ref (xa 21)), (1, .long x2), (3, .long y2)]) hx hb dX3_blockers_52 hl (k := 0) rfl rfl (by decide) rfl (fun ls hl => ?_)
            refine lv_goto (tgt := 12) hx hb dX3_blockers_55 (by decide) ?_
            exact ih (w + 1) bits H locs ls (lf_sX3_blockers_5 w h1 c_5) (Nat.lt_of_lt_of_le (gp_mdec (b := 12) (lf_sX3_blockers_6 w h1 c_5)) (Nat.le_of_lt_succ hfu)) hP hD hS (lv_sub hl [0, 1, 2, 3, 4] rfl)
          · refine lv_iload hx hb dX3_blockers_43 (lv_at hl 1 rfl) ?_
            refine lv_iconst (v := 1) hx hb dX3_blockers_45 (by decide) ?_
            refine lv_iload hx hb dX3_blockers_46 (lv_at hl 0 rfl) ?_
            refine lv_ishl hx hb dX3_blockers_48 ?_
            refine gp_fi (fun y_12 => ?_)
            refine lv_ior hx hb dX3_blockers_49 ?_
            refine gp_fi (fun y_13 => ?_)
            refine lv_istore (lv' := [(5, .int y_13), (6, .int w), (0, .ref (xa 21)), (1, .long x2), (3, .long y2)]) hx hb dX3_blockers_50 hl (by decide) rfl (fun ls hl => ?_)
            refine lv_iinc (v := (w + 1)) (lv' := [(6, .int (w + 1)), (5, .int y_13), (0, .ref (xa 21)), (1, .long x2), (3, .long y2)]) hx hb dX3_blockers_52 hl (k := 1) rfl rfl (by decide) rfl (fun ls hl => ?_)
            refine lv_goto (tgt := 12) hx hb dX3_blockers_55 (by decide) ?_
            exact ih (w + 1) y_13 H locs ls (lf_sX3_blockers_7 w h1 c_5) (Nat.lt_of_lt_of_le (gp_mdec (b := 12) (lf_sX3_blockers_8 w h1 c_5)) (Nat.le_of_lt_succ hfu)) hP hD hS (lv_sub hl [0, 1, 2, 3, 4] rfl)
  exact key12 ((12 - (0 : Int32).toInt).toNat + 1) 0 0 H locs ls (show sp_in 0 0 12 by decide) (Nat.lt_succ_self _) hP hD hS (lv_sub hl [0, 1, 2, 3, 4] rfl)

def v_sX3_canSee : List Cond := .code yX3_canSee cX3_canSee 9 (some .boolean) :: (([.code yX3_meets cX3_meets 15 (some .boolean), .code yX3_twiceOff cX3_twiceOff 5 (some .long), .fieldLink RX3 35 "GhostPane$Glass" "ay2" "J", .fieldLink RX3 38 "GhostPane$Glass" "cx" "J", .fieldLink RX3 28 "GhostPane$Glass" "ax2" "J", .fieldLink RX3 41 "GhostPane$Glass" "cy" "J", .methodLink RX3 60 yX3_twiceOff, .instanceMethod yX3_twiceOff, .selects RX3 yX3_twiceOff yX3_twiceOff, .initialized RX3, .code yX3_twiceAlong cX3_twiceAlong 5 (some .long), .methodLink RX3 64 yX3_twiceAlong, .instanceMethod yX3_twiceAlong, .selects RX3 yX3_twiceAlong yX3_twiceAlong, .fieldLink RX3 67 "GhostPane$Glass" "along" "J", .constantLong RX3 20 2, .fieldLink RX3 44 "GhostPane$Glass" "len" "J", .fieldLink RX3 70 "GhostPane$Glass" "whole" "J", .fieldLink RX3 73 "GhostPane$Glass" "xTimes" "J", .fieldLink RX3 76 "GhostPane$Glass" "yTimes" "J", .methodLink RX3 81 yX3_meets, .instanceMethod yX3_meets, .selects RX3 yX3_meets yX3_meets, .code yX3_isOpen cX3_isOpen 6 (some .boolean), .code yX3_look cX3_look 5 none, .fieldLink RX3 97 "GhostPane$Glass" "fromX2" "J", .fieldLink RX3 100 "GhostPane$Glass" "fromY2" "J", .fieldLink RX3 103 "GhostPane$Glass" "goX" "J", .fieldLink RX3 106 "GhostPane$Glass" "goY" "J", .methodLink RX3 89 yX3_look, .instanceMethod yX3_look, .selects RX3 yX3_look yX3_look, .fieldLink RX3 16 "GhostPane$Glass" "stands" "[Z", .fieldLink RX3 11 "GhostPane$Glass" "ends2" "[[J", .code yX3_isInWay cX3_isInWay 18 (some .boolean), .code yX3_overlaps cX3_overlaps 11 (some .boolean), .methodLink RX3 109 yX3_overlaps, .instanceMethod yX3_overlaps, .selects RX3 yX3_overlaps yX3_overlaps, .methodLink RX3 93 yX3_isInWay, .instanceMethod yX3_isInWay, .selects RX3 yX3_isInWay yX3_isInWay, .methodLink RX3 85 yX3_isOpen, .instanceMethod yX3_isOpen, .selects RX3 yX3_isOpen yX3_isOpen] : List Cond) ++ wsX30)
set_option maxRecDepth 20000 in
theorem gg_sX3_canSee_sX3_meets : GoodIn v_sX3_canSee v_sX3_meets := goodIn_ca (goodIn_r (.code yX3_meets cX3_meets 15 (some .boolean) :: [.code yX3_twiceOff cX3_twiceOff 5 (some .long), .fieldLink RX3 35 "GhostPane$Glass" "ay2" "J", .fieldLink RX3 38 "GhostPane$Glass" "cx" "J", .fieldLink RX3 28 "GhostPane$Glass" "ax2" "J", .fieldLink RX3 41 "GhostPane$Glass" "cy" "J", .methodLink RX3 60 yX3_twiceOff, .instanceMethod yX3_twiceOff, .selects RX3 yX3_twiceOff yX3_twiceOff, .initialized RX3, .code yX3_twiceAlong cX3_twiceAlong 5 (some .long), .methodLink RX3 64 yX3_twiceAlong, .instanceMethod yX3_twiceAlong, .selects RX3 yX3_twiceAlong yX3_twiceAlong, .fieldLink RX3 67 "GhostPane$Glass" "along" "J", .constantLong RX3 20 2, .fieldLink RX3 44 "GhostPane$Glass" "len" "J", .fieldLink RX3 70 "GhostPane$Glass" "whole" "J", .fieldLink RX3 73 "GhostPane$Glass" "xTimes" "J", .fieldLink RX3 76 "GhostPane$Glass" "yTimes" "J"]) [1, 2, 3, 4, 5, 6, 7, 8, 9, 10, 11, 12, 13, 14, 15, 16, 17, 18, 19, 20] (by first | rfl | decide +kernel) (by decide +kernel)) (goodIn_sub (fun _ h => List.mem_cons_of_mem _ (List.mem_append_right _ h)) gwX3)
set_option maxRecDepth 20000 in
theorem g_sX3_canSee_sX3_meets_0 : GoodIn v_sX3_canSee (wsV RX3 81 RX3 yX3_meets v_sX3_meets) := goodIn_app (goodIn_r [.methodLink RX3 81 yX3_meets, .instanceMethod yX3_meets, .selects RX3 yX3_meets yX3_meets, .initialized RX3] [21, 22, 23, 10] rfl (by decide +kernel)) gg_sX3_canSee_sX3_meets
set_option maxRecDepth 20000 in
theorem gg_sX3_canSee_sX3_isOpen : GoodIn v_sX3_canSee v_sX3_isOpen := goodIn_ca (goodIn_r (.code yX3_isOpen cX3_isOpen 6 (some .boolean) :: [.code yX3_look cX3_look 5 none, .fieldLink RX3 97 "GhostPane$Glass" "fromX2" "J", .fieldLink RX3 100 "GhostPane$Glass" "fromY2" "J", .fieldLink RX3 73 "GhostPane$Glass" "xTimes" "J", .fieldLink RX3 70 "GhostPane$Glass" "whole" "J", .fieldLink RX3 103 "GhostPane$Glass" "goX" "J", .fieldLink RX3 76 "GhostPane$Glass" "yTimes" "J", .fieldLink RX3 106 "GhostPane$Glass" "goY" "J", .methodLink RX3 89 yX3_look, .instanceMethod yX3_look, .selects RX3 yX3_look yX3_look, .initialized RX3, .fieldLink RX3 16 "GhostPane$Glass" "stands" "[Z", .fieldLink RX3 11 "GhostPane$Glass" "ends2" "[[J", .code yX3_isInWay cX3_isInWay 18 (some .boolean), .code yX3_overlaps cX3_overlaps 11 (some .boolean), .methodLink RX3 109 yX3_overlaps, .instanceMethod yX3_overlaps, .selects RX3 yX3_overlaps yX3_overlaps, .methodLink RX3 93 yX3_isInWay, .instanceMethod yX3_isInWay, .selects RX3 yX3_isInWay yX3_isInWay]) [24, 25, 26, 27, 19, 18, 28, 20, 29, 30, 31, 32, 10, 33, 34, 35, 36, 37, 38, 39, 40, 41, 42] (by first | rfl | decide +kernel) (by decide +kernel)) (goodIn_sub (fun _ h => List.mem_cons_of_mem _ (List.mem_append_right _ h)) gwX3)
set_option maxRecDepth 20000 in
theorem g_sX3_canSee_sX3_isOpen_1 : GoodIn v_sX3_canSee (wsV RX3 85 RX3 yX3_isOpen v_sX3_isOpen) := goodIn_app (goodIn_r [.methodLink RX3 85 yX3_isOpen, .instanceMethod yX3_isOpen, .selects RX3 yX3_isOpen yX3_isOpen, .initialized RX3] [43, 44, 45, 10] rfl (by decide +kernel)) gg_sX3_canSee_sX3_isOpen
set_option maxHeartbeats 4000000 in
set_option maxRecDepth 100000 in
theorem sX3_canSee (l : Launch) (D : va_G) (cy : Nat → ClassId) (sz : Nat) (xa : Nat → Nat) (glass_len : Int64) (glass_deep : Int32) (glass_ax2 : Int64) (glass_ay2 : Int64) (glass_cx : Int64) (glass_cy : Int64) (glass_along : Int64) (glass_whole : Int64) (glass_xTimes : Int64) (glass_yTimes : Int64) (glass_fromX2 : Int64) (glass_fromY2 : Int64) (glass_goX : Int64) (glass_goY : Int64) (stands : Nat → Int32) (ge : Nat → Nat → Int64) (ex2 : Int64) (ey2 : Int64) (qx2 : Int64) (qy2 : Int64) : Met l yX3_canSee v_sX3_canSee ({ frames := 3, cells := 0, slots := 0, locals := 92 } : Room) (va_Pc [.ref (xa 21), .long ex2, .long ey2, .long qx2, .long qy2] (gp_B D cy sz ([(o_glass xa glass_len glass_deep glass_ax2 glass_ay2 glass_cx glass_cy glass_along glass_whole glass_xTimes glass_yTimes glass_fromX2 glass_fromY2 glass_goX glass_goY), (aI (xa 23) (cy 3) 12 stands), (aR (xa 22) (cy 7) 12 (fun i => if i < 12 then some (xa (140 + i)) else none))] ++ gp_R 12 (fun i => aJ (xa (140 + i)) (cy 2) 4 (ge i))))) (va_Qi (fun (r : Int32) (u : (Int64) × (Int64) × (Int64) × (Int64) × (Int64) × (Int64) × (Int64) × (Int64)) => (r = 0 ∨ r = 1)) (fun u => gp_E D (va_A ([(o_glass xa glass_len glass_deep glass_ax2 glass_ay2 glass_cx glass_cy glass_along glass_whole glass_xTimes glass_yTimes glass_fromX2 glass_fromY2 glass_goX glass_goY), (aI (xa 23) (cy 3) 12 stands), (aR (xa 22) (cy 7) 12 (fun i => if i < 12 then some (xa (140 + i)) else none))] ++ gp_R 12 (fun i => aJ (xa (140 + i)) (cy 2) 4 (ge i))) sz) ([(o_glass xa glass_len glass_deep glass_ax2 glass_ay2 glass_cx glass_cy u.1 u.2.1 u.2.2.1 u.2.2.2.1 u.2.2.2.2.1 u.2.2.2.2.2.1 u.2.2.2.2.2.2.1 u.2.2.2.2.2.2.2), (aI (xa 23) (cy 3) 12 stands), (aR (xa 22) (cy 7) 12 (fun i => if i < 12 then some (xa (140 + i)) else none))] ++ gp_R 12 (fun i => aJ (xa (140 + i)) (cy 2) 4 (ge i)))) (va_A ([(o_glass xa glass_len glass_deep glass_ax2 glass_ay2 glass_cx glass_cy glass_along glass_whole glass_xTimes glass_yTimes glass_fromX2 glass_fromY2 glass_goX glass_goY), (aI (xa 23) (cy 3) 12 stands), (aR (xa 22) (cy 7) 12 (fun i => if i < 12 then some (xa (140 + i)) else none))] ++ gp_R 12 (fun i => aJ (xa (140 + i)) (cy 2) 4 (ge i))) sz)) 0 0 (va_A ([(o_glass xa glass_len glass_deep glass_ax2 glass_ay2 glass_cx glass_cy glass_along glass_whole glass_xTimes glass_yTimes glass_fromX2 glass_fromY2 glass_goX glass_goY), (aI (xa 23) (cy 3) 12 stands), (aR (xa 22) (cy 7) 12 (fun i => if i < 12 then some (xa (140 + i)) else none))] ++ gp_R 12 (fun i => aJ (xa (140 + i)) (cy 2) 4 (ge i))) sz) := by
  refine gp_met (Qc := fun A => va_Qi (fun (r : Int32) (u : (Int64) × (Int64) × (Int64) × (Int64) × (Int64) × (Int64) × (Int64) × (Int64)) => (r = 0 ∨ r = 1)) (fun u => gp_E D A ([(o_glass xa glass_len glass_deep glass_ax2 glass_ay2 glass_cx glass_cy u.1 u.2.1 u.2.2.1 u.2.2.2.1 u.2.2.2.2.1 u.2.2.2.2.2.1 u.2.2.2.2.2.2.1 u.2.2.2.2.2.2.2), (aI (xa 23) (cy 3) 12 stands), (aR (xa 22) (cy 7) 12 (fun i => if i < 12 then some (xa (140 + i)) else none))] ++ gp_R 12 (fun i => aJ (xa (140 + i)) (cy 2) 4 (ge i)))) A) (cc := cX3_canSee) (maxL := 9) (ret := (some .boolean)) (by decide) rfl (Nat.le_of_ble_eq_true rfl) ?_
  intro p e s m below meth c A ls H hx hb hml hr hlocks hts hown hin hK hN hS hP hD hA hl
  have hown : s.vm.findClass RX3 = some m.cls := hown
  have hl : lv_has ls 9 [(0, .ref (xa 21)), (1, .long ex2), (3, .long ey2), (5, .long qx2), (7, .long qy2)] := hl
  refine lv_aload_n hx hb dX3_canSee_0 rfl (lv_at hl 0 rfl) ?_
  refine lv_lload_n hx hb dX3_canSee_1 rfl (lv_at hl 1 rfl) ?_
  refine lv_lload_n hx hb dX3_canSee_2 rfl (lv_at hl 2 rfl) ?_
  refine lv_lload hx hb dX3_canSee_3 (lv_at hl 3 rfl) ?_
  refine lv_lload hx hb dX3_canSee_5 (lv_at hl 4 rfl) ?_
  have hC : [0].map (fun i => ([(o_glass xa glass_len glass_deep glass_ax2 glass_ay2 glass_cx glass_cy glass_along glass_whole glass_xTimes glass_yTimes glass_fromX2 glass_fromY2 glass_goX glass_goY), (aI (xa 23) (cy 3) 12 stands), (aR (xa 22) (cy 7) 12 (fun i => if i < 12 then some (xa (140 + i)) else none))] ++ gp_R 12 (fun i => aJ (xa (140 + i)) (cy 2) 4 (ge i)))[i]?) = ([(o_glass xa glass_len glass_deep glass_ax2 glass_ay2 glass_cx glass_cy glass_along glass_whole glass_xTimes glass_yTimes glass_fromX2 glass_fromY2 glass_goX glass_goY)]).map some := (gp_hCX (show [0].map (fun i => ([(o_glass xa glass_len glass_deep glass_ax2 glass_ay2 glass_cx glass_cy glass_along glass_whole glass_xTimes glass_yTimes glass_fromX2 glass_fromY2 glass_goX glass_goY), (aI (xa 23) (cy 3) 12 stands), (aR (xa 22) (cy 7) 12 (fun i => if i < 12 then some (xa (140 + i)) else none))])[i]?) = ([(o_glass xa glass_len glass_deep glass_ax2 glass_ay2 glass_cx glass_cy glass_along glass_whole glass_xTimes glass_yTimes glass_fromX2 glass_fromY2 glass_goX glass_goY)]).map some from rfl))
  have hPc := gp_subP (wc := [(o_glass xa glass_len glass_deep glass_ax2 glass_ay2 glass_cx glass_cy glass_along glass_whole glass_xTimes glass_yTimes glass_fromX2 glass_fromY2 glass_goX glass_goY)]) hP [0] hC
  have hDc := hD.sub (ws' := [(o_glass xa glass_len glass_deep glass_ax2 glass_ay2 glass_cx glass_cy glass_along glass_whole glass_xTimes glass_yTimes glass_fromX2 glass_fromY2 glass_goX glass_goY)]) [0] (by decide) hC
  have hFc := va_free (wc := [(o_glass xa glass_len glass_deep glass_ax2 glass_ay2 glass_cx glass_cy glass_along glass_whole glass_xTimes glass_yTimes glass_fromX2 glass_fromY2 glass_goX glass_goY)]) hD hS hA [0] hC
  refine va_calli (va_runV (As := [.long ex2, .long ey2, .long qx2, .long qy2]) (rest := []) ⟨hx, hb, hml, hown, hts⟩ (sX3_meets l D cy H.size xa glass_len glass_deep glass_ax2 glass_ay2 glass_cx glass_cy glass_along glass_whole glass_xTimes glass_yTimes glass_fromX2 glass_fromY2 glass_goX glass_goY ex2 ey2 qx2 qy2) (cwV 4 hts g_sX3_canSee_sX3_meets_0 rfl rfl rfl (by decide +kernel) ⟨Nat.le_of_ble_eq_true rfl, Nat.le_of_ble_eq_true rfl⟩) (gp_preV (RX3, TX3, 16) 3 0 hPc hDc hK hN rfl rfl) rfl rfl hl.1 rfl (lv_room (Nat.le_of_ble_eq_true rfl)) dX3_canSee_7 ⟨Nat.le_of_ble_eq_true rfl, Nat.le_of_ble_eq_true rfl⟩) hS (fun q _ h => hFc q h) hFc (fun r_1 u t H locs ht hvm hw hB hz1 hk1 hS => ?_)
  obtain ⟨glass_along_2, glass_whole_3, glass_xTimes_4, glass_yTimes_5⟩ := u
  obtain ⟨hP, hD⟩ := gp_joinM (wc := [(o_glass xa glass_len glass_deep glass_ax2 glass_ay2 glass_cx glass_cy glass_along glass_whole glass_xTimes glass_yTimes glass_fromX2 glass_fromY2 glass_goX glass_goY)]) (w1 := [(o_glass xa glass_len glass_deep glass_ax2 glass_ay2 glass_cx glass_cy glass_along_2 glass_whole_3 glass_xTimes_4 glass_yTimes_5 glass_fromX2 glass_fromY2 glass_goX glass_goY)]) (wr := ([(aI (xa 23) (cy 3) 12 stands), (aR (xa 22) (cy 7) 12 (fun i => if i < 12 then some (xa (140 + i)) else none))] ++ gp_R 12 (fun i => aJ (xa (140 + i)) (cy 2) 4 (ge i)))) (nws := ([(o_glass xa glass_len glass_deep glass_ax2 glass_ay2 glass_cx glass_cy glass_along_2 glass_whole_3 glass_xTimes_4 glass_yTimes_5 glass_fromX2 glass_fromY2 glass_goX glass_goY), (aI (xa 23) (cy 3) 12 stands), (aR (xa 22) (cy 7) 12 (fun i => if i < 12 then some (xa (140 + i)) else none))] ++ gp_R 12 (fun i => aJ (xa (140 + i)) (cy 2) 4 (ge i)))) hP hD [0] ([1, 2] ++ gp_rg 3 12) 15 (gp_hCX (Y := gp_R 12 (fun i => aJ (xa (140 + i)) (cy 2) 4 (ge i))) (show [0].map (fun i => ([(o_glass xa glass_len glass_deep glass_ax2 glass_ay2 glass_cx glass_cy glass_along glass_whole glass_xTimes glass_yTimes glass_fromX2 glass_fromY2 glass_goX glass_goY), (aI (xa 23) (cy 3) 12 stands), (aR (xa 22) (cy 7) 12 (fun i => if i < 12 then some (xa (140 + i)) else none))])[i]?) = ([(o_glass xa glass_len glass_deep glass_ax2 glass_ay2 glass_cx glass_cy glass_along glass_whole glass_xTimes glass_yTimes glass_fromX2 glass_fromY2 glass_goX glass_goY)]).map some from rfl)) rfl hk1 ht hB rfl (gp_hCX (Y := gp_R 12 (fun i => aJ (xa (140 + i)) (cy 2) 4 (ge i))) (show [0].map (fun i => ([(o_glass xa glass_len glass_deep glass_ax2 glass_ay2 glass_cx glass_cy glass_along_2 glass_whole_3 glass_xTimes_4 glass_yTimes_5 glass_fromX2 glass_fromY2 glass_goX glass_goY), (aI (xa 23) (cy 3) 12 stands), (aR (xa 22) (cy 7) 12 (fun i => if i < 12 then some (xa (140 + i)) else none))])[i]?) = ([(o_glass xa glass_len glass_deep glass_ax2 glass_ay2 glass_cx glass_cy glass_along_2 glass_whole_3 glass_xTimes_4 glass_yTimes_5 glass_fromX2 glass_fromY2 glass_goX glass_goY)]).map some from rfl)) (gp_hCB (k := 3) (n := 12) (g := (fun i => aJ (xa (140 + i)) (cy 2) 4 (ge i))) (gp_hCX (Y := gp_R 12 (fun i => aJ (xa (140 + i)) (cy 2) 4 (ge i))) (show [1, 2].map (fun i => ([(o_glass xa glass_len glass_deep glass_ax2 glass_ay2 glass_cx glass_cy glass_along glass_whole glass_xTimes glass_yTimes glass_fromX2 glass_fromY2 glass_goX glass_goY), (aI (xa 23) (cy 3) 12 stands), (aR (xa 22) (cy 7) 12 (fun i => if i < 12 then some (xa (140 + i)) else none))])[i]?) = ([(aI (xa 23) (cy 3) 12 stands), (aR (xa 22) (cy 7) 12 (fun i => if i < 12 then some (xa (140 + i)) else none))]).map some from rfl)) (fun w hw => (gp_Rget0 (X := [(o_glass xa glass_len glass_deep glass_ax2 glass_ay2 glass_cx glass_cy glass_along glass_whole glass_xTimes glass_yTimes glass_fromX2 glass_fromY2 glass_goX glass_goY), (aI (xa 23) (cy 3) 12 stands), (aR (xa 22) (cy 7) 12 (fun i => if i < 12 then some (xa (140 + i)) else none))]) (k := 3) rfl hw))) (gp_hCB (k := 3) (n := 12) (g := (fun i => aJ (xa (140 + i)) (cy 2) 4 (ge i))) (gp_hCX (Y := gp_R 12 (fun i => aJ (xa (140 + i)) (cy 2) 4 (ge i))) (show [1, 2].map (fun i => ([(o_glass xa glass_len glass_deep glass_ax2 glass_ay2 glass_cx glass_cy glass_along_2 glass_whole_3 glass_xTimes_4 glass_yTimes_5 glass_fromX2 glass_fromY2 glass_goX glass_goY), (aI (xa 23) (cy 3) 12 stands), (aR (xa 22) (cy 7) 12 (fun i => if i < 12 then some (xa (140 + i)) else none))])[i]?) = ([(aI (xa 23) (cy 3) 12 stands), (aR (xa 22) (cy 7) 12 (fun i => if i < 12 then some (xa (140 + i)) else none))]).map some from rfl)) (fun w hw => (gp_Rget0 (X := [(o_glass xa glass_len glass_deep glass_ax2 glass_ay2 glass_cx glass_cy glass_along_2 glass_whole_3 glass_xTimes_4 glass_yTimes_5 glass_fromX2 glass_fromY2 glass_goX glass_goY), (aI (xa 23) (cy 3) 12 stands), (aR (xa 22) (cy 7) 12 (fun i => if i < 12 then some (xa (140 + i)) else none))]) (k := 3) rfl hw))) (by decide)
  have w_6 := hw
  refine lv_if_eq (tgt := 37) hx hb dX3_canSee_10 (by decide) (fun c_7 => ?_) (fun c_7 => ?_)
  · refine lv_iconst (v := 0) hx hb dX3_canSee_37 (by decide) ?_
    exact W.zret (v := 0) hx hb hr narrow_b0 (fun t ht hW => ⟨⟨0, ⟨glass_along_2, glass_whole_3, glass_xTimes_4, glass_yTimes_5, glass_fromX2, glass_fromY2, glass_goX, glass_goY⟩, rfl, (show (0 : Int32) = 0 ∨ (0 : Int32) = 1 by decide), gp_end ht hP hD⟩, hS.F ht⟩) hS.2.2 dX3_canSee_38
  · refine lv_aload_n hx hb dX3_canSee_13 rfl (lv_at hl 0 rfl) ?_
    refine lv_lload_n hx hb dX3_canSee_14 rfl (lv_at hl 1 rfl) ?_
    refine lv_lload_n hx hb dX3_canSee_15 rfl (lv_at hl 2 rfl) ?_
    have hC : ([0, 1, 2] ++ gp_rg 3 12).map (fun i => ([(o_glass xa glass_len glass_deep glass_ax2 glass_ay2 glass_cx glass_cy glass_along_2 glass_whole_3 glass_xTimes_4 glass_yTimes_5 glass_fromX2 glass_fromY2 glass_goX glass_goY), (aI (xa 23) (cy 3) 12 stands), (aR (xa 22) (cy 7) 12 (fun i => if i < 12 then some (xa (140 + i)) else none))] ++ gp_R 12 (fun i => aJ (xa (140 + i)) (cy 2) 4 (ge i)))[i]?) = ([(o_glass xa glass_len glass_deep glass_ax2 glass_ay2 glass_cx glass_cy glass_along_2 glass_whole_3 glass_xTimes_4 glass_yTimes_5 glass_fromX2 glass_fromY2 glass_goX glass_goY), (aI (xa 23) (cy 3) 12 stands), (aR (xa 22) (cy 7) 12 (fun i => if i < 12 then some (xa (140 + i)) else none))] ++ gp_R 12 (fun i => aJ (xa (140 + i)) (cy 2) 4 (ge i))).map some := (gp_hCB (k := 3) (n := 12) (g := (fun i => aJ (xa (140 + i)) (cy 2) 4 (ge i))) (gp_hCX (show [0, 1, 2].map (fun i => ([(o_glass xa glass_len glass_deep glass_ax2 glass_ay2 glass_cx glass_cy glass_along_2 glass_whole_3 glass_xTimes_4 glass_yTimes_5 glass_fromX2 glass_fromY2 glass_goX glass_goY), (aI (xa 23) (cy 3) 12 stands), (aR (xa 22) (cy 7) 12 (fun i => if i < 12 then some (xa (140 + i)) else none))])[i]?) = ([(o_glass xa glass_len glass_deep glass_ax2 glass_ay2 glass_cx glass_cy glass_along_2 glass_whole_3 glass_xTimes_4 glass_yTimes_5 glass_fromX2 glass_fromY2 glass_goX glass_goY), (aI (xa 23) (cy 3) 12 stands), (aR (xa 22) (cy 7) 12 (fun i => if i < 12 then some (xa (140 + i)) else none))]).map some from rfl)) (fun w hw => (gp_Rget0 (X := [(o_glass xa glass_len glass_deep glass_ax2 glass_ay2 glass_cx glass_cy glass_along_2 glass_whole_3 glass_xTimes_4 glass_yTimes_5 glass_fromX2 glass_fromY2 glass_goX glass_goY), (aI (xa 23) (cy 3) 12 stands), (aR (xa 22) (cy 7) 12 (fun i => if i < 12 then some (xa (140 + i)) else none))]) (k := 3) rfl hw)))
    have hPc := gp_subP (wc := ([(o_glass xa glass_len glass_deep glass_ax2 glass_ay2 glass_cx glass_cy glass_along_2 glass_whole_3 glass_xTimes_4 glass_yTimes_5 glass_fromX2 glass_fromY2 glass_goX glass_goY), (aI (xa 23) (cy 3) 12 stands), (aR (xa 22) (cy 7) 12 (fun i => if i < 12 then some (xa (140 + i)) else none))] ++ gp_R 12 (fun i => aJ (xa (140 + i)) (cy 2) 4 (ge i)))) hP ([0, 1, 2] ++ gp_rg 3 12) hC
    have hDc := hD.sub (ws' := ([(o_glass xa glass_len glass_deep glass_ax2 glass_ay2 glass_cx glass_cy glass_along_2 glass_whole_3 glass_xTimes_4 glass_yTimes_5 glass_fromX2 glass_fromY2 glass_goX glass_goY), (aI (xa 23) (cy 3) 12 stands), (aR (xa 22) (cy 7) 12 (fun i => if i < 12 then some (xa (140 + i)) else none))] ++ gp_R 12 (fun i => aJ (xa (140 + i)) (cy 2) 4 (ge i)))) ([0, 1, 2] ++ gp_rg 3 12) (by decide) hC
    have hFc := va_free (wc := ([(o_glass xa glass_len glass_deep glass_ax2 glass_ay2 glass_cx glass_cy glass_along_2 glass_whole_3 glass_xTimes_4 glass_yTimes_5 glass_fromX2 glass_fromY2 glass_goX glass_goY), (aI (xa 23) (cy 3) 12 stands), (aR (xa 22) (cy 7) 12 (fun i => if i < 12 then some (xa (140 + i)) else none))] ++ gp_R 12 (fun i => aJ (xa (140 + i)) (cy 2) 4 (ge i)))) hD hS hA ([0, 1, 2] ++ gp_rg 3 12) hC
    refine va_calli (va_runV (As := [.long ex2, .long ey2]) (rest := []) ⟨hx, hb, hml, hown, hts⟩ (sX3_isOpen l D cy H.size xa glass_len glass_deep glass_ax2 glass_ay2 glass_cx glass_cy glass_along_2 glass_whole_3 glass_xTimes_4 glass_yTimes_5 glass_fromX2 glass_fromY2 glass_goX glass_goY stands ge ex2 ey2) (cwV 2 hts g_sX3_canSee_sX3_isOpen_1 rfl rfl rfl (by decide +kernel) ⟨Nat.le_of_ble_eq_true rfl, Nat.le_of_ble_eq_true rfl⟩) (gp_preV (RX3, TX3, 16) 3 0 hPc hDc hK hN rfl rfl) rfl rfl hl.1 rfl (lv_room (Nat.le_of_ble_eq_true rfl)) dX3_canSee_16 ⟨Nat.le_of_ble_eq_true rfl, Nat.le_of_ble_eq_true rfl⟩) hS (fun q _ h => hFc q h) hFc (fun r_8 u t H locs ht hvm hw hB hz1 hk1 hS => ?_)
    obtain ⟨glass_fromX2_9, glass_fromY2_10, glass_goX_11, glass_goY_12⟩ := u
    obtain ⟨hP, hD⟩ := gp_joinM (wc := ([(o_glass xa glass_len glass_deep glass_ax2 glass_ay2 glass_cx glass_cy glass_along_2 glass_whole_3 glass_xTimes_4 glass_yTimes_5 glass_fromX2 glass_fromY2 glass_goX glass_goY), (aI (xa 23) (cy 3) 12 stands), (aR (xa 22) (cy 7) 12 (fun i => if i < 12 then some (xa (140 + i)) else none))] ++ gp_R 12 (fun i => aJ (xa (140 + i)) (cy 2) 4 (ge i)))) (w1 := ([(o_glass xa glass_len glass_deep glass_ax2 glass_ay2 glass_cx glass_cy glass_along_2 glass_whole_3 glass_xTimes_4 glass_yTimes_5 glass_fromX2_9 glass_fromY2_10 glass_goX_11 glass_goY_12), (aI (xa 23) (cy 3) 12 stands), (aR (xa 22) (cy 7) 12 (fun i => if i < 12 then some (xa (140 + i)) else none))] ++ gp_R 12 (fun i => aJ (xa (140 + i)) (cy 2) 4 (ge i)))) (wr := []) (nws := ([(o_glass xa glass_len glass_deep glass_ax2 glass_ay2 glass_cx glass_cy glass_along_2 glass_whole_3 glass_xTimes_4 glass_yTimes_5 glass_fromX2_9 glass_fromY2_10 glass_goX_11 glass_goY_12), (aI (xa 23) (cy 3) 12 stands), (aR (xa 22) (cy 7) 12 (fun i => if i < 12 then some (xa (140 + i)) else none))] ++ gp_R 12 (fun i => aJ (xa (140 + i)) (cy 2) 4 (ge i)))) hP hD ([0, 1, 2] ++ gp_rg 3 12) ([] : List Nat) 15 (gp_hCB (k := 3) (n := 12) (g := (fun i => aJ (xa (140 + i)) (cy 2) 4 (ge i))) (gp_hCX (Y := gp_R 12 (fun i => aJ (xa (140 + i)) (cy 2) 4 (ge i))) (show [0, 1, 2].map (fun i => ([(o_glass xa glass_len glass_deep glass_ax2 glass_ay2 glass_cx glass_cy glass_along_2 glass_whole_3 glass_xTimes_4 glass_yTimes_5 glass_fromX2 glass_fromY2 glass_goX glass_goY), (aI (xa 23) (cy 3) 12 stands), (aR (xa 22) (cy 7) 12 (fun i => if i < 12 then some (xa (140 + i)) else none))])[i]?) = ([(o_glass xa glass_len glass_deep glass_ax2 glass_ay2 glass_cx glass_cy glass_along_2 glass_whole_3 glass_xTimes_4 glass_yTimes_5 glass_fromX2 glass_fromY2 glass_goX glass_goY), (aI (xa 23) (cy 3) 12 stands), (aR (xa 22) (cy 7) 12 (fun i => if i < 12 then some (xa (140 + i)) else none))]).map some from rfl)) (fun w hw => (gp_Rget0 (X := [(o_glass xa glass_len glass_deep glass_ax2 glass_ay2 glass_cx glass_cy glass_along_2 glass_whole_3 glass_xTimes_4 glass_yTimes_5 glass_fromX2 glass_fromY2 glass_goX glass_goY), (aI (xa 23) (cy 3) 12 stands), (aR (xa 22) (cy 7) 12 (fun i => if i < 12 then some (xa (140 + i)) else none))]) (k := 3) rfl hw))) (gp_haB rfl (fun _ => rfl)) hk1 ht hB rfl (gp_hCB (k := 3) (n := 12) (g := (fun i => aJ (xa (140 + i)) (cy 2) 4 (ge i))) (gp_hCX (Y := gp_R 12 (fun i => aJ (xa (140 + i)) (cy 2) 4 (ge i))) (show [0, 1, 2].map (fun i => ([(o_glass xa glass_len glass_deep glass_ax2 glass_ay2 glass_cx glass_cy glass_along_2 glass_whole_3 glass_xTimes_4 glass_yTimes_5 glass_fromX2_9 glass_fromY2_10 glass_goX_11 glass_goY_12), (aI (xa 23) (cy 3) 12 stands), (aR (xa 22) (cy 7) 12 (fun i => if i < 12 then some (xa (140 + i)) else none))])[i]?) = ([(o_glass xa glass_len glass_deep glass_ax2 glass_ay2 glass_cx glass_cy glass_along_2 glass_whole_3 glass_xTimes_4 glass_yTimes_5 glass_fromX2_9 glass_fromY2_10 glass_goX_11 glass_goY_12), (aI (xa 23) (cy 3) 12 stands), (aR (xa 22) (cy 7) 12 (fun i => if i < 12 then some (xa (140 + i)) else none))]).map some from rfl)) (fun w hw => (gp_Rget0 (X := [(o_glass xa glass_len glass_deep glass_ax2 glass_ay2 glass_cx glass_cy glass_along_2 glass_whole_3 glass_xTimes_4 glass_yTimes_5 glass_fromX2_9 glass_fromY2_10 glass_goX_11 glass_goY_12), (aI (xa 23) (cy 3) 12 stands), (aR (xa 22) (cy 7) 12 (fun i => if i < 12 then some (xa (140 + i)) else none))]) (k := 3) rfl hw))) (gp_hCX (Y := gp_R 12 (fun i => aJ (xa (140 + i)) (cy 2) 4 (ge i))) (show ([] : List Nat).map (fun i => ([(o_glass xa glass_len glass_deep glass_ax2 glass_ay2 glass_cx glass_cy glass_along_2 glass_whole_3 glass_xTimes_4 glass_yTimes_5 glass_fromX2 glass_fromY2 glass_goX glass_goY), (aI (xa 23) (cy 3) 12 stands), (aR (xa 22) (cy 7) 12 (fun i => if i < 12 then some (xa (140 + i)) else none))])[i]?) = ([] : va_W).map some from rfl)) (gp_hCX (Y := gp_R 12 (fun i => aJ (xa (140 + i)) (cy 2) 4 (ge i))) (show ([] : List Nat).map (fun i => ([(o_glass xa glass_len glass_deep glass_ax2 glass_ay2 glass_cx glass_cy glass_along_2 glass_whole_3 glass_xTimes_4 glass_yTimes_5 glass_fromX2_9 glass_fromY2_10 glass_goX_11 glass_goY_12), (aI (xa 23) (cy 3) 12 stands), (aR (xa 22) (cy 7) 12 (fun i => if i < 12 then some (xa (140 + i)) else none))])[i]?) = ([] : va_W).map some from rfl)) (by decide)
    have w_13 := hw
    refine lv_if_eq (tgt := 37) hx hb dX3_canSee_19 (by decide) (fun c_14 => ?_) (fun c_14 => ?_)
    · refine lv_iconst (v := 0) hx hb dX3_canSee_37 (by decide) ?_
      exact W.zret (v := 0) hx hb hr narrow_b0 (fun t ht hW => ⟨⟨0, ⟨glass_along_2, glass_whole_3, glass_xTimes_4, glass_yTimes_5, glass_fromX2_9, glass_fromY2_10, glass_goX_11, glass_goY_12⟩, rfl, (show (0 : Int32) = 0 ∨ (0 : Int32) = 1 by decide), gp_end ht hP hD⟩, hS.F ht⟩) hS.2.2 dX3_canSee_38
    · refine lv_aload_n hx hb dX3_canSee_22 rfl (lv_at hl 0 rfl) ?_
      refine lv_lload hx hb dX3_canSee_23 (lv_at hl 3 rfl) ?_
      refine lv_lload hx hb dX3_canSee_25 (lv_at hl 4 rfl) ?_
      have hC : ([0, 1, 2] ++ gp_rg 3 12).map (fun i => ([(o_glass xa glass_len glass_deep glass_ax2 glass_ay2 glass_cx glass_cy glass_along_2 glass_whole_3 glass_xTimes_4 glass_yTimes_5 glass_fromX2_9 glass_fromY2_10 glass_goX_11 glass_goY_12), (aI (xa 23) (cy 3) 12 stands), (aR (xa 22) (cy 7) 12 (fun i => if i < 12 then some (xa (140 + i)) else none))] ++ gp_R 12 (fun i => aJ (xa (140 + i)) (cy 2) 4 (ge i)))[i]?) = ([(o_glass xa glass_len glass_deep glass_ax2 glass_ay2 glass_cx glass_cy glass_along_2 glass_whole_3 glass_xTimes_4 glass_yTimes_5 glass_fromX2_9 glass_fromY2_10 glass_goX_11 glass_goY_12), (aI (xa 23) (cy 3) 12 stands), (aR (xa 22) (cy 7) 12 (fun i => if i < 12 then some (xa (140 + i)) else none))] ++ gp_R 12 (fun i => aJ (xa (140 + i)) (cy 2) 4 (ge i))).map some := (gp_hCB (k := 3) (n := 12) (g := (fun i => aJ (xa (140 + i)) (cy 2) 4 (ge i))) (gp_hCX (show [0, 1, 2].map (fun i => ([(o_glass xa glass_len glass_deep glass_ax2 glass_ay2 glass_cx glass_cy glass_along_2 glass_whole_3 glass_xTimes_4 glass_yTimes_5 glass_fromX2_9 glass_fromY2_10 glass_goX_11 glass_goY_12), (aI (xa 23) (cy 3) 12 stands), (aR (xa 22) (cy 7) 12 (fun i => if i < 12 then some (xa (140 + i)) else none))])[i]?) = ([(o_glass xa glass_len glass_deep glass_ax2 glass_ay2 glass_cx glass_cy glass_along_2 glass_whole_3 glass_xTimes_4 glass_yTimes_5 glass_fromX2_9 glass_fromY2_10 glass_goX_11 glass_goY_12), (aI (xa 23) (cy 3) 12 stands), (aR (xa 22) (cy 7) 12 (fun i => if i < 12 then some (xa (140 + i)) else none))]).map some from rfl)) (fun w hw => (gp_Rget0 (X := [(o_glass xa glass_len glass_deep glass_ax2 glass_ay2 glass_cx glass_cy glass_along_2 glass_whole_3 glass_xTimes_4 glass_yTimes_5 glass_fromX2_9 glass_fromY2_10 glass_goX_11 glass_goY_12), (aI (xa 23) (cy 3) 12 stands), (aR (xa 22) (cy 7) 12 (fun i => if i < 12 then some (xa (140 + i)) else none))]) (k := 3) rfl hw)))
      have hPc := gp_subP (wc := ([(o_glass xa glass_len glass_deep glass_ax2 glass_ay2 glass_cx glass_cy glass_along_2 glass_whole_3 glass_xTimes_4 glass_yTimes_5 glass_fromX2_9 glass_fromY2_10 glass_goX_11 glass_goY_12), (aI (xa 23) (cy 3) 12 stands), (aR (xa 22) (cy 7) 12 (fun i => if i < 12 then some (xa (140 + i)) else none))] ++ gp_R 12 (fun i => aJ (xa (140 + i)) (cy 2) 4 (ge i)))) hP ([0, 1, 2] ++ gp_rg 3 12) hC
      have hDc := hD.sub (ws' := ([(o_glass xa glass_len glass_deep glass_ax2 glass_ay2 glass_cx glass_cy glass_along_2 glass_whole_3 glass_xTimes_4 glass_yTimes_5 glass_fromX2_9 glass_fromY2_10 glass_goX_11 glass_goY_12), (aI (xa 23) (cy 3) 12 stands), (aR (xa 22) (cy 7) 12 (fun i => if i < 12 then some (xa (140 + i)) else none))] ++ gp_R 12 (fun i => aJ (xa (140 + i)) (cy 2) 4 (ge i)))) ([0, 1, 2] ++ gp_rg 3 12) (by decide) hC
      have hFc := va_free (wc := ([(o_glass xa glass_len glass_deep glass_ax2 glass_ay2 glass_cx glass_cy glass_along_2 glass_whole_3 glass_xTimes_4 glass_yTimes_5 glass_fromX2_9 glass_fromY2_10 glass_goX_11 glass_goY_12), (aI (xa 23) (cy 3) 12 stands), (aR (xa 22) (cy 7) 12 (fun i => if i < 12 then some (xa (140 + i)) else none))] ++ gp_R 12 (fun i => aJ (xa (140 + i)) (cy 2) 4 (ge i)))) hD hS hA ([0, 1, 2] ++ gp_rg 3 12) hC
      refine va_calli (va_runV (As := [.long qx2, .long qy2]) (rest := []) ⟨hx, hb, hml, hown, hts⟩ (sX3_isOpen l D cy H.size xa glass_len glass_deep glass_ax2 glass_ay2 glass_cx glass_cy glass_along_2 glass_whole_3 glass_xTimes_4 glass_yTimes_5 glass_fromX2_9 glass_fromY2_10 glass_goX_11 glass_goY_12 stands ge qx2 qy2) (cwV 2 hts g_sX3_canSee_sX3_isOpen_1 rfl rfl rfl (by decide +kernel) ⟨Nat.le_of_ble_eq_true rfl, Nat.le_of_ble_eq_true rfl⟩) (gp_preV (RX3, TX3, 16) 3 0 hPc hDc hK hN rfl rfl) rfl rfl hl.1 rfl (lv_room (Nat.le_of_ble_eq_true rfl)) dX3_canSee_27 ⟨Nat.le_of_ble_eq_true rfl, Nat.le_of_ble_eq_true rfl⟩) hS (fun q _ h => hFc q h) hFc (fun r_15 u t H locs ht hvm hw hB hz1 hk1 hS => ?_)
      obtain ⟨glass_fromX2_16, glass_fromY2_17, glass_goX_18, glass_goY_19⟩ := u
      obtain ⟨hP, hD⟩ := gp_joinM (wc := ([(o_glass xa glass_len glass_deep glass_ax2 glass_ay2 glass_cx glass_cy glass_along_2 glass_whole_3 glass_xTimes_4 glass_yTimes_5 glass_fromX2_9 glass_fromY2_10 glass_goX_11 glass_goY_12), (aI (xa 23) (cy 3) 12 stands), (aR (xa 22) (cy 7) 12 (fun i => if i < 12 then some (xa (140 + i)) else none))] ++ gp_R 12 (fun i => aJ (xa (140 + i)) (cy 2) 4 (ge i)))) (w1 := ([(o_glass xa glass_len glass_deep glass_ax2 glass_ay2 glass_cx glass_cy glass_along_2 glass_whole_3 glass_xTimes_4 glass_yTimes_5 glass_fromX2_16 glass_fromY2_17 glass_goX_18 glass_goY_19), (aI (xa 23) (cy 3) 12 stands), (aR (xa 22) (cy 7) 12 (fun i => if i < 12 then some (xa (140 + i)) else none))] ++ gp_R 12 (fun i => aJ (xa (140 + i)) (cy 2) 4 (ge i)))) (wr := []) (nws := ([(o_glass xa glass_len glass_deep glass_ax2 glass_ay2 glass_cx glass_cy glass_along_2 glass_whole_3 glass_xTimes_4 glass_yTimes_5 glass_fromX2_16 glass_fromY2_17 glass_goX_18 glass_goY_19), (aI (xa 23) (cy 3) 12 stands), (aR (xa 22) (cy 7) 12 (fun i => if i < 12 then some (xa (140 + i)) else none))] ++ gp_R 12 (fun i => aJ (xa (140 + i)) (cy 2) 4 (ge i)))) hP hD ([0, 1, 2] ++ gp_rg 3 12) ([] : List Nat) 15 (gp_hCB (k := 3) (n := 12) (g := (fun i => aJ (xa (140 + i)) (cy 2) 4 (ge i))) (gp_hCX (Y := gp_R 12 (fun i => aJ (xa (140 + i)) (cy 2) 4 (ge i))) (show [0, 1, 2].map (fun i => ([(o_glass xa glass_len glass_deep glass_ax2 glass_ay2 glass_cx glass_cy glass_along_2 glass_whole_3 glass_xTimes_4 glass_yTimes_5 glass_fromX2_9 glass_fromY2_10 glass_goX_11 glass_goY_12), (aI (xa 23) (cy 3) 12 stands), (aR (xa 22) (cy 7) 12 (fun i => if i < 12 then some (xa (140 + i)) else none))])[i]?) = ([(o_glass xa glass_len glass_deep glass_ax2 glass_ay2 glass_cx glass_cy glass_along_2 glass_whole_3 glass_xTimes_4 glass_yTimes_5 glass_fromX2_9 glass_fromY2_10 glass_goX_11 glass_goY_12), (aI (xa 23) (cy 3) 12 stands), (aR (xa 22) (cy 7) 12 (fun i => if i < 12 then some (xa (140 + i)) else none))]).map some from rfl)) (fun w hw => (gp_Rget0 (X := [(o_glass xa glass_len glass_deep glass_ax2 glass_ay2 glass_cx glass_cy glass_along_2 glass_whole_3 glass_xTimes_4 glass_yTimes_5 glass_fromX2_9 glass_fromY2_10 glass_goX_11 glass_goY_12), (aI (xa 23) (cy 3) 12 stands), (aR (xa 22) (cy 7) 12 (fun i => if i < 12 then some (xa (140 + i)) else none))]) (k := 3) rfl hw))) (gp_haB rfl (fun _ => rfl)) hk1 ht hB rfl (gp_hCB (k := 3) (n := 12) (g := (fun i => aJ (xa (140 + i)) (cy 2) 4 (ge i))) (gp_hCX (Y := gp_R 12 (fun i => aJ (xa (140 + i)) (cy 2) 4 (ge i))) (show [0, 1, 2].map (fun i => ([(o_glass xa glass_len glass_deep glass_ax2 glass_ay2 glass_cx glass_cy glass_along_2 glass_whole_3 glass_xTimes_4 glass_yTimes_5 glass_fromX2_16 glass_fromY2_17 glass_goX_18 glass_goY_19), (aI (xa 23) (cy 3) 12 stands), (aR (xa 22) (cy 7) 12 (fun i => if i < 12 then some (xa (140 + i)) else none))])[i]?) = ([(o_glass xa glass_len glass_deep glass_ax2 glass_ay2 glass_cx glass_cy glass_along_2 glass_whole_3 glass_xTimes_4 glass_yTimes_5 glass_fromX2_16 glass_fromY2_17 glass_goX_18 glass_goY_19), (aI (xa 23) (cy 3) 12 stands), (aR (xa 22) (cy 7) 12 (fun i => if i < 12 then some (xa (140 + i)) else none))]).map some from rfl)) (fun w hw => (gp_Rget0 (X := [(o_glass xa glass_len glass_deep glass_ax2 glass_ay2 glass_cx glass_cy glass_along_2 glass_whole_3 glass_xTimes_4 glass_yTimes_5 glass_fromX2_16 glass_fromY2_17 glass_goX_18 glass_goY_19), (aI (xa 23) (cy 3) 12 stands), (aR (xa 22) (cy 7) 12 (fun i => if i < 12 then some (xa (140 + i)) else none))]) (k := 3) rfl hw))) (gp_hCX (Y := gp_R 12 (fun i => aJ (xa (140 + i)) (cy 2) 4 (ge i))) (show ([] : List Nat).map (fun i => ([(o_glass xa glass_len glass_deep glass_ax2 glass_ay2 glass_cx glass_cy glass_along_2 glass_whole_3 glass_xTimes_4 glass_yTimes_5 glass_fromX2_9 glass_fromY2_10 glass_goX_11 glass_goY_12), (aI (xa 23) (cy 3) 12 stands), (aR (xa 22) (cy 7) 12 (fun i => if i < 12 then some (xa (140 + i)) else none))])[i]?) = ([] : va_W).map some from rfl)) (gp_hCX (Y := gp_R 12 (fun i => aJ (xa (140 + i)) (cy 2) 4 (ge i))) (show ([] : List Nat).map (fun i => ([(o_glass xa glass_len glass_deep glass_ax2 glass_ay2 glass_cx glass_cy glass_along_2 glass_whole_3 glass_xTimes_4 glass_yTimes_5 glass_fromX2_16 glass_fromY2_17 glass_goX_18 glass_goY_19), (aI (xa 23) (cy 3) 12 stands), (aR (xa 22) (cy 7) 12 (fun i => if i < 12 then some (xa (140 + i)) else none))])[i]?) = ([] : va_W).map some from rfl)) (by decide)
      have w_20 := hw
      refine lv_if_eq (tgt := 37) hx hb dX3_canSee_30 (by decide) (fun c_21 => ?_) (fun c_21 => ?_)
      · refine lv_iconst (v := 0) hx hb dX3_canSee_37 (by decide) ?_
        exact W.zret (v := 0) hx hb hr narrow_b0 (fun t ht hW => ⟨⟨0, ⟨glass_along_2, glass_whole_3, glass_xTimes_4, glass_yTimes_5, glass_fromX2_16, glass_fromY2_17, glass_goX_18, glass_goY_19⟩, rfl, (show (0 : Int32) = 0 ∨ (0 : Int32) = 1 by decide), gp_end ht hP hD⟩, hS.F ht⟩) hS.2.2 dX3_canSee_38
      · refine lv_iconst (v := 1) hx hb dX3_canSee_33 (by decide) ?_
        refine lv_goto (tgt := 38) hx hb dX3_canSee_34 (by decide) ?_
        exact W.zret (v := 1) hx hb hr narrow_b1 (fun t ht hW => ⟨⟨1, ⟨glass_along_2, glass_whole_3, glass_xTimes_4, glass_yTimes_5, glass_fromX2_16, glass_fromY2_17, glass_goX_18, glass_goY_19⟩, rfl, (show (1 : Int32) = 0 ∨ (1 : Int32) = 1 by decide), gp_end ht hP hD⟩, hS.F ht⟩) hS.2.2 dX3_canSee_38
